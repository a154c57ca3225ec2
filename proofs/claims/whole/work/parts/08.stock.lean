section QST
variable (l : Launch) (dC : Nat → ClassId) (dI : Nat → Nat → Nat) (cI cJ cG : ClassId)
set_option maxHeartbeats 4000000 in
set_option maxRecDepth 100000 in
theorem c_Stock_setAge (z0 z1 z2 z3 z4 z5 : Nat) (nu wt rp di : Nat → Int32) (ag : Nat) (a1 a2 a3 a4 : Int32) (hag : ag < 6) : qMv l yS_setAge (wS_setAge) ({ frames := 0, cells := 0, slots := 0, locals := 0 } : Room) (dC, dI) qCl [(cI, .int), (cJ, .long), (cG, .array .long)] [.ref z0, .int (nI ag), .int a1, .int a2, .int a3, .int a4] [(z0, .inr (1, [.ref z1, .ref z2, .ref z3, .ref z4, .ref z5])), (z1, .inl (cI, 6, .inl nu)), (z2, .inl (cI, 6, .inl wt)), (z3, .inl (cI, 6, .inl rp)), (z4, .inl (cI, 6, .inl di))] [(z0, .inr (1, [.ref z1, .ref z2, .ref z3, .ref z4, .ref z5])), (z1, .inl (cI, 6, .inl (upd nu ag a1))), (z2, .inl (cI, 6, .inl (upd wt ag a2))), (z3, .inl (cI, 6, .inl (upd rp ag a3))), (z4, .inl (cI, 6, .inl (upd di ag a4)))] 0 0 := by
  refine qm_v (cc := prog_2_method_2_code) (maxL := 6) (by decide) rfl (Nat.le_of_ble_eq_true rfl) ?_
  intro p e s m args below meth c Q A ls hx hb hml hown hnm hts hA hK hP hD hS hl hret
  have hl : lv_has ls 6 [(0, .ref z0), (1, .int (nI ag)), (2, .int a1), (3, .int a2), (4, .int a3), (5, .int a4)] := hl
  refine lv_aload_n hx hb dS_setAge_0 rfl (lv_at hl 0 rfl) ?_
  refine va_get (D := (dC, dI)) (ci := 1) (v := .ref z1) (C := "OutlookOdds$Stock") (T := TS) (N := 5) hx hb hts inS hown hK hP 0 rfl rfl 0 (by decide) (hts _ mq_1_26) (fun _ h9 => h9) rfl dS_setAge_1 ?_
  refine lv_iload_n hx hb dS_setAge_4 rfl (lv_at hl 1 rfl) ?_
  refine lv_iload_n hx hb dS_setAge_5 rfl (lv_at hl 2 rfl) ?_
  refine qr_iast (k := ag) (ws2 := [(z0, .inr (1, [.ref z1, .ref z2, .ref z3, .ref z4, .ref z5])), (z1, .inl (cI, 6, .inl (upd nu ag a1))), (z2, .inl (cI, 6, .inl wt)), (z3, .inl (cI, 6, .inl rp)), (z4, .inl (cI, 6, .inl di))]) hx hb hK hP hD hS 1 0 rfl rfl (rfl) (by omega) (by decide) rfl dS_setAge_6 (fun H locs hP hD hS => ?_)
  refine lv_aload_n hx hb dS_setAge_7 rfl (lv_at hl 0 rfl) ?_
  refine va_get (D := (dC, dI)) (ci := 1) (v := .ref z2) (C := "OutlookOdds$Stock") (T := TS) (N := 5) hx hb hts inS hown hK hP 0 rfl rfl 1 (by decide) (hts _ mq_1_27) (fun _ h9 => h9) rfl dS_setAge_8 ?_
  refine lv_iload_n hx hb dS_setAge_11 rfl (lv_at hl 1 rfl) ?_
  refine lv_iload_n hx hb dS_setAge_12 rfl (lv_at hl 3 rfl) ?_
  refine qr_iast (k := ag) (ws2 := [(z0, .inr (1, [.ref z1, .ref z2, .ref z3, .ref z4, .ref z5])), (z1, .inl (cI, 6, .inl (upd nu ag a1))), (z2, .inl (cI, 6, .inl (upd wt ag a2))), (z3, .inl (cI, 6, .inl rp)), (z4, .inl (cI, 6, .inl di))]) hx hb hK hP hD hS 2 0 rfl rfl (rfl) (by omega) (by decide) rfl dS_setAge_13 (fun H locs hP hD hS => ?_)
  refine lv_aload_n hx hb dS_setAge_14 rfl (lv_at hl 0 rfl) ?_
  refine va_get (D := (dC, dI)) (ci := 1) (v := .ref z3) (C := "OutlookOdds$Stock") (T := TS) (N := 5) hx hb hts inS hown hK hP 0 rfl rfl 2 (by decide) (hts _ mq_1_28) (fun _ h9 => h9) rfl dS_setAge_15 ?_
  refine lv_iload_n hx hb dS_setAge_18 rfl (lv_at hl 1 rfl) ?_
  refine lv_iload hx hb dS_setAge_19 (lv_at hl 4 rfl) ?_
  refine qr_iast (k := ag) (ws2 := [(z0, .inr (1, [.ref z1, .ref z2, .ref z3, .ref z4, .ref z5])), (z1, .inl (cI, 6, .inl (upd nu ag a1))), (z2, .inl (cI, 6, .inl (upd wt ag a2))), (z3, .inl (cI, 6, .inl (upd rp ag a3))), (z4, .inl (cI, 6, .inl di))]) hx hb hK hP hD hS 3 0 rfl rfl (rfl) (by omega) (by decide) rfl dS_setAge_21 (fun H locs hP hD hS => ?_)
  refine lv_aload_n hx hb dS_setAge_22 rfl (lv_at hl 0 rfl) ?_
  refine va_get (D := (dC, dI)) (ci := 1) (v := .ref z4) (C := "OutlookOdds$Stock") (T := TS) (N := 5) hx hb hts inS hown hK hP 0 rfl rfl 3 (by decide) (hts _ mq_1_29) (fun _ h9 => h9) rfl dS_setAge_23 ?_
  refine lv_iload_n hx hb dS_setAge_26 rfl (lv_at hl 1 rfl) ?_
  refine lv_iload hx hb dS_setAge_27 (lv_at hl 5 rfl) ?_
  refine qr_iast (k := ag) (ws2 := [(z0, .inr (1, [.ref z1, .ref z2, .ref z3, .ref z4, .ref z5])), (z1, .inl (cI, 6, .inl (upd nu ag a1))), (z2, .inl (cI, 6, .inl (upd wt ag a2))), (z3, .inl (cI, 6, .inl (upd rp ag a3))), (z4, .inl (cI, 6, .inl (upd di ag a4)))]) hx hb hK hP hD hS 4 0 rfl rfl (rfl) (by omega) (by decide) rfl dS_setAge_29 (fun H locs hP hD hS => ?_)
  exact hret hP hD hS (Nat.le_of_ble_eq_true rfl) (Nat.le_of_ble_eq_true rfl) dS_setAge_30

set_option maxHeartbeats 4000000 in
set_option maxRecDepth 100000 in
theorem c_Stock_begin (z0 z1 z2 z3 z4 z5 : Nat) (nu : Nat → Int32) (lv : Nat → Int64) : qMv l yS_begin (wS_begin) ({ frames := 0, cells := 0, slots := 0, locals := 0 } : Room) (dC, dI) qCl [(cI, .int), (cJ, .long), (cG, .array .long)] [.ref z0] [(z0, .inr (1, [.ref z1, .ref z2, .ref z3, .ref z4, .ref z5])), (z1, .inl (cI, 6, .inl nu)), (z5, .inl (cJ, 6, .inr (.inl lv)))] [(z0, .inr (1, [.ref z1, .ref z2, .ref z3, .ref z4, .ref z5])), (z1, .inl (cI, 6, .inl nu)), (z5, .inl (cJ, 6, .inr (.inl (pf_begin nu lv 6))))] 0 0 := by
  refine qm_v (cc := prog_2_method_3_code) (maxL := 2) (by decide) rfl (Nat.le_of_ble_eq_true rfl) ?_
  intro p e s m args below meth c Q A ls hx hb hml hown hnm hts hA hK hP hD hS hl hret
  have hl : lv_has ls 2 [(0, .ref z0)] := hl
  refine lv_iconst (v := 0) hx hb dS_begin_0 (by decide) ?_
  refine lv_istore_n (lv' := [(1, .int 0), (0, .ref z0)]) hx hb dS_begin_1 rfl hl (by decide) rfl (fun ls hl => ?_)
  have lp_2 : ∀ (n : Nat) (i : Nat), 6 - i < n → i ≤ 6 → ∀ (H : Heap) (locs : List Loc), va_P (dC, dI) qCl [(z0, .inr (1, [.ref z1, .ref z2, .ref z3, .ref z4, .ref z5])), (z1, .inl (cI, 6, .inl nu)), (z5, .inl (cJ, 6, .inr (.inl (pf_begin nu lv i))))] H → va_D A [(z0, .inr (1, [.ref z1, .ref z2, .ref z3, .ref z4, .ref z5])), (z1, .inl (cI, 6, .inl nu)), (z5, .inl (cJ, 6, .inr (.inl (pf_begin nu lv i))))] → va_S A s.heap H locs → ∀ (ls : Array Slot), lv_has ls 2 [(0, .ref z0), (1, .int (nI i))] → W p l e ({ frames := 0, cells := 0, slots := 0, locals := 0 } : Room) s m args below meth c H locs 0 0 Q (F0 m 2 ls []) := by
    intro n_2
    induction n_2 with
    | zero => intro i hm; exact absurd hm (Nat.not_lt_zero _)
    | succ n_2 ih_2 =>
      intro i hm_2 hi H locs hP hD hS ls hl
      refine lv_iload_n hx hb dS_begin_2 rfl (lv_at hl 1 rfl) ?_
      refine lv_bipush (v := 6) hx hb dS_begin_3 (by decide) ?_
      refine lv_icmp_ge (tgt := 27) hx hb dS_begin_5 (by decide) (fun h5 => ?_) (fun h5 => ?_)
      · have e_i : i = 6 := qn_ge (b := 6) h5 hi (by decide)
        have hP : va_P (dC, dI) qCl [(z0, .inr (1, [.ref z1, .ref z2, .ref z3, .ref z4, .ref z5])), (z1, .inl (cI, 6, .inl nu)), (z5, .inl (cJ, 6, .inr (.inl (pf_begin nu lv 6))))] H := by first | exact hP | (rw [e_i] at hP; exact hP)
        have hD : va_D A [(z0, .inr (1, [.ref z1, .ref z2, .ref z3, .ref z4, .ref z5])), (z1, .inl (cI, 6, .inl nu)), (z5, .inl (cJ, 6, .inr (.inl (pf_begin nu lv 6))))] := by first | exact hD | (rw [e_i] at hD; exact hD)
        have hl : lv_has ls 2 [(0, .ref z0), (1, .int (nI 6))] := by first | exact hl | (rw [e_i] at hl; exact hl)
        exact hret hP hD hS (Nat.le_of_ble_eq_true rfl) (Nat.le_of_ble_eq_true rfl) dS_begin_27
      · have hlt : i < 6 := qn_nge (b := 6) h5 (by omega)
        refine lv_aload_n hx hb dS_begin_8 rfl (lv_at hl 0 rfl) ?_
        refine va_get (D := (dC, dI)) (ci := 1) (v := .ref z5) (C := "OutlookOdds$Stock") (T := TS) (N := 5) hx hb hts inS hown hK hP 0 rfl rfl 4 (by decide) (hts _ mq_1_30) (fun _ h9 => h9) rfl dS_begin_9 ?_
        refine lv_iload_n hx hb dS_begin_12 rfl (lv_at hl 1 rfl) ?_
        refine lv_aload_n hx hb dS_begin_13 rfl (lv_at hl 0 rfl) ?_
        refine va_get (D := (dC, dI)) (ci := 1) (v := .ref z1) (C := "OutlookOdds$Stock") (T := TS) (N := 5) hx hb hts inS hown hK hP 0 rfl rfl 0 (by decide) (hts _ mq_1_26) (fun _ h9 => h9) rfl dS_begin_14 ?_
        refine lv_iload_n hx hb dS_begin_17 rfl (lv_at hl 1 rfl) ?_
        refine qr_iald (k := i) hx hb hK hP 1 0 rfl rfl (rfl) (by omega) (by decide) dS_begin_18 ?_
        refine lv_i2l hx hb dS_begin_19 rfl ?_
        refine qr_last (k := i) (ws2 := [(z0, .inr (1, [.ref z1, .ref z2, .ref z3, .ref z4, .ref z5])), (z1, .inl (cI, 6, .inl nu)), (z5, .inl (cJ, 6, .inr (.inl (vp_updL (pf_begin nu lv i) i ((nu i).toInt64)))))]) hx hb hK hP hD hS 2 1 rfl rfl (rfl) (by omega) (by decide) rfl dS_begin_20 (fun H locs hP hD hS => ?_)
        refine lv_iinc (v := nI (i + 1)) (lv' := [(1, .int (nI (i + 1))), (0, .ref z0)]) hx hb dS_begin_21 hl (k := 1) rfl (nI_1 _) (by decide) rfl (fun ls hl => ?_)
        refine lv_goto (tgt := 2) hx hb dS_begin_24 (by decide) ?_
        exact ih_2 (i + 1) (by omega) (by omega) _ _ hP hD hS ls (lv_sub hl [1, 0] rfl)
  exact lp_2 ((6 - 0) + 1) 0 (by omega) (by omega) _ _ hP hD hS ls (lv_sub hl [1, 0] rfl)

set_option maxHeartbeats 4000000 in
set_option maxRecDepth 100000 in
theorem c_Stock_ripeMass (z0 z1 z2 z3 z4 z5 : Nat) (wt rp : Nat → Int32) (lv : Nat → Int64) : qMl l yS_ripeMass (wS_ripeMass) ({ frames := 0, cells := 0, slots := 0, locals := 0 } : Room) (dC, dI) qCl [(cI, .int), (cJ, .long), (cG, .array .long)] [.ref z0] [(z0, .inr (1, [.ref z1, .ref z2, .ref z3, .ref z4, .ref z5])), (z2, .inl (cI, 6, .inl wt)), (z3, .inl (cI, 6, .inl rp)), (z5, .inl (cJ, 6, .inr (.inl lv)))] [(z0, .inr (1, [.ref z1, .ref z2, .ref z3, .ref z4, .ref z5])), (z2, .inl (cI, 6, .inl wt)), (z3, .inl (cI, 6, .inl rp)), (z5, .inl (cJ, 6, .inr (.inl lv)))] (pf_ripe lv wt rp 6) 0 0 := by
  refine qm_l (cc := prog_2_method_4_code) (maxL := 4) (by decide) rfl (Nat.le_of_ble_eq_true rfl) ?_
  intro p e s m args below meth c Q A ls hx hb hml hown hnm hts hA hK hP hD hS hl hret
  have hl : lv_has ls 4 [(0, .ref z0)] := hl
  refine lv_lconst (v := 0) hx hb dS_ripeMass_0 (by decide) ?_
  refine lv_lstore_n (lv' := [(1, .long 0), (0, .ref z0)]) hx hb dS_ripeMass_1 rfl hl (by decide) rfl (fun ls hl => ?_)
  refine lv_iconst (v := 0) hx hb dS_ripeMass_2 (by decide) ?_
  refine lv_istore_n (lv' := [(3, .int 0), (1, .long 0), (0, .ref z0)]) hx hb dS_ripeMass_3 rfl hl (by decide) rfl (fun ls hl => ?_)
  have lp_4 : ∀ (n : Nat) (i : Nat), 6 - i < n → i ≤ 6 → ∀ (H : Heap) (locs : List Loc), va_P (dC, dI) qCl [(z0, .inr (1, [.ref z1, .ref z2, .ref z3, .ref z4, .ref z5])), (z2, .inl (cI, 6, .inl wt)), (z3, .inl (cI, 6, .inl rp)), (z5, .inl (cJ, 6, .inr (.inl lv)))] H → va_D A [(z0, .inr (1, [.ref z1, .ref z2, .ref z3, .ref z4, .ref z5])), (z2, .inl (cI, 6, .inl wt)), (z3, .inl (cI, 6, .inl rp)), (z5, .inl (cJ, 6, .inr (.inl lv)))] → va_S A s.heap H locs → ∀ (ls : Array Slot), lv_has ls 4 [(0, .ref z0), (1, .long (pf_ripe lv wt rp i)), (3, .int (nI i))] → W p l e ({ frames := 0, cells := 0, slots := 0, locals := 0 } : Room) s m args below meth c H locs 0 0 Q (F0 m 4 ls []) := by
    intro n_4
    induction n_4 with
    | zero => intro i hm; exact absurd hm (Nat.not_lt_zero _)
    | succ n_4 ih_4 =>
      intro i hm_4 hi H locs hP hD hS ls hl
      refine lv_iload_n hx hb dS_ripeMass_4 rfl (lv_at hl 2 rfl) ?_
      refine lv_bipush (v := 6) hx hb dS_ripeMass_5 (by decide) ?_
      refine lv_icmp_ge (tgt := 45) hx hb dS_ripeMass_7 (by decide) (fun h7 => ?_) (fun h7 => ?_)
      · have e_i : i = 6 := qn_ge (b := 6) h7 hi (by decide)
        have hP : va_P (dC, dI) qCl [(z0, .inr (1, [.ref z1, .ref z2, .ref z3, .ref z4, .ref z5])), (z2, .inl (cI, 6, .inl wt)), (z3, .inl (cI, 6, .inl rp)), (z5, .inl (cJ, 6, .inr (.inl lv)))] H := by first | exact hP | (rw [e_i] at hP; exact hP)
        have hD : va_D A [(z0, .inr (1, [.ref z1, .ref z2, .ref z3, .ref z4, .ref z5])), (z2, .inl (cI, 6, .inl wt)), (z3, .inl (cI, 6, .inl rp)), (z5, .inl (cJ, 6, .inr (.inl lv)))] := by first | exact hD | (rw [e_i] at hD; exact hD)
        have hl : lv_has ls 4 [(0, .ref z0), (1, .long (pf_ripe lv wt rp 6)), (3, .int (nI 6))] := by first | exact hl | (rw [e_i] at hl; exact hl)
        refine lv_lload_n hx hb dS_ripeMass_45 rfl (lv_at hl 1 rfl) ?_
        exact hret hP hD hS (Nat.le_of_ble_eq_true rfl) (Nat.le_of_ble_eq_true rfl) (rfl) dS_ripeMass_46
      · have hlt : i < 6 := qn_nge (b := 6) h7 (by omega)
        refine lv_lload_n hx hb dS_ripeMass_10 rfl (lv_at hl 1 rfl) ?_
        refine lv_aload_n hx hb dS_ripeMass_11 rfl (lv_at hl 0 rfl) ?_
        refine va_get (D := (dC, dI)) (ci := 1) (v := .ref z5) (C := "OutlookOdds$Stock") (T := TS) (N := 5) hx hb hts inS hown hK hP 0 rfl rfl 4 (by decide) (hts _ mq_1_30) (fun _ h9 => h9) rfl dS_ripeMass_12 ?_
        refine lv_iload_n hx hb dS_ripeMass_15 rfl (lv_at hl 2 rfl) ?_
        refine qr_lald (k := i) hx hb hK hP 3 1 rfl rfl (rfl) (by omega) (by decide) dS_ripeMass_16 ?_
        refine lv_aload_n hx hb dS_ripeMass_17 rfl (lv_at hl 0 rfl) ?_
        refine va_get (D := (dC, dI)) (ci := 1) (v := .ref z2) (C := "OutlookOdds$Stock") (T := TS) (N := 5) hx hb hts inS hown hK hP 0 rfl rfl 1 (by decide) (hts _ mq_1_27) (fun _ h9 => h9) rfl dS_ripeMass_18 ?_
        refine lv_iload_n hx hb dS_ripeMass_21 rfl (lv_at hl 2 rfl) ?_
        refine qr_iald (k := i) hx hb hK hP 1 0 rfl rfl (rfl) (by omega) (by decide) dS_ripeMass_22 ?_
        refine lv_i2l hx hb dS_ripeMass_23 rfl ?_
        refine lv_lmul hx hb dS_ripeMass_24 ?_
        refine lv_aload_n hx hb dS_ripeMass_25 rfl (lv_at hl 0 rfl) ?_
        refine va_get (D := (dC, dI)) (ci := 1) (v := .ref z3) (C := "OutlookOdds$Stock") (T := TS) (N := 5) hx hb hts inS hown hK hP 0 rfl rfl 2 (by decide) (hts _ mq_1_28) (fun _ h9 => h9) rfl dS_ripeMass_26 ?_
        refine lv_iload_n hx hb dS_ripeMass_29 rfl (lv_at hl 2 rfl) ?_
        refine qr_iald (k := i) hx hb hK hP 2 0 rfl rfl (rfl) (by omega) (by decide) dS_ripeMass_30 ?_
        refine lv_i2l hx hb dS_ripeMass_31 rfl ?_
        refine lv_lmul hx hb dS_ripeMass_32 ?_
        refine lv_ldc2 (v := 1000) hx hb hown (hts _ mq_2_58) dS_ripeMass_33 ?_
        refine lv_ldiv hx hb dS_ripeMass_36 (by decide) ?_
        refine lv_ladd hx hb dS_ripeMass_37 ?_
        refine lv_lstore_n (lv' := [(1, .long ((pf_ripe lv wt rp i) + ((((lv i) * ((wt i).toInt64)) * ((rp i).toInt64)) / 1000))), (0, .ref z0), (3, .int (nI i))]) hx hb dS_ripeMass_38 rfl hl (by decide) rfl (fun ls hl => ?_)
        refine lv_iinc (v := nI (i + 1)) (lv' := [(3, .int (nI (i + 1))), (1, .long ((pf_ripe lv wt rp i) + ((((lv i) * ((wt i).toInt64)) * ((rp i).toInt64)) / 1000))), (0, .ref z0)]) hx hb dS_ripeMass_39 hl (k := 2) rfl (nI_1 _) (by decide) rfl (fun ls hl => ?_)
        refine lv_goto (tgt := 4) hx hb dS_ripeMass_42 (by decide) ?_
        exact ih_4 (i + 1) (by omega) (by omega) _ _ hP hD hS ls (lv_sub hl [2, 1, 0] rfl)
  exact lp_4 ((6 - 0) + 1) 0 (by omega) (by omega) _ _ hP hD hS ls (lv_sub hl [2, 1, 0] rfl)

set_option maxHeartbeats 4000000 in
set_option maxRecDepth 100000 in
theorem c_Stock_totalMass (z0 z1 z2 z3 z4 z5 : Nat) (wt : Nat → Int32) (lv : Nat → Int64) : qMl l yS_totalMass (wS_totalMass) ({ frames := 0, cells := 0, slots := 0, locals := 0 } : Room) (dC, dI) qCl [(cI, .int), (cJ, .long), (cG, .array .long)] [.ref z0] [(z0, .inr (1, [.ref z1, .ref z2, .ref z3, .ref z4, .ref z5])), (z2, .inl (cI, 6, .inl wt)), (z5, .inl (cJ, 6, .inr (.inl lv)))] [(z0, .inr (1, [.ref z1, .ref z2, .ref z3, .ref z4, .ref z5])), (z2, .inl (cI, 6, .inl wt)), (z5, .inl (cJ, 6, .inr (.inl lv)))] (pf_total lv wt 6) 0 0 := by
  refine qm_l (cc := prog_2_method_5_code) (maxL := 4) (by decide) rfl (Nat.le_of_ble_eq_true rfl) ?_
  intro p e s m args below meth c Q A ls hx hb hml hown hnm hts hA hK hP hD hS hl hret
  have hl : lv_has ls 4 [(0, .ref z0)] := hl
  refine lv_lconst (v := 0) hx hb dS_totalMass_0 (by decide) ?_
  refine lv_lstore_n (lv' := [(1, .long 0), (0, .ref z0)]) hx hb dS_totalMass_1 rfl hl (by decide) rfl (fun ls hl => ?_)
  refine lv_iconst (v := 0) hx hb dS_totalMass_2 (by decide) ?_
  refine lv_istore_n (lv' := [(3, .int 0), (1, .long 0), (0, .ref z0)]) hx hb dS_totalMass_3 rfl hl (by decide) rfl (fun ls hl => ?_)
  have lp_4 : ∀ (n : Nat) (i : Nat), 6 - i < n → i ≤ 6 → ∀ (H : Heap) (locs : List Loc), va_P (dC, dI) qCl [(z0, .inr (1, [.ref z1, .ref z2, .ref z3, .ref z4, .ref z5])), (z2, .inl (cI, 6, .inl wt)), (z5, .inl (cJ, 6, .inr (.inl lv)))] H → va_D A [(z0, .inr (1, [.ref z1, .ref z2, .ref z3, .ref z4, .ref z5])), (z2, .inl (cI, 6, .inl wt)), (z5, .inl (cJ, 6, .inr (.inl lv)))] → va_S A s.heap H locs → ∀ (ls : Array Slot), lv_has ls 4 [(0, .ref z0), (1, .long (pf_total lv wt i)), (3, .int (nI i))] → W p l e ({ frames := 0, cells := 0, slots := 0, locals := 0 } : Room) s m args below meth c H locs 0 0 Q (F0 m 4 ls []) := by
    intro n_4
    induction n_4 with
    | zero => intro i hm; exact absurd hm (Nat.not_lt_zero _)
    | succ n_4 ih_4 =>
      intro i hm_4 hi H locs hP hD hS ls hl
      refine lv_iload_n hx hb dS_totalMass_4 rfl (lv_at hl 2 rfl) ?_
      refine lv_bipush (v := 6) hx hb dS_totalMass_5 (by decide) ?_
      refine lv_icmp_ge (tgt := 33) hx hb dS_totalMass_7 (by decide) (fun h7 => ?_) (fun h7 => ?_)
      · have e_i : i = 6 := qn_ge (b := 6) h7 hi (by decide)
        have hP : va_P (dC, dI) qCl [(z0, .inr (1, [.ref z1, .ref z2, .ref z3, .ref z4, .ref z5])), (z2, .inl (cI, 6, .inl wt)), (z5, .inl (cJ, 6, .inr (.inl lv)))] H := by first | exact hP | (rw [e_i] at hP; exact hP)
        have hD : va_D A [(z0, .inr (1, [.ref z1, .ref z2, .ref z3, .ref z4, .ref z5])), (z2, .inl (cI, 6, .inl wt)), (z5, .inl (cJ, 6, .inr (.inl lv)))] := by first | exact hD | (rw [e_i] at hD; exact hD)
        have hl : lv_has ls 4 [(0, .ref z0), (1, .long (pf_total lv wt 6)), (3, .int (nI 6))] := by first | exact hl | (rw [e_i] at hl; exact hl)
        refine lv_lload_n hx hb dS_totalMass_33 rfl (lv_at hl 1 rfl) ?_
        exact hret hP hD hS (Nat.le_of_ble_eq_true rfl) (Nat.le_of_ble_eq_true rfl) (rfl) dS_totalMass_34
      · have hlt : i < 6 := qn_nge (b := 6) h7 (by omega)
        refine lv_lload_n hx hb dS_totalMass_10 rfl (lv_at hl 1 rfl) ?_
        refine lv_aload_n hx hb dS_totalMass_11 rfl (lv_at hl 0 rfl) ?_
        refine va_get (D := (dC, dI)) (ci := 1) (v := .ref z5) (C := "OutlookOdds$Stock") (T := TS) (N := 5) hx hb hts inS hown hK hP 0 rfl rfl 4 (by decide) (hts _ mq_1_30) (fun _ h9 => h9) rfl dS_totalMass_12 ?_
        refine lv_iload_n hx hb dS_totalMass_15 rfl (lv_at hl 2 rfl) ?_
        refine qr_lald (k := i) hx hb hK hP 2 1 rfl rfl (rfl) (by omega) (by decide) dS_totalMass_16 ?_
        refine lv_aload_n hx hb dS_totalMass_17 rfl (lv_at hl 0 rfl) ?_
        refine va_get (D := (dC, dI)) (ci := 1) (v := .ref z2) (C := "OutlookOdds$Stock") (T := TS) (N := 5) hx hb hts inS hown hK hP 0 rfl rfl 1 (by decide) (hts _ mq_1_27) (fun _ h9 => h9) rfl dS_totalMass_18 ?_
        refine lv_iload_n hx hb dS_totalMass_21 rfl (lv_at hl 2 rfl) ?_
        refine qr_iald (k := i) hx hb hK hP 1 0 rfl rfl (rfl) (by omega) (by decide) dS_totalMass_22 ?_
        refine lv_i2l hx hb dS_totalMass_23 rfl ?_
        refine lv_lmul hx hb dS_totalMass_24 ?_
        refine lv_ladd hx hb dS_totalMass_25 ?_
        refine lv_lstore_n (lv' := [(1, .long ((pf_total lv wt i) + ((lv i) * ((wt i).toInt64)))), (0, .ref z0), (3, .int (nI i))]) hx hb dS_totalMass_26 rfl hl (by decide) rfl (fun ls hl => ?_)
        refine lv_iinc (v := nI (i + 1)) (lv' := [(3, .int (nI (i + 1))), (1, .long ((pf_total lv wt i) + ((lv i) * ((wt i).toInt64)))), (0, .ref z0)]) hx hb dS_totalMass_27 hl (k := 2) rfl (nI_1 _) (by decide) rfl (fun ls hl => ?_)
        refine lv_goto (tgt := 4) hx hb dS_totalMass_30 (by decide) ?_
        exact ih_4 (i + 1) (by omega) (by omega) _ _ hP hD hS ls (lv_sub hl [2, 1, 0] rfl)
  exact lp_4 ((6 - 0) + 1) 0 (by omega) (by omega) _ _ hP hD hS ls (lv_sub hl [2, 1, 0] rfl)

set_option maxHeartbeats 4000000 in
set_option maxRecDepth 100000 in
theorem c_Stock_takeOut (z0 z1 z2 z3 z4 z5 : Nat) (wt : Nat → Int32) (lv : Nat → Int64) (al tt : Int64) : qMl l yS_takeOut (wS_takeOut) ({ frames := 0, cells := 0, slots := 0, locals := 0 } : Room) (dC, dI) qCl [(cI, .int), (cJ, .long), (cG, .array .long)] [.ref z0, .long al, .long tt] [(z0, .inr (1, [.ref z1, .ref z2, .ref z3, .ref z4, .ref z5])), (z2, .inl (cI, 6, .inl wt)), (z5, .inl (cJ, 6, .inr (.inl lv)))] [(z0, .inr (1, [.ref z1, .ref z2, .ref z3, .ref z4, .ref z5])), (z2, .inl (cI, 6, .inl wt)), (z5, .inl (cJ, 6, .inr (.inl (pf_take lv al tt))))] (pf_caught lv wt al tt) 0 0 := by
  refine qm_l (cc := prog_2_method_6_code) (maxL := 10) (by decide) rfl (Nat.le_of_ble_eq_true rfl) ?_
  intro p e s m args below meth c Q A ls hx hb hml hown hnm hts hA hK hP hD hS hl hret
  have hl : lv_has ls 10 [(0, .ref z0), (1, .long al), (3, .long tt)] := hl
  refine lv_lload_n hx hb dS_takeOut_0 rfl (lv_at hl 2 rfl) ?_
  refine lv_lconst (v := 0) hx hb dS_takeOut_1 (by decide) ?_
  refine W.lcmp hx hb dS_takeOut_2 ?_
  refine lv_if_gt (tgt := 8) hx hb dS_takeOut_3 (by decide) (fun h3 => ?_) (fun h3 => ?_)
  · have h3 := (lg_cmp_gt _ _).mp h3
    refine lv_lconst (v := 0) hx hb dS_takeOut_8 (by decide) ?_
    refine lv_lstore (lv' := [(5, .long 0), (0, .ref z0), (1, .long al), (3, .long tt)]) hx hb dS_takeOut_9 hl (by decide) rfl (fun ls hl => ?_)
    refine lv_iconst (v := 0) hx hb dS_takeOut_11 (by decide) ?_
    refine lv_istore (lv' := [(7, .int 0), (5, .long 0), (0, .ref z0), (1, .long al), (3, .long tt)]) hx hb dS_takeOut_12 hl (by decide) rfl (fun ls hl => ?_)
    have lp_14 : ∀ (n : Nat) (i : Nat), 6 - i < n → i ≤ 6 → ∀ (H : Heap) (locs : List Loc), va_P (dC, dI) qCl [(z0, .inr (1, [.ref z1, .ref z2, .ref z3, .ref z4, .ref z5])), (z2, .inl (cI, 6, .inl wt)), (z5, .inl (cJ, 6, .inr (.inl (pf_tk lv al tt i))))] H → va_D A [(z0, .inr (1, [.ref z1, .ref z2, .ref z3, .ref z4, .ref z5])), (z2, .inl (cI, 6, .inl wt)), (z5, .inl (cJ, 6, .inr (.inl (pf_tk lv al tt i))))] → va_S A s.heap H locs → ∀ (ls : Array Slot), lv_has ls 10 [(0, .ref z0), (1, .long al), (3, .long tt), (5, .long (pf_ct lv wt al tt i)), (7, .int (nI i))] → W p l e ({ frames := 0, cells := 0, slots := 0, locals := 0 } : Room) s m args below meth c H locs 0 0 Q (F0 m 14 ls []) := by
      intro n_14
      induction n_14 with
      | zero => intro i hm; exact absurd hm (Nat.not_lt_zero _)
      | succ n_14 ih_14 =>
        intro i hm_14 hi H locs hP hD hS ls hl
        refine lv_iload hx hb dS_takeOut_14 (lv_at hl 4 rfl) ?_
        refine lv_bipush (v := 6) hx hb dS_takeOut_16 (by decide) ?_
        refine lv_icmp_ge (tgt := 68) hx hb dS_takeOut_18 (by decide) (fun h18 => ?_) (fun h18 => ?_)
        · have e_i : i = 6 := qn_ge (b := 6) h18 hi (by decide)
          have hP : va_P (dC, dI) qCl [(z0, .inr (1, [.ref z1, .ref z2, .ref z3, .ref z4, .ref z5])), (z2, .inl (cI, 6, .inl wt)), (z5, .inl (cJ, 6, .inr (.inl (pf_tk lv al tt 6))))] H := by first | exact hP | (rw [e_i] at hP; exact hP)
          have hD : va_D A [(z0, .inr (1, [.ref z1, .ref z2, .ref z3, .ref z4, .ref z5])), (z2, .inl (cI, 6, .inl wt)), (z5, .inl (cJ, 6, .inr (.inl (pf_tk lv al tt 6))))] := by first | exact hD | (rw [e_i] at hD; exact hD)
          have hl : lv_has ls 10 [(0, .ref z0), (1, .long al), (3, .long tt), (5, .long (pf_ct lv wt al tt 6)), (7, .int (nI 6))] := by first | exact hl | (rw [e_i] at hl; exact hl)
          refine lv_lload hx hb dS_takeOut_68 (lv_at hl 3 rfl) ?_
          rw [show pf_tk lv al tt 6 = pf_take lv al tt from (if_pos h3).symm] at hP hD
          exact hret hP hD hS (Nat.le_of_ble_eq_true rfl) (Nat.le_of_ble_eq_true rfl) ((if_pos h3).symm) dS_takeOut_70
        · have hlt : i < 6 := qn_nge (b := 6) h18 (by omega)
          refine lv_aload_n hx hb dS_takeOut_21 rfl (lv_at hl 0 rfl) ?_
          refine va_get (D := (dC, dI)) (ci := 1) (v := .ref z5) (C := "OutlookOdds$Stock") (T := TS) (N := 5) hx hb hts inS hown hK hP 0 rfl rfl 4 (by decide) (hts _ mq_1_30) (fun _ h9 => h9) rfl dS_takeOut_22 ?_
          refine lv_iload hx hb dS_takeOut_25 (lv_at hl 4 rfl) ?_
          refine qr_lald (k := i) hx hb hK hP 2 1 rfl rfl (rfl) (by omega) (by decide) dS_takeOut_27 ?_
          refine lv_lload_n hx hb dS_takeOut_28 rfl (lv_at hl 1 rfl) ?_
          refine lv_lmul hx hb dS_takeOut_29 ?_
          refine lv_lload_n hx hb dS_takeOut_30 rfl (lv_at hl 2 rfl) ?_
          refine lv_ldiv hx hb dS_takeOut_31 (fun z => by rw [z] at h3; exact absurd h3 (by decide)) ?_
          refine lv_lstore (lv' := [(8, .long ((((pf_tk lv al tt i) i) * al) / tt)), (0, .ref z0), (1, .long al), (3, .long tt), (5, .long (pf_ct lv wt al tt i)), (7, .int (nI i))]) hx hb dS_takeOut_32 hl (by decide) rfl (fun ls hl => ?_)
          refine lv_aload_n hx hb dS_takeOut_34 rfl (lv_at hl 1 rfl) ?_
          refine va_get (D := (dC, dI)) (ci := 1) (v := .ref z5) (C := "OutlookOdds$Stock") (T := TS) (N := 5) hx hb hts inS hown hK hP 0 rfl rfl 4 (by decide) (hts _ mq_1_30) (fun _ h9 => h9) rfl dS_takeOut_35 ?_
          refine lv_iload hx hb dS_takeOut_38 (lv_at hl 5 rfl) ?_
          refine lv_dup2_11 hx hb dS_takeOut_40 rfl rfl ?_
          refine qr_lald (k := i) hx hb hK hP 2 1 rfl rfl (rfl) (by omega) (by decide) dS_takeOut_41 ?_
          refine lv_lload hx hb dS_takeOut_42 (lv_at hl 0 rfl) ?_
          refine lv_lsub hx hb dS_takeOut_44 ?_
          refine qr_last (k := i) (ws2 := [(z0, .inr (1, [.ref z1, .ref z2, .ref z3, .ref z4, .ref z5])), (z2, .inl (cI, 6, .inl wt)), (z5, .inl (cJ, 6, .inr (.inl (vp_updL (pf_tk lv al tt i) i (((pf_tk lv al tt i) i) - ((((pf_tk lv al tt i) i) * al) / tt))))))]) hx hb hK hP hD hS 2 1 rfl rfl (rfl) (by omega) (by decide) rfl dS_takeOut_45 (fun H locs hP hD hS => ?_)
          refine lv_lload hx hb dS_takeOut_46 (lv_at hl 4 rfl) ?_
          refine lv_lload hx hb dS_takeOut_48 (lv_at hl 0 rfl) ?_
          refine lv_aload_n hx hb dS_takeOut_50 rfl (lv_at hl 1 rfl) ?_
          refine va_get (D := (dC, dI)) (ci := 1) (v := .ref z2) (C := "OutlookOdds$Stock") (T := TS) (N := 5) hx hb hts inS hown hK hP 0 rfl rfl 1 (by decide) (hts _ mq_1_27) (fun _ h9 => h9) rfl dS_takeOut_51 ?_
          refine lv_iload hx hb dS_takeOut_54 (lv_at hl 5 rfl) ?_
          refine qr_iald (k := i) hx hb hK hP 1 0 rfl rfl (rfl) (by omega) (by decide) dS_takeOut_56 ?_
          refine lv_i2l hx hb dS_takeOut_57 rfl ?_
          refine lv_lmul hx hb dS_takeOut_58 ?_
          refine lv_ladd hx hb dS_takeOut_59 ?_
          refine lv_lstore (lv' := [(5, .long ((pf_ct lv wt al tt i) + (((((pf_tk lv al tt i) i) * al) / tt) * ((wt i).toInt64)))), (8, .long ((((pf_tk lv al tt i) i) * al) / tt)), (0, .ref z0), (1, .long al), (3, .long tt), (7, .int (nI i))]) hx hb dS_takeOut_60 hl (by decide) rfl (fun ls hl => ?_)
          refine lv_iinc (v := nI (i + 1)) (lv' := [(7, .int (nI (i + 1))), (5, .long ((pf_ct lv wt al tt i) + (((((pf_tk lv al tt i) i) * al) / tt) * ((wt i).toInt64)))), (8, .long ((((pf_tk lv al tt i) i) * al) / tt)), (0, .ref z0), (1, .long al), (3, .long tt)]) hx hb dS_takeOut_62 hl (k := 5) rfl (nI_1 _) (by decide) rfl (fun ls hl => ?_)
          refine lv_goto (tgt := 14) hx hb dS_takeOut_65 (by decide) ?_
          exact ih_14 (i + 1) (by omega) (by omega) _ _ hP hD hS ls (lv_sub hl [3, 4, 5, 1, 0] rfl)
    exact lp_14 ((6 - 0) + 1) 0 (by omega) (by omega) _ _ hP hD hS ls (lv_sub hl [2, 3, 4, 1, 0] rfl)
  · have h3 := mt (lg_cmp_gt _ _).mpr h3
    refine lv_lconst (v := 0) hx hb dS_takeOut_6 (by decide) ?_
    rw [show lv = pf_take lv al tt from (if_neg h3).symm] at hP hD
    exact hret hP hD hS (Nat.le_of_ble_eq_true rfl) (Nat.le_of_ble_eq_true rfl) ((if_neg h3).symm) dS_takeOut_7

set_option maxHeartbeats 4000000 in
set_option maxRecDepth 100000 in
theorem c_Stock_loseDead (z0 z1 z2 z3 z4 z5 : Nat) (di : Nat → Int32) (lv : Nat → Int64) : qMv l yS_loseDead (wS_loseDead) ({ frames := 0, cells := 0, slots := 0, locals := 0 } : Room) (dC, dI) qCl [(cI, .int), (cJ, .long), (cG, .array .long)] [.ref z0] [(z0, .inr (1, [.ref z1, .ref z2, .ref z3, .ref z4, .ref z5])), (z4, .inl (cI, 6, .inl di)), (z5, .inl (cJ, 6, .inr (.inl lv)))] [(z0, .inr (1, [.ref z1, .ref z2, .ref z3, .ref z4, .ref z5])), (z4, .inl (cI, 6, .inl di)), (z5, .inl (cJ, 6, .inr (.inl (pf_dead lv di 6))))] 0 0 := by
  refine qm_v (cc := prog_2_method_7_code) (maxL := 2) (by decide) rfl (Nat.le_of_ble_eq_true rfl) ?_
  intro p e s m args below meth c Q A ls hx hb hml hown hnm hts hA hK hP hD hS hl hret
  have hl : lv_has ls 2 [(0, .ref z0)] := hl
  refine lv_iconst (v := 0) hx hb dS_loseDead_0 (by decide) ?_
  refine lv_istore_n (lv' := [(1, .int 0), (0, .ref z0)]) hx hb dS_loseDead_1 rfl hl (by decide) rfl (fun ls hl => ?_)
  have lp_2 : ∀ (n : Nat) (i : Nat), 6 - i < n → i ≤ 6 → ∀ (H : Heap) (locs : List Loc), va_P (dC, dI) qCl [(z0, .inr (1, [.ref z1, .ref z2, .ref z3, .ref z4, .ref z5])), (z4, .inl (cI, 6, .inl di)), (z5, .inl (cJ, 6, .inr (.inl (pf_dead lv di i))))] H → va_D A [(z0, .inr (1, [.ref z1, .ref z2, .ref z3, .ref z4, .ref z5])), (z4, .inl (cI, 6, .inl di)), (z5, .inl (cJ, 6, .inr (.inl (pf_dead lv di i))))] → va_S A s.heap H locs → ∀ (ls : Array Slot), lv_has ls 2 [(0, .ref z0), (1, .int (nI i))] → W p l e ({ frames := 0, cells := 0, slots := 0, locals := 0 } : Room) s m args below meth c H locs 0 0 Q (F0 m 2 ls []) := by
    intro n_2
    induction n_2 with
    | zero => intro i hm; exact absurd hm (Nat.not_lt_zero _)
    | succ n_2 ih_2 =>
      intro i hm_2 hi H locs hP hD hS ls hl
      refine lv_iload_n hx hb dS_loseDead_2 rfl (lv_at hl 1 rfl) ?_
      refine lv_bipush (v := 6) hx hb dS_loseDead_3 (by decide) ?_
      refine lv_icmp_ge (tgt := 41) hx hb dS_loseDead_5 (by decide) (fun h5 => ?_) (fun h5 => ?_)
      · have e_i : i = 6 := qn_ge (b := 6) h5 hi (by decide)
        have hP : va_P (dC, dI) qCl [(z0, .inr (1, [.ref z1, .ref z2, .ref z3, .ref z4, .ref z5])), (z4, .inl (cI, 6, .inl di)), (z5, .inl (cJ, 6, .inr (.inl (pf_dead lv di 6))))] H := by first | exact hP | (rw [e_i] at hP; exact hP)
        have hD : va_D A [(z0, .inr (1, [.ref z1, .ref z2, .ref z3, .ref z4, .ref z5])), (z4, .inl (cI, 6, .inl di)), (z5, .inl (cJ, 6, .inr (.inl (pf_dead lv di 6))))] := by first | exact hD | (rw [e_i] at hD; exact hD)
        have hl : lv_has ls 2 [(0, .ref z0), (1, .int (nI 6))] := by first | exact hl | (rw [e_i] at hl; exact hl)
        exact hret hP hD hS (Nat.le_of_ble_eq_true rfl) (Nat.le_of_ble_eq_true rfl) dS_loseDead_41
      · have hlt : i < 6 := qn_nge (b := 6) h5 (by omega)
        refine lv_aload_n hx hb dS_loseDead_8 rfl (lv_at hl 0 rfl) ?_
        refine va_get (D := (dC, dI)) (ci := 1) (v := .ref z5) (C := "OutlookOdds$Stock") (T := TS) (N := 5) hx hb hts inS hown hK hP 0 rfl rfl 4 (by decide) (hts _ mq_1_30) (fun _ h9 => h9) rfl dS_loseDead_9 ?_
        refine lv_iload_n hx hb dS_loseDead_12 rfl (lv_at hl 1 rfl) ?_
        refine lv_dup2_11 hx hb dS_loseDead_13 rfl rfl ?_
        refine qr_lald (k := i) hx hb hK hP 2 1 rfl rfl (rfl) (by omega) (by decide) dS_loseDead_14 ?_
        refine lv_aload_n hx hb dS_loseDead_15 rfl (lv_at hl 0 rfl) ?_
        refine va_get (D := (dC, dI)) (ci := 1) (v := .ref z5) (C := "OutlookOdds$Stock") (T := TS) (N := 5) hx hb hts inS hown hK hP 0 rfl rfl 4 (by decide) (hts _ mq_1_30) (fun _ h9 => h9) rfl dS_loseDead_16 ?_
        refine lv_iload_n hx hb dS_loseDead_19 rfl (lv_at hl 1 rfl) ?_
        refine qr_lald (k := i) hx hb hK hP 2 1 rfl rfl (rfl) (by omega) (by decide) dS_loseDead_20 ?_
        refine lv_aload_n hx hb dS_loseDead_21 rfl (lv_at hl 0 rfl) ?_
        refine va_get (D := (dC, dI)) (ci := 1) (v := .ref z4) (C := "OutlookOdds$Stock") (T := TS) (N := 5) hx hb hts inS hown hK hP 0 rfl rfl 3 (by decide) (hts _ mq_1_29) (fun _ h9 => h9) rfl dS_loseDead_22 ?_
        refine lv_iload_n hx hb dS_loseDead_25 rfl (lv_at hl 1 rfl) ?_
        refine qr_iald (k := i) hx hb hK hP 1 0 rfl rfl (rfl) (by omega) (by decide) dS_loseDead_26 ?_
        refine lv_i2l hx hb dS_loseDead_27 rfl ?_
        refine lv_lmul hx hb dS_loseDead_28 ?_
        refine lv_ldc2 (v := 1000) hx hb hown (hts _ mq_2_58) dS_loseDead_29 ?_
        refine lv_ldiv hx hb dS_loseDead_32 (by decide) ?_
        refine lv_lsub hx hb dS_loseDead_33 ?_
        refine qr_last (k := i) (ws2 := [(z0, .inr (1, [.ref z1, .ref z2, .ref z3, .ref z4, .ref z5])), (z4, .inl (cI, 6, .inl di)), (z5, .inl (cJ, 6, .inr (.inl (vp_updL (pf_dead lv di i) i (((pf_dead lv di i) i) - ((((pf_dead lv di i) i) * ((di i).toInt64)) / 1000))))))]) hx hb hK hP hD hS 2 1 rfl rfl (rfl) (by omega) (by decide) rfl dS_loseDead_34 (fun H locs hP hD hS => ?_)
        refine lv_iinc (v := nI (i + 1)) (lv' := [(1, .int (nI (i + 1))), (0, .ref z0)]) hx hb dS_loseDead_35 hl (k := 1) rfl (nI_1 _) (by decide) rfl (fun ls hl => ?_)
        refine lv_goto (tgt := 2) hx hb dS_loseDead_38 (by decide) ?_
        exact ih_2 (i + 1) (by omega) (by omega) _ _ hP hD hS ls (lv_sub hl [1, 0] rfl)
  exact lp_2 ((6 - 0) + 1) 0 (by omega) (by omega) _ _ hP hD hS ls (lv_sub hl [1, 0] rfl)

set_option maxHeartbeats 4000000 in
set_option maxRecDepth 100000 in
theorem c_Stock_growOlder (z0 z1 z2 z3 z4 z5 : Nat) (lv : Nat → Int64) (bo : Int64) : qMv l yS_growOlder (wS_growOlder) ({ frames := 0, cells := 0, slots := 0, locals := 0 } : Room) (dC, dI) qCl [(cI, .int), (cJ, .long), (cG, .array .long)] [.ref z0, .long bo] [(z0, .inr (1, [.ref z1, .ref z2, .ref z3, .ref z4, .ref z5])), (z5, .inl (cJ, 6, .inr (.inl lv)))] [(z0, .inr (1, [.ref z1, .ref z2, .ref z3, .ref z4, .ref z5])), (z5, .inl (cJ, 6, .inr (.inl (pf_grow lv bo))))] 0 0 := by
  refine qm_v (cc := prog_2_method_8_code) (maxL := 5) (by decide) rfl (Nat.le_of_ble_eq_true rfl) ?_
  intro p e s m args below meth c Q A ls hx hb hml hown hnm hts hA hK hP hD hS hl hret
  have hl : lv_has ls 5 [(0, .ref z0), (1, .long bo)] := hl
  refine lv_iconst (v := 5) hx hb dS_growOlder_0 (by decide) ?_
  refine lv_istore_n (lv' := [(3, .int 5), (0, .ref z0), (1, .long bo)]) hx hb dS_growOlder_1 rfl hl (by decide) rfl (fun ls hl => ?_)
  refine lv_aload_n hx hb dS_growOlder_2 rfl (lv_at hl 1 rfl) ?_
  refine va_get (D := (dC, dI)) (ci := 1) (v := .ref z5) (C := "OutlookOdds$Stock") (T := TS) (N := 5) hx hb hts inS hown hK hP 0 rfl rfl 4 (by decide) (hts _ mq_1_30) (fun _ h9 => h9) rfl dS_growOlder_3 ?_
  refine lv_iload_n hx hb dS_growOlder_6 rfl (lv_at hl 0 rfl) ?_
  refine lv_dup2_11 hx hb dS_growOlder_7 rfl rfl ?_
  refine qr_lald (k := 5) hx hb hK hP 1 1 rfl rfl (rfl) (by decide) (by decide) dS_growOlder_8 ?_
  refine lv_aload_n hx hb dS_growOlder_9 rfl (lv_at hl 1 rfl) ?_
  refine va_get (D := (dC, dI)) (ci := 1) (v := .ref z5) (C := "OutlookOdds$Stock") (T := TS) (N := 5) hx hb hts inS hown hK hP 0 rfl rfl 4 (by decide) (hts _ mq_1_30) (fun _ h9 => h9) rfl dS_growOlder_10 ?_
  refine lv_iload_n hx hb dS_growOlder_13 rfl (lv_at hl 0 rfl) ?_
  refine lv_iconst (v := 1) hx hb dS_growOlder_14 (by decide) ?_
  refine lv_isub hx hb dS_growOlder_15 ?_
  refine qr_lald (k := 4) hx hb hK hP 1 1 rfl rfl (rfl) (by decide) (by decide) dS_growOlder_16 ?_
  refine lv_ladd hx hb dS_growOlder_17 ?_
  refine qr_last (k := 5) (ws2 := [(z0, .inr (1, [.ref z1, .ref z2, .ref z3, .ref z4, .ref z5])), (z5, .inl (cJ, 6, .inr (.inl (vp_updL lv 5 ((lv 5) + (lv 4))))))]) hx hb hK hP hD hS 1 1 rfl rfl (rfl) (by decide) (by decide) rfl dS_growOlder_18 (fun H locs hP hD hS => ?_)
  refine lv_iload_n hx hb dS_growOlder_19 rfl (lv_at hl 0 rfl) ?_
  refine lv_iconst (v := 1) hx hb dS_growOlder_20 (by decide) ?_
  refine lv_isub hx hb dS_growOlder_21 ?_
  refine lv_istore (lv' := [(4, .int (5 - 1)), (3, .int 5), (0, .ref z0), (1, .long bo)]) hx hb dS_growOlder_22 hl (by decide) rfl (fun ls hl => ?_)
  have lp_24 : ∀ (n : Nat) (i : Nat), 4 - i < n → i ≤ 4 → ∀ (H : Heap) (locs : List Loc), va_P (dC, dI) qCl [(z0, .inr (1, [.ref z1, .ref z2, .ref z3, .ref z4, .ref z5])), (z5, .inl (cJ, 6, .inr (.inl (pf_sh (vp_updL lv 5 (lv 5 + lv 4)) i))))] H → va_D A [(z0, .inr (1, [.ref z1, .ref z2, .ref z3, .ref z4, .ref z5])), (z5, .inl (cJ, 6, .inr (.inl (pf_sh (vp_updL lv 5 (lv 5 + lv 4)) i))))] → va_S A s.heap H locs → ∀ (ls : Array Slot), lv_has ls 5 [(0, .ref z0), (1, .long bo), (3, .int 5), (4, .int (nI (4 - i)))] → W p l e ({ frames := 0, cells := 0, slots := 0, locals := 0 } : Room) s m args below meth c H locs 0 0 Q (F0 m 24 ls []) := by
    intro n_24
    induction n_24 with
    | zero => intro i hm; exact absurd hm (Nat.not_lt_zero _)
    | succ n_24 ih_24 =>
      intro i hm_24 hi H locs hP hD hS ls hl
      refine lv_iload hx hb dS_growOlder_24 (lv_at hl 3 rfl) ?_
      refine lv_if_le (tgt := 51) hx hb dS_growOlder_26 (by decide) (fun h26 => ?_) (fun h26 => ?_)
      · have e_i : i = 4 := by have := qn_le0 (a := 4 - i) h26 (by omega); omega
        have hP : va_P (dC, dI) qCl [(z0, .inr (1, [.ref z1, .ref z2, .ref z3, .ref z4, .ref z5])), (z5, .inl (cJ, 6, .inr (.inl (pf_sh (vp_updL lv 5 (lv 5 + lv 4)) 4))))] H := by first | exact hP | (rw [e_i] at hP; exact hP)
        have hD : va_D A [(z0, .inr (1, [.ref z1, .ref z2, .ref z3, .ref z4, .ref z5])), (z5, .inl (cJ, 6, .inr (.inl (pf_sh (vp_updL lv 5 (lv 5 + lv 4)) 4))))] := by first | exact hD | (rw [e_i] at hD; exact hD)
        have hl : lv_has ls 5 [(0, .ref z0), (1, .long bo), (3, .int 5), (4, .int (nI (4 - 4)))] := by first | exact hl | (rw [e_i] at hl; exact hl)
        refine lv_aload_n hx hb dS_growOlder_51 rfl (lv_at hl 0 rfl) ?_
        refine va_get (D := (dC, dI)) (ci := 1) (v := .ref z5) (C := "OutlookOdds$Stock") (T := TS) (N := 5) hx hb hts inS hown hK hP 0 rfl rfl 4 (by decide) (hts _ mq_1_30) (fun _ h9 => h9) rfl dS_growOlder_52 ?_
        refine lv_iconst (v := 0) hx hb dS_growOlder_55 (by decide) ?_
        refine lv_lload_n hx hb dS_growOlder_56 rfl (lv_at hl 1 rfl) ?_
        refine qr_last (k := 0) (ws2 := [(z0, .inr (1, [.ref z1, .ref z2, .ref z3, .ref z4, .ref z5])), (z5, .inl (cJ, 6, .inr (.inl (vp_updL (pf_sh (vp_updL lv 5 (lv 5 + lv 4)) 4) 0 bo))))]) hx hb hK hP hD hS 1 1 rfl rfl (rfl) (by decide) (by decide) rfl dS_growOlder_57 (fun H locs hP hD hS => ?_)
        exact hret hP hD hS (Nat.le_of_ble_eq_true rfl) (Nat.le_of_ble_eq_true rfl) dS_growOlder_58
      · have hlt : i < 4 := by have := qn_nle0 (a := 4 - i) h26 (by omega); omega
        refine lv_aload_n hx hb dS_growOlder_29 rfl (lv_at hl 0 rfl) ?_
        refine va_get (D := (dC, dI)) (ci := 1) (v := .ref z5) (C := "OutlookOdds$Stock") (T := TS) (N := 5) hx hb hts inS hown hK hP 0 rfl rfl 4 (by decide) (hts _ mq_1_30) (fun _ h9 => h9) rfl dS_growOlder_30 ?_
        refine lv_iload hx hb dS_growOlder_33 (lv_at hl 3 rfl) ?_
        refine lv_aload_n hx hb dS_growOlder_35 rfl (lv_at hl 0 rfl) ?_
        refine va_get (D := (dC, dI)) (ci := 1) (v := .ref z5) (C := "OutlookOdds$Stock") (T := TS) (N := 5) hx hb hts inS hown hK hP 0 rfl rfl 4 (by decide) (hts _ mq_1_30) (fun _ h9 => h9) rfl dS_growOlder_36 ?_
        refine lv_iload hx hb dS_growOlder_39 (lv_at hl 3 rfl) ?_
        refine lv_iconst (v := 1) hx hb dS_growOlder_41 (by decide) ?_
        refine lv_isub hx hb dS_growOlder_42 ?_
        refine qr_lald (k := 4 - i - 1) hx hb hK hP 1 1 rfl rfl (qn_sub1 (by omega)) (by omega) (by decide) dS_growOlder_43 ?_
        refine qr_last (k := 4 - i) (ws2 := [(z0, .inr (1, [.ref z1, .ref z2, .ref z3, .ref z4, .ref z5])), (z5, .inl (cJ, 6, .inr (.inl (vp_updL (pf_sh (vp_updL lv 5 (lv 5 + lv 4)) i) (4 - i) ((pf_sh (vp_updL lv 5 (lv 5 + lv 4)) i) (4 - i - 1))))))]) hx hb hK hP hD hS 1 1 rfl rfl (rfl) (by omega) (by decide) rfl dS_growOlder_44 (fun H locs hP hD hS => ?_)
        refine lv_iinc (v := nI (4 - (i + 1))) (lv' := [(4, .int (nI (4 - (i + 1)))), (0, .ref z0), (1, .long bo), (3, .int 5)]) hx hb dS_growOlder_45 hl (k := 3) rfl ((sb_m1 (by omega)).trans (by rw [show 4 - i - 1 = 4 - (i + 1) by omega])) (by decide) rfl (fun ls hl => ?_)
        refine lv_goto (tgt := 24) hx hb dS_growOlder_48 (by decide) ?_
        exact ih_24 (i + 1) (by omega) (by omega) _ _ hP hD hS ls (lv_sub hl [1, 2, 3, 0] rfl)
  exact lp_24 ((4 - 0) + 1) 0 (by omega) (by omega) _ _ hP hD hS ls (lv_sub hl [2, 3, 1, 0] rfl)

end QST
