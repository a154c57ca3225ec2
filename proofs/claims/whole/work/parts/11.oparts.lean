section QOP
variable (l : Launch) (dC : Nat → ClassId) (dI : Nat → Nat → Nat) (cI cJ cG : ClassId)
set_option maxHeartbeats 4000000 in
set_option maxRecDepth 100000 in
theorem c_draw (o0 : Nat) (a b c0 : Int32) : qMi l yO_draw (wO_draw) ({ frames := 0, cells := 0, slots := 0, locals := 0 } : Room) (dC, dI) qCl [(cI, .int), (cJ, .long), (cG, .array .long)] [.ref o0, .int a, .int b, .int c0] [] [] (pf_draw a b c0) 0 0 := by
  refine qm_i (cc := prog_1_method_8_code) (maxL := 5) (by decide) rfl (Nat.le_of_ble_eq_true rfl) ?_
  intro p e s m args below meth c Q A ls hx hb hml hown hnm hts hA hK hP hD hS hl hret
  have hl : lv_has ls 5 [(0, .ref o0), (1, .int a), (2, .int b), (3, .int c0)] := hl
  refine lv_bipush (v := 31) hx hb dO_draw_0 (by decide) ?_
  refine lv_iload_n hx hb dO_draw_2 rfl (lv_at hl 1 rfl) ?_
  refine lv_imul hx hb dO_draw_3 ?_
  refine lv_bipush (v := 7) hx hb dO_draw_4 (by decide) ?_
  refine lv_iload_n hx hb dO_draw_6 rfl (lv_at hl 2 rfl) ?_
  refine lv_imul hx hb dO_draw_7 ?_
  refine lv_iadd hx hb dO_draw_8 ?_
  refine lv_iload_n hx hb dO_draw_9 rfl (lv_at hl 3 rfl) ?_
  refine lv_iadd hx hb dO_draw_10 ?_
  refine lv_istore (lv' := [(4, .int (((31 * a) + (7 * b)) + c0)), (0, .ref o0), (1, .int a), (2, .int b), (3, .int c0)]) hx hb dO_draw_11 hl (by decide) rfl (fun ls hl => ?_)
  refine lv_iload hx hb dO_draw_13 (lv_at hl 0 rfl) ?_
  refine lv_ldc (v := 1103515245) hx hb hown (hts _ mq_1_112) dO_draw_15 ?_
  refine lv_imul hx hb dO_draw_17 ?_
  refine lv_sipush (v := 12345) hx hb dO_draw_18 (by decide) ?_
  refine lv_iadd hx hb dO_draw_21 ?_
  refine lv_istore (lv' := [(4, .int (((((31 * a) + (7 * b)) + c0) * 1103515245) + 12345)), (0, .ref o0), (1, .int a), (2, .int b), (3, .int c0)]) hx hb dO_draw_22 hl (by decide) rfl (fun ls hl => ?_)
  refine lv_iload hx hb dO_draw_24 (lv_at hl 0 rfl) ?_
  refine lv_ldc (v := 1103515245) hx hb hown (hts _ mq_1_112) dO_draw_26 ?_
  refine lv_imul hx hb dO_draw_28 ?_
  refine lv_sipush (v := 12345) hx hb dO_draw_29 (by decide) ?_
  refine lv_iadd hx hb dO_draw_32 ?_
  refine lv_istore (lv' := [(4, .int (((((((31 * a) + (7 * b)) + c0) * 1103515245) + 12345) * 1103515245) + 12345)), (0, .ref o0), (1, .int a), (2, .int b), (3, .int c0)]) hx hb dO_draw_33 hl (by decide) rfl (fun ls hl => ?_)
  refine lv_iload hx hb dO_draw_35 (lv_at hl 0 rfl) ?_
  refine lv_bipush (v := 16) hx hb dO_draw_37 (by decide) ?_
  refine lv_iushr hx hb dO_draw_39 rfl ?_
  exact hret hP hD hS (Nat.le_of_ble_eq_true rfl) (Nat.le_of_ble_eq_true rfl) (rfl) dO_draw_40

set_option maxHeartbeats 4000000 in
set_option maxRecDepth 100000 in
theorem c_massSeen (o0 o1 o2 o3 o4 o5 o6 o7 ru sp dl rr yr sd rn : Nat) (yg ch mk : Int32) (q0 qg : Nat) (qr : Nat → Nat) (M : Nat → Nat → Int64) (se y : Nat) (hse : se < 16) (hy1 : 1 ≤ y) (hy2 : y ≤ 20) (hsp : sp ≤ 50) (hdl : dl ≤ 3) : qMl l yO_massSeen (wO_massSeen) ({ frames := 1, cells := 0, slots := 0, locals := 24 } : Room) (dC, dI) qCl [(cI, .int), (cJ, .long), (cG, .array .long)] [.ref o0, .ref q0, .int (nI se), .int (nI y)] [(o0, .inr (0, [.ref o1, .ref o2, .ref o3, .ref o4, .int (nI ru), .int yg, .int ch, .int (nI sp), .int (nI dl), .int mk, .ref o5, .ref o6, .ref o7, .int (nI rr), .int (nI yr), .int (nI sd), .int (nI rn)])), (q0, .inr (2, [.ref qg])), (qg, .inl (cG, 4, .inr (.inr (.inr (.inr (pf_gf qr)))))), (qr 0, .inl (cJ, 320, .inr (.inl (M 0)))), (qr 1, .inl (cJ, 320, .inr (.inl (M 1)))), (qr 2, .inl (cJ, 320, .inr (.inl (M 2)))), (qr 3, .inl (cJ, 320, .inr (.inl (M 3))))] [(o0, .inr (0, [.ref o1, .ref o2, .ref o3, .ref o4, .int (nI ru), .int yg, .int ch, .int (nI sp), .int (nI dl), .int mk, .ref o5, .ref o6, .ref o7, .int (nI rr), .int (nI yr), .int (nI sd), .int (nI rn)])), (q0, .inr (2, [.ref qg])), (qg, .inl (cG, 4, .inr (.inr (.inr (.inr (pf_gf qr)))))), (qr 0, .inl (cJ, 320, .inr (.inl (M 0)))), (qr 1, .inl (cJ, 320, .inr (.inl (M 1)))), (qr 2, .inl (cJ, 320, .inr (.inl (M 2)))), (qr 3, .inl (cJ, 320, .inr (.inl (M 3))))] (pf_seen (M 0) se y sp dl) 0 0 := by
  refine qm_l (cc := prog_1_method_21_code) (maxL := 6) (by decide) rfl (Nat.le_of_ble_eq_true rfl) ?_
  intro p e s m args below meth c Q A ls hx hb hml hown hnm hts hA hK hP hD hS hl hret
  have hl : lv_has ls 6 [(0, .ref o0), (1, .ref q0), (2, .int (nI se)), (3, .int (nI y))] := hl
  refine lv_iconst (v := 1) hx hb dO_massSeen_0 (by decide) ?_
  refine lv_iload_n hx hb dO_massSeen_1 rfl (lv_at hl 3 rfl) ?_
  refine lv_aload_n hx hb dO_massSeen_2 rfl (lv_at hl 0 rfl) ?_
  refine va_get (D := (dC, dI)) (ci := 0) (v := .int (nI dl)) (C := "OutlookOdds") (T := TO) (N := 17) hx hb hts inO hown hK hP 0 rfl rfl 8 (by decide) (hts _ mq_1_64) (fun _ h9 => h9) rfl dO_massSeen_3 ?_
  refine lv_isub hx hb dO_massSeen_6 ?_
  refine va_mmax hx hb (by rw [hml]; exact hl.1.symm) hown (hts _ mq_2_67) (hts _ mq_2_68) (hts _ mq_1_11) (hts _ mq_2_69) (Nat.le_of_ble_eq_true rfl) (by exact Nat.le_of_ble_eq_true rfl) (by exact Nat.le_of_ble_eq_true rfl) (by exact Nat.le_of_ble_eq_true rfl) dO_massSeen_7 ?_
  refine qr_topi (y := nI (pf_ys y dl)) (qn_ys hy2 hdl) ?_
  refine lv_istore (lv' := [(4, .int (nI (pf_ys y dl))), (0, .ref o0), (1, .ref q0), (2, .int (nI se)), (3, .int (nI y))]) hx hb dO_massSeen_10 hl (by decide) rfl (fun ls hl => ?_)
  refine lv_bipush (v := 100) hx hb dO_massSeen_12 (by decide) ?_
  refine lv_aload_n hx hb dO_massSeen_14 rfl (lv_at hl 1 rfl) ?_
  refine va_get (D := (dC, dI)) (ci := 0) (v := .int (nI sp)) (C := "OutlookOdds") (T := TO) (N := 17) hx hb hts inO hown hK hP 0 rfl rfl 7 (by decide) (hts _ mq_1_63) (fun _ h9 => h9) rfl dO_massSeen_15 ?_
  refine lv_isub hx hb dO_massSeen_18 ?_
  refine lv_aload_n hx hb dO_massSeen_19 rfl (lv_at hl 1 rfl) ?_
  refine lv_iload_n hx hb dO_massSeen_20 rfl (lv_at hl 3 rfl) ?_
  refine lv_iload_n hx hb dO_massSeen_21 rfl (lv_at hl 4 rfl) ?_
  refine lv_iconst (v := 1) hx hb dO_massSeen_22 (by decide) ?_
  refine qr_callVi (As := [.int (nI se), .int (nI y), .int 1]) (rest := [.int (100 - (nI sp))]) (wr := [(o0, .inr (0, [.ref o1, .ref o2, .ref o3, .ref o4, .int (nI ru), .int yg, .int ch, .int (nI sp), .int (nI dl), .int mk, .ref o5, .ref o6, .ref o7, .int (nI rr), .int (nI yr), .int (nI sd), .int (nI rn)])), (q0, .inr (2, [.ref qg])), (qg, .inl (cG, 4, .inr (.inr (.inr (.inr (pf_gf qr)))))), (qr 0, .inl (cJ, 320, .inr (.inl (M 0)))), (qr 1, .inl (cJ, 320, .inr (.inl (M 1)))), (qr 2, .inl (cJ, 320, .inr (.inl (M 2)))), (qr 3, .inl (cJ, 320, .inr (.inl (M 3))))]) (ws2 := [(o0, .inr (0, [.ref o1, .ref o2, .ref o3, .ref o4, .int (nI ru), .int yg, .int ch, .int (nI sp), .int (nI dl), .int mk, .ref o5, .ref o6, .ref o7, .int (nI rr), .int (nI yr), .int (nI sd), .int (nI rn)])), (q0, .inr (2, [.ref qg])), (qg, .inl (cG, 4, .inr (.inr (.inr (.inr (pf_gf qr)))))), (qr 0, .inl (cJ, 320, .inr (.inl (M 0)))), (qr 1, .inl (cJ, 320, .inr (.inl (M 1)))), (qr 2, .inl (cJ, 320, .inr (.inl (M 2)))), (qr 3, .inl (cJ, 320, .inr (.inl (M 3))))]) ⟨hx, hb, hml, hown, hts⟩ (c_draw l dC dI cI cJ cG o0 (nI se) (nI y) 1 ) (cwV 3 hts (qg_V mq_2_70 mq_1_109 mq_1_110 mq_1_1 mq_1_111) rfl rfl rfl (by decide +kernel) ⟨Nat.le_of_ble_eq_true rfl, Nat.le_of_ble_eq_true rfl⟩) hK hP hD hS hA (ci := 0) (q0 := 0) rfl rfl [] [0, 1, 2, 3, 4, 5, 6] [0, 1, 2, 3, 4, 5, 6] rfl rfl (by decide) (by decide) rfl (by decide) rfl hl.1 rfl (Nat.le_of_ble_eq_true rfl) dO_massSeen_23 ⟨Nat.le_of_ble_eq_true rfl, Nat.le_of_ble_eq_true rfl⟩ (fun H locs hP hD hS => ?_)
  refine lv_iconst (v := 2) hx hb dO_massSeen_26 (by decide) ?_
  refine lv_aload_n hx hb dO_massSeen_27 rfl (lv_at hl 1 rfl) ?_
  refine va_get (D := (dC, dI)) (ci := 0) (v := .int (nI sp)) (C := "OutlookOdds") (T := TO) (N := 17) hx hb hts inO hown hK hP 0 rfl rfl 7 (by decide) (hts _ mq_1_63) (fun _ h9 => h9) rfl dO_massSeen_28 ?_
  refine lv_imul hx hb dO_massSeen_31 ?_
  refine lv_iconst (v := 1) hx hb dO_massSeen_32 (by decide) ?_
  refine lv_iadd hx hb dO_massSeen_33 ?_
  refine lv_irem hx hb dO_massSeen_34 (qn_odd hsp) ?_
  refine lv_iadd hx hb dO_massSeen_35 ?_
  refine lv_istore (lv' := [(5, .int ((100 - (nI sp)) + ((pf_draw (nI se) (nI y) 1) - (pf_draw (nI se) (nI y) 1) / ((2 * (nI sp)) + 1) * ((2 * (nI sp)) + 1)))), (4, .int (nI (pf_ys y dl))), (0, .ref o0), (1, .ref q0), (2, .int (nI se)), (3, .int (nI y))]) hx hb dO_massSeen_36 hl (by decide) rfl (fun ls hl => ?_)
  refine lv_aload_n hx hb dO_massSeen_38 rfl (lv_at hl 3 rfl) ?_
  refine lv_iconst (v := 0) hx hb dO_massSeen_39 (by decide) ?_
  refine lv_iload_n hx hb dO_massSeen_40 rfl (lv_at hl 4 rfl) ?_
  refine lv_iload hx hb dO_massSeen_41 (lv_at hl 1 rfl) ?_
  refine qr_callVl (As := [.int 0, .int (nI se), .int (nI (pf_ys y dl))]) (rest := []) (wr := [(o0, .inr (0, [.ref o1, .ref o2, .ref o3, .ref o4, .int (nI ru), .int yg, .int ch, .int (nI sp), .int (nI dl), .int mk, .ref o5, .ref o6, .ref o7, .int (nI rr), .int (nI yr), .int (nI sd), .int (nI rn)]))]) (ws2 := [(o0, .inr (0, [.ref o1, .ref o2, .ref o3, .ref o4, .int (nI ru), .int yg, .int ch, .int (nI sp), .int (nI dl), .int mk, .ref o5, .ref o6, .ref o7, .int (nI rr), .int (nI yr), .int (nI sd), .int (nI rn)])), (q0, .inr (2, [.ref qg])), (qg, .inl (cG, 4, .inr (.inr (.inr (.inr (pf_gf qr)))))), (qr 0, .inl (cJ, 320, .inr (.inl (M 0)))), (qr 1, .inl (cJ, 320, .inr (.inl (M 1)))), (qr 2, .inl (cJ, 320, .inr (.inl (M 2)))), (qr 3, .inl (cJ, 320, .inr (.inl (M 3))))]) ⟨hx, hb, hml, hown, hts⟩ (c_Story_get l dC dI cI cJ cG q0 qg qr M 0 se (pf_ys y dl) (by omega) (by omega) ((pf_ys_in hy1).1) (Nat.le_trans (pf_ys_in hy1).2 hy2)) (cwV 3 hts (qg_V mq_2_71 mq_2_72 mq_2_73 mq_1_3 mq_2_74) rfl rfl rfl (by decide +kernel) ⟨Nat.le_of_ble_eq_true rfl, Nat.le_of_ble_eq_true rfl⟩) hK hP hD hS hA (ci := 2) (q0 := 1) rfl rfl [1, 2, 3, 4, 5, 6] [0] [0, 1, 2, 3, 4, 5, 6] rfl rfl (by decide) (by decide) rfl (by decide) rfl hl.1 rfl (Nat.le_of_ble_eq_true rfl) dO_massSeen_43 ⟨Nat.le_of_ble_eq_true rfl, Nat.le_of_ble_eq_true rfl⟩ (fun H locs hP hD hS => ?_)
  refine lv_iload hx hb dO_massSeen_46 (lv_at hl 0 rfl) ?_
  refine lv_i2l hx hb dO_massSeen_48 rfl ?_
  refine lv_lmul hx hb dO_massSeen_49 ?_
  refine lv_ldc2 (v := 100) hx hb hown (hts _ mq_2_75) dO_massSeen_50 ?_
  refine lv_ldiv hx hb dO_massSeen_53 (by decide) ?_
  exact hret hP hD hS (Nat.le_of_ble_eq_true rfl) (Nat.le_of_ble_eq_true rfl) (rfl) dO_massSeen_54

set_option maxHeartbeats 4000000 in
set_option maxRecDepth 100000 in
theorem c_rateAllowed (o0 o1 o2 o3 o4 o5 o6 o7 ru sp dl rr yr sd rn : Nat) (yg ch mk : Int32) (lo hi : Nat → Int32) (x : Int64) (rt : Int32) (hrr : rr < 6) : qMl l yO_rateAllowed (wO_rateAllowed) ({ frames := 0, cells := 0, slots := 0, locals := 0 } : Room) (dC, dI) qCl [(cI, .int), (cJ, .long), (cG, .array .long)] [.ref o0, .long x, .int rt] [(o0, .inr (0, [.ref o1, .ref o2, .ref o3, .ref o4, .int (nI ru), .int yg, .int ch, .int (nI sp), .int (nI dl), .int mk, .ref o5, .ref o6, .ref o7, .int (nI rr), .int (nI yr), .int (nI sd), .int (nI rn)])), (o2, .inl (cI, 6, .inl lo)), (o3, .inl (cI, 6, .inl hi))] [(o0, .inr (0, [.ref o1, .ref o2, .ref o3, .ref o4, .int (nI ru), .int yg, .int ch, .int (nI sp), .int (nI dl), .int mk, .ref o5, .ref o6, .ref o7, .int (nI rr), .int (nI yr), .int (nI sd), .int (nI rn)])), (o2, .inl (cI, 6, .inl lo)), (o3, .inl (cI, 6, .inl hi))] (pf_rate (lo rr).toInt64 (hi rr).toInt64 x rt) 0 0 := by
  refine qm_l (cc := prog_1_method_22_code) (maxL := 8) (by decide) rfl (Nat.le_of_ble_eq_true rfl) ?_
  intro p e s m args below meth c Q A ls hx hb hml hown hnm hts hA hK hP hD hS hl hret
  have hl : lv_has ls 8 [(0, .ref o0), (1, .long x), (3, .int rt)] := hl
  refine lv_aload_n hx hb dO_rateAllowed_0 rfl (lv_at hl 0 rfl) ?_
  refine va_get (D := (dC, dI)) (ci := 0) (v := .ref o2) (C := "OutlookOdds") (T := TO) (N := 17) hx hb hts inO hown hK hP 0 rfl rfl 1 (by decide) (hts _ mq_1_57) (fun _ h9 => h9) rfl dO_rateAllowed_1 ?_
  refine lv_aload_n hx hb dO_rateAllowed_4 rfl (lv_at hl 0 rfl) ?_
  refine va_get (D := (dC, dI)) (ci := 0) (v := .int (nI rr)) (C := "OutlookOdds") (T := TO) (N := 17) hx hb hts inO hown hK hP 0 rfl rfl 13 (by decide) (hts _ mq_1_69) (fun _ h9 => h9) rfl dO_rateAllowed_5 ?_
  refine qr_iald (k := rr) hx hb hK hP 1 0 rfl rfl (rfl) (by omega) (by decide) dO_rateAllowed_8 ?_
  refine lv_i2l hx hb dO_rateAllowed_9 rfl ?_
  refine lv_lstore (lv' := [(4, .long ((lo rr).toInt64)), (0, .ref o0), (1, .long x), (3, .int rt)]) hx hb dO_rateAllowed_10 hl (by decide) rfl (fun ls hl => ?_)
  refine lv_aload_n hx hb dO_rateAllowed_12 rfl (lv_at hl 1 rfl) ?_
  refine va_get (D := (dC, dI)) (ci := 0) (v := .ref o3) (C := "OutlookOdds") (T := TO) (N := 17) hx hb hts inO hown hK hP 0 rfl rfl 2 (by decide) (hts _ mq_1_58) (fun _ h9 => h9) rfl dO_rateAllowed_13 ?_
  refine lv_aload_n hx hb dO_rateAllowed_16 rfl (lv_at hl 1 rfl) ?_
  refine va_get (D := (dC, dI)) (ci := 0) (v := .int (nI rr)) (C := "OutlookOdds") (T := TO) (N := 17) hx hb hts inO hown hK hP 0 rfl rfl 13 (by decide) (hts _ mq_1_69) (fun _ h9 => h9) rfl dO_rateAllowed_17 ?_
  refine qr_iald (k := rr) hx hb hK hP 2 0 rfl rfl (rfl) (by omega) (by decide) dO_rateAllowed_20 ?_
  refine lv_i2l hx hb dO_rateAllowed_21 rfl ?_
  refine lv_lstore (lv' := [(6, .long ((hi rr).toInt64)), (4, .long ((lo rr).toInt64)), (0, .ref o0), (1, .long x), (3, .int rt)]) hx hb dO_rateAllowed_22 hl (by decide) rfl (fun ls hl => ?_)
  refine lv_lload_n hx hb dO_rateAllowed_24 rfl (lv_at hl 3 rfl) ?_
  refine lv_lload hx hb dO_rateAllowed_25 (lv_at hl 1 rfl) ?_
  refine W.lcmp hx hb dO_rateAllowed_27 ?_
  refine lv_if_ge (tgt := 33) hx hb dO_rateAllowed_28 (by decide) (fun h28 => ?_) (fun h28 => ?_)
  · have h28 := (lg_cmp_ge _ _).mp h28
    refine lv_lload_n hx hb dO_rateAllowed_33 rfl (lv_at hl 3 rfl) ?_
    refine lv_lload hx hb dO_rateAllowed_34 (lv_at hl 0 rfl) ?_
    refine W.lcmp hx hb dO_rateAllowed_36 ?_
    refine lv_if_lt (tgt := 43) hx hb dO_rateAllowed_37 (by decide) (fun h37 => ?_) (fun h37 => ?_)
    · have h37 := (lg_cmp_lt _ _).mp h37
      refine lv_iload_n hx hb dO_rateAllowed_43 rfl (lv_at hl 4 rfl) ?_
      refine lv_i2l hx hb dO_rateAllowed_44 rfl ?_
      refine lv_lload_n hx hb dO_rateAllowed_45 rfl (lv_at hl 3 rfl) ?_
      refine lv_lload hx hb dO_rateAllowed_46 (lv_at hl 1 rfl) ?_
      refine lv_lsub hx hb dO_rateAllowed_48 ?_
      refine lv_lmul hx hb dO_rateAllowed_49 ?_
      refine lv_lload hx hb dO_rateAllowed_50 (lv_at hl 0 rfl) ?_
      refine lv_lload hx hb dO_rateAllowed_52 (lv_at hl 1 rfl) ?_
      refine lv_lsub hx hb dO_rateAllowed_54 ?_
      refine lv_ldiv hx hb dO_rateAllowed_55 (qn_dz h28 h37) ?_
      exact hret hP hD hS (Nat.le_of_ble_eq_true rfl) (Nat.le_of_ble_eq_true rfl) (by unfold pf_rate; rw [if_pos h28, if_pos h37]) dO_rateAllowed_56
    · have h37 := mt (lg_cmp_lt _ _).mpr h37
      refine lv_iload_n hx hb dO_rateAllowed_40 rfl (lv_at hl 4 rfl) ?_
      refine lv_i2l hx hb dO_rateAllowed_41 rfl ?_
      exact hret hP hD hS (Nat.le_of_ble_eq_true rfl) (Nat.le_of_ble_eq_true rfl) (by unfold pf_rate; rw [if_pos h28, if_neg h37]) dO_rateAllowed_42
  · have h28 := mt (lg_cmp_ge _ _).mpr h28
    refine lv_lconst (v := 0) hx hb dO_rateAllowed_31 (by decide) ?_
    exact hret hP hD hS (Nat.le_of_ble_eq_true rfl) (Nat.le_of_ble_eq_true rfl) (by unfold pf_rate; rw [if_neg h28]) dO_rateAllowed_32

set_option maxHeartbeats 4000000 in
set_option maxRecDepth 100000 in
theorem c_limitChange (o0 o1 o2 o3 o4 o5 o6 o7 ru sp dl rr yr sd rn : Nat) (yg ch mk : Int32) (q0 qg : Nat) (qr : Nat → Nat) (M : Nat → Nat → Int64) (wa : Int64) (se y : Nat) (hse : se < 16) (hy2 : y ≤ 20) : qMl l yO_limitChange (wO_limitChange) ({ frames := 1, cells := 0, slots := 0, locals := 23 } : Room) (dC, dI) qCl [(cI, .int), (cJ, .long), (cG, .array .long)] [.ref o0, .ref q0, .long wa, .int (nI se), .int (nI y)] [(o0, .inr (0, [.ref o1, .ref o2, .ref o3, .ref o4, .int (nI ru), .int yg, .int ch, .int (nI sp), .int (nI dl), .int mk, .ref o5, .ref o6, .ref o7, .int (nI rr), .int (nI yr), .int (nI sd), .int (nI rn)])), (q0, .inr (2, [.ref qg])), (qg, .inl (cG, 4, .inr (.inr (.inr (.inr (pf_gf qr)))))), (qr 0, .inl (cJ, 320, .inr (.inl (M 0)))), (qr 1, .inl (cJ, 320, .inr (.inl (M 1)))), (qr 2, .inl (cJ, 320, .inr (.inl (M 2)))), (qr 3, .inl (cJ, 320, .inr (.inl (M 3))))] [(o0, .inr (0, [.ref o1, .ref o2, .ref o3, .ref o4, .int (nI ru), .int yg, .int ch, .int (nI sp), .int (nI dl), .int mk, .ref o5, .ref o6, .ref o7, .int (nI rr), .int (nI yr), .int (nI sd), .int (nI rn)])), (q0, .inr (2, [.ref qg])), (qg, .inl (cG, 4, .inr (.inr (.inr (.inr (pf_gf qr)))))), (qr 0, .inl (cJ, 320, .inr (.inl (M 0)))), (qr 1, .inl (cJ, 320, .inr (.inl (M 1)))), (qr 2, .inl (cJ, 320, .inr (.inl (M 2)))), (qr 3, .inl (cJ, 320, .inr (.inl (M 3))))] (pf_lim (M 2) wa se y ch) 0 0 := by
  refine qm_l (cc := prog_1_method_23_code) (maxL := 10) (by decide) rfl (Nat.le_of_ble_eq_true rfl) ?_
  intro p e s m args below meth c Q A ls hx hb hml hown hnm hts hA hK hP hD hS hl hret
  have hl : lv_has ls 10 [(0, .ref o0), (1, .ref q0), (2, .long wa), (4, .int (nI se)), (5, .int (nI y))] := hl
  refine lv_iload hx hb dO_limitChange_0 (lv_at hl 4 rfl) ?_
  refine lv_iconst (v := 2) hx hb dO_limitChange_2 (by decide) ?_
  refine lv_icmp_lt (tgt := 16) hx hb dO_limitChange_3 (by decide) (fun h3 => ?_) (fun h3 => ?_)
  · refine lv_lload_n hx hb dO_limitChange_16 rfl (lv_at hl 2 rfl) ?_
    exact hret hP hD hS (Nat.le_of_ble_eq_true rfl) (Nat.le_of_ble_eq_true rfl) (by unfold pf_lim; first | rw [if_pos h3] | rw [if_neg h3, if_neg h13]) dO_limitChange_17
  · have hy : 2 ≤ y := qn_nlt2 h3 (by omega)
    refine lv_aload_n hx hb dO_limitChange_6 rfl (lv_at hl 0 rfl) ?_
    refine va_get (D := (dC, dI)) (ci := 0) (v := .int ch) (C := "OutlookOdds") (T := TO) (N := 17) hx hb hts inO hown hK hP 0 rfl rfl 6 (by decide) (hts _ mq_1_62) (fun _ h9 => h9) rfl dO_limitChange_7 ?_
    refine lv_sipush (v := 1000) hx hb dO_limitChange_10 (by decide) ?_
    refine lv_icmp_lt (tgt := 18) hx hb dO_limitChange_13 (by decide) (fun h13 => ?_) (fun h13 => ?_)
    · refine lv_aload_n hx hb dO_limitChange_18 rfl (lv_at hl 1 rfl) ?_
      refine lv_iconst (v := 2) hx hb dO_limitChange_19 (by decide) ?_
      refine lv_iload hx hb dO_limitChange_20 (lv_at hl 3 rfl) ?_
      refine lv_iload hx hb dO_limitChange_22 (lv_at hl 4 rfl) ?_
      refine lv_iconst (v := 1) hx hb dO_limitChange_24 (by decide) ?_
      refine lv_isub hx hb dO_limitChange_25 ?_
      refine qr_topi (y := nI (y - 1)) (qn_sub1 (by omega)) ?_
      refine qr_callVl (As := [.int 2, .int (nI se), .int (nI (y - 1))]) (rest := []) (wr := [(o0, .inr (0, [.ref o1, .ref o2, .ref o3, .ref o4, .int (nI ru), .int yg, .int ch, .int (nI sp), .int (nI dl), .int mk, .ref o5, .ref o6, .ref o7, .int (nI rr), .int (nI yr), .int (nI sd), .int (nI rn)]))]) (ws2 := [(o0, .inr (0, [.ref o1, .ref o2, .ref o3, .ref o4, .int (nI ru), .int yg, .int ch, .int (nI sp), .int (nI dl), .int mk, .ref o5, .ref o6, .ref o7, .int (nI rr), .int (nI yr), .int (nI sd), .int (nI rn)])), (q0, .inr (2, [.ref qg])), (qg, .inl (cG, 4, .inr (.inr (.inr (.inr (pf_gf qr)))))), (qr 0, .inl (cJ, 320, .inr (.inl (M 0)))), (qr 1, .inl (cJ, 320, .inr (.inl (M 1)))), (qr 2, .inl (cJ, 320, .inr (.inl (M 2)))), (qr 3, .inl (cJ, 320, .inr (.inl (M 3))))]) ⟨hx, hb, hml, hown, hts⟩ (c_Story_get l dC dI cI cJ cG q0 qg qr M 2 se (y - 1) (by omega) (by omega) (by omega) (by omega)) (cwV 3 hts (qg_V mq_2_71 mq_2_72 mq_2_73 mq_1_3 mq_2_74) rfl rfl rfl (by decide +kernel) ⟨Nat.le_of_ble_eq_true rfl, Nat.le_of_ble_eq_true rfl⟩) hK hP hD hS hA (ci := 2) (q0 := 1) rfl rfl [1, 2, 3, 4, 5, 6] [0] [0, 1, 2, 3, 4, 5, 6] rfl rfl (by decide) (by decide) rfl (by decide) rfl hl.1 rfl (Nat.le_of_ble_eq_true rfl) dO_limitChange_26 ⟨Nat.le_of_ble_eq_true rfl, Nat.le_of_ble_eq_true rfl⟩ (fun H locs hP hD hS => ?_)
      refine lv_lstore (lv' := [(6, .long (M 2 (pf_ix se (y - 1)))), (0, .ref o0), (1, .ref q0), (2, .long wa), (4, .int (nI se)), (5, .int (nI y))]) hx hb dO_limitChange_29 hl (by decide) rfl (fun ls hl => ?_)
      refine lv_lload hx hb dO_limitChange_31 (lv_at hl 0 rfl) ?_
      refine lv_aload_n hx hb dO_limitChange_33 rfl (lv_at hl 1 rfl) ?_
      refine va_get (D := (dC, dI)) (ci := 0) (v := .int ch) (C := "OutlookOdds") (T := TO) (N := 17) hx hb hts inO hown hK hP 0 rfl rfl 6 (by decide) (hts _ mq_1_62) (fun _ h9 => h9) rfl dO_limitChange_34 ?_
      refine lv_i2l hx hb dO_limitChange_37 rfl ?_
      refine lv_lmul hx hb dO_limitChange_38 ?_
      refine lv_ldc2 (v := 1000) hx hb hown (hts _ mq_2_84) dO_limitChange_39 ?_
      refine lv_ldiv hx hb dO_limitChange_42 (by decide) ?_
      refine lv_lstore (lv' := [(8, .long (((M 2 (pf_ix se (y - 1))) * ch.toInt64) / 1000)), (6, .long (M 2 (pf_ix se (y - 1)))), (0, .ref o0), (1, .ref q0), (2, .long wa), (4, .int (nI se)), (5, .int (nI y))]) hx hb dO_limitChange_43 hl (by decide) rfl (fun ls hl => ?_)
      refine lv_lload hx hb dO_limitChange_45 (lv_at hl 1 rfl) ?_
      refine lv_lload hx hb dO_limitChange_47 (lv_at hl 0 rfl) ?_
      refine lv_lsub hx hb dO_limitChange_49 ?_
      refine lv_lload hx hb dO_limitChange_50 (lv_at hl 1 rfl) ?_
      refine lv_lload hx hb dO_limitChange_52 (lv_at hl 0 rfl) ?_
      refine lv_ladd hx hb dO_limitChange_54 ?_
      refine lv_lload_n hx hb dO_limitChange_55 rfl (lv_at hl 4 rfl) ?_
      refine va_mmin_long hx hb (by rw [hml]; exact hl.1.symm) hown (hts _ mq_2_89) (hts _ mq_2_90) (hts _ mq_1_11) (hts _ mq_2_91) (Nat.le_of_ble_eq_true rfl) (by exact Nat.le_of_ble_eq_true rfl) (by exact Nat.le_of_ble_eq_true rfl) (by exact Nat.le_of_ble_eq_true rfl) dO_limitChange_56 ?_
      refine va_mmax_long hx hb (by rw [hml]; exact hl.1.symm) hown (hts _ mq_2_92) (hts _ mq_2_93) (hts _ mq_1_11) (hts _ mq_2_94) (Nat.le_of_ble_eq_true rfl) (by exact Nat.le_of_ble_eq_true rfl) (by exact Nat.le_of_ble_eq_true rfl) (by exact Nat.le_of_ble_eq_true rfl) dO_limitChange_59 ?_
      exact hret hP hD hS (Nat.le_of_ble_eq_true rfl) (Nat.le_of_ble_eq_true rfl) (by unfold pf_lim; rw [if_neg h3, if_pos h13]; rfl) dO_limitChange_62
    · refine lv_lload_n hx hb dO_limitChange_16 rfl (lv_at hl 2 rfl) ?_
      exact hret hP hD hS (Nat.le_of_ble_eq_true rfl) (Nat.le_of_ble_eq_true rfl) (by unfold pf_lim; first | rw [if_pos h3] | rw [if_neg h3, if_neg h13]) dO_limitChange_17

set_option maxHeartbeats 4000000 in
set_option maxRecDepth 100000 in
theorem c_youngBorn (o0 o1 o2 o3 o4 o5 o6 o7 ru sp dl rr yr sd rn : Nat) (yg ch mk : Int32) (se y : Nat) : qMl l yO_youngBorn (wO_youngBorn) ({ frames := 1, cells := 0, slots := 0, locals := 24 } : Room) (dC, dI) qCl [(cI, .int), (cJ, .long), (cG, .array .long)] [.ref o0, .int (nI se), .int (nI y)] [(o0, .inr (0, [.ref o1, .ref o2, .ref o3, .ref o4, .int (nI ru), .int yg, .int ch, .int (nI sp), .int (nI dl), .int mk, .ref o5, .ref o6, .ref o7, .int (nI rr), .int (nI yr), .int (nI sd), .int (nI rn)]))] [(o0, .inr (0, [.ref o1, .ref o2, .ref o3, .ref o4, .int (nI ru), .int yg, .int ch, .int (nI sp), .int (nI dl), .int mk, .ref o5, .ref o6, .ref o7, .int (nI rr), .int (nI yr), .int (nI sd), .int (nI rn)]))] (pf_born se y yg) 0 0 := by
  refine qm_l (cc := prog_1_method_24_code) (maxL := 3) (by decide) rfl (Nat.le_of_ble_eq_true rfl) ?_
  intro p e s m args below meth c Q A ls hx hb hml hown hnm hts hA hK hP hD hS hl hret
  have hl : lv_has ls 3 [(0, .ref o0), (1, .int (nI se)), (2, .int (nI y))] := hl
  refine lv_aload_n hx hb dO_youngBorn_0 rfl (lv_at hl 0 rfl) ?_
  refine va_get (D := (dC, dI)) (ci := 0) (v := .int yg) (C := "OutlookOdds") (T := TO) (N := 17) hx hb hts inO hown hK hP 0 rfl rfl 5 (by decide) (hts _ mq_1_61) (fun _ h9 => h9) rfl dO_youngBorn_1 ?_
  refine lv_i2l hx hb dO_youngBorn_4 rfl ?_
  refine lv_bipush (v := 50) hx hb dO_youngBorn_5 (by decide) ?_
  refine lv_aload_n hx hb dO_youngBorn_7 rfl (lv_at hl 0 rfl) ?_
  refine lv_iload_n hx hb dO_youngBorn_8 rfl (lv_at hl 1 rfl) ?_
  refine lv_iload_n hx hb dO_youngBorn_9 rfl (lv_at hl 2 rfl) ?_
  refine lv_iconst (v := 0) hx hb dO_youngBorn_10 (by decide) ?_
  refine qr_callVi (As := [.int (nI se), .int (nI y), .int 0]) (rest := [.int 50, .long yg.toInt64]) (wr := [(o0, .inr (0, [.ref o1, .ref o2, .ref o3, .ref o4, .int (nI ru), .int yg, .int ch, .int (nI sp), .int (nI dl), .int mk, .ref o5, .ref o6, .ref o7, .int (nI rr), .int (nI yr), .int (nI sd), .int (nI rn)]))]) (ws2 := [(o0, .inr (0, [.ref o1, .ref o2, .ref o3, .ref o4, .int (nI ru), .int yg, .int ch, .int (nI sp), .int (nI dl), .int mk, .ref o5, .ref o6, .ref o7, .int (nI rr), .int (nI yr), .int (nI sd), .int (nI rn)]))]) ⟨hx, hb, hml, hown, hts⟩ (c_draw l dC dI cI cJ cG o0 (nI se) (nI y) 0 ) (cwV 3 hts (qg_V mq_2_70 mq_1_109 mq_1_110 mq_1_1 mq_1_111) rfl rfl rfl (by decide +kernel) ⟨Nat.le_of_ble_eq_true rfl, Nat.le_of_ble_eq_true rfl⟩) hK hP hD hS hA (ci := 0) (q0 := 0) rfl rfl [] [0] [0] rfl rfl (by decide) (by decide) rfl (by decide) rfl hl.1 rfl (Nat.le_of_ble_eq_true rfl) dO_youngBorn_11 ⟨Nat.le_of_ble_eq_true rfl, Nat.le_of_ble_eq_true rfl⟩ (fun H locs hP hD hS => ?_)
  refine lv_bipush (v := 101) hx hb dO_youngBorn_14 (by decide) ?_
  refine lv_irem hx hb dO_youngBorn_16 (by decide) ?_
  refine lv_iadd hx hb dO_youngBorn_17 ?_
  refine lv_i2l hx hb dO_youngBorn_18 rfl ?_
  refine lv_lmul hx hb dO_youngBorn_19 ?_
  refine lv_ldc2 (v := 100) hx hb hown (hts _ mq_2_75) dO_youngBorn_20 ?_
  refine lv_ldiv hx hb dO_youngBorn_23 (by decide) ?_
  exact hret hP hD hS (Nat.le_of_ble_eq_true rfl) (Nat.le_of_ble_eq_true rfl) (rfl) dO_youngBorn_24

set_option maxHeartbeats 4000000 in
set_option maxRecDepth 100000 in
theorem c_isBelowMark (o0 o1 o2 o3 o4 o5 o6 o7 ru sp dl rr yr sd rn : Nat) (yg ch mk : Int32) (qg : Nat) (qr : Nat → Nat) (M : Nat → Nat → Int64) (se y : Nat) (hse : se < 16) (hy1 : 1 ≤ y) (hy2 : y ≤ 20) : qMi l yO_isBelowMark (wO_isBelowMark) ({ frames := 1, cells := 0, slots := 0, locals := 23 } : Room) (dC, dI) qCl [(cI, .int), (cJ, .long), (cG, .array .long)] [.ref o0, .int (nI se), .int (nI y)] [(o0, .inr (0, [.ref o1, .ref o2, .ref o3, .ref o4, .int (nI ru), .int yg, .int ch, .int (nI sp), .int (nI dl), .int mk, .ref o5, .ref o6, .ref o7, .int (nI rr), .int (nI yr), .int (nI sd), .int (nI rn)])), (o5, .inr (2, [.ref qg])), (qg, .inl (cG, 4, .inr (.inr (.inr (.inr (pf_gf qr)))))), (qr 0, .inl (cJ, 320, .inr (.inl (M 0)))), (qr 1, .inl (cJ, 320, .inr (.inl (M 1)))), (qr 2, .inl (cJ, 320, .inr (.inl (M 2)))), (qr 3, .inl (cJ, 320, .inr (.inl (M 3))))] [(o0, .inr (0, [.ref o1, .ref o2, .ref o3, .ref o4, .int (nI ru), .int yg, .int ch, .int (nI sp), .int (nI dl), .int mk, .ref o5, .ref o6, .ref o7, .int (nI rr), .int (nI yr), .int (nI sd), .int (nI rn)])), (o5, .inr (2, [.ref qg])), (qg, .inl (cG, 4, .inr (.inr (.inr (.inr (pf_gf qr)))))), (qr 0, .inl (cJ, 320, .inr (.inl (M 0)))), (qr 1, .inl (cJ, 320, .inr (.inl (M 1)))), (qr 2, .inl (cJ, 320, .inr (.inl (M 2)))), (qr 3, .inl (cJ, 320, .inr (.inl (M 3))))] (pf_bm (M 0) mk (pf_ix se y)) 0 0 := by
  refine qm_z (cc := prog_1_method_27_code) (maxL := 3) (by decide) rfl (Nat.le_of_ble_eq_true rfl) ?_
  intro p e s m args below meth c Q A ls hx hb hml hown hnm hts hA hK hP hD hS hl hret
  have hl : lv_has ls 3 [(0, .ref o0), (1, .int (nI se)), (2, .int (nI y))] := hl
  refine lv_aload_n hx hb dO_isBelowMark_0 rfl (lv_at hl 0 rfl) ?_
  refine va_get (D := (dC, dI)) (ci := 0) (v := .ref o5) (C := "OutlookOdds") (T := TO) (N := 17) hx hb hts inO hown hK hP 0 rfl rfl 10 (by decide) (hts _ mq_1_66) (fun _ h9 => h9) rfl dO_isBelowMark_1 ?_
  refine lv_iconst (v := 0) hx hb dO_isBelowMark_4 (by decide) ?_
  refine lv_iload_n hx hb dO_isBelowMark_5 rfl (lv_at hl 1 rfl) ?_
  refine lv_iload_n hx hb dO_isBelowMark_6 rfl (lv_at hl 2 rfl) ?_
  refine qr_callVl (As := [.int 0, .int (nI se), .int (nI y)]) (rest := []) (wr := [(o0, .inr (0, [.ref o1, .ref o2, .ref o3, .ref o4, .int (nI ru), .int yg, .int ch, .int (nI sp), .int (nI dl), .int mk, .ref o5, .ref o6, .ref o7, .int (nI rr), .int (nI yr), .int (nI sd), .int (nI rn)]))]) (ws2 := [(o0, .inr (0, [.ref o1, .ref o2, .ref o3, .ref o4, .int (nI ru), .int yg, .int ch, .int (nI sp), .int (nI dl), .int mk, .ref o5, .ref o6, .ref o7, .int (nI rr), .int (nI yr), .int (nI sd), .int (nI rn)])), (o5, .inr (2, [.ref qg])), (qg, .inl (cG, 4, .inr (.inr (.inr (.inr (pf_gf qr)))))), (qr 0, .inl (cJ, 320, .inr (.inl (M 0)))), (qr 1, .inl (cJ, 320, .inr (.inl (M 1)))), (qr 2, .inl (cJ, 320, .inr (.inl (M 2)))), (qr 3, .inl (cJ, 320, .inr (.inl (M 3))))]) ⟨hx, hb, hml, hown, hts⟩ (c_Story_get l dC dI cI cJ cG o5 qg qr M 0 se y (by omega) (by omega) (by omega) (by omega)) (cwV 3 hts (qg_V mq_2_71 mq_2_72 mq_2_73 mq_1_3 mq_2_74) rfl rfl rfl (by decide +kernel) ⟨Nat.le_of_ble_eq_true rfl, Nat.le_of_ble_eq_true rfl⟩) hK hP hD hS hA (ci := 2) (q0 := 1) rfl rfl [1, 2, 3, 4, 5, 6] [0] [0, 1, 2, 3, 4, 5, 6] rfl rfl (by decide) (by decide) rfl (by decide) rfl hl.1 rfl (Nat.le_of_ble_eq_true rfl) dO_isBelowMark_7 ⟨Nat.le_of_ble_eq_true rfl, Nat.le_of_ble_eq_true rfl⟩ (fun H locs hP hD hS => ?_)
  refine lv_aload_n hx hb dO_isBelowMark_10 rfl (lv_at hl 0 rfl) ?_
  refine va_get (D := (dC, dI)) (ci := 0) (v := .int mk) (C := "OutlookOdds") (T := TO) (N := 17) hx hb hts inO hown hK hP 0 rfl rfl 9 (by decide) (hts _ mq_1_65) (fun _ h9 => h9) rfl dO_isBelowMark_11 ?_
  refine lv_i2l hx hb dO_isBelowMark_14 rfl ?_
  refine W.lcmp hx hb dO_isBelowMark_15 ?_
  refine lv_if_ge (tgt := 23) hx hb dO_isBelowMark_16 (by decide) (fun h16 => ?_) (fun h16 => ?_)
  · have h16 := (lg_cmp_ge _ _).mp h16
    refine lv_iconst (v := 0) hx hb dO_isBelowMark_23 (by decide) ?_
    exact hret hP hD hS (Nat.le_of_ble_eq_true rfl) (Nat.le_of_ble_eq_true rfl) (by unfold pf_bm; first | rw [if_pos h16] | rw [if_neg h16]) (by decide) dO_isBelowMark_24
  · have h16 := mt (lg_cmp_ge _ _).mpr h16
    refine lv_iconst (v := 1) hx hb dO_isBelowMark_19 (by decide) ?_
    refine lv_goto (tgt := 24) hx hb dO_isBelowMark_20 (by decide) ?_
    exact hret hP hD hS (Nat.le_of_ble_eq_true rfl) (Nat.le_of_ble_eq_true rfl) (by unfold pf_bm; first | rw [if_pos h16] | rw [if_neg h16]) (by decide) dO_isBelowMark_24

set_option maxHeartbeats 4000000 in
set_option maxRecDepth 100000 in
theorem c_isEverBelowMark (o0 o1 o2 o3 o4 o5 o6 o7 ru sp dl rr yr sd rn : Nat) (yg ch mk : Int32) (qg : Nat) (qr : Nat → Nat) (M : Nat → Nat → Int64) (se : Nat) (hse : se < 16) (hyr : yr ≤ 20) : qMi l yO_isEverBelowMark (wO_isEverBelowMark) ({ frames := 2, cells := 0, slots := 0, locals := 45 } : Room) (dC, dI) qCl [(cI, .int), (cJ, .long), (cG, .array .long)] [.ref o0, .int (nI se)] [(o0, .inr (0, [.ref o1, .ref o2, .ref o3, .ref o4, .int (nI ru), .int yg, .int ch, .int (nI sp), .int (nI dl), .int mk, .ref o5, .ref o6, .ref o7, .int (nI rr), .int (nI yr), .int (nI sd), .int (nI rn)])), (o5, .inr (2, [.ref qg])), (qg, .inl (cG, 4, .inr (.inr (.inr (.inr (pf_gf qr)))))), (qr 0, .inl (cJ, 320, .inr (.inl (M 0)))), (qr 1, .inl (cJ, 320, .inr (.inl (M 1)))), (qr 2, .inl (cJ, 320, .inr (.inl (M 2)))), (qr 3, .inl (cJ, 320, .inr (.inl (M 3))))] [(o0, .inr (0, [.ref o1, .ref o2, .ref o3, .ref o4, .int (nI ru), .int yg, .int ch, .int (nI sp), .int (nI dl), .int mk, .ref o5, .ref o6, .ref o7, .int (nI rr), .int (nI yr), .int (nI sd), .int (nI rn)])), (o5, .inr (2, [.ref qg])), (qg, .inl (cG, 4, .inr (.inr (.inr (.inr (pf_gf qr)))))), (qr 0, .inl (cJ, 320, .inr (.inl (M 0)))), (qr 1, .inl (cJ, 320, .inr (.inl (M 1)))), (qr 2, .inl (cJ, 320, .inr (.inl (M 2)))), (qr 3, .inl (cJ, 320, .inr (.inl (M 3))))] (pf_ev (M 0) mk se yr) 0 0 := by
  refine qm_z (cc := prog_1_method_29_code) (maxL := 3) (by decide) rfl (Nat.le_of_ble_eq_true rfl) ?_
  intro p e s m args below meth c Q A ls hx hb hml hown hnm hts hA hK hP hD hS hl hret
  have hl : lv_has ls 3 [(0, .ref o0), (1, .int (nI se))] := hl
  refine lv_iconst (v := 1) hx hb dO_isEverBelowMark_0 (by decide) ?_
  refine lv_istore_n (lv' := [(2, .int 1), (0, .ref o0), (1, .int (nI se))]) hx hb dO_isEverBelowMark_1 rfl hl (by decide) rfl (fun ls hl => ?_)
  have lp_2 : ∀ (n : Nat) (k : Nat), yr - k < n → k ≤ yr → pf_ev (M 0) mk se k = 0 → ∀ (H : Heap) (locs : List Loc), va_P (dC, dI) qCl [(o0, .inr (0, [.ref o1, .ref o2, .ref o3, .ref o4, .int (nI ru), .int yg, .int ch, .int (nI sp), .int (nI dl), .int mk, .ref o5, .ref o6, .ref o7, .int (nI rr), .int (nI yr), .int (nI sd), .int (nI rn)])), (o5, .inr (2, [.ref qg])), (qg, .inl (cG, 4, .inr (.inr (.inr (.inr (pf_gf qr)))))), (qr 0, .inl (cJ, 320, .inr (.inl (M 0)))), (qr 1, .inl (cJ, 320, .inr (.inl (M 1)))), (qr 2, .inl (cJ, 320, .inr (.inl (M 2)))), (qr 3, .inl (cJ, 320, .inr (.inl (M 3))))] H → va_D A [(o0, .inr (0, [.ref o1, .ref o2, .ref o3, .ref o4, .int (nI ru), .int yg, .int ch, .int (nI sp), .int (nI dl), .int mk, .ref o5, .ref o6, .ref o7, .int (nI rr), .int (nI yr), .int (nI sd), .int (nI rn)])), (o5, .inr (2, [.ref qg])), (qg, .inl (cG, 4, .inr (.inr (.inr (.inr (pf_gf qr)))))), (qr 0, .inl (cJ, 320, .inr (.inl (M 0)))), (qr 1, .inl (cJ, 320, .inr (.inl (M 1)))), (qr 2, .inl (cJ, 320, .inr (.inl (M 2)))), (qr 3, .inl (cJ, 320, .inr (.inl (M 3))))] → va_S A s.heap H locs → ∀ (ls : Array Slot), lv_has ls 3 [(0, .ref o0), (1, .int (nI se)), (2, .int (nI (k + 1)))] → W p l e ({ frames := 2, cells := 0, slots := 0, locals := 45 } : Room) s m args below meth c H locs 0 0 Q (F0 m 2 ls []) := by
    intro n_2
    induction n_2 with
    | zero => intro k hm; exact absurd hm (Nat.not_lt_zero _)
    | succ n_2 ih_2 =>
      intro k hm_2 hk hv H locs hP hD hS ls hl
      refine lv_iload_n hx hb dO_isEverBelowMark_2 rfl (lv_at hl 2 rfl) ?_
      refine lv_aload_n hx hb dO_isEverBelowMark_3 rfl (lv_at hl 0 rfl) ?_
      refine va_get (D := (dC, dI)) (ci := 0) (v := .int (nI yr)) (C := "OutlookOdds") (T := TO) (N := 17) hx hb hts inO hown hK hP 0 rfl rfl 14 (by decide) (hts _ mq_1_70) (fun _ h9 => h9) rfl dO_isEverBelowMark_4 ?_
      refine lv_icmp_gt (tgt := 27) hx hb dO_isEverBelowMark_7 (by decide) (fun h7 => ?_) (fun h7 => ?_)
      · have e_k : k = yr := qn_gt h7 (by omega) hk
        have hP : va_P (dC, dI) qCl [(o0, .inr (0, [.ref o1, .ref o2, .ref o3, .ref o4, .int (nI ru), .int yg, .int ch, .int (nI sp), .int (nI dl), .int mk, .ref o5, .ref o6, .ref o7, .int (nI rr), .int (nI yr), .int (nI sd), .int (nI rn)])), (o5, .inr (2, [.ref qg])), (qg, .inl (cG, 4, .inr (.inr (.inr (.inr (pf_gf qr)))))), (qr 0, .inl (cJ, 320, .inr (.inl (M 0)))), (qr 1, .inl (cJ, 320, .inr (.inl (M 1)))), (qr 2, .inl (cJ, 320, .inr (.inl (M 2)))), (qr 3, .inl (cJ, 320, .inr (.inl (M 3))))] H := by first | exact hP | (rw [e_k] at hP; exact hP)
        have hD : va_D A [(o0, .inr (0, [.ref o1, .ref o2, .ref o3, .ref o4, .int (nI ru), .int yg, .int ch, .int (nI sp), .int (nI dl), .int mk, .ref o5, .ref o6, .ref o7, .int (nI rr), .int (nI yr), .int (nI sd), .int (nI rn)])), (o5, .inr (2, [.ref qg])), (qg, .inl (cG, 4, .inr (.inr (.inr (.inr (pf_gf qr)))))), (qr 0, .inl (cJ, 320, .inr (.inl (M 0)))), (qr 1, .inl (cJ, 320, .inr (.inl (M 1)))), (qr 2, .inl (cJ, 320, .inr (.inl (M 2)))), (qr 3, .inl (cJ, 320, .inr (.inl (M 3))))] := by first | exact hD | (rw [e_k] at hD; exact hD)
        have hl : lv_has ls 3 [(0, .ref o0), (1, .int (nI se)), (2, .int (nI (yr + 1)))] := by first | exact hl | (rw [e_k] at hl; exact hl)
        refine lv_iconst (v := 0) hx hb dO_isEverBelowMark_27 (by decide) ?_
        exact hret hP hD hS (Nat.le_of_ble_eq_true rfl) (Nat.le_of_ble_eq_true rfl) (by rw [← e_k]; exact hv.symm) (by decide) dO_isEverBelowMark_28
      · have hlk : k < yr := qn_ngt h7 (by omega)
        refine lv_aload_n hx hb dO_isEverBelowMark_10 rfl (lv_at hl 0 rfl) ?_
        refine lv_iload_n hx hb dO_isEverBelowMark_11 rfl (lv_at hl 1 rfl) ?_
        refine lv_iload_n hx hb dO_isEverBelowMark_12 rfl (lv_at hl 2 rfl) ?_
        refine qr_callVi (As := [.int (nI se), .int (nI (k + 1))]) (rest := []) (wr := []) (ws2 := [(o0, .inr (0, [.ref o1, .ref o2, .ref o3, .ref o4, .int (nI ru), .int yg, .int ch, .int (nI sp), .int (nI dl), .int mk, .ref o5, .ref o6, .ref o7, .int (nI rr), .int (nI yr), .int (nI sd), .int (nI rn)])), (o5, .inr (2, [.ref qg])), (qg, .inl (cG, 4, .inr (.inr (.inr (.inr (pf_gf qr)))))), (qr 0, .inl (cJ, 320, .inr (.inl (M 0)))), (qr 1, .inl (cJ, 320, .inr (.inl (M 1)))), (qr 2, .inl (cJ, 320, .inr (.inl (M 2)))), (qr 3, .inl (cJ, 320, .inr (.inl (M 3))))]) ⟨hx, hb, hml, hown, hts⟩ (c_isBelowMark l dC dI cI cJ cG o0 o1 o2 o3 o4 o5 o6 o7 ru sp dl rr yr sd rn yg ch mk qg qr M se (k + 1) (by omega) (by omega) (by omega)) (cwV 2 hts (qg_V mq_2_119 mq_2_121 mq_p_9 mq_1_1 mq_2_122) rfl rfl rfl (by decide +kernel) ⟨Nat.le_of_ble_eq_true rfl, Nat.le_of_ble_eq_true rfl⟩) hK hP hD hS hA (ci := 0) (q0 := 0) rfl rfl [0, 1, 2, 3, 4, 5, 6] [] [0, 1, 2, 3, 4, 5, 6] rfl rfl (by decide) (by decide) rfl (by decide) rfl hl.1 rfl (Nat.le_of_ble_eq_true rfl) dO_isEverBelowMark_13 ⟨Nat.le_of_ble_eq_true rfl, Nat.le_of_ble_eq_true rfl⟩ (fun H locs hP hD hS => ?_)
        refine lv_if_eq (tgt := 21) hx hb dO_isEverBelowMark_16 (by decide) (fun h16 => ?_) (fun h16 => ?_)
        · refine lv_iinc (v := nI ((k + 1) + 1)) (lv' := [(2, .int (nI ((k + 1) + 1))), (0, .ref o0), (1, .int (nI se))]) hx hb dO_isEverBelowMark_21 hl (k := 2) rfl (nI_1 _) (by decide) rfl (fun ls hl => ?_)
          refine lv_goto (tgt := 2) hx hb dO_isEverBelowMark_24 (by decide) ?_
          exact ih_2 (k + 1) (by omega) (by omega) (show (if pf_ev (M 0) mk se k = 0 then pf_bm (M 0) mk (pf_ix se (k + 1)) else 1) = 0 by rw [if_pos hv]; exact h16) _ _ hP hD hS ls (lv_sub hl [1, 2, 0] rfl)
        · refine lv_iconst (v := 1) hx hb dO_isEverBelowMark_19 (by decide) ?_
          exact hret hP hD hS (Nat.le_of_ble_eq_true rfl) (Nat.le_of_ble_eq_true rfl) ((pf_ev_up (k := k + 1) hlk (fun q => h16 (by have q : (if pf_ev (M 0) mk se k = 0 then pf_bm (M 0) mk (pf_ix se (k + 1)) else 1) = 0 := q; rw [if_pos hv] at q; exact q))).symm) (by decide) dO_isEverBelowMark_20
  exact lp_2 ((yr - 0) + 1) 0 (by omega) (by omega) rfl _ _ hP hD hS ls (lv_sub hl [1, 2, 0] rfl)

set_option maxHeartbeats 4000000 in
set_option maxRecDepth 100000 in
theorem c_seedsEverBelowMark (o0 o1 o2 o3 o4 o5 o6 o7 ru sp dl rr yr sd rn : Nat) (yg ch mk : Int32) (qg : Nat) (qr : Nat → Nat) (M : Nat → Nat → Int64) (hsd : sd ≤ 16) (hyr : yr ≤ 20) : qMi l yO_seedsEverBelowMark (wO_seedsEverBelowMark) ({ frames := 3, cells := 0, slots := 0, locals := 67 } : Room) (dC, dI) qCl [(cI, .int), (cJ, .long), (cG, .array .long)] [.ref o0] [(o0, .inr (0, [.ref o1, .ref o2, .ref o3, .ref o4, .int (nI ru), .int yg, .int ch, .int (nI sp), .int (nI dl), .int mk, .ref o5, .ref o6, .ref o7, .int (nI rr), .int (nI yr), .int (nI sd), .int (nI rn)])), (o5, .inr (2, [.ref qg])), (qg, .inl (cG, 4, .inr (.inr (.inr (.inr (pf_gf qr)))))), (qr 0, .inl (cJ, 320, .inr (.inl (M 0)))), (qr 1, .inl (cJ, 320, .inr (.inl (M 1)))), (qr 2, .inl (cJ, 320, .inr (.inl (M 2)))), (qr 3, .inl (cJ, 320, .inr (.inl (M 3))))] [(o0, .inr (0, [.ref o1, .ref o2, .ref o3, .ref o4, .int (nI ru), .int yg, .int ch, .int (nI sp), .int (nI dl), .int mk, .ref o5, .ref o6, .ref o7, .int (nI rr), .int (nI yr), .int (nI sd), .int (nI rn)])), (o5, .inr (2, [.ref qg])), (qg, .inl (cG, 4, .inr (.inr (.inr (.inr (pf_gf qr)))))), (qr 0, .inl (cJ, 320, .inr (.inl (M 0)))), (qr 1, .inl (cJ, 320, .inr (.inl (M 1)))), (qr 2, .inl (cJ, 320, .inr (.inl (M 2)))), (qr 3, .inl (cJ, 320, .inr (.inl (M 3))))] (pf_cnt (M 0) mk yr sd) 0 0 := by
  refine qm_i (cc := prog_1_method_28_code) (maxL := 3) (by decide) rfl (Nat.le_of_ble_eq_true rfl) ?_
  intro p e s m args below meth c Q A ls hx hb hml hown hnm hts hA hK hP hD hS hl hret
  have hl : lv_has ls 3 [(0, .ref o0)] := hl
  refine lv_iconst (v := 0) hx hb dO_seedsEverBelowMark_0 (by decide) ?_
  refine lv_istore_n (lv' := [(1, .int 0), (0, .ref o0)]) hx hb dO_seedsEverBelowMark_1 rfl hl (by decide) rfl (fun ls hl => ?_)
  refine lv_iconst (v := 0) hx hb dO_seedsEverBelowMark_2 (by decide) ?_
  refine lv_istore_n (lv' := [(2, .int 0), (1, .int 0), (0, .ref o0)]) hx hb dO_seedsEverBelowMark_3 rfl hl (by decide) rfl (fun ls hl => ?_)
  have lp_4 : ∀ (n : Nat) (j : Nat), sd - j < n → j ≤ sd → ∀ (H : Heap) (locs : List Loc), va_P (dC, dI) qCl [(o0, .inr (0, [.ref o1, .ref o2, .ref o3, .ref o4, .int (nI ru), .int yg, .int ch, .int (nI sp), .int (nI dl), .int mk, .ref o5, .ref o6, .ref o7, .int (nI rr), .int (nI yr), .int (nI sd), .int (nI rn)])), (o5, .inr (2, [.ref qg])), (qg, .inl (cG, 4, .inr (.inr (.inr (.inr (pf_gf qr)))))), (qr 0, .inl (cJ, 320, .inr (.inl (M 0)))), (qr 1, .inl (cJ, 320, .inr (.inl (M 1)))), (qr 2, .inl (cJ, 320, .inr (.inl (M 2)))), (qr 3, .inl (cJ, 320, .inr (.inl (M 3))))] H → va_D A [(o0, .inr (0, [.ref o1, .ref o2, .ref o3, .ref o4, .int (nI ru), .int yg, .int ch, .int (nI sp), .int (nI dl), .int mk, .ref o5, .ref o6, .ref o7, .int (nI rr), .int (nI yr), .int (nI sd), .int (nI rn)])), (o5, .inr (2, [.ref qg])), (qg, .inl (cG, 4, .inr (.inr (.inr (.inr (pf_gf qr)))))), (qr 0, .inl (cJ, 320, .inr (.inl (M 0)))), (qr 1, .inl (cJ, 320, .inr (.inl (M 1)))), (qr 2, .inl (cJ, 320, .inr (.inl (M 2)))), (qr 3, .inl (cJ, 320, .inr (.inl (M 3))))] → va_S A s.heap H locs → ∀ (ls : Array Slot), lv_has ls 3 [(0, .ref o0), (1, .int (pf_cnt (M 0) mk yr j)), (2, .int (nI j))] → W p l e ({ frames := 3, cells := 0, slots := 0, locals := 67 } : Room) s m args below meth c H locs 0 0 Q (F0 m 4 ls []) := by
    intro n_4
    induction n_4 with
    | zero => intro j hm; exact absurd hm (Nat.not_lt_zero _)
    | succ n_4 ih_4 =>
      intro j hm_4 hj H locs hP hD hS ls hl
      refine lv_iload_n hx hb dO_seedsEverBelowMark_4 rfl (lv_at hl 2 rfl) ?_
      refine lv_aload_n hx hb dO_seedsEverBelowMark_5 rfl (lv_at hl 0 rfl) ?_
      refine va_get (D := (dC, dI)) (ci := 0) (v := .int (nI sd)) (C := "OutlookOdds") (T := TO) (N := 17) hx hb hts inO hown hK hP 0 rfl rfl 15 (by decide) (hts _ mq_1_71) (fun _ h9 => h9) rfl dO_seedsEverBelowMark_6 ?_
      refine lv_icmp_ge (tgt := 29) hx hb dO_seedsEverBelowMark_9 (by decide) (fun h9 => ?_) (fun h9 => ?_)
      · have e_j : j = sd := qn_ge h9 hj (by omega)
        have hP : va_P (dC, dI) qCl [(o0, .inr (0, [.ref o1, .ref o2, .ref o3, .ref o4, .int (nI ru), .int yg, .int ch, .int (nI sp), .int (nI dl), .int mk, .ref o5, .ref o6, .ref o7, .int (nI rr), .int (nI yr), .int (nI sd), .int (nI rn)])), (o5, .inr (2, [.ref qg])), (qg, .inl (cG, 4, .inr (.inr (.inr (.inr (pf_gf qr)))))), (qr 0, .inl (cJ, 320, .inr (.inl (M 0)))), (qr 1, .inl (cJ, 320, .inr (.inl (M 1)))), (qr 2, .inl (cJ, 320, .inr (.inl (M 2)))), (qr 3, .inl (cJ, 320, .inr (.inl (M 3))))] H := by first | exact hP | (rw [e_j] at hP; exact hP)
        have hD : va_D A [(o0, .inr (0, [.ref o1, .ref o2, .ref o3, .ref o4, .int (nI ru), .int yg, .int ch, .int (nI sp), .int (nI dl), .int mk, .ref o5, .ref o6, .ref o7, .int (nI rr), .int (nI yr), .int (nI sd), .int (nI rn)])), (o5, .inr (2, [.ref qg])), (qg, .inl (cG, 4, .inr (.inr (.inr (.inr (pf_gf qr)))))), (qr 0, .inl (cJ, 320, .inr (.inl (M 0)))), (qr 1, .inl (cJ, 320, .inr (.inl (M 1)))), (qr 2, .inl (cJ, 320, .inr (.inl (M 2)))), (qr 3, .inl (cJ, 320, .inr (.inl (M 3))))] := by first | exact hD | (rw [e_j] at hD; exact hD)
        have hl : lv_has ls 3 [(0, .ref o0), (1, .int (pf_cnt (M 0) mk yr sd)), (2, .int (nI sd))] := by first | exact hl | (rw [e_j] at hl; exact hl)
        refine lv_iload_n hx hb dO_seedsEverBelowMark_29 rfl (lv_at hl 1 rfl) ?_
        exact hret hP hD hS (Nat.le_of_ble_eq_true rfl) (Nat.le_of_ble_eq_true rfl) (rfl) dO_seedsEverBelowMark_30
      · have hlt : j < sd := qn_nge h9 (by omega)
        refine lv_aload_n hx hb dO_seedsEverBelowMark_12 rfl (lv_at hl 0 rfl) ?_
        refine lv_iload_n hx hb dO_seedsEverBelowMark_13 rfl (lv_at hl 2 rfl) ?_
        refine qr_callVi (As := [.int (nI j)]) (rest := []) (wr := []) (ws2 := [(o0, .inr (0, [.ref o1, .ref o2, .ref o3, .ref o4, .int (nI ru), .int yg, .int ch, .int (nI sp), .int (nI dl), .int mk, .ref o5, .ref o6, .ref o7, .int (nI rr), .int (nI yr), .int (nI sd), .int (nI rn)])), (o5, .inr (2, [.ref qg])), (qg, .inl (cG, 4, .inr (.inr (.inr (.inr (pf_gf qr)))))), (qr 0, .inl (cJ, 320, .inr (.inl (M 0)))), (qr 1, .inl (cJ, 320, .inr (.inl (M 1)))), (qr 2, .inl (cJ, 320, .inr (.inl (M 2)))), (qr 3, .inl (cJ, 320, .inr (.inl (M 3))))]) ⟨hx, hb, hml, hown, hts⟩ (c_isEverBelowMark l dC dI cI cJ cG o0 o1 o2 o3 o4 o5 o6 o7 ru sp dl rr yr sd rn yg ch mk qg qr M j (by omega) (by omega)) (cwV 1 hts (qg_V mq_2_115 mq_2_117 mq_p_8 mq_1_1 mq_2_118) rfl rfl rfl (by decide +kernel) ⟨Nat.le_of_ble_eq_true rfl, Nat.le_of_ble_eq_true rfl⟩) hK hP hD hS hA (ci := 0) (q0 := 0) rfl rfl [0, 1, 2, 3, 4, 5, 6] [] [0, 1, 2, 3, 4, 5, 6] rfl rfl (by decide) (by decide) rfl (by decide) rfl hl.1 rfl (Nat.le_of_ble_eq_true rfl) dO_seedsEverBelowMark_14 ⟨Nat.le_of_ble_eq_true rfl, Nat.le_of_ble_eq_true rfl⟩ (fun H locs hP hD hS => ?_)
        refine lv_if_eq (tgt := 23) hx hb dO_seedsEverBelowMark_17 (by decide) (fun h17 => ?_) (fun h17 => ?_)
        · have hl : lv_has ls 3 [(0, .ref o0), (1, .int (pf_cnt (M 0) mk yr (j + 1))), (2, .int (nI j))] := by have e9 : pf_cnt (M 0) mk yr j = pf_cnt (M 0) mk yr (j + 1) := ((show pf_cnt (M 0) mk yr j = pf_cnt (M 0) mk yr (j + 1) from (if_pos h17).symm)); first | (rw [← e9]; exact hl) | (rw [e9] at hl; exact hl)
          refine lv_iinc (v := nI (j + 1)) (lv' := [(2, .int (nI (j + 1))), (0, .ref o0), (1, .int (pf_cnt (M 0) mk yr (j + 1)))]) hx hb dO_seedsEverBelowMark_23 hl (k := 2) rfl (nI_1 _) (by decide) rfl (fun ls hl => ?_)
          refine lv_goto (tgt := 4) hx hb dO_seedsEverBelowMark_26 (by decide) ?_
          exact ih_4 (j + 1) (by omega) (by omega) _ _ hP hD hS ls (lv_sub hl [1, 2, 0] rfl)
        · refine lv_iinc (v := pf_cnt (M 0) mk yr (j + 1)) (lv' := [(1, .int (pf_cnt (M 0) mk yr (j + 1))), (0, .ref o0), (2, .int (nI j))]) hx hb dO_seedsEverBelowMark_20 hl (k := 1) rfl ((if_neg h17).symm) (by decide) rfl (fun ls hl => ?_)
          refine lv_iinc (v := nI (j + 1)) (lv' := [(2, .int (nI (j + 1))), (1, .int (pf_cnt (M 0) mk yr (j + 1))), (0, .ref o0)]) hx hb dO_seedsEverBelowMark_23 hl (k := 2) rfl (nI_1 _) (by decide) rfl (fun ls hl => ?_)
          refine lv_goto (tgt := 4) hx hb dO_seedsEverBelowMark_26 (by decide) ?_
          exact ih_4 (j + 1) (by omega) (by omega) _ _ hP hD hS ls (lv_sub hl [2, 1, 0] rfl)
  exact lp_4 ((sd - 0) + 1) 0 (by omega) (by omega) _ _ hP hD hS ls (lv_sub hl [2, 1, 0] rfl)

set_option maxHeartbeats 4000000 in
set_option maxRecDepth 100000 in
theorem c_sumOf (o0 o1 o2 o3 o4 o5 o6 o7 ru sp dl rr yr sd rn : Nat) (yg ch mk : Int32) (q0 qg : Nat) (qr : Nat → Nat) (M : Nat → Nat → Int64) (w f : Nat) (hsd : sd ≤ 16) (hyr : yr ≤ 20) (hw : w < 4) (hf1 : 1 ≤ f) (hf2 : f ≤ yr) : qMl l yO_sumOf (wO_sumOf) ({ frames := 1, cells := 0, slots := 0, locals := 23 } : Room) (dC, dI) qCl [(cI, .int), (cJ, .long), (cG, .array .long)] [.ref o0, .ref q0, .int (nI w), .int (nI f)] [(o0, .inr (0, [.ref o1, .ref o2, .ref o3, .ref o4, .int (nI ru), .int yg, .int ch, .int (nI sp), .int (nI dl), .int mk, .ref o5, .ref o6, .ref o7, .int (nI rr), .int (nI yr), .int (nI sd), .int (nI rn)])), (q0, .inr (2, [.ref qg])), (qg, .inl (cG, 4, .inr (.inr (.inr (.inr (pf_gf qr)))))), (qr 0, .inl (cJ, 320, .inr (.inl (M 0)))), (qr 1, .inl (cJ, 320, .inr (.inl (M 1)))), (qr 2, .inl (cJ, 320, .inr (.inl (M 2)))), (qr 3, .inl (cJ, 320, .inr (.inl (M 3))))] [(o0, .inr (0, [.ref o1, .ref o2, .ref o3, .ref o4, .int (nI ru), .int yg, .int ch, .int (nI sp), .int (nI dl), .int mk, .ref o5, .ref o6, .ref o7, .int (nI rr), .int (nI yr), .int (nI sd), .int (nI rn)])), (q0, .inr (2, [.ref qg])), (qg, .inl (cG, 4, .inr (.inr (.inr (.inr (pf_gf qr)))))), (qr 0, .inl (cJ, 320, .inr (.inl (M 0)))), (qr 1, .inl (cJ, 320, .inr (.inl (M 1)))), (qr 2, .inl (cJ, 320, .inr (.inl (M 2)))), (qr 3, .inl (cJ, 320, .inr (.inl (M 3))))] (pf_sumA (M w) f yr sd) 0 0 := by
  refine qm_l (cc := prog_1_method_26_code) (maxL := 8) (by decide) rfl (Nat.le_of_ble_eq_true rfl) ?_
  intro p e s m args below meth c Q A ls hx hb hml hown hnm hts hA hK hP hD hS hl hret
  have hl : lv_has ls 8 [(0, .ref o0), (1, .ref q0), (2, .int (nI w)), (3, .int (nI f))] := hl
  refine lv_lconst (v := 0) hx hb dO_sumOf_0 (by decide) ?_
  refine lv_lstore (lv' := [(4, .long 0), (0, .ref o0), (1, .ref q0), (2, .int (nI w)), (3, .int (nI f))]) hx hb dO_sumOf_1 hl (by decide) rfl (fun ls hl => ?_)
  refine lv_iconst (v := 0) hx hb dO_sumOf_3 (by decide) ?_
  refine lv_istore (lv' := [(6, .int 0), (4, .long 0), (0, .ref o0), (1, .ref q0), (2, .int (nI w)), (3, .int (nI f))]) hx hb dO_sumOf_4 hl (by decide) rfl (fun ls hl => ?_)
  have lp_6 : ∀ (n : Nat) (j : Nat), sd - j < n → j ≤ sd → ∀ (H : Heap) (locs : List Loc), va_P (dC, dI) qCl [(o0, .inr (0, [.ref o1, .ref o2, .ref o3, .ref o4, .int (nI ru), .int yg, .int ch, .int (nI sp), .int (nI dl), .int mk, .ref o5, .ref o6, .ref o7, .int (nI rr), .int (nI yr), .int (nI sd), .int (nI rn)])), (q0, .inr (2, [.ref qg])), (qg, .inl (cG, 4, .inr (.inr (.inr (.inr (pf_gf qr)))))), (qr 0, .inl (cJ, 320, .inr (.inl (M 0)))), (qr 1, .inl (cJ, 320, .inr (.inl (M 1)))), (qr 2, .inl (cJ, 320, .inr (.inl (M 2)))), (qr 3, .inl (cJ, 320, .inr (.inl (M 3))))] H → va_D A [(o0, .inr (0, [.ref o1, .ref o2, .ref o3, .ref o4, .int (nI ru), .int yg, .int ch, .int (nI sp), .int (nI dl), .int mk, .ref o5, .ref o6, .ref o7, .int (nI rr), .int (nI yr), .int (nI sd), .int (nI rn)])), (q0, .inr (2, [.ref qg])), (qg, .inl (cG, 4, .inr (.inr (.inr (.inr (pf_gf qr)))))), (qr 0, .inl (cJ, 320, .inr (.inl (M 0)))), (qr 1, .inl (cJ, 320, .inr (.inl (M 1)))), (qr 2, .inl (cJ, 320, .inr (.inl (M 2)))), (qr 3, .inl (cJ, 320, .inr (.inl (M 3))))] → va_S A s.heap H locs → ∀ (ls : Array Slot), lv_has ls 8 [(0, .ref o0), (1, .ref q0), (2, .int (nI w)), (3, .int (nI f)), (4, .long (pf_sumA (M w) f yr j)), (6, .int (nI j))] → W p l e ({ frames := 1, cells := 0, slots := 0, locals := 23 } : Room) s m args below meth c H locs 0 0 Q (F0 m 6 ls []) := by
    intro n_6
    induction n_6 with
    | zero => intro j hm; exact absurd hm (Nat.not_lt_zero _)
    | succ n_6 ih_6 =>
      intro j hm_6 hj H locs hP hD hS ls hl
      refine lv_iload hx hb dO_sumOf_6 (lv_at hl 5 rfl) ?_
      refine lv_aload_n hx hb dO_sumOf_8 rfl (lv_at hl 0 rfl) ?_
      refine va_get (D := (dC, dI)) (ci := 0) (v := .int (nI sd)) (C := "OutlookOdds") (T := TO) (N := 17) hx hb hts inO hown hK hP 0 rfl rfl 15 (by decide) (hts _ mq_1_71) (fun _ h9 => h9) rfl dO_sumOf_9 ?_
      refine lv_icmp_ge (tgt := 53) hx hb dO_sumOf_12 (by decide) (fun h12 => ?_) (fun h12 => ?_)
      · have e_j : j = sd := qn_ge h12 hj (by omega)
        have hP : va_P (dC, dI) qCl [(o0, .inr (0, [.ref o1, .ref o2, .ref o3, .ref o4, .int (nI ru), .int yg, .int ch, .int (nI sp), .int (nI dl), .int mk, .ref o5, .ref o6, .ref o7, .int (nI rr), .int (nI yr), .int (nI sd), .int (nI rn)])), (q0, .inr (2, [.ref qg])), (qg, .inl (cG, 4, .inr (.inr (.inr (.inr (pf_gf qr)))))), (qr 0, .inl (cJ, 320, .inr (.inl (M 0)))), (qr 1, .inl (cJ, 320, .inr (.inl (M 1)))), (qr 2, .inl (cJ, 320, .inr (.inl (M 2)))), (qr 3, .inl (cJ, 320, .inr (.inl (M 3))))] H := by first | exact hP | (rw [e_j] at hP; exact hP)
        have hD : va_D A [(o0, .inr (0, [.ref o1, .ref o2, .ref o3, .ref o4, .int (nI ru), .int yg, .int ch, .int (nI sp), .int (nI dl), .int mk, .ref o5, .ref o6, .ref o7, .int (nI rr), .int (nI yr), .int (nI sd), .int (nI rn)])), (q0, .inr (2, [.ref qg])), (qg, .inl (cG, 4, .inr (.inr (.inr (.inr (pf_gf qr)))))), (qr 0, .inl (cJ, 320, .inr (.inl (M 0)))), (qr 1, .inl (cJ, 320, .inr (.inl (M 1)))), (qr 2, .inl (cJ, 320, .inr (.inl (M 2)))), (qr 3, .inl (cJ, 320, .inr (.inl (M 3))))] := by first | exact hD | (rw [e_j] at hD; exact hD)
        have hl : lv_has ls 8 [(0, .ref o0), (1, .ref q0), (2, .int (nI w)), (3, .int (nI f)), (4, .long (pf_sumA (M w) f yr sd)), (6, .int (nI sd))] := by first | exact hl | (rw [e_j] at hl; exact hl)
        refine lv_lload hx hb dO_sumOf_53 (lv_at hl 4 rfl) ?_
        exact hret hP hD hS (Nat.le_of_ble_eq_true rfl) (Nat.le_of_ble_eq_true rfl) (rfl) dO_sumOf_55
      · have hlt : j < sd := qn_nge h12 (by omega)
        refine lv_iload_n hx hb dO_sumOf_15 rfl (lv_at hl 3 rfl) ?_
        refine lv_istore (lv' := [(7, .int (nI f)), (0, .ref o0), (1, .ref q0), (2, .int (nI w)), (3, .int (nI f)), (4, .long (pf_sumA (M w) f yr j)), (6, .int (nI j))]) hx hb dO_sumOf_16 hl (by decide) rfl (fun ls hl => ?_)
        have lp_18 : ∀ (n : Nat) (k : Nat), yr + 1 - f - k < n → k ≤ yr + 1 - f → ∀ (H : Heap) (locs : List Loc), va_P (dC, dI) qCl [(o0, .inr (0, [.ref o1, .ref o2, .ref o3, .ref o4, .int (nI ru), .int yg, .int ch, .int (nI sp), .int (nI dl), .int mk, .ref o5, .ref o6, .ref o7, .int (nI rr), .int (nI yr), .int (nI sd), .int (nI rn)])), (q0, .inr (2, [.ref qg])), (qg, .inl (cG, 4, .inr (.inr (.inr (.inr (pf_gf qr)))))), (qr 0, .inl (cJ, 320, .inr (.inl (M 0)))), (qr 1, .inl (cJ, 320, .inr (.inl (M 1)))), (qr 2, .inl (cJ, 320, .inr (.inl (M 2)))), (qr 3, .inl (cJ, 320, .inr (.inl (M 3))))] H → va_D A [(o0, .inr (0, [.ref o1, .ref o2, .ref o3, .ref o4, .int (nI ru), .int yg, .int ch, .int (nI sp), .int (nI dl), .int mk, .ref o5, .ref o6, .ref o7, .int (nI rr), .int (nI yr), .int (nI sd), .int (nI rn)])), (q0, .inr (2, [.ref qg])), (qg, .inl (cG, 4, .inr (.inr (.inr (.inr (pf_gf qr)))))), (qr 0, .inl (cJ, 320, .inr (.inl (M 0)))), (qr 1, .inl (cJ, 320, .inr (.inl (M 1)))), (qr 2, .inl (cJ, 320, .inr (.inl (M 2)))), (qr 3, .inl (cJ, 320, .inr (.inl (M 3))))] → va_S A s.heap H locs → ∀ (ls : Array Slot), lv_has ls 8 [(0, .ref o0), (1, .ref q0), (2, .int (nI w)), (3, .int (nI f)), (4, .long (pf_sumY (M w) j f (pf_sumA (M w) f yr j) k)), (6, .int (nI j)), (7, .int (nI (f + k)))] → W p l e ({ frames := 1, cells := 0, slots := 0, locals := 23 } : Room) s m args below meth c H locs 0 0 Q (F0 m 18 ls []) := by
          intro n_18
          induction n_18 with
          | zero => intro k hm; exact absurd hm (Nat.not_lt_zero _)
          | succ n_18 ih_18 =>
            intro k hm_18 hk H locs hP hD hS ls hl
            refine lv_iload hx hb dO_sumOf_18 (lv_at hl 6 rfl) ?_
            refine lv_aload_n hx hb dO_sumOf_20 rfl (lv_at hl 0 rfl) ?_
            refine va_get (D := (dC, dI)) (ci := 0) (v := .int (nI yr)) (C := "OutlookOdds") (T := TO) (N := 17) hx hb hts inO hown hK hP 0 rfl rfl 14 (by decide) (hts _ mq_1_70) (fun _ h9 => h9) rfl dO_sumOf_21 ?_
            refine lv_icmp_gt (tgt := 47) hx hb dO_sumOf_24 (by decide) (fun h24 => ?_) (fun h24 => ?_)
            · have e_k : k = yr + 1 - f := by have := qn_gtN h24 (by omega); omega
              have hP : va_P (dC, dI) qCl [(o0, .inr (0, [.ref o1, .ref o2, .ref o3, .ref o4, .int (nI ru), .int yg, .int ch, .int (nI sp), .int (nI dl), .int mk, .ref o5, .ref o6, .ref o7, .int (nI rr), .int (nI yr), .int (nI sd), .int (nI rn)])), (q0, .inr (2, [.ref qg])), (qg, .inl (cG, 4, .inr (.inr (.inr (.inr (pf_gf qr)))))), (qr 0, .inl (cJ, 320, .inr (.inl (M 0)))), (qr 1, .inl (cJ, 320, .inr (.inl (M 1)))), (qr 2, .inl (cJ, 320, .inr (.inl (M 2)))), (qr 3, .inl (cJ, 320, .inr (.inl (M 3))))] H := by first | exact hP | (rw [e_k] at hP; exact hP)
              have hD : va_D A [(o0, .inr (0, [.ref o1, .ref o2, .ref o3, .ref o4, .int (nI ru), .int yg, .int ch, .int (nI sp), .int (nI dl), .int mk, .ref o5, .ref o6, .ref o7, .int (nI rr), .int (nI yr), .int (nI sd), .int (nI rn)])), (q0, .inr (2, [.ref qg])), (qg, .inl (cG, 4, .inr (.inr (.inr (.inr (pf_gf qr)))))), (qr 0, .inl (cJ, 320, .inr (.inl (M 0)))), (qr 1, .inl (cJ, 320, .inr (.inl (M 1)))), (qr 2, .inl (cJ, 320, .inr (.inl (M 2)))), (qr 3, .inl (cJ, 320, .inr (.inl (M 3))))] := by first | exact hD | (rw [e_k] at hD; exact hD)
              have hl : lv_has ls 8 [(0, .ref o0), (1, .ref q0), (2, .int (nI w)), (3, .int (nI f)), (4, .long (pf_sumY (M w) j f (pf_sumA (M w) f yr j) (yr + 1 - f))), (6, .int (nI j)), (7, .int (nI (f + (yr + 1 - f))))] := by first | exact hl | (rw [e_k] at hl; exact hl)
              refine lv_iinc (v := nI (j + 1)) (lv' := [(6, .int (nI (j + 1))), (0, .ref o0), (1, .ref q0), (2, .int (nI w)), (3, .int (nI f)), (4, .long (pf_sumY (M w) j f (pf_sumA (M w) f yr j) (yr + 1 - f))), (7, .int (nI (f + (yr + 1 - f))))]) hx hb dO_sumOf_47 hl (k := 5) rfl (nI_1 _) (by decide) rfl (fun ls hl => ?_)
              refine lv_goto (tgt := 6) hx hb dO_sumOf_50 (by decide) ?_
              exact ih_6 (j + 1) (by omega) (by omega) _ _ hP hD hS ls (lv_sub hl [1, 2, 3, 4, 5, 0] rfl)
            · have hlk : f + k ≤ yr := qn_ngtN h24 (by omega)
              refine lv_lload hx hb dO_sumOf_27 (lv_at hl 4 rfl) ?_
              refine lv_aload_n hx hb dO_sumOf_29 rfl (lv_at hl 1 rfl) ?_
              refine lv_iload_n hx hb dO_sumOf_30 rfl (lv_at hl 2 rfl) ?_
              refine lv_iload hx hb dO_sumOf_31 (lv_at hl 5 rfl) ?_
              refine lv_iload hx hb dO_sumOf_33 (lv_at hl 6 rfl) ?_
              refine qr_callVl (As := [.int (nI w), .int (nI j), .int (nI (f + k))]) (rest := [.long (pf_sumY (M w) j f (pf_sumA (M w) f yr j) k)]) (wr := [(o0, .inr (0, [.ref o1, .ref o2, .ref o3, .ref o4, .int (nI ru), .int yg, .int ch, .int (nI sp), .int (nI dl), .int mk, .ref o5, .ref o6, .ref o7, .int (nI rr), .int (nI yr), .int (nI sd), .int (nI rn)]))]) (ws2 := [(o0, .inr (0, [.ref o1, .ref o2, .ref o3, .ref o4, .int (nI ru), .int yg, .int ch, .int (nI sp), .int (nI dl), .int mk, .ref o5, .ref o6, .ref o7, .int (nI rr), .int (nI yr), .int (nI sd), .int (nI rn)])), (q0, .inr (2, [.ref qg])), (qg, .inl (cG, 4, .inr (.inr (.inr (.inr (pf_gf qr)))))), (qr 0, .inl (cJ, 320, .inr (.inl (M 0)))), (qr 1, .inl (cJ, 320, .inr (.inl (M 1)))), (qr 2, .inl (cJ, 320, .inr (.inl (M 2)))), (qr 3, .inl (cJ, 320, .inr (.inl (M 3))))]) ⟨hx, hb, hml, hown, hts⟩ (c_Story_get l dC dI cI cJ cG q0 qg qr M w j (f + k) (by omega) (by omega) (by omega) (by omega)) (cwV 3 hts (qg_V mq_2_71 mq_2_72 mq_2_73 mq_1_3 mq_2_74) rfl rfl rfl (by decide +kernel) ⟨Nat.le_of_ble_eq_true rfl, Nat.le_of_ble_eq_true rfl⟩) hK hP hD hS hA (ci := 2) (q0 := 1) rfl rfl [1, 2, 3, 4, 5, 6] [0] [0, 1, 2, 3, 4, 5, 6] rfl rfl (by decide) (by decide) rfl (by decide) rfl hl.1 rfl (Nat.le_of_ble_eq_true rfl) dO_sumOf_35 ⟨Nat.le_of_ble_eq_true rfl, Nat.le_of_ble_eq_true rfl⟩ (fun H locs hP hD hS => ?_)
              refine lv_ladd hx hb dO_sumOf_38 ?_
              refine lv_lstore (lv' := [(4, .long ((pf_sumY (M w) j f (pf_sumA (M w) f yr j) k) + (M w (pf_ix j (f + k))))), (0, .ref o0), (1, .ref q0), (2, .int (nI w)), (3, .int (nI f)), (6, .int (nI j)), (7, .int (nI (f + k)))]) hx hb dO_sumOf_39 hl (by decide) rfl (fun ls hl => ?_)
              refine lv_iinc (v := nI (f + (k + 1))) (lv' := [(7, .int (nI (f + (k + 1)))), (4, .long ((pf_sumY (M w) j f (pf_sumA (M w) f yr j) k) + (M w (pf_ix j (f + k))))), (0, .ref o0), (1, .ref q0), (2, .int (nI w)), (3, .int (nI f)), (6, .int (nI j))]) hx hb dO_sumOf_41 hl (k := 6) rfl ((nI_1 _).trans (by rw [Nat.add_assoc])) (by decide) rfl (fun ls hl => ?_)
              refine lv_goto (tgt := 18) hx hb dO_sumOf_44 (by decide) ?_
              exact ih_18 (k + 1) (by omega) (by omega) _ _ hP hD hS ls (lv_sub hl [2, 3, 4, 5, 1, 6, 0] rfl)
        exact lp_18 ((yr + 1 - f - 0) + 1) 0 (by omega) (by omega) _ _ hP hD hS ls (lv_sub hl [1, 2, 3, 4, 5, 6, 0] rfl)
  exact lp_6 ((sd - 0) + 1) 0 (by omega) (by omega) _ _ hP hD hS ls (lv_sub hl [2, 3, 4, 5, 1, 0] rfl)

set_option maxHeartbeats 4000000 in
set_option maxRecDepth 100000 in
theorem c_putInOrder (o0 o1 o2 o3 o4 o5 o6 o7 ru sp dl rr yr sd rn : Nat) (yg ch mk : Int32) (od : Nat → Int64) (b : Nat) (x : Int64) (hb16 : b < 16) : qMv l yO_putInOrder (wO_putInOrder) ({ frames := 0, cells := 0, slots := 0, locals := 0 } : Room) (dC, dI) qCl [(cI, .int), (cJ, .long), (cG, .array .long)] [.ref o0, .int (nI b), .long x] [(o0, .inr (0, [.ref o1, .ref o2, .ref o3, .ref o4, .int (nI ru), .int yg, .int ch, .int (nI sp), .int (nI dl), .int mk, .ref o5, .ref o6, .ref o7, .int (nI rr), .int (nI yr), .int (nI sd), .int (nI rn)])), (o7, .inl (cJ, 16, .inr (.inl od)))] [(o0, .inr (0, [.ref o1, .ref o2, .ref o3, .ref o4, .int (nI ru), .int yg, .int ch, .int (nI sp), .int (nI dl), .int mk, .ref o5, .ref o6, .ref o7, .int (nI rr), .int (nI yr), .int (nI sd), .int (nI rn)])), (o7, .inl (cJ, 16, .inr (.inl (pf_ins x b od))))] 0 0 := by
  refine qm_v (cc := prog_1_method_30_code) (maxL := 5) (by decide) rfl (Nat.le_of_ble_eq_true rfl) ?_
  intro p e s m args below meth c Q A ls hx hb hml hown hnm hts hA hK hP hD hS hl hret
  have hl : lv_has ls 5 [(0, .ref o0), (1, .int (nI b)), (2, .long x)] := hl
  refine lv_iload_n hx hb dO_putInOrder_0 rfl (lv_at hl 1 rfl) ?_
  refine lv_istore (lv' := [(4, .int (nI b)), (0, .ref o0), (1, .int (nI b)), (2, .long x)]) hx hb dO_putInOrder_1 hl (by decide) rfl (fun ls hl => ?_)
  have lp_3 : ∀ (n : Nat) (f : Nat → Int64) (i : Nat), i < n → i ≤ b → pf_ins x i f = pf_ins x b od → ∀ (H : Heap) (locs : List Loc), va_P (dC, dI) qCl [(o0, .inr (0, [.ref o1, .ref o2, .ref o3, .ref o4, .int (nI ru), .int yg, .int ch, .int (nI sp), .int (nI dl), .int mk, .ref o5, .ref o6, .ref o7, .int (nI rr), .int (nI yr), .int (nI sd), .int (nI rn)])), (o7, .inl (cJ, 16, .inr (.inl f)))] H → va_D A [(o0, .inr (0, [.ref o1, .ref o2, .ref o3, .ref o4, .int (nI ru), .int yg, .int ch, .int (nI sp), .int (nI dl), .int mk, .ref o5, .ref o6, .ref o7, .int (nI rr), .int (nI yr), .int (nI sd), .int (nI rn)])), (o7, .inl (cJ, 16, .inr (.inl f)))] → va_S A s.heap H locs → ∀ (ls : Array Slot), lv_has ls 5 [(0, .ref o0), (1, .int (nI b)), (2, .long x), (4, .int (nI i))] → W p l e ({ frames := 0, cells := 0, slots := 0, locals := 0 } : Room) s m args below meth c H locs 0 0 Q (F0 m 3 ls []) := by
    intro n_3
    induction n_3 with
    | zero => intro f i hm; exact absurd hm (Nat.not_lt_zero _)
    | succ n_3 ih_3 =>
      intro f i hm_3 hi hf H locs hP hD hS ls hl
      refine lv_iload hx hb dO_putInOrder_3 (lv_at hl 3 rfl) ?_
      refine lv_if_le (tgt := 44) hx hb dO_putInOrder_5 (by decide) (fun h5 => ?_) (fun h5 => ?_)
      · have e_i : i = 0 := qn_le0 h5 (by omega)
        have hP : va_P (dC, dI) qCl [(o0, .inr (0, [.ref o1, .ref o2, .ref o3, .ref o4, .int (nI ru), .int yg, .int ch, .int (nI sp), .int (nI dl), .int mk, .ref o5, .ref o6, .ref o7, .int (nI rr), .int (nI yr), .int (nI sd), .int (nI rn)])), (o7, .inl (cJ, 16, .inr (.inl f)))] H := by first | exact hP | (rw [e_i] at hP; exact hP)
        have hD : va_D A [(o0, .inr (0, [.ref o1, .ref o2, .ref o3, .ref o4, .int (nI ru), .int yg, .int ch, .int (nI sp), .int (nI dl), .int mk, .ref o5, .ref o6, .ref o7, .int (nI rr), .int (nI yr), .int (nI sd), .int (nI rn)])), (o7, .inl (cJ, 16, .inr (.inl f)))] := by first | exact hD | (rw [e_i] at hD; exact hD)
        have hl : lv_has ls 5 [(0, .ref o0), (1, .int (nI b)), (2, .long x), (4, .int (nI 0))] := by first | exact hl | (rw [e_i] at hl; exact hl)
        refine lv_aload_n hx hb dO_putInOrder_44 rfl (lv_at hl 0 rfl) ?_
        refine va_get (D := (dC, dI)) (ci := 0) (v := .ref o7) (C := "OutlookOdds") (T := TO) (N := 17) hx hb hts inO hown hK hP 0 rfl rfl 12 (by decide) (hts _ mq_1_68) (fun _ h9 => h9) rfl dO_putInOrder_45 ?_
        refine lv_iload hx hb dO_putInOrder_48 (lv_at hl 3 rfl) ?_
        refine lv_lload_n hx hb dO_putInOrder_50 rfl (lv_at hl 2 rfl) ?_
        refine qr_last (k := 0) (ws2 := [(o0, .inr (0, [.ref o1, .ref o2, .ref o3, .ref o4, .int (nI ru), .int yg, .int ch, .int (nI sp), .int (nI dl), .int mk, .ref o5, .ref o6, .ref o7, .int (nI rr), .int (nI yr), .int (nI sd), .int (nI rn)])), (o7, .inl (cJ, 16, .inr (.inl (vp_updL f 0 x))))]) hx hb hK hP hD hS 1 1 rfl rfl (rfl) (by omega) (by decide) rfl dO_putInOrder_51 (fun H locs hP hD hS => ?_)
        have e9 : vp_updL f 0 x = pf_ins x b od := by first | (rw [← hf, e_i]; rfl) | (rw [← hf]; exact (qn_ins1 hi0 h19).symm)
        have hP : va_P (dC, dI) qCl [(o0, .inr (0, [.ref o1, .ref o2, .ref o3, .ref o4, .int (nI ru), .int yg, .int ch, .int (nI sp), .int (nI dl), .int mk, .ref o5, .ref o6, .ref o7, .int (nI rr), .int (nI yr), .int (nI sd), .int (nI rn)])), (o7, .inl (cJ, 16, .inr (.inl (pf_ins x b od))))] H := by first | (rw [← e9]; exact hP) | (rw [e9] at hP; exact hP)
        have hD : va_D A [(o0, .inr (0, [.ref o1, .ref o2, .ref o3, .ref o4, .int (nI ru), .int yg, .int ch, .int (nI sp), .int (nI dl), .int mk, .ref o5, .ref o6, .ref o7, .int (nI rr), .int (nI yr), .int (nI sd), .int (nI rn)])), (o7, .inl (cJ, 16, .inr (.inl (pf_ins x b od))))] := by first | (rw [← e9]; exact hD) | (rw [e9] at hD; exact hD)
        exact hret hP hD hS (Nat.le_of_ble_eq_true rfl) (Nat.le_of_ble_eq_true rfl) dO_putInOrder_52
      · have hi0 : 0 < i := qn_nle0 h5 (by omega)
        refine lv_aload_n hx hb dO_putInOrder_8 rfl (lv_at hl 0 rfl) ?_
        refine va_get (D := (dC, dI)) (ci := 0) (v := .ref o7) (C := "OutlookOdds") (T := TO) (N := 17) hx hb hts inO hown hK hP 0 rfl rfl 12 (by decide) (hts _ mq_1_68) (fun _ h9 => h9) rfl dO_putInOrder_9 ?_
        refine lv_iload hx hb dO_putInOrder_12 (lv_at hl 3 rfl) ?_
        refine lv_iconst (v := 1) hx hb dO_putInOrder_14 (by decide) ?_
        refine lv_isub hx hb dO_putInOrder_15 ?_
        refine qr_lald (k := i - 1) hx hb hK hP 1 1 rfl rfl (qn_sub1 hi0) (by omega) (by decide) dO_putInOrder_16 ?_
        refine lv_lload_n hx hb dO_putInOrder_17 rfl (lv_at hl 2 rfl) ?_
        refine W.lcmp hx hb dO_putInOrder_18 ?_
        refine lv_if_le (tgt := 44) hx hb dO_putInOrder_19 (by decide) (fun h19 => ?_) (fun h19 => ?_)
        · have h19 := (lg_cmp_le _ _).mp h19
          refine lv_aload_n hx hb dO_putInOrder_44 rfl (lv_at hl 0 rfl) ?_
          refine va_get (D := (dC, dI)) (ci := 0) (v := .ref o7) (C := "OutlookOdds") (T := TO) (N := 17) hx hb hts inO hown hK hP 0 rfl rfl 12 (by decide) (hts _ mq_1_68) (fun _ h9 => h9) rfl dO_putInOrder_45 ?_
          refine lv_iload hx hb dO_putInOrder_48 (lv_at hl 3 rfl) ?_
          refine lv_lload_n hx hb dO_putInOrder_50 rfl (lv_at hl 2 rfl) ?_
          refine qr_last (k := i) (ws2 := [(o0, .inr (0, [.ref o1, .ref o2, .ref o3, .ref o4, .int (nI ru), .int yg, .int ch, .int (nI sp), .int (nI dl), .int mk, .ref o5, .ref o6, .ref o7, .int (nI rr), .int (nI yr), .int (nI sd), .int (nI rn)])), (o7, .inl (cJ, 16, .inr (.inl (vp_updL f i x))))]) hx hb hK hP hD hS 1 1 rfl rfl (rfl) (by omega) (by decide) rfl dO_putInOrder_51 (fun H locs hP hD hS => ?_)
          have e9 : vp_updL f i x = pf_ins x b od := by first | (rw [← hf, e_i]; rfl) | (rw [← hf]; exact (qn_ins1 hi0 h19).symm)
          have hP : va_P (dC, dI) qCl [(o0, .inr (0, [.ref o1, .ref o2, .ref o3, .ref o4, .int (nI ru), .int yg, .int ch, .int (nI sp), .int (nI dl), .int mk, .ref o5, .ref o6, .ref o7, .int (nI rr), .int (nI yr), .int (nI sd), .int (nI rn)])), (o7, .inl (cJ, 16, .inr (.inl (pf_ins x b od))))] H := by first | (rw [← e9]; exact hP) | (rw [e9] at hP; exact hP)
          have hD : va_D A [(o0, .inr (0, [.ref o1, .ref o2, .ref o3, .ref o4, .int (nI ru), .int yg, .int ch, .int (nI sp), .int (nI dl), .int mk, .ref o5, .ref o6, .ref o7, .int (nI rr), .int (nI yr), .int (nI sd), .int (nI rn)])), (o7, .inl (cJ, 16, .inr (.inl (pf_ins x b od))))] := by first | (rw [← e9]; exact hD) | (rw [e9] at hD; exact hD)
          exact hret hP hD hS (Nat.le_of_ble_eq_true rfl) (Nat.le_of_ble_eq_true rfl) dO_putInOrder_52
        · have h19 := mt (lg_cmp_le _ _).mpr h19
          refine lv_aload_n hx hb dO_putInOrder_22 rfl (lv_at hl 0 rfl) ?_
          refine va_get (D := (dC, dI)) (ci := 0) (v := .ref o7) (C := "OutlookOdds") (T := TO) (N := 17) hx hb hts inO hown hK hP 0 rfl rfl 12 (by decide) (hts _ mq_1_68) (fun _ h9 => h9) rfl dO_putInOrder_23 ?_
          refine lv_iload hx hb dO_putInOrder_26 (lv_at hl 3 rfl) ?_
          refine lv_aload_n hx hb dO_putInOrder_28 rfl (lv_at hl 0 rfl) ?_
          refine va_get (D := (dC, dI)) (ci := 0) (v := .ref o7) (C := "OutlookOdds") (T := TO) (N := 17) hx hb hts inO hown hK hP 0 rfl rfl 12 (by decide) (hts _ mq_1_68) (fun _ h9 => h9) rfl dO_putInOrder_29 ?_
          refine lv_iload hx hb dO_putInOrder_32 (lv_at hl 3 rfl) ?_
          refine lv_iconst (v := 1) hx hb dO_putInOrder_34 (by decide) ?_
          refine lv_isub hx hb dO_putInOrder_35 ?_
          refine qr_lald (k := i - 1) hx hb hK hP 1 1 rfl rfl (qn_sub1 hi0) (by omega) (by decide) dO_putInOrder_36 ?_
          refine qr_last (k := i) (ws2 := [(o0, .inr (0, [.ref o1, .ref o2, .ref o3, .ref o4, .int (nI ru), .int yg, .int ch, .int (nI sp), .int (nI dl), .int mk, .ref o5, .ref o6, .ref o7, .int (nI rr), .int (nI yr), .int (nI sd), .int (nI rn)])), (o7, .inl (cJ, 16, .inr (.inl (vp_updL f i (f (i - 1))))))]) hx hb hK hP hD hS 1 1 rfl rfl (rfl) (by omega) (by decide) rfl dO_putInOrder_37 (fun H locs hP hD hS => ?_)
          refine lv_iinc (v := nI (i - 1)) (lv' := [(4, .int (nI (i - 1))), (0, .ref o0), (1, .int (nI b)), (2, .long x)]) hx hb dO_putInOrder_38 hl (k := 3) rfl (sb_m1 hi0) (by decide) rfl (fun ls hl => ?_)
          refine lv_goto (tgt := 3) hx hb dO_putInOrder_41 (by decide) ?_
          exact ih_3 (vp_updL f i (f (i - 1))) (i - 1) (by omega) (by omega) ((qn_ins hi0 h19).symm.trans hf) _ _ hP hD hS ls (lv_sub hl [1, 2, 3, 0] rfl)
  exact lp_3 ((b) + 1) od b (by omega) (by omega) rfl _ _ hP hD hS ls (lv_sub hl [1, 2, 3, 0] rfl)

set_option maxHeartbeats 4000000 in
set_option maxRecDepth 100000 in
theorem c_commonDivisor (a b : Int64) : qMl l yO_commonDivisor (wO_commonDivisor) ({ frames := 0, cells := 0, slots := 0, locals := 0 } : Room) (dC, dI) qCl [(cI, .int), (cJ, .long), (cG, .array .long)] [.long a, .long b] [] [] (pf_gcd 200 a b) 0 0 := by
  refine qm_l (cc := prog_1_method_32_code) (maxL := 11) (by decide) rfl (Nat.le_of_ble_eq_true rfl) ?_
  intro p e s m args below meth c Q A ls hx hb hml hown hnm hts hA hK hP hD hS hl hret
  have hl : lv_has ls 11 [(0, .long a), (2, .long b)] := hl
  refine lv_lload_n hx hb dO_commonDivisor_0 rfl (lv_at hl 0 rfl) ?_
  refine lv_lstore (lv' := [(4, .long a), (0, .long a), (2, .long b)]) hx hb dO_commonDivisor_1 hl (by decide) rfl (fun ls hl => ?_)
  refine lv_lload_n hx hb dO_commonDivisor_3 rfl (lv_at hl 2 rfl) ?_
  refine lv_lstore (lv' := [(6, .long b), (4, .long a), (0, .long a), (2, .long b)]) hx hb dO_commonDivisor_4 hl (by decide) rfl (fun ls hl => ?_)
  refine lv_iconst (v := 0) hx hb dO_commonDivisor_6 (by decide) ?_
  refine lv_istore (lv' := [(8, .int 0), (6, .long b), (4, .long a), (0, .long a), (2, .long b)]) hx hb dO_commonDivisor_7 hl (by decide) rfl (fun ls hl => ?_)
  have lp_9 : ∀ (n : Nat) (k : Nat) (u v : Int64), 200 - k < n → k ≤ 200 → pf_gcd (200 - k) u v = pf_gcd 200 a b → ∀ (H : Heap) (locs : List Loc), va_P (dC, dI) qCl [] H → va_D A [] → va_S A s.heap H locs → ∀ (ls : Array Slot), lv_has ls 11 [(0, .long a), (2, .long b), (4, .long u), (6, .long v), (8, .int (nI k))] → W p l e ({ frames := 0, cells := 0, slots := 0, locals := 0 } : Room) s m args below meth c H locs 0 0 Q (F0 m 9 ls []) := by
    intro n_9
    induction n_9 with
    | zero => intro k u v hm; exact absurd hm (Nat.not_lt_zero _)
    | succ n_9 ih_9 =>
      intro k u v hm_9 hk hg H locs hP hD hS ls hl
      refine lv_iload hx hb dO_commonDivisor_9 (lv_at hl 4 rfl) ?_
      refine lv_sipush (v := 200) hx hb dO_commonDivisor_11 (by decide) ?_
      refine lv_icmp_ge (tgt := 45) hx hb dO_commonDivisor_14 (by decide) (fun h14 => ?_) (fun h14 => ?_)
      · have e_k : k = 200 := qn_ge (b := 200) h14 hk (by decide)
        have hP : va_P (dC, dI) qCl [] H := by first | exact hP | (rw [e_k] at hP; exact hP)
        have hD : va_D A [] := by first | exact hD | (rw [e_k] at hD; exact hD)
        have hl : lv_has ls 11 [(0, .long a), (2, .long b), (4, .long u), (6, .long v), (8, .int (nI 200))] := by first | exact hl | (rw [e_k] at hl; exact hl)
        refine lv_lload hx hb dO_commonDivisor_45 (lv_at hl 2 rfl) ?_
        exact hret hP hD hS (Nat.le_of_ble_eq_true rfl) (Nat.le_of_ble_eq_true rfl) (by first | (rw [← hg, e_k]; rfl) | (rw [← hg, h21]; exact (qn_gcd0 hlk).symm)) dO_commonDivisor_47
      · have hlk : k < 200 := qn_nge (b := 200) h14 (by omega)
        refine lv_lload hx hb dO_commonDivisor_17 (lv_at hl 3 rfl) ?_
        refine lv_lconst (v := 0) hx hb dO_commonDivisor_19 (by decide) ?_
        refine W.lcmp hx hb dO_commonDivisor_20 ?_
        refine lv_if_eq (tgt := 45) hx hb dO_commonDivisor_21 (by decide) (fun h21 => ?_) (fun h21 => ?_)
        · have h21 := (lg_cmp_eq _ _).mp h21
          refine lv_lload hx hb dO_commonDivisor_45 (lv_at hl 2 rfl) ?_
          exact hret hP hD hS (Nat.le_of_ble_eq_true rfl) (Nat.le_of_ble_eq_true rfl) (by first | (rw [← hg, e_k]; rfl) | (rw [← hg, h21]; exact (qn_gcd0 hlk).symm)) dO_commonDivisor_47
        · have h21 := mt (lg_cmp_eq _ _).mpr h21
          refine lv_lload hx hb dO_commonDivisor_24 (lv_at hl 2 rfl) ?_
          refine lv_lload hx hb dO_commonDivisor_26 (lv_at hl 3 rfl) ?_
          refine lv_lrem hx hb dO_commonDivisor_28 (h21) ?_
          refine lv_lstore (lv' := [(9, .long (u - u / v * v)), (0, .long a), (2, .long b), (4, .long u), (6, .long v), (8, .int (nI k))]) hx hb dO_commonDivisor_29 hl (by decide) rfl (fun ls hl => ?_)
          refine lv_lload hx hb dO_commonDivisor_31 (lv_at hl 4 rfl) ?_
          refine lv_lstore (lv' := [(4, .long v), (9, .long (u - u / v * v)), (0, .long a), (2, .long b), (6, .long v), (8, .int (nI k))]) hx hb dO_commonDivisor_33 hl (by decide) rfl (fun ls hl => ?_)
          refine lv_lload hx hb dO_commonDivisor_35 (lv_at hl 1 rfl) ?_
          refine lv_lstore (lv' := [(6, .long (u - u / v * v)), (4, .long v), (9, .long (u - u / v * v)), (0, .long a), (2, .long b), (8, .int (nI k))]) hx hb dO_commonDivisor_37 hl (by decide) rfl (fun ls hl => ?_)
          refine lv_iinc (v := nI (k + 1)) (lv' := [(8, .int (nI (k + 1))), (6, .long (u - u / v * v)), (4, .long v), (9, .long (u - u / v * v)), (0, .long a), (2, .long b)]) hx hb dO_commonDivisor_39 hl (k := 5) rfl (nI_1 _) (by decide) rfl (fun ls hl => ?_)
          refine lv_goto (tgt := 9) hx hb dO_commonDivisor_42 (by decide) ?_
          exact ih_9 (k + 1) v (u - u / v * v) (by omega) (by omega) ((qn_gcd hlk h21).symm.trans hg) _ _ hP hD hS ls (lv_sub hl [4, 5, 2, 1, 0] rfl)
  exact lp_9 ((200 - 0) + 1) 0 a b (by omega) (by omega) rfl _ _ hP hD hS ls (lv_sub hl [3, 4, 2, 1, 0] rfl)

set_option maxHeartbeats 4000000 in
set_option maxRecDepth 100000 in
theorem c_partOfFraction (a b : Int64) (pt : Int32) : qMl l yO_partOfFraction (wO_partOfFraction) ({ frames := 1, cells := 0, slots := 0, locals := 30 } : Room) (dC, dI) qCl [(cI, .int), (cJ, .long), (cG, .array .long)] [.long a, .long b, .int pt] [] [] (pf_part a b pt) 0 0 := by
  refine qm_l (cc := prog_1_method_31_code) (maxL := 7) (by decide) rfl (Nat.le_of_ble_eq_true rfl) ?_
  intro p e s m args below meth c Q A ls hx hb hml hown hnm hts hA hK hP hD hS hl hret
  have hl : lv_has ls 7 [(0, .long a), (2, .long b), (4, .int pt)] := hl
  refine lv_lconst (v := 1) hx hb dO_partOfFraction_0 (by decide) ?_
  refine lv_lload_n hx hb dO_partOfFraction_1 rfl (lv_at hl 0 rfl) ?_
  refine lv_lload_n hx hb dO_partOfFraction_2 rfl (lv_at hl 1 rfl) ?_
  refine qr_callSl (As := [.long a, .long b]) (rest := [.long 1]) (wr := []) (ws2 := []) ⟨hx, hb, hml, hown, hts⟩ (c_commonDivisor l dC dI cI cJ cG a b ) (va_cwS 2 hts (qg_S mq_2_145 mq_2_146 mq_1_1 mq_2_147) rfl rfl rfl (by decide +kernel) ⟨Nat.le_of_ble_eq_true rfl, Nat.le_of_ble_eq_true rfl⟩) hK hP hD hS hA [] [] [] rfl rfl (by decide) (by decide) rfl (by decide) rfl hl.1 rfl (Nat.le_of_ble_eq_true rfl) dO_partOfFraction_3 ⟨Nat.le_of_ble_eq_true rfl, Nat.le_of_ble_eq_true rfl⟩ (fun H locs hP hD hS => ?_)
  refine va_mmax_long hx hb (by rw [hml]; exact hl.1.symm) hown (hts _ mq_2_92) (hts _ mq_2_93) (hts _ mq_1_11) (hts _ mq_2_94) (Nat.le_of_ble_eq_true rfl) (by exact Nat.le_of_ble_eq_true rfl) (by exact Nat.le_of_ble_eq_true rfl) (by exact Nat.le_of_ble_eq_true rfl) dO_partOfFraction_6 ?_
  refine lv_lstore (lv' := [(5, .long (pf_max 1 (pf_gcd 200 a b))), (0, .long a), (2, .long b), (4, .int pt)]) hx hb dO_partOfFraction_9 hl (by decide) rfl (fun ls hl => ?_)
  have hl : lv_has ls 7 [(5, .long (pf_div a b)), (0, .long a), (2, .long b), (4, .int pt)] := hl
  refine lv_iload hx hb dO_partOfFraction_11 (lv_at hl 3 rfl) ?_
  refine lv_if_ne (tgt := 20) hx hb dO_partOfFraction_13 (by decide) (fun h13 => ?_) (fun h13 => ?_)
  · refine lv_lload_n hx hb dO_partOfFraction_20 rfl (lv_at hl 2 rfl) ?_
    refine lv_lload hx hb dO_partOfFraction_21 (lv_at hl 0 rfl) ?_
    refine lv_ldiv hx hb dO_partOfFraction_23 (pf_div_ne a b) ?_
    exact hret hP hD hS (Nat.le_of_ble_eq_true rfl) (Nat.le_of_ble_eq_true rfl) (by unfold pf_part; first | rw [if_pos h13] | rw [if_neg h13]) dO_partOfFraction_24
  · refine lv_lload_n hx hb dO_partOfFraction_16 rfl (lv_at hl 1 rfl) ?_
    refine lv_goto (tgt := 21) hx hb dO_partOfFraction_17 (by decide) ?_
    refine lv_lload hx hb dO_partOfFraction_21 (lv_at hl 0 rfl) ?_
    refine lv_ldiv hx hb dO_partOfFraction_23 (pf_div_ne a b) ?_
    exact hret hP hD hS (Nat.le_of_ble_eq_true rfl) (Nat.le_of_ble_eq_true rfl) (by unfold pf_part; first | rw [if_pos h13] | rw [if_neg h13]) dO_partOfFraction_24

end QOP
