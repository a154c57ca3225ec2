section QSY
variable (l : Launch) (dC : Nat → ClassId) (dI : Nat → Nat → Nat) (cI cJ cG : ClassId)
set_option maxHeartbeats 4000000 in
set_option maxRecDepth 100000 in
theorem c_Story_get (q0 qg : Nat) (qr : Nat → Nat) (M : Nat → Nat → Int64) (w se y : Nat) (hw : w < 4) (hse : se < 16) (hy1 : 1 ≤ y) (hy2 : y ≤ 20) : qMl l yY_get (wY_get) ({ frames := 0, cells := 0, slots := 0, locals := 0 } : Room) (dC, dI) qCl [(cI, .int), (cJ, .long), (cG, .array .long)] [.ref q0, .int (nI w), .int (nI se), .int (nI y)] [(q0, .inr (2, [.ref qg])), (qg, .inl (cG, 4, .inr (.inr (.inr (.inr (pf_gf qr)))))), (qr 0, .inl (cJ, 320, .inr (.inl (M 0)))), (qr 1, .inl (cJ, 320, .inr (.inl (M 1)))), (qr 2, .inl (cJ, 320, .inr (.inl (M 2)))), (qr 3, .inl (cJ, 320, .inr (.inl (M 3))))] [(q0, .inr (2, [.ref qg])), (qg, .inl (cG, 4, .inr (.inr (.inr (.inr (pf_gf qr)))))), (qr 0, .inl (cJ, 320, .inr (.inl (M 0)))), (qr 1, .inl (cJ, 320, .inr (.inl (M 1)))), (qr 2, .inl (cJ, 320, .inr (.inl (M 2)))), (qr 3, .inl (cJ, 320, .inr (.inl (M 3))))] (M w (pf_ix se y)) 0 0 := by
  refine qm_l (cc := prog_3_method_2_code) (maxL := 4) (by decide) rfl (Nat.le_of_ble_eq_true rfl) ?_
  intro p e s m args below meth c Q A ls hx hb hml hown hnm hts hA hK hP hD hS hl hret
  have hl : lv_has ls 4 [(0, .ref q0), (1, .int (nI w)), (2, .int (nI se)), (3, .int (nI y))] := hl
  refine lv_aload_n hx hb dY_get_0 rfl (lv_at hl 0 rfl) ?_
  refine va_get (D := (dC, dI)) (ci := 2) (v := .ref qg) (C := "OutlookOdds$Story") (T := TY) (N := 1) hx hb hts inY hown hK hP 0 rfl rfl 0 (by decide) (hts _ mq_1_52) (fun _ h9 => h9) rfl dY_get_1 ?_
  refine lv_iload_n hx hb dY_get_4 rfl (lv_at hl 1 rfl) ?_
  refine qr_aaldA (k := w) (r := qr w) hx hb hK hP 1 2 rfl rfl (rfl) (by omega) (by decide) (qn_gf hw) dY_get_5 ?_
  refine lv_iload_n hx hb dY_get_6 rfl (lv_at hl 2 rfl) ?_
  refine lv_bipush (v := 20) hx hb dY_get_7 (by decide) ?_
  refine lv_imul hx hb dY_get_9 ?_
  refine lv_iload_n hx hb dY_get_10 rfl (lv_at hl 3 rfl) ?_
  refine lv_iadd hx hb dY_get_11 ?_
  refine lv_iconst (v := 1) hx hb dY_get_12 (by decide) ?_
  refine lv_isub hx hb dY_get_13 ?_
  refine qr_topi (y := nI (pf_ix se y)) (qn_ix hy1) ?_
  refine qr_lald (k := pf_ix se y) (f := M w) hx hb hK hP (2 + w) 1 (by rcases qn_lt4 hw with rfl | rfl | rfl | rfl <;> rfl) rfl (rfl) (pf_ix_lt hse hy1 hy2) (by decide) dY_get_14 ?_
  exact hret hP hD hS (Nat.le_of_ble_eq_true rfl) (Nat.le_of_ble_eq_true rfl) (rfl) dY_get_15

set_option maxHeartbeats 4000000 in
set_option maxRecDepth 100000 in
theorem c_Story_put (q0 qg : Nat) (qr : Nat → Nat) (M : Nat → Nat → Int64) (w se y : Nat) (x : Int64) (hw : w < 4) (hse : se < 16) (hy1 : 1 ≤ y) (hy2 : y ≤ 20) : qMv l yY_put (wY_put) ({ frames := 0, cells := 0, slots := 0, locals := 0 } : Room) (dC, dI) qCl [(cI, .int), (cJ, .long), (cG, .array .long)] [.ref q0, .int (nI w), .int (nI se), .int (nI y), .long x] [(q0, .inr (2, [.ref qg])), (qg, .inl (cG, 4, .inr (.inr (.inr (.inr (pf_gf qr)))))), (qr 0, .inl (cJ, 320, .inr (.inl (M 0)))), (qr 1, .inl (cJ, 320, .inr (.inl (M 1)))), (qr 2, .inl (cJ, 320, .inr (.inl (M 2)))), (qr 3, .inl (cJ, 320, .inr (.inl (M 3))))] [(q0, .inr (2, [.ref qg])), (qg, .inl (cG, 4, .inr (.inr (.inr (.inr (pf_gf qr)))))), (qr 0, .inl (cJ, 320, .inr (.inl (pf_put M w (pf_ix se y) x 0)))), (qr 1, .inl (cJ, 320, .inr (.inl (pf_put M w (pf_ix se y) x 1)))), (qr 2, .inl (cJ, 320, .inr (.inl (pf_put M w (pf_ix se y) x 2)))), (qr 3, .inl (cJ, 320, .inr (.inl (pf_put M w (pf_ix se y) x 3))))] 0 0 := by
  refine qm_v (cc := prog_3_method_3_code) (maxL := 6) (by decide) rfl (Nat.le_of_ble_eq_true rfl) ?_
  intro p e s m args below meth c Q A ls hx hb hml hown hnm hts hA hK hP hD hS hl hret
  have hl : lv_has ls 6 [(0, .ref q0), (1, .int (nI w)), (2, .int (nI se)), (3, .int (nI y)), (4, .long x)] := hl
  refine lv_aload_n hx hb dY_put_0 rfl (lv_at hl 0 rfl) ?_
  refine va_get (D := (dC, dI)) (ci := 2) (v := .ref qg) (C := "OutlookOdds$Story") (T := TY) (N := 1) hx hb hts inY hown hK hP 0 rfl rfl 0 (by decide) (hts _ mq_1_52) (fun _ h9 => h9) rfl dY_put_1 ?_
  refine lv_iload_n hx hb dY_put_4 rfl (lv_at hl 1 rfl) ?_
  refine qr_aaldA (k := w) (r := qr w) hx hb hK hP 1 2 rfl rfl (rfl) (by omega) (by decide) (qn_gf hw) dY_put_5 ?_
  refine lv_iload_n hx hb dY_put_6 rfl (lv_at hl 2 rfl) ?_
  refine lv_bipush (v := 20) hx hb dY_put_7 (by decide) ?_
  refine lv_imul hx hb dY_put_9 ?_
  refine lv_iload_n hx hb dY_put_10 rfl (lv_at hl 3 rfl) ?_
  refine lv_iadd hx hb dY_put_11 ?_
  refine lv_iconst (v := 1) hx hb dY_put_12 (by decide) ?_
  refine lv_isub hx hb dY_put_13 ?_
  refine qr_topi (y := nI (pf_ix se y)) (qn_ix hy1) ?_
  refine lv_lload hx hb dY_put_14 (lv_at hl 4 rfl) ?_
  refine qr_last (k := pf_ix se y) (f := M w) (ws2 := [(q0, .inr (2, [.ref qg])), (qg, .inl (cG, 4, .inr (.inr (.inr (.inr (pf_gf qr)))))), (qr 0, .inl (cJ, 320, .inr (.inl (pf_put M w (pf_ix se y) x 0)))), (qr 1, .inl (cJ, 320, .inr (.inl (pf_put M w (pf_ix se y) x 1)))), (qr 2, .inl (cJ, 320, .inr (.inl (pf_put M w (pf_ix se y) x 2)))), (qr 3, .inl (cJ, 320, .inr (.inl (pf_put M w (pf_ix se y) x 3))))]) hx hb hK hP hD hS (2 + w) 1 (by rcases qn_lt4 hw with rfl | rfl | rfl | rfl <;> rfl) rfl (rfl) (pf_ix_lt hse hy1 hy2) (by decide) (by rcases qn_lt4 hw with rfl | rfl | rfl | rfl <;> rfl) dY_put_16 (fun H locs hP hD hS => ?_)
  exact hret hP hD hS (Nat.le_of_ble_eq_true rfl) (Nat.le_of_ble_eq_true rfl) dY_put_17

end QSY
