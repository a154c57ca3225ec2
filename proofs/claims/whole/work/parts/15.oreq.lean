section QRQ
variable (l : Launch) (dC : Nat → ClassId) (dI : Nat → Nat → Nat) (cI cJ cG : ClassId)
set_option maxHeartbeats 4000000 in
set_option maxRecDepth 100000 in
theorem c_requirePlace (a f t : Int32) (hst : l.stackTraces = false) : qXv qZ l yO_requirePlace (wO_requirePlace) ({ frames := 6, cells := 1, slots := 6, locals := 82 } : Room) (dC, dI) qCl [(cI, .int), (cJ, .long), (cG, .array .long)] [.int a, .int f, .int t] [] [] (px_place a f t) 1 6 := by
  refine qx_v (cc := prog_1_method_34_code) (maxL := 3) (by decide) rfl (Nat.le_of_ble_eq_true rfl) ?_
  intro p e s m args below meth c Q A ls hx hb hml hown hnm hts hA hK hP hD hS hl hZ hret hout hfin
  have hl : lv_has ls 3 [(0, .int a), (1, .int f), (2, .int t)] := hl
  refine lv_iload_n hx hb dO_requirePlace_0 rfl (lv_at hl 0 rfl) ?_
  refine lv_iload_n hx hb dO_requirePlace_1 rfl (lv_at hl 1 rfl) ?_
  refine lv_icmp_lt (tgt := 10) hx hb dO_requirePlace_2 (by decide) (fun h2 => ?_) (fun h2 => ?_)
  · exact qx_thr (E := "java/lang/IndexOutOfBoundsException") (text := "there is no such place") hfin hst hZ hx hb hown hts hK hP hD hS (by rw [hml]; exact hl.1) (by decide) (List.mem_of_getElem? (i := 0) rfl) mq_1_129 mq_1_8 (List.mem_of_getElem? (i := 0) rfl) qat_0 qab_0 qat_g0 dO_requirePlace_10 dO_requirePlace_13 dO_requirePlace_14 dO_requirePlace_16 dO_requirePlace_19 ⟨Nat.le_of_ble_eq_true rfl, Nat.le_of_ble_eq_true rfl, Nat.le_of_ble_eq_true rfl, Nat.le_of_ble_eq_true rfl⟩ ⟨Nat.le_of_ble_eq_true rfl, Nat.le_of_ble_eq_true rfl⟩ (by unfold px_place; first | rw [if_pos h2] | rw [if_neg h2, if_neg h7])
  · refine lv_iload_n hx hb dO_requirePlace_5 rfl (lv_at hl 0 rfl) ?_
    refine lv_iload_n hx hb dO_requirePlace_6 rfl (lv_at hl 2 rfl) ?_
    refine lv_icmp_le (tgt := 20) hx hb dO_requirePlace_7 (by decide) (fun h7 => ?_) (fun h7 => ?_)
    · exact hret hP hD hS (Nat.le_of_ble_eq_true rfl) (Nat.le_of_ble_eq_true rfl) (by unfold px_place; rw [if_neg h2, if_pos h7]) dO_requirePlace_20
    · exact qx_thr (E := "java/lang/IndexOutOfBoundsException") (text := "there is no such place") hfin hst hZ hx hb hown hts hK hP hD hS (by rw [hml]; exact hl.1) (by decide) (List.mem_of_getElem? (i := 0) rfl) mq_1_129 mq_1_8 (List.mem_of_getElem? (i := 0) rfl) qat_0 qab_0 qat_g0 dO_requirePlace_10 dO_requirePlace_13 dO_requirePlace_14 dO_requirePlace_16 dO_requirePlace_19 ⟨Nat.le_of_ble_eq_true rfl, Nat.le_of_ble_eq_true rfl, Nat.le_of_ble_eq_true rfl, Nat.le_of_ble_eq_true rfl⟩ ⟨Nat.le_of_ble_eq_true rfl, Nat.le_of_ble_eq_true rfl⟩ (by unfold px_place; first | rw [if_pos h2] | rw [if_neg h2, if_neg h7])

set_option maxHeartbeats 4000000 in
set_option maxRecDepth 100000 in
theorem c_requireNumber (a f t : Int32) (hst : l.stackTraces = false) : qXv qZ l yO_requireNumber (wO_requireNumber) ({ frames := 6, cells := 1, slots := 6, locals := 82 } : Room) (dC, dI) qCl [(cI, .int), (cJ, .long), (cG, .array .long)] [.int a, .int f, .int t] [] [] (px_num a f t) 1 6 := by
  refine qx_v (cc := prog_1_method_35_code) (maxL := 3) (by decide) rfl (Nat.le_of_ble_eq_true rfl) ?_
  intro p e s m args below meth c Q A ls hx hb hml hown hnm hts hA hK hP hD hS hl hZ hret hout hfin
  have hl : lv_has ls 3 [(0, .int a), (1, .int f), (2, .int t)] := hl
  refine lv_iload_n hx hb dO_requireNumber_0 rfl (lv_at hl 0 rfl) ?_
  refine lv_iload_n hx hb dO_requireNumber_1 rfl (lv_at hl 1 rfl) ?_
  refine lv_icmp_lt (tgt := 10) hx hb dO_requireNumber_2 (by decide) (fun h2 => ?_) (fun h2 => ?_)
  · exact qx_thr (E := "java/lang/IllegalArgumentException") (text := "a number is not as said") hfin hst hZ hx hb hown hts hK hP hD hS (by rw [hml]; exact hl.1) (by decide) (List.mem_of_getElem? (i := 1) rfl) mq_1_201 mq_1_9 (List.mem_of_getElem? (i := 1) rfl) qat_1 qab_1 qat_g1 dO_requireNumber_10 dO_requireNumber_13 dO_requireNumber_14 dO_requireNumber_16 dO_requireNumber_19 ⟨Nat.le_of_ble_eq_true rfl, Nat.le_of_ble_eq_true rfl, Nat.le_of_ble_eq_true rfl, Nat.le_of_ble_eq_true rfl⟩ ⟨Nat.le_of_ble_eq_true rfl, Nat.le_of_ble_eq_true rfl⟩ (by unfold px_num; first | rw [if_pos h2] | rw [if_neg h2, if_neg h7])
  · refine lv_iload_n hx hb dO_requireNumber_5 rfl (lv_at hl 0 rfl) ?_
    refine lv_iload_n hx hb dO_requireNumber_6 rfl (lv_at hl 2 rfl) ?_
    refine lv_icmp_le (tgt := 20) hx hb dO_requireNumber_7 (by decide) (fun h7 => ?_) (fun h7 => ?_)
    · exact hret hP hD hS (Nat.le_of_ble_eq_true rfl) (Nat.le_of_ble_eq_true rfl) (by unfold px_num; rw [if_neg h2, if_pos h7]) dO_requireNumber_20
    · exact qx_thr (E := "java/lang/IllegalArgumentException") (text := "a number is not as said") hfin hst hZ hx hb hown hts hK hP hD hS (by rw [hml]; exact hl.1) (by decide) (List.mem_of_getElem? (i := 1) rfl) mq_1_201 mq_1_9 (List.mem_of_getElem? (i := 1) rfl) qat_1 qab_1 qat_g1 dO_requireNumber_10 dO_requireNumber_13 dO_requireNumber_14 dO_requireNumber_16 dO_requireNumber_19 ⟨Nat.le_of_ble_eq_true rfl, Nat.le_of_ble_eq_true rfl, Nat.le_of_ble_eq_true rfl, Nat.le_of_ble_eq_true rfl⟩ ⟨Nat.le_of_ble_eq_true rfl, Nat.le_of_ble_eq_true rfl⟩ (by unfold px_num; first | rw [if_pos h2] | rw [if_neg h2, if_neg h7])

set_option maxHeartbeats 4000000 in
set_option maxRecDepth 100000 in
theorem c_requireRun (o0 o1 o2 o3 o4 o5 o6 o7 ru sp dl rr yr sd rn : Nat) (yg ch mk : Int32) (hst : l.stackTraces = false) : qXv qZ l yO_requireRun (wO_requireRun) ({ frames := 6, cells := 1, slots := 6, locals := 82 } : Room) (dC, dI) qCl [(cI, .int), (cJ, .long), (cG, .array .long)] [.ref o0] [(o0, .inr (0, [.ref o1, .ref o2, .ref o3, .ref o4, .int (nI ru), .int yg, .int ch, .int (nI sp), .int (nI dl), .int mk, .ref o5, .ref o6, .ref o7, .int (nI rr), .int (nI yr), .int (nI sd), .int (nI rn)]))] [(o0, .inr (0, [.ref o1, .ref o2, .ref o3, .ref o4, .int (nI ru), .int yg, .int ch, .int (nI sp), .int (nI dl), .int mk, .ref o5, .ref o6, .ref o7, .int (nI rr), .int (nI yr), .int (nI sd), .int (nI rn)]))] (px_run (nI rn)) 1 6 := by
  refine qx_v (cc := prog_1_method_33_code) (maxL := 1) (by decide) rfl (Nat.le_of_ble_eq_true rfl) ?_
  intro p e s m args below meth c Q A ls hx hb hml hown hnm hts hA hK hP hD hS hl hZ hret hout hfin
  have hl : lv_has ls 1 [(0, .ref o0)] := hl
  refine lv_aload_n hx hb dO_requireRun_0 rfl (lv_at hl 0 rfl) ?_
  refine va_get (D := (dC, dI)) (ci := 0) (v := .int (nI rn)) (C := "OutlookOdds") (T := TO) (N := 17) hx hb hts inO hown hK hP 0 rfl rfl 16 (by decide) (hts _ mq_1_72) (fun _ h9 => h9) rfl dO_requireRun_1 ?_
  refine lv_if_ne (tgt := 17) hx hb dO_requireRun_4 (by decide) (fun h4 => ?_) (fun h4 => ?_)
  · exact hret hP hD hS (Nat.le_of_ble_eq_true rfl) (Nat.le_of_ble_eq_true rfl) (if_neg h4) dO_requireRun_17
  · exact qx_thr (E := "java/lang/IllegalStateException") (text := "there was no run") hfin hst hZ hx hb hown hts hK hP hD hS (by rw [hml]; exact hl.1) (by decide) (List.mem_of_getElem? (i := 2) rfl) mq_1_237 mq_1_10 (List.mem_of_getElem? (i := 3) rfl) qat_2 qab_2 qat_g2 dO_requireRun_7 dO_requireRun_10 dO_requireRun_11 dO_requireRun_13 dO_requireRun_16 ⟨Nat.le_of_ble_eq_true rfl, Nat.le_of_ble_eq_true rfl, Nat.le_of_ble_eq_true rfl, Nat.le_of_ble_eq_true rfl⟩ ⟨Nat.le_of_ble_eq_true rfl, Nat.le_of_ble_eq_true rfl⟩ (if_pos h4)

end QRQ
