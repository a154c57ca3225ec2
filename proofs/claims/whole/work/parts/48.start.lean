section QST
theorem pl_L0 : pl_L (fun _ => 0) = fun _ => 0 := funext fun _ => by show (0 : Int32).toInt64 = 0; decide
theorem bd_z (n : Nat) : bd (0 : Int32).toInt64 n := ⟨0, by decide, Nat.zero_le _⟩
theorem LI_0 : LI 0 0 0 0 0 0 0 0 0 1000 (fun _ => 0) (fun _ => 0) (fun _ => 0) (fun _ => 0) (fun _ => 0) (fun _ => 0) (fun _ => 0) (fun _ _ => 0) (fun _ _ => 0) := ⟨⟨by decide, by decide, by decide, by decide, by decide, by decide, Or.inl rfl⟩, ⟨fun _ => bd_z _, fun _ => bd_z _, fun _ => bd_z _, fun _ => bd_z _⟩, ⟨bd_z _, ⟨1000, by decide, Nat.le_refl _⟩, fun _ => bd_z _, fun _ => bd_z _, fun _ => bd_z _⟩, Or.inl rfl⟩
set_option maxHeartbeats 4000000 in
set_option maxRecDepth 100000 in
theorem law_pro {p : Program} {l : Launch} {e : Env} {s : State} {m : MethodId} {below : List Frame} {meth : Method} {c : Code} {b L : Nat} {xs : Nat → Int32} {dC : Nat → ClassId} {dI : Nat → Nat → Nat} {cI cJ cG : ClassId} (X : LX p l s m c (fun q => s.heap.size ≤ q) b L xs dC dI cI cJ cG) (hZ : qZc (fun q => s.heap.size ≤ q) s s.heap) (hr : meth.sig.returnType = ret) (hlocks : meth.locks = false) (ls : Array Slot) (hl : lv_has ls 8 [(0, .ref b)]) : W p l e room_1 s m #[Value.ref b] below meth c s.heap [] 0 0 (lw_Z below #[Value.ref b] s) (F0 m 0 ls []) := by
  obtain ⟨hx, hb, hml, hown, hts, hA, hK, hZ2, hst, hX, hbl, hbA, hL⟩ := id X
  have hP : va_P (dC, dI) qCl [] s.heap := fun k q h => by cases h
  have hD : va_D (fun q => s.heap.size ≤ q) [] := ⟨fun i j p q h => (by cases h), fun k q h => (by cases h)⟩
  have hS : va_S (fun q => s.heap.size ≤ q) s.heap s.heap [] := va_S.rf
  refine va_new (ci := 0) (fs := [.null, .null, .null, .null, .int 0, .int 0, .int 0, .int 0, .int 0, .int 0, .null, .null, .null, .int 0, .int 0, .int 0, .int 0]) (C := "OutlookOdds") (T := TO) (N := 17) hx hb hts inO tyO tyO_ok hown (hts _ mq_1_12) (hts _ mq_1_13) (hts _ mq_1_1) hK hP hD hS hA rfl (by decide +kernel) (Nat.le_of_ble_eq_true rfl) (Nat.le_of_ble_eq_true rfl) dL_law_0 (fun q0 H hP hD hS => ?_)
  refine lv_dup hx hb dL_law_3 rfl ?_
  refine qr_ctor (wr := []) (va_runI (As := []) (rest := [.ref q0]) ⟨hx, hb, hml, hown, hts⟩ (c_O_init l dC dI cI cJ cG q0 H.size) (cwI 0 hts (qg_C mq_1_16) rfl rfl rfl (hts _ mq_1_1) (hts _ mq_1_14) (hts _ mq_1_15) rfl (by decide +kernel) ⟨Nat.le_of_ble_eq_true rfl, Nat.le_of_ble_eq_true rfl⟩) (qx_pre qZc_ok hK hP hD (va_free hD hS hA [0] rfl) hZ [0] rfl (by decide)) rfl rfl hl.1 rfl (lv_room (Nat.le_of_ble_eq_true rfl)) dL_law_4 ⟨Nat.le_of_ble_eq_true rfl, Nat.le_of_ble_eq_true rfl⟩) hP hD hS hA [0] [] rfl rfl (by decide) (fun u4 H locs hP hD hS => ?_)
  refine lv_astore_n (lv' := [(1, .ref q0), (0, .ref b)]) hx hb dL_law_7 rfl hl (by decide) rfl (fun ls hl => ?_)
  refine va_new (ci := 3) (fs := [.int 0, .null, .null, .null, .null, .int 0, .int 0, .null, .null, .null, .int 0, .int 0, .int 0, .int 0, .int 0, .int 0, .int 0, .int 0, .null, .null, .null, .null, .null]) (C := "OutlookOddsModel") (T := TM) (N := 23) hx hb hts inM tyM tyM_ok hown (hts _ mq_2_205) (hts _ mq_2_206) (hts _ mq_1_4) hK hP hD hS hA rfl (by decide +kernel) (Nat.le_of_ble_eq_true rfl) (Nat.le_of_ble_eq_true rfl) dL_law_8 (fun q8 H hP hD hS => ?_)
  refine lv_dup hx hb dL_law_11 rfl ?_
  refine qr_ctor (wr := [(q0, .inr (0, [.ref (u4 0 0), .ref (u4 0 6), .ref (u4 0 7), .ref (u4 0 8), .int 0, .int 0, .int 1000, .int 0, .int 0, .int 0, .ref (u4 0 9), .ref (u4 0 11), .ref (u4 0 13), .int 0, .int 0, .int 0, .int 0])), (u4 0 0, .inr (1, [.ref (u4 0 1), .ref (u4 0 2), .ref (u4 0 3), .ref (u4 0 4), .ref (u4 0 5)])), (u4 0 1, .inl (cI, 6, .inl (fun _ => 0))), (u4 0 2, .inl (cI, 6, .inl (fun _ => 0))), (u4 0 3, .inl (cI, 6, .inl (fun _ => 0))), (u4 0 4, .inl (cI, 6, .inl (fun _ => 0))), (u4 0 5, .inl (cJ, 6, .inr (.inl (fun _ => 0)))), (u4 0 6, .inl (cI, 6, .inl (fun _ => 0))), (u4 0 7, .inl (cI, 6, .inl (fun _ => 0))), (u4 0 8, .inl (cI, 6, .inl (fun _ => 0))), (u4 0 9, .inr (2, [.ref (u4 0 10)])), (u4 0 10, .inl (cG, 4, .inr (.inr (.inr (.inr (pf_gf (u4 1))))))), (u4 1 0, .inl (cJ, 320, .inr (.inl (fun _ => 0)))), (u4 1 1, .inl (cJ, 320, .inr (.inl (fun _ => 0)))), (u4 1 2, .inl (cJ, 320, .inr (.inl (fun _ => 0)))), (u4 1 3, .inl (cJ, 320, .inr (.inl (fun _ => 0)))), (u4 0 11, .inr (2, [.ref (u4 0 12)])), (u4 0 12, .inl (cG, 4, .inr (.inr (.inr (.inr (pf_gf (u4 2))))))), (u4 2 0, .inl (cJ, 320, .inr (.inl (fun _ => 0)))), (u4 2 1, .inl (cJ, 320, .inr (.inl (fun _ => 0)))), (u4 2 2, .inl (cJ, 320, .inr (.inl (fun _ => 0)))), (u4 2 3, .inl (cJ, 320, .inr (.inl (fun _ => 0)))), (u4 0 13, .inl (cJ, 16, .inr (.inl (fun _ => 0))))]) (va_runI (As := []) (rest := [.ref q8]) ⟨hx, hb, hml, hown, hts⟩ (c_M_init l dC dI cI cJ cG q8 H.size) (cwI 0 hts (qg_C mq_2_209) rfl rfl rfl (hts _ mq_1_4) (hts _ mq_2_207) (hts _ mq_2_208) rfl (by decide +kernel) ⟨Nat.le_of_ble_eq_true rfl, Nat.le_of_ble_eq_true rfl⟩) (qx_pre qZc_ok hK hP hD (va_free hD hS hA [23] rfl) hZ [23] rfl (by decide)) rfl rfl hl.1 rfl (lv_room (Nat.le_of_ble_eq_true rfl)) dL_law_12 ⟨Nat.le_of_ble_eq_true rfl, Nat.le_of_ble_eq_true rfl⟩) hP hD hS hA [23] [0, 1, 2, 3, 4, 5, 6, 7, 8, 9, 10, 11, 12, 13, 14, 15, 16, 17, 18, 19, 20, 21, 22] rfl rfl (by decide) (fun u12 H locs hP hD hS => ?_)
  refine lv_astore_n (lv' := [(2, .ref q8), (1, .ref q0), (0, .ref b)]) hx hb dL_law_15 rfl hl (by decide) rfl (fun ls hl => ?_)
  refine lv_iconst (v := 1) hx hb dL_law_16 (by decide) ?_
  refine qr_newJ (N' := 1) hx hb (hts _ mq_1_43) hK hP hD hS hA 1 rfl (by decide) (by decide) (by decide) (Nat.le_of_ble_eq_true rfl) (Nat.le_of_ble_eq_true rfl) dL_law_17 (fun q17 H hP hD hS => ?_)
  refine lv_astore_n (lv' := [(3, .ref q17), (2, .ref q8), (1, .ref q0), (0, .ref b)]) hx hb dL_law_19 rfl hl (by decide) rfl (fun ls hl => ?_)
  refine lv_iconst (v := 0) hx hb dL_law_20 (by decide) ?_
  refine lv_istore (lv' := [(4, .int 0), (3, .ref q17), (2, .ref q8), (1, .ref q0), (0, .ref b)]) hx hb dL_law_21 hl (by decide) rfl (fun ls hl => ?_)
  have hw : (LWd cI cJ cG q0 (u4 0 0) (u4 0 6) (u4 0 7) (u4 0 8) (u4 0 9) (u4 0 11) (u4 0 13) (u4 0 1) (u4 0 2) (u4 0 3) (u4 0 4) (u4 0 5) (u4 0 10) (u4 0 12) (u4 1) (u4 2) q8 (u12 0 0) (u12 0 1) (u12 0 2) (u12 0 3) (u12 0 4) (u12 0 5) (u12 0 6) (u12 0 7) (u12 0 8) (u12 0 9) (u12 0 10) (u12 0 11) q17 0 0 0 0 0 0 0 0 0 1000 0 (fun _ => 0) (fun _ => 0) (fun _ => 0) (fun _ => 0) (fun _ => 0) (fun _ => 0) (fun _ => 0) (fun _ => 0) (fun _ => 0) (fun _ => 0) (fun _ _ => 0) (fun _ _ => 0) (fun _ _ => 0)) = [(q0, .inr (0, [.ref (u4 0 0), .ref (u4 0 6), .ref (u4 0 7), .ref (u4 0 8), .int 0, .int 0, .int 1000, .int 0, .int 0, .int 0, .ref (u4 0 9), .ref (u4 0 11), .ref (u4 0 13), .int 0, .int 0, .int 0, .int 0])), (u4 0 0, .inr (1, [.ref (u4 0 1), .ref (u4 0 2), .ref (u4 0 3), .ref (u4 0 4), .ref (u4 0 5)])), (u4 0 1, .inl (cI, 6, .inl (fun _ => 0))), (u4 0 2, .inl (cI, 6, .inl (fun _ => 0))), (u4 0 3, .inl (cI, 6, .inl (fun _ => 0))), (u4 0 4, .inl (cI, 6, .inl (fun _ => 0))), (u4 0 5, .inl (cJ, 6, .inr (.inl (fun _ => 0)))), (u4 0 6, .inl (cI, 6, .inl (fun _ => 0))), (u4 0 7, .inl (cI, 6, .inl (fun _ => 0))), (u4 0 8, .inl (cI, 6, .inl (fun _ => 0))), (u4 0 9, .inr (2, [.ref (u4 0 10)])), (u4 0 10, .inl (cG, 4, .inr (.inr (.inr (.inr (pf_gf (u4 1))))))), (u4 1 0, .inl (cJ, 320, .inr (.inl (fun _ => 0)))), (u4 1 1, .inl (cJ, 320, .inr (.inl (fun _ => 0)))), (u4 1 2, .inl (cJ, 320, .inr (.inl (fun _ => 0)))), (u4 1 3, .inl (cJ, 320, .inr (.inl (fun _ => 0)))), (u4 0 11, .inr (2, [.ref (u4 0 12)])), (u4 0 12, .inl (cG, 4, .inr (.inr (.inr (.inr (pf_gf (u4 2))))))), (u4 2 0, .inl (cJ, 320, .inr (.inl (fun _ => 0)))), (u4 2 1, .inl (cJ, 320, .inr (.inl (fun _ => 0)))), (u4 2 2, .inl (cJ, 320, .inr (.inl (fun _ => 0)))), (u4 2 3, .inl (cJ, 320, .inr (.inl (fun _ => 0)))), (u4 0 13, .inl (cJ, 16, .inr (.inl (fun _ => 0)))), (q8, .inr (3, [.int 0, .ref (u12 0 0), .ref (u12 0 1), .ref (u12 0 2), .ref (u12 0 3), .int 0, .int 0, .ref (u12 0 4), .ref (u12 0 5), .ref (u12 0 6), .int 1000, .int 0, .int 0, .int 0, .int 0, .int 0, .int 0, .int 0, .ref (u12 0 7), .ref (u12 0 8), .ref (u12 0 9), .ref (u12 0 10), .ref (u12 0 11)])), (u12 0 0, .inl (cJ, 6, .inr (.inl (fun _ => 0)))), (u12 0 1, .inl (cJ, 6, .inr (.inl (fun _ => 0)))), (u12 0 2, .inl (cJ, 6, .inr (.inl (fun _ => 0)))), (u12 0 3, .inl (cJ, 6, .inr (.inl (fun _ => 0)))), (u12 0 4, .inl (cJ, 6, .inr (.inl (fun _ => 0)))), (u12 0 5, .inl (cJ, 6, .inr (.inl (fun _ => 0)))), (u12 0 6, .inl (cI, 6, .inl (fun _ => 0))), (u12 0 11, .inl (cJ, 6, .inr (.inl (fun _ => 0)))), (u12 0 7, .inl (cJ, 672, .inr (.inl (fun _ => 0)))), (u12 0 8, .inl (cJ, 672, .inr (.inl (fun _ => 0)))), (u12 0 9, .inl (cJ, 672, .inr (.inl (fun _ => 0)))), (u12 0 10, .inl (cJ, 672, .inr (.inl (fun _ => 0)))), (q17, .inl (cJ, 1, .inr (.inl (fun _ => 0))))] := by
    unfold LWd
    rw [pl_L0]
    rfl
  have hP2 : va_P (dC, dI) qCl (LWd cI cJ cG q0 (u4 0 0) (u4 0 6) (u4 0 7) (u4 0 8) (u4 0 9) (u4 0 11) (u4 0 13) (u4 0 1) (u4 0 2) (u4 0 3) (u4 0 4) (u4 0 5) (u4 0 10) (u4 0 12) (u4 1) (u4 2) q8 (u12 0 0) (u12 0 1) (u12 0 2) (u12 0 3) (u12 0 4) (u12 0 5) (u12 0 6) (u12 0 7) (u12 0 8) (u12 0 9) (u12 0 10) (u12 0 11) q17 0 0 0 0 0 0 0 0 0 1000 0 (fun _ => 0) (fun _ => 0) (fun _ => 0) (fun _ => 0) (fun _ => 0) (fun _ => 0) (fun _ => 0) (fun _ => 0) (fun _ => 0) (fun _ => 0) (fun _ _ => 0) (fun _ _ => 0) (fun _ _ => 0)) H := by rw [hw]; exact hP.sub [0, 1, 2, 3, 4, 5, 6, 7, 8, 9, 10, 11, 12, 13, 14, 15, 16, 17, 18, 19, 20, 21, 22, 23, 24, 25, 26, 27, 28, 29, 30, 35, 31, 32, 33, 34, 36] rfl
  have hD2 : va_D (fun q => s.heap.size ≤ q) (LWd cI cJ cG q0 (u4 0 0) (u4 0 6) (u4 0 7) (u4 0 8) (u4 0 9) (u4 0 11) (u4 0 13) (u4 0 1) (u4 0 2) (u4 0 3) (u4 0 4) (u4 0 5) (u4 0 10) (u4 0 12) (u4 1) (u4 2) q8 (u12 0 0) (u12 0 1) (u12 0 2) (u12 0 3) (u12 0 4) (u12 0 5) (u12 0 6) (u12 0 7) (u12 0 8) (u12 0 9) (u12 0 10) (u12 0 11) q17 0 0 0 0 0 0 0 0 0 1000 0 (fun _ => 0) (fun _ => 0) (fun _ => 0) (fun _ => 0) (fun _ => 0) (fun _ => 0) (fun _ => 0) (fun _ => 0) (fun _ => 0) (fun _ => 0) (fun _ _ => 0) (fun _ _ => 0) (fun _ _ => 0)) := by rw [hw]; exact hD.sub [0, 1, 2, 3, 4, 5, 6, 7, 8, 9, 10, 11, 12, 13, 14, 15, 16, 17, 18, 19, 20, 21, 22, 23, 24, 25, 26, 27, 28, 29, 30, 35, 31, 32, 33, 34, 36] (by decide) rfl
  exact law_loop X hr hlocks q0 (u4 0 0) (u4 0 6) (u4 0 7) (u4 0 8) (u4 0 9) (u4 0 11) (u4 0 13) (u4 0 1) (u4 0 2) (u4 0 3) (u4 0 4) (u4 0 5) (u4 0 10) (u4 0 12) (u4 1) (u4 2) q8 (u12 0 0) (u12 0 1) (u12 0 2) (u12 0 3) (u12 0 4) (u12 0 5) (u12 0 6) (u12 0 7) (u12 0 8) (u12 0 9) (u12 0 10) (u12 0 11) q17 (L + 1) 0 (by omega) (by omega) 0 0 0 0 0 0 0 0 0 1000 0 (fun _ => 0) (fun _ => 0) (fun _ => 0) (fun _ => 0) (fun _ => 0) (fun _ => 0) (fun _ => 0) (fun _ => 0) (fun _ => 0) (fun _ => 0) (fun _ _ => 0) (fun _ _ => 0) (fun _ _ => 0) LI_0 H _ hP2 hD2 hS ls (lv_sub hl [4, 3, 2, 1, 0] rfl)
theorem law_LX {p : Program} {l : Launch} {s : State} {m : MethodId} {meth : Method} {c : Code} {b L : Nat} {xs : Nat → Int32} (hL : L ≤ 3072) (hl9 : l.stackTraces = false) (C0 : lw_At p s m meth c b L xs) : ∃ (dC : Nat → ClassId) (dI : Nat → Nat → Nat) (cI cJ cG : ClassId), LX p l s m c (fun q => s.heap.size ≤ q) b L xs dC dI cI cJ cG ∧ qZc (fun q => s.heap.size ≤ q) s s.heap := by
  obtain ⟨hx, hb, hr, hml, hown, ht0, hX, hbl, hlk, hgv⟩ := C0
  have hts : ∀ w ∈ qT, w.before #[Value.ref b] s = true := fun w h => ht0 w (List.mem_filter.mp h).1
  have hs := flat_of_before _ hgv
  obtain ⟨c0, i0, k0⟩ := u_known ht0 inO_0 (hts _ mq_1_13)
  obtain ⟨c1, i1, k1⟩ := u_known ht0 inS_0 (hts _ mq_1_21)
  obtain ⟨c2, i2, k2⟩ := u_known ht0 inY_0 (hts _ mq_1_45)
  obtain ⟨c3, i3, k3⟩ := u_known ht0 inM_0 (hts _ mq_2_206)
  have hov : va_AOA .long s := ht0 (.arrayOver (.array .long)) (by decide +kernel)
  obtain ⟨cI, kI, pI, a1, a2, a3⟩ := Cond.arrayClass_spec (hts _ mq_1_42)
  obtain ⟨cJ, kJ, pJ, b1, b2, b3⟩ := Cond.arrayClass_spec (hts _ mq_1_43)
  obtain ⟨pG, cG, kG, g0, g1, g2, g3, g4⟩ := arrayOverA_spec hov
  refine ⟨fun k => match k with | 0 => c0 | 1 => c1 | 2 => c2 | _ => c3, fun k => match k with | 0 => i0 | 1 => i1 | 2 => i2 | _ => i3, cI, cJ, cG, ⟨hx, hb, hml, hown, hts, fun q h => h, ⟨?_, ?_⟩, ⟨⟨?_, ?_, ?_, ?_, ?_⟩, ?_⟩, hl9, hX, hbl, Nat.not_le.mpr hbl, hL⟩, hov, ?_, ?_⟩
  · intro c q h
    match c with
    | 0 => obtain rfl := Option.some.inj h; exact k0
    | 1 => obtain rfl := Option.some.inj h; exact k1
    | 2 => obtain rfl := Option.some.inj h; exact k2
    | 3 => obtain rfl := Option.some.inj h; exact k3
    | n + 4 => exact absurd (List.getElem?_eq_some_iff.mp h).1 (by show ¬ n + 4 < 4; omega)
  · intro c q h
    match c with
    | 0 => obtain rfl := Option.some.inj h; exact ⟨fun N z => ⟨fun q hq => (by cases hq), kI, a2, pI, a3⟩, a1⟩
    | 1 => obtain rfl := Option.some.inj h; exact ⟨fun N z => ⟨fun q hq => (by cases hq), kJ, b2, pJ, b3⟩, b1⟩
    | 2 => obtain rfl := Option.some.inj h; exact ⟨fun N z => ⟨fun q hq => (by cases hq), kG, g2, pG, g3⟩, g4⟩
    | n + 3 => exact absurd (List.getElem?_eq_some_iff.mp h).1 (by show ¬ n + 3 < 3; omega)
  · exact vx_Zqof (args := #[Value.ref b]) (ht0 _ (by decide +kernel)) (ht0 _ (by decide +kernel)) (hs _ (by decide +kernel)) (fun a h => Nat.not_le.mpr h)
  · exact vx_Zqof (args := #[Value.ref b]) (ht0 _ (by decide +kernel)) (ht0 _ (by decide +kernel)) (hs _ (by decide +kernel)) (fun a h => Nat.not_le.mpr h)
  · exact List.forall_mem_cons.mpr ⟨va_Nw.of rfl (ht0 _ (by decide +kernel)), List.forall_mem_cons.mpr ⟨va_Nw.of rfl (ht0 _ (by decide +kernel)), List.forall_mem_cons.mpr ⟨va_Nw.of rfl (ht0 _ (by decide +kernel)), fun _ h => absurd h List.not_mem_nil⟩⟩⟩
  · exact List.forall_mem_cons.mpr ⟨va_Nw.of rfl (ht0 _ (by decide +kernel)), List.forall_mem_cons.mpr ⟨va_Nw.of rfl (ht0 _ (by decide +kernel)), List.forall_mem_cons.mpr ⟨va_Nw.of rfl (ht0 _ (by decide +kernel)), fun _ h => absurd h List.not_mem_nil⟩⟩⟩
  · have hq : ∀ (k : Nat) (tx : String), (Cond.stringRef "OutlookOdds" k tx).before #[Value.ref b] s = true → (Cond.exactly (.string "OutlookOdds" k) "java/lang/String").before #[Value.ref b] s = true → ∃ a : Nat, vk_R "OutlookOdds" k tx a s := fun k tx h1 h2 => by
      obtain ⟨a, c, cell, kk, q1, -⟩ := Cond.exactly_spec h2
      exact ⟨a, vk_R.of h1 q1⟩
    exact List.forall_mem_cons.mpr ⟨hq _ _ (ht0 _ (by decide +kernel)) (hs _ (by decide +kernel)), List.forall_mem_cons.mpr ⟨hq _ _ (ht0 _ (by decide +kernel)) (hs _ (by decide +kernel)), List.forall_mem_cons.mpr ⟨hq _ _ (ht0 _ (by decide +kernel)) (hs _ (by decide +kernel)), List.forall_mem_cons.mpr ⟨hq _ _ (ht0 _ (by decide +kernel)) (hs _ (by decide +kernel)), fun _ h => absurd h List.not_mem_nil⟩⟩⟩⟩
  · exact List.forall_mem_cons.mpr ⟨va_Nc.of (hs _ (by decide +kernel)), List.forall_mem_cons.mpr ⟨va_Nc.of (hs _ (by decide +kernel)), List.forall_mem_cons.mpr ⟨va_Nc.of (hs _ (by decide +kernel)), List.forall_mem_cons.mpr ⟨va_Nc.of (hs _ (by decide +kernel)), List.forall_mem_cons.mpr ⟨va_Nc.of (hs _ (by decide +kernel)), List.forall_mem_cons.mpr ⟨va_Nc.of (hs _ (by decide +kernel)), fun _ h => absurd h List.not_mem_nil⟩⟩⟩⟩⟩⟩
  · exact va_Nw.of rfl (ht0 _ (by decide +kernel))
  · exact va_Nw.of rfl (ht0 _ (by decide +kernel))
theorem whole_start {p : Program} {e : Env} {s : State} {m : MethodId} {below : List Frame} {meth : Method} {c : Code} (l : Launch) {b L : Nat} {xs : Nat → Int32} (hL : L ≤ 3072) (hl9 : l.stackTraces = false) (C0 : lw_At p s m meth c b L xs) : W p l e room_1 s m #[Value.ref b] below meth c s.heap [] 0 0 (lw_Z below #[Value.ref b] s) (entryFrame m ([Value.ref b] : List Value).toArray 8) := by
  obtain ⟨dC, dI, cI, cJ, cG, X, hZ⟩ := law_LX hL hl9 C0
  obtain ⟨hx, hb, hr, hml, hown, ht0, hX, hbl, hlk, hgv⟩ := C0
  have hl := lv_entry [Value.ref b] (n := 8) (Nat.le_of_ble_eq_true rfl)
  rw [lg_entry_eq]
  exact law_pro X hZ hr hlk _ hl
end QST
set_option maxHeartbeats 4000000 in
theorem lw_walk (l : Launch) (hl9 : l.stackTraces = false) (b : Addr) (xs : List Int32) : MetFree l x (headSpec (Jvm.Cond.code x code maxLocals ret :: tables_1) room_1) (lw_P b xs) (fun _ _ _ _ _ => True) lw_Q := by
  refine MetFree.of_bodyS (code := code) (maxLocals := maxLocals) (ret := ret) (by decide) ?_ ?_
  · intro args s m h hn
    obtain ⟨meth, c, h1, h2, h3, h4, h5, h6, -, -⟩ := Cond.code_spec hn (atoms_spec (ws := Jvm.Cond.code x code maxLocals ret :: tables_1) h _ List.mem_cons_self)
    exact ⟨meth, c, h1, h2, h3, h4, h5, h6⟩
  · intro p e s m args below meth c s₁ B hml0 hP _
    obtain ⟨rfl, hx, hbd, hgv⟩ := hP
    obtain ⟨scr, harrAt, hlist, hof, hsmall⟩ := hx
    obtain ⟨hcb, hkn, -, -⟩ := State.arrayAt?_spec harrAt
    have hown : s.vm.findClass R_law = some m.cls := findClass_of_methodNamed B.named
    have hts0 : ∀ c ∈ (Jvm.Cond.code x code maxLocals ret :: tables_1), c.before #[Value.ref b] s = true := atoms_spec (ws := Jvm.Cond.code x code maxLocals ret :: tables_1) B.pre
    have hts : ∀ w ∈ lw_tbl, w.before #[Value.ref b] s = true := k2_hts_sels lw_privs (fun w hw => hts0 w (List.mem_cons_of_mem _ hw)) lw_privs_ok
    have hml : c.maxLocals = 8 := B.maxLocals_eq (hts0 _ List.mem_cons_self)
    have X₀ : Stand p l e room_1 s m #[Value.ref b] below meth c s₁ [] 0 0 := Stand.of_body B
    have hh0 : s₁.heap = s.heap := by rw [B.state]; rfl
    have hsz : scr.slots.size = xs.length := by rw [← Array.length_toList, hlist, List.length_map]
    have hval : ∀ j : Nat, j < xs.length → scr.slots[j]? = some (.int (xs.getD j 0)) := fun j hj => by
      rw [← Array.getElem?_toList, hlist]
      simp [hj]
    have hbl : b < s.heap.size := (Array.getElem?_eq_some_iff.mp hcb).1
    have hX : va_X b xs.length (fun j => xs.getD j 0) s s.heap := ⟨scr, hcb, hof, hkn, hsz, hval⟩
    have K : W p l e room_1 s m #[Value.ref b] below meth c s₁.heap [] 0 0 (lw_Z below #[Value.ref b] s) (entryFrame m ([Value.ref b] : List Value).toArray 8) := by
      rw [hh0]
      exact whole_start l hbd hl9 ⟨B.exec, B.bytes, B.returns, hml, hown, hts, hX, hbl, B.notSynchronized, hgv⟩
    obtain ⟨t, a1, o, b1, b2, b3⟩ := K s₁ rfl X₀
    exact ⟨t, o, a1, b1, b2, b3⟩
theorem lw_pre_spec {args : Array Value} {s : State} (h : (Jvm.Cond.and given_1 narrow_1).before args s = true) (hr : rest_1_c.before args s = true) : ∃ (b : Addr) (xs : List Int32), lw_P b xs args s := by
  have hs := flat_of_before _ h
  have hq := flat_of_before _ hr
  have hc : (Cond.count 1).before args s = true := hs _ (by decide +kernel)
  have harr : (Cond.arrayOf (.arg 0) .int).before args s = true := hs _ (by decide +kernel)
  have hle : (Cond.le (.length (.arg 0)) (.int 3072)).before args s = true := hs _ (by decide +kernel)
  have hlen : (Cond.isInt (.length (.arg 0))).before args s = true := hq _ (by decide +kernel)
  have hall : (Cond.all (.arg 0) (.isInt (.elem (.arg 0) (.index 0)))).before args s = true := hq _ (by decide +kernel)
  obtain ⟨b, xs, hb, hx⟩ := State.ints_of_pre rfl harr hlen hall
  have hsm : xs.length < 2 ^ 31 := hx.choose_spec.2.2.2
  have hev : (Term.length (.arg 0)).eval args s none [] s = some (.int xs.length.toInt32) := hx.length_eval hb
  have hv := Cond.le_ints hev (show (Term.int 3072).eval args s none [] s = some (.int 3072) from rfl)
  have hd : xs.length.toInt32 ≤ 3072 := by
    simpa [Cond.before, Cond.holds, hv] using hle
  have hN : xs.length ≤ 3072 := (Int32.ofNat_le_ofNat hsm (by decide)).mp (show Int32.ofNat xs.length ≤ Int32.ofNat 3072 from hd)
  exact ⟨b, xs, Cond.one_arg hc (show args[0]? = some (.ref b) from hb), hx, hN, h⟩
theorem lw_comes (l : Launch) (hl9 : l.stackTraces = false) : Comes l x (Jvm.Cond.code x code maxLocals ret :: tables_1) room_1 (fun tb e args s => Calls_1 tb e args s ∧ rest_1 tb e args s ∧ Pre_1 tb e args s)
    (fun _ _ args s o t => lw_Q args s o t) := by
  intro p e ha hc hk s m args below hf hfit hheap happ hpre
  obtain ⟨b, xs, hP⟩ := lw_pre_spec hpre.2.2 hpre.2.1
  obtain ⟨k, o, h1, h2, h3, hQ⟩ := lw_walk l hl9 b xs p e ha hc hk s m args below hf ((Spec.applies_iff_loose hf).mp happ).1 hP trivial
  exact ⟨k, o, h1, h2, h3, hQ⟩
theorem lw_frame {s t : State} {o : Outcome} {args : Array Value} (h : Framed s o t [] 601024 7293034) :
    Framed s o t (fieldLocs frame_1_writes args s ++ arrayLocs frame_1_arrays args s ++ staticLocs frame_1_statics s) 601024 7293034 := h
theorem lw_limb (L : Cond) (hL : ∀ (args : Array Value) (s t : State), L.after args s (.returned (some (.int 1))) t = true) :
    ArmFor flags0 classFile x code maxLocals ret World_1 tables_1 room_1 Calls_1 rest_1 Pre_1
      (fun tb e a s o t => postC L tb e a s o t ∧ Framed s o t (fieldLocs frame_1_writes a s ++ arrayLocs frame_1_arrays a s ++ staticLocs frame_1_statics s) 601024 7293034) := by
  intro l hfl _ _ p e ha hc hk s m args below hf hfit hheap happ hpre
  obtain ⟨k, o, h1, h2, h3, rfl, hF⟩ := lw_comes l (by unfold Launch.stackTraces; rw [hfl]; decide) p e ha hc hk s m args below hf hfit hheap happ hpre
  exact ⟨k, _, h1, h2, h3, hL args s _, lw_frame hF⟩
theorem i_vc : Claimed_1_1 ∧ Claimed_1_2 := ⟨lw_limb limb_1_1 (fun args s t => by simp [limb_1_1, Cond.after, Cond.holds, Cond.value]), lw_limb limb_1_2 (fun args s t => Cond.after_iff.mpr (by
  first | (rw [show limb_1_2 = Cond.eq .result (.int 1) from rfl, Cond.eq_ints (x := 1) (y := 1) rfl rfl]; simp; done) | (simp [limb_1_2, Cond.value, Term.eval]; done)))⟩
