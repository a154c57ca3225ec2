section QTH
/-! what a throw of the component needs of the machine's start -/
def qEs : List String := ["java/lang/IndexOutOfBoundsException", "java/lang/IllegalArgumentException", "java/lang/IllegalStateException"]
def qNs : List String := ["java/lang/RuntimeException", "java/lang/Exception"]
def qDs : List MethodName := [⟨"java/lang/RuntimeException", "<init>", "(Ljava/lang/String;)V"⟩, ⟨"java/lang/Exception", "<init>", "(Ljava/lang/String;)V"⟩, ⟨"java/lang/Throwable", "<init>", "(Ljava/lang/String;)V"⟩]
def qSs : List (Nat × String) := [(206, "there is no such place"), (211, "a number is not as said"), (65, "there is no room for another rule"), (202, "there was no run")]
def qZ (A : Nat → Prop) (U : State) (H : Heap) : Prop := vx_Zq Jvm.Bundle.tN "UNASSIGNED_STACK" Jvm.Bundle.steD A U H ∧ vx_Zq Jvm.Bundle.tN "SUPPRESSED_SENTINEL" Jvm.Bundle.listD A U H ∧ (∀ E ∈ qEs, va_Nw (.castable E E) U) ∧ (∀ y ∈ qDs, va_Nw (.declares y) U) ∧ ∀ q ∈ qSs, ∃ a : Nat, vk_R "OutlookOdds" q.1 q.2 a U
theorem qZ_ok : qZok qZ := by
  refine ⟨fun A u U H hW h => ?_, fun A U H H1 hq h => ?_, fun A B U H hAB h => ?_⟩
  · obtain ⟨h1, h2, h3, h4, h5⟩ := h
    exact ⟨vx_Zq.moved hW.alike h1, vx_Zq.moved hW.alike h2, fun E hE => va_Nw.warmC hW (h3 E hE), fun y hy => va_Nw.warmD hW (h4 y hy), fun q hq => (h5 q hq).imp fun a ha => ha.warm hW⟩
  · obtain ⟨h1, h2, h3, h4, h5⟩ := h
    exact ⟨h1.kept hq, h2.kept hq, h3, h4, h5⟩
  · obtain ⟨h1, h2, h3, h4, h5⟩ := h
    exact ⟨h1.narrow hAB, h2.narrow hAB, h3, h4, h5⟩
theorem qat_0 : ∀ w ∈ (vx_atS "OutlookOdds" 208 "java/lang/IndexOutOfBoundsException" qNs).filter goodWord, w ∈ lw_tbl := by decide +kernel
theorem qat_1 : ∀ w ∈ (vx_atS "OutlookOdds" 213 "java/lang/IllegalArgumentException" qNs).filter goodWord, w ∈ lw_tbl := by decide +kernel
theorem qat_2 : ∀ w ∈ (vx_atS "OutlookOdds" 67 "java/lang/IllegalStateException" qNs).filter goodWord, w ∈ lw_tbl := by decide +kernel
def qBd (E : String) : List Cond := [.castable E E, .declares ⟨"java/lang/RuntimeException", "<init>", "(Ljava/lang/String;)V"⟩, .declares ⟨"java/lang/Exception", "<init>", "(Ljava/lang/String;)V"⟩, .declares ⟨"java/lang/Throwable", "<init>", "(Ljava/lang/String;)V"⟩]
theorem qab_0 : ∀ w ∈ (vx_atS "OutlookOdds" 208 "java/lang/IndexOutOfBoundsException" qNs).filter (fun w => !goodWord w), w ∈ qBd "java/lang/IndexOutOfBoundsException" := by decide +kernel
theorem qab_1 : ∀ w ∈ (vx_atS "OutlookOdds" 213 "java/lang/IllegalArgumentException" qNs).filter (fun w => !goodWord w), w ∈ qBd "java/lang/IllegalArgumentException" := by decide +kernel
theorem qab_2 : ∀ w ∈ (vx_atS "OutlookOdds" 67 "java/lang/IllegalStateException" qNs).filter (fun w => !goodWord w), w ∈ qBd "java/lang/IllegalStateException" := by decide +kernel
theorem qat_g0 : ∀ w ∈ Cond.classLink "OutlookOdds" 204 "java/lang/IndexOutOfBoundsException" :: Cond.initialized "java/lang/IndexOutOfBoundsException" :: vx_atS "OutlookOdds" 208 "java/lang/IndexOutOfBoundsException" qNs, vx_ot w = true := by decide +kernel
theorem qat_g1 : ∀ w ∈ Cond.classLink "OutlookOdds" 209 "java/lang/IllegalArgumentException" :: Cond.initialized "java/lang/IllegalArgumentException" :: vx_atS "OutlookOdds" 213 "java/lang/IllegalArgumentException" qNs, vx_ot w = true := by decide +kernel
theorem qat_g2 : ∀ w ∈ Cond.classLink "OutlookOdds" 63 "java/lang/IllegalStateException" :: Cond.initialized "java/lang/IllegalStateException" :: vx_atS "OutlookOdds" 67 "java/lang/IllegalStateException" qNs, vx_ot w = true := by decide +kernel
theorem qat_all {A : Nat → Prop} {args : Array Value} {s : State} {H : Heap} {ic : Nat} {E : String} (hE : E ∈ qEs) (hts : ∀ w ∈ qT, w.before args s = true) (hZ : qZ A s H) (h1 : ∀ w ∈ (vx_atS "OutlookOdds" ic E qNs).filter goodWord, w ∈ lw_tbl) (h2 : ∀ w ∈ (vx_atS "OutlookOdds" ic E qNs).filter (fun w => !goodWord w), w ∈ qBd E) : ∀ w ∈ vx_atS "OutlookOdds" ic E qNs, w.before args s = true := by
  refine vx_hat (B := qBd E) (fun w hw => hts w (List.mem_filter.mpr ⟨h1 w hw, (List.mem_filter.mp hw).2⟩)) h2 ?_
  exact vx_c (va_Nw.use rfl (hZ.2.2.1 E hE)) (vx_c (va_Nw.use rfl (hZ.2.2.2.1 _ (List.mem_of_getElem? (i := 0) rfl))) (vx_c (va_Nw.use rfl (hZ.2.2.2.1 _ (List.mem_of_getElem? (i := 1) rfl))) (vx_c (va_Nw.use rfl (hZ.2.2.2.1 _ (List.mem_of_getElem? (i := 2) rfl))) vx_n)))
theorem qx_thr {p : Program} {l : Launch} {e : Env} {R : Room} {s : State} {m : MethodId} {args : Array Value} {below : List Frame} {meth : Method} {c : Code} {H : Heap} {locs : List Loc} {cells slots : Nat} {Q : State → Prop} {cc : ByteArray} {pc : Nat} {ls : Array Slot} {rest : List Value} {D : va_G} {cl : List vw_C} {A : Nat → Prop} {tys : List (ClassId × FieldType)} {w : va_W} {Qc : Array Value → State → Outcome → State → Prop} {ex : Option String} {E text : String} {ik is ic mc ms : Nat}
    (hfin : Q = vx_MQ below Qc (qXc D cl tys s.heap.size w ex) args s mc ms (va_A w s.heap.size) ∧ A = va_A w s.heap.size ∧ meth.locks = false ∧ ∀ x ∈ c.exceptionTable.toList, False) (hl : l.stackTraces = false) (hZ : qZ A s s.heap) (hx : p.tables.exec = Jvm.exec) (hb : c.code = cc) (hown : s.vm.findClass "OutlookOdds" = some m.cls) (hts : ∀ w ∈ qT, w.before args s = true) (hK : va_K D cl tys s) (hP : va_P D cl w H) (hD : va_D A w) (hS : va_S A s.heap H locs) (hsize : ls.size = c.maxLocals)
    (hfit : Jvm.Bundle.fit E = true) (hE : E ∈ qEs) (hk : Cond.classLink "OutlookOdds" ik E ∈ qT) (hi : Cond.initialized E ∈ qT) (hstr : (is, text) ∈ qSs) (h1 : ∀ w ∈ (vx_atS "OutlookOdds" ic E qNs).filter goodWord, w ∈ lw_tbl) (h2 : ∀ w ∈ (vx_atS "OutlookOdds" ic E qNs).filter (fun w => !goodWord w), w ∈ qBd E) (hg : ∀ w ∈ Cond.classLink "OutlookOdds" ik E :: Cond.initialized E :: vx_atS "OutlookOdds" ic E qNs, vx_ot w = true)
    (d0 : decode cc pc = .ok (.new ik, 3)) (d3 : decode cc (pc + 3) = .ok (.dup, 1)) (d4 : decode cc (pc + 4) = .ok (.ldc is, 2)) (d6 : decode cc (pc + 6) = .ok (.invokespecial ic, 3)) (d9 : decode cc (pc + 9) = .ok (.athrow, 1))
    (hR : 5 < R.frames ∧ (rest.map fun v => v.category).sum + 82 ≤ R.locals ∧ cells + 1 ≤ R.cells ∧ slots + 6 ≤ R.slots) (hc : cells + 1 ≤ mc ∧ slots + 6 ≤ ms) (hex : ex = some E) :
    W p l e R s m args below meth c H locs cells slots Q (F0 m pc ls rest) := by
  obtain ⟨rfl, rfl, hlocks, hEx⟩ := hfin
  obtain ⟨a, ha⟩ := hZ.2.2.2.2 _ hstr
  refine vx_throwS (names := qNs) (A := va_A w s.heap.size) hx hb hl hown hfit (by decide) (hts _ hk) (hts _ hi) ha (qat_all hE hts hZ h1 h2) hg hZ.1 hZ.2.1 hS hsize d0 d3 d4 d6 d9 (fun x hx => (hEx x hx).elim) hR.1 hR.2.1 hR.2.2.1 hR.2.2.2 hlocks ?_ hS.2.2 hc.1 hc.2
  intro t ha hsz hq
  exact ⟨(), trivial, ⟨hex, hP.kept (fun k q hk => hq q.1 (hP k q hk).lt), va_K.moved ha hK, hD⟩, Nat.le_trans hS.1 hsz, fun q h1 h2 => (hq q (Nat.lt_of_lt_of_le h1 hS.1)).trans (hS.2.1 q h1 h2)⟩
def px_or (a b : Option String) : Option String := match a with
  | some e => some e
  | none => b
theorem px_n {a b c : Option String} (h : a = none) (k : b = c) : px_or a b = c := by rw [h]; exact k
theorem px_s {a b : Option String} {e : String} (h : a = some e) : px_or a b = some e := by rw [h]; rfl
def px_place (a f t : Int32) : Option String := if a < f then some "java/lang/IndexOutOfBoundsException" else if a ≤ t then none else some "java/lang/IndexOutOfBoundsException"
def px_num (a f t : Int32) : Option String := if a < f then some "java/lang/IllegalArgumentException" else if a ≤ t then none else some "java/lang/IllegalArgumentException"
def px_run (r : Int32) : Option String := if r = 0 then some "java/lang/IllegalStateException" else none
def px_room (r : Int32) : Option String := if r < 6 then none else some "java/lang/IllegalStateException"
end QTH
