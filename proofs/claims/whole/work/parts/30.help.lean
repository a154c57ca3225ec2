section QHE
def qPs : List (String × String) := [("java/lang/IllegalArgumentException", "java/lang/IndexOutOfBoundsException"), ("java/lang/IllegalStateException", "java/lang/IndexOutOfBoundsException"), ("java/lang/IndexOutOfBoundsException", "java/lang/IllegalArgumentException"), ("java/lang/IllegalStateException", "java/lang/IllegalArgumentException"), ("java/lang/IndexOutOfBoundsException", "java/lang/IllegalStateException"), ("java/lang/IllegalArgumentException", "java/lang/IllegalStateException")]
def qZ2 (A : Nat → Prop) (U : State) (H : Heap) : Prop := qZ A U H ∧ ∀ q ∈ qPs, va_Nc q.1 q.2 U
theorem qZ2_ok : qZok qZ2 := ⟨fun A u U H hW h => ⟨qZ_ok.1 A u U H hW h.1, fun q hq => va_Nc.moved hW.alike (h.2 q hq)⟩, fun A U H H1 hq h => ⟨qZ_ok.2.1 A U H H1 hq h.1, h.2⟩, fun A B U H hAB h => ⟨qZ_ok.2.2 A B U H hAB h.1, h.2⟩⟩
def qMh (l : Launch) (y : MethodName) (ws : List Cond) (rm : Room) (D : va_G) (cl : List vw_C) (tys : List (ClassId × FieldType)) (av : List Value) (w w1 : va_W) (v : Int32) (mc ms : Nat) : Prop :=
  ∀ sz : Nat, Met l y ws rm (qPx qZ2 D cl tys av sz w) (va_Qi (fun (r : Int32) (_ : Unit) => r = v) (qB D cl tys sz w w1) (va_A w sz)) mc ms (va_A w sz)
theorem qh_i {l : Launch} {D : va_G} {cl : List vw_C} {tys : List (ClassId × FieldType)} {y : MethodName} {ws ws' : List Cond} {rm : Room} {cc : ByteArray} {maxL mc ms : Nat} {av : List Value} {w w1 : va_W} {hh : List (Nat × Nat × Nat × Nat)} {v : Int32} (hy : plainName y.cls = true) (hw : ws = Cond.codeWith y cc maxL (some .int) hh :: ws') (hn : (lg_sl av).length ≤ maxL)
    (body : ∀ (p : Program) (e : Env) (s : State) (m : MethodId) (args : Array Value) (below : List Frame) (meth : Method) (c : Code) (Q : State → Prop) (A : Nat → Prop) (ls : Array Slot),
      p.tables.exec = Jvm.exec → c.code = cc → c.maxLocals = maxL → s.vm.findClass y.cls = some m.cls → (∀ w ∈ ws', w.before args s = true) → (∀ q, s.heap.size ≤ q → A q) → va_K D cl tys s → va_P D cl w s.heap → va_D A w → va_S A s.heap s.heap [] → lv_has ls maxL (lv_args 0 av) → qZ2 A s s.heap → c.exceptionTable.toList = tableOf hh →
      (∀ {H : Heap} {locs : List Loc} {cells slots pc : Nat} {ls : Array Slot} {r : Int32}, va_P D cl w1 H → va_D A w1 → va_S A s.heap H locs → cells ≤ mc → slots ≤ ms → r = v → decode cc pc = .ok (.ireturn, 1) → W p l e rm s m args below meth c H locs cells slots Q (F0 m pc ls [.int r])) →
      W p l e rm s m args below meth c s.heap [] 0 0 Q (F0 m 0 ls [])) : qMh l y ws rm D cl tys av w w1 v mc ms := by
  intro sz
  refine va_MetW (cc := cc) (maxL := maxL) (ret := some .int) (hh := hh) hy hw ?_
  intro p e s m args below meth c s₁ B hml hv
  obtain ⟨rfl, rfl, hP, hK, hD0, hZ⟩ := hv
  have hlocks := B.notSynchronized
  have hr := B.returns
  have hl := lv_entry av (n := maxL) hn
  rw [lg_entry_eq]
  refine body p e s m av.toArray below meth c _ (va_A w s.heap.size) _ B.exec B.bytes hml (findClass_of_methodNamed B.named) (fun w h => atoms_spec (ws := ws) B.pre w (by rw [hw]; exact List.mem_cons_of_mem _ h)) (fun q h => Or.inr h) hK hP hD0.self va_S.rf hl hZ (vx_table (x := y) B (atoms_spec (ws := ws) B.pre _ (by rw [hw]; exact List.mem_cons_self))) ?_
  intro H locs cells slots pc ls r hP hD hS h1 h2 hrv hd
  refine W.widen (k := mc) (n := ms) h1 h2 ?_
  exact W.iret (v := r) B.exec B.bytes hr (fun t ht hW => ⟨⟨r, (), rfl, hrv, by rw [ht]; exact hP, va_K.moved hW.alike hK, hD⟩, hS.F ht⟩) hS.2.2 hd
theorem px_or_E {a b : Option String} {E : String} {P : Prop} (ha : a = some E → P) (hb : b = some E → P) (h : px_or a b = some E) : P := by
  cases a with
  | none => exact hb h
  | some e => exact ha h
theorem px_place_E {a f t : Int32} {E : String} (h : px_place a f t = some E) : E = "java/lang/IndexOutOfBoundsException" := by
  unfold px_place at h
  split at h
  · exact (Option.some.inj h).symm
  · split at h
    · cases h
    · exact (Option.some.inj h).symm
theorem px_num_E {a f t : Int32} {E : String} (h : px_num a f t = some E) : E = "java/lang/IllegalArgumentException" := by
  unfold px_num at h
  split at h
  · exact (Option.some.inj h).symm
  · split at h
    · cases h
    · exact (Option.some.inj h).symm
theorem px_run_E {a : Int32} {E : String} (h : px_run a = some E) : E = "java/lang/IllegalStateException" := by
  unfold px_run at h
  split at h
  · exact (Option.some.inj h).symm
  · cases h
theorem px_room_E {a : Int32} {E : String} (h : px_room a = some E) : E = "java/lang/IllegalStateException" := by
  unfold px_room at h
  split at h
  · cases h
  · exact (Option.some.inj h).symm
/-- which of the classes of a list it is, from 1 on -/
def pl_c1 (_ : String) : Int32 := 1
def pl_c2 (e1 : String) (E : String) : Int32 := if E = e1 then 1 else 2
def pl_c3 (e1 e2 : String) (E : String) : Int32 := if E = e1 then 1 else if E = e2 then 2 else 3
section Calls
variable {p : Program} {l : Launch} {e : Env} {R : Room} {s : State} {m : MethodId} {args : Array Value} {below : List Frame} {meth : Method} {c : Code} {H : Heap} {locs : List Loc} {cells slots : Nat} {Q : State → Prop}
variable {cc : ByteArray} {pc : Nat} {ls : Array Slot} {rest : List Value} {D : va_G} {cl : List vw_C} {A : Nat → Prop} {tys : List (ClassId × FieldType)} {ws : va_W} {H0 : Heap}
variable {wc wr w1 ws2 : va_W} {y : MethodName} {bytes : ByteArray} {maxL nL mc ms n index : Nat} {ret : Option FieldType} {wsy Ts : List Cond} {rm : Room} {own : String} {As st0 : List Value} {hh : List (Nat × Nat × Nat × Nat)}
theorem qr_callH {v : Int32} (hz : qZ2 A s H0) (S : CallFix p m c cc nL s args Ts own) (hM : qMh l y wsy rm D cl tys As wc w1 v mc ms) (cw : vx_CSW R s args own index y bytes maxL ret hh wsy rm mc ms n) (hK : va_K D cl tys s) (hP : va_P D cl ws H) (hD : va_D A ws) (hS : va_S A H0 H locs) (hA : ∀ q, H0.size ≤ q → A q)
    (isC isR isO : List Nat) (hC : isC.map (fun i => ws[i]?) = wc.map some) (hR : isR.map (fun i => ws[i]?) = wr.map some) (hnC : va_nd isC = true) (hn : va_nd isR = true ∧ ∀ i ∈ isR, i ∉ isC) (hO : isO.map (fun i => (wr ++ w1)[i]?) = ws2.map some) (hnO : va_nd isO = true) (hnn : As.length = n) (hsize : ls.size = nL) (hstack : st0 = As.reverse ++ rest) (hW : (rest.map fun v => v.category).sum ≤ 8) (hdg : decode cc pc = .ok (.invokestatic index, 3)) (hf : cells + mc ≤ R.cells ∧ slots + ms ≤ R.slots)
    (kk : ∀ (H1 : Heap) (locs1 : List Loc), va_P D cl ws2 H1 → va_D A ws2 → va_S A H0 H1 locs1 → W p l e R s m args below meth c H1 locs1 (cells + mc) (slots + ms) Q (F0 m (pc + 3) ls (.int v :: rest))) : W p l e R s m args below meth c H locs cells slots Q (F0 m pc ls st0) := by
  have hFc := va_free (wc := wc) hD hS hA isC hC
  refine va_calli (vx_runSW (As := As) (rest := rest) S (hM H.size) cw (qx_pre qZ2_ok hK hP hD hFc (qZ2_ok.2.1 _ _ _ _ hS.2.1 hz) isC hC hnC) rfl hnn hsize hstack (lv_room hW) hdg hf) hS (fun q _ h => hFc q h) hFc (fun r u t H1 locs1 ht hvm hw hB hz1 hk1 hS1 => ?_)
  obtain ⟨hP1, hK1, hD1⟩ := hB
  rw [ht] at hP1
  obtain ⟨h1, h2⟩ := qr_back (ws2 := ws2) hP hD isC isR isO hC hR hn.1 hn.2 hO hnO hk1 hFc hP1 hD1
  subst hw
  exact kk H1 locs1 h1 h2 hS1
end Calls
end QHE
