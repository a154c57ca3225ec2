section QX
/-! contracts of methods that may throw: 'ex' says which exception (none: it returns); a call that throws leaves its cells as they were -/
def qPx (Z : (Nat → Prop) → State → Heap → Prop) (D : va_G) (cl : List vw_C) (tys : List (ClassId × FieldType)) (av : List Value) (sz : Nat) (w : va_W) : Array Value → State → Prop := va_Pc av (fun U => U.heap.size = sz ∧ va_P D cl w U.heap ∧ va_K D cl tys U ∧ va_D (fun _ => True) w ∧ Z (va_A w sz) U U.heap)
def qXc (D : va_G) (cl : List vw_C) (tys : List (ClassId × FieldType)) (sz : Nat) (w : va_W) (ex : Option String) : String → State → State → Prop := vx_X (fun (_ : Unit) => True) (fun E _ t => ex = some E ∧ va_P D cl w t.heap ∧ va_K D cl tys t ∧ va_D (va_A w sz) w) (va_A w sz)
def qXi (Z : (Nat → Prop) → State → Heap → Prop) (l : Launch) (y : MethodName) (ws : List Cond) (rm : Room) (D : va_G) (cl : List vw_C) (tys : List (ClassId × FieldType)) (av : List Value) (w w1 : va_W) (ex : Option String) (v : Int32) (mc ms : Nat) : Prop :=
  ∀ sz : Nat, vx_Met l y ws rm (qPx Z D cl tys av sz w) (va_Qi (fun (r : Int32) (_ : Unit) => ex = none ∧ r = v) (qB D cl tys sz w w1) (va_A w sz)) (qXc D cl tys sz w ex) mc ms (va_A w sz)
def qXl (Z : (Nat → Prop) → State → Heap → Prop) (l : Launch) (y : MethodName) (ws : List Cond) (rm : Room) (D : va_G) (cl : List vw_C) (tys : List (ClassId × FieldType)) (av : List Value) (w w1 : va_W) (ex : Option String) (v : Int64) (mc ms : Nat) : Prop :=
  ∀ sz : Nat, vx_Met l y ws rm (qPx Z D cl tys av sz w) (va_Ql (fun (r : Int64) (_ : Unit) => ex = none ∧ r = v) (qB D cl tys sz w w1) (va_A w sz)) (qXc D cl tys sz w ex) mc ms (va_A w sz)
def qXv (Z : (Nat → Prop) → State → Heap → Prop) (l : Launch) (y : MethodName) (ws : List Cond) (rm : Room) (D : va_G) (cl : List vw_C) (tys : List (ClassId × FieldType)) (av : List Value) (w w1 : va_W) (ex : Option String) (mc ms : Nat) : Prop :=
  ∀ sz : Nat, vx_Met l y ws rm (qPx Z D cl tys av sz w) (va_Qv (fun (_ : Unit) => ex = none) (qB D cl tys sz w w1) (va_A w sz)) (qXc D cl tys sz w ex) mc ms (va_A w sz)
/-- what the premises of a throw must stand: another stack, a warmer machine, other cells, fewer cells to change -/
def qZok (Z : (Nat → Prop) → State → Heap → Prop) : Prop := (∀ (A : Nat → Prop) (u U : State) (H : Heap), u.WarmedH U.vm → Z A u H → Z A U H) ∧ (∀ (A : Nat → Prop) (U : State) (H H1 : Heap), (∀ a : Nat, a < H.size → ¬ A a → H1[a]? = H[a]?) → Z A U H → Z A U H1) ∧ (∀ (A B : Nat → Prop) (U : State) (H : Heap), (∀ q, B q → A q) → Z A U H → Z B U H)
theorem qPx_blind {Z : (Nat → Prop) → State → Heap → Prop} (hZ : qZok Z) {D : va_G} {cl : List vw_C} {tys : List (ClassId × FieldType)} {av : List Value} {sz : Nat} {w : va_W} : FrameBlind (qPx Z D cl tys av sz w) := fun a U g mk q => by
  obtain ⟨q0, q1, qP, qK, qD, qZ⟩ := q
  exact ⟨q0, q1, qP, va_K.moved (u := U) (U := U.calling g mk a) (Vm.Alike.refl U.vm) qK, qD, hZ.1 _ _ _ _ (State.WarmedH.refl U) qZ⟩
section Bodies
variable {Z : (Nat → Prop) → State → Heap → Prop} {l : Launch} {D : va_G} {cl : List vw_C} {tys : List (ClassId × FieldType)} {y : MethodName} {ws ws' : List Cond} {rm : Room} {cc : ByteArray} {maxL mc ms : Nat} {av : List Value} {w w1 : va_W} {ex : Option String}
theorem qx_v (hy : plainName y.cls = true) (hw : ws = Cond.code y cc maxL (none) :: ws') (hn : (lg_sl av).length ≤ maxL)
    (body : ∀ (p : Program) (e : Env) (s : State) (m : MethodId) (args : Array Value) (below : List Frame) (meth : Method) (c : Code) (Q : State → Prop) (A : Nat → Prop) (ls : Array Slot),
      p.tables.exec = Jvm.exec → c.code = cc → c.maxLocals = maxL → s.vm.findClass y.cls = some m.cls → meth.name = y.name → (∀ w ∈ ws', w.before args s = true) → (∀ q, s.heap.size ≤ q → A q) → va_K D cl tys s → va_P D cl w s.heap → va_D A w → va_S A s.heap s.heap [] → lv_has ls maxL (lv_args 0 av) → Z A s s.heap →
      (∀ {H : Heap} {locs : List Loc} {cells slots pc : Nat} {ls : Array Slot}, va_P D cl w1 H → va_D A w1 → va_S A s.heap H locs → cells ≤ mc → slots ≤ ms → ex = none → decode cc pc = .ok (.return_, 1) → W p l e rm s m args below meth c H locs cells slots Q (F0 m pc ls [])) →
      (∀ {H : Heap} {locs : List Loc} {cells slots pc q : Nat} {ls : Array Slot} {rest : List Value} {ce : Cell} {E : String}, va_P D cl w H → va_D A w → va_S A s.heap H locs → cells ≤ mc → slots ≤ ms → ex = some E → H[q]? = some ce → ce.vm = .none → s.vm.findClass E = some ce.cls → vx_W p l e rm s m args below meth c H locs cells slots Q (F0 m pc ls rest) q) →
      (Q = vx_MQ below (va_Qv (fun (_ : Unit) => ex = none) (qB D cl tys s.heap.size w w1) (va_A w s.heap.size)) (qXc D cl tys s.heap.size w ex) args s mc ms (va_A w s.heap.size) ∧ A = va_A w s.heap.size ∧ meth.locks = false ∧ ∀ x ∈ c.exceptionTable.toList, False) →
      W p l e rm s m args below meth c s.heap [] 0 0 Q (F0 m 0 ls [])) : qXv Z l y ws rm D cl tys av w w1 ex mc ms := by
  intro sz
  refine vx_ofW (cc := cc) (maxL := maxL) (ret := none) hy hw ?_
  intro p e s m args below meth c s₁ B hml hEx hv
  obtain ⟨rfl, rfl, hP, hK, hD0, hZ⟩ := hv
  have hlocks := B.notSynchronized
  have hr := B.returns
  have hl := lv_entry av (n := maxL) hn
  rw [lg_entry_eq]
  refine body p e s m av.toArray below meth c _ (va_A w s.heap.size) _ B.exec B.bytes hml (findClass_of_methodNamed B.named) (name_of_methodNamed B.named B.method).1 (fun w h => atoms_spec (ws := ws) B.pre w (by rw [hw]; exact List.mem_cons_of_mem _ h)) (fun q h => Or.inr h) hK hP hD0.self va_S.rf hl hZ ?_ ?_ ⟨rfl, rfl, hlocks, hEx⟩
  · intro H locs cells slots pc ls hP hD hS h1 h2 hex hd
    refine W.widen (k := mc) (n := ms) h1 h2 (vx_ret ?_)
    exact W.vret B.exec B.bytes hr (fun t ht hW => ⟨⟨(), rfl, hex, by rw [ht]; exact hP, va_K.moved hW.alike hK, hD⟩, hS.F ht⟩) hS.2.2 hd
  · intro H locs cells slots pc q ls rest ce E hP hD hS h1 h2 hex hce hcv hcl
    exact vx_out (fun x hx => (hEx x hx).elim) hlocks hce hcv hcl (fun t ht ha => ⟨(), trivial, ⟨hex, by rw [ht]; exact hP, va_K.moved ha hK, hD⟩, hS.F ht⟩) hS.2.2 h1 h2
theorem qx_i {v : Int32} (hy : plainName y.cls = true) (hw : ws = Cond.code y cc maxL (some .int) :: ws') (hn : (lg_sl av).length ≤ maxL)
    (body : ∀ (p : Program) (e : Env) (s : State) (m : MethodId) (args : Array Value) (below : List Frame) (meth : Method) (c : Code) (Q : State → Prop) (A : Nat → Prop) (ls : Array Slot),
      p.tables.exec = Jvm.exec → c.code = cc → c.maxLocals = maxL → s.vm.findClass y.cls = some m.cls → meth.name = y.name → (∀ w ∈ ws', w.before args s = true) → (∀ q, s.heap.size ≤ q → A q) → va_K D cl tys s → va_P D cl w s.heap → va_D A w → va_S A s.heap s.heap [] → lv_has ls maxL (lv_args 0 av) → Z A s s.heap →
      (∀ {H : Heap} {locs : List Loc} {cells slots pc : Nat} {ls : Array Slot} {r : Int32}, va_P D cl w1 H → va_D A w1 → va_S A s.heap H locs → cells ≤ mc → slots ≤ ms → ex = none → r = v → decode cc pc = .ok (.ireturn, 1) → W p l e rm s m args below meth c H locs cells slots Q (F0 m pc ls [.int r])) →
      (∀ {H : Heap} {locs : List Loc} {cells slots pc q : Nat} {ls : Array Slot} {rest : List Value} {ce : Cell} {E : String}, va_P D cl w H → va_D A w → va_S A s.heap H locs → cells ≤ mc → slots ≤ ms → ex = some E → H[q]? = some ce → ce.vm = .none → s.vm.findClass E = some ce.cls → vx_W p l e rm s m args below meth c H locs cells slots Q (F0 m pc ls rest) q) →
      (Q = vx_MQ below (va_Qi (fun (r : Int32) (_ : Unit) => ex = none ∧ r = v) (qB D cl tys s.heap.size w w1) (va_A w s.heap.size)) (qXc D cl tys s.heap.size w ex) args s mc ms (va_A w s.heap.size) ∧ A = va_A w s.heap.size ∧ meth.locks = false ∧ ∀ x ∈ c.exceptionTable.toList, False) →
      W p l e rm s m args below meth c s.heap [] 0 0 Q (F0 m 0 ls [])) : qXi Z l y ws rm D cl tys av w w1 ex v mc ms := by
  intro sz
  refine vx_ofW (cc := cc) (maxL := maxL) (ret := some .int) hy hw ?_
  intro p e s m args below meth c s₁ B hml hEx hv
  obtain ⟨rfl, rfl, hP, hK, hD0, hZ⟩ := hv
  have hlocks := B.notSynchronized
  have hr := B.returns
  have hl := lv_entry av (n := maxL) hn
  rw [lg_entry_eq]
  refine body p e s m av.toArray below meth c _ (va_A w s.heap.size) _ B.exec B.bytes hml (findClass_of_methodNamed B.named) (name_of_methodNamed B.named B.method).1 (fun w h => atoms_spec (ws := ws) B.pre w (by rw [hw]; exact List.mem_cons_of_mem _ h)) (fun q h => Or.inr h) hK hP hD0.self va_S.rf hl hZ ?_ ?_ ⟨rfl, rfl, hlocks, hEx⟩
  · intro H locs cells slots pc ls r hP hD hS h1 h2 hex hrv hd
    refine W.widen (k := mc) (n := ms) h1 h2 (vx_ret ?_)
    exact W.iret (v := r) B.exec B.bytes hr (fun t ht hW => ⟨⟨r, (), rfl, ⟨hex, hrv⟩, by rw [ht]; exact hP, va_K.moved hW.alike hK, hD⟩, hS.F ht⟩) hS.2.2 hd
  · intro H locs cells slots pc q ls rest ce E hP hD hS h1 h2 hex hce hcv hcl
    exact vx_out (fun x hx => (hEx x hx).elim) hlocks hce hcv hcl (fun t ht ha => ⟨(), trivial, ⟨hex, by rw [ht]; exact hP, va_K.moved ha hK, hD⟩, hS.F ht⟩) hS.2.2 h1 h2
theorem qx_l {v : Int64} (hy : plainName y.cls = true) (hw : ws = Cond.code y cc maxL (some .long) :: ws') (hn : (lg_sl av).length ≤ maxL)
    (body : ∀ (p : Program) (e : Env) (s : State) (m : MethodId) (args : Array Value) (below : List Frame) (meth : Method) (c : Code) (Q : State → Prop) (A : Nat → Prop) (ls : Array Slot),
      p.tables.exec = Jvm.exec → c.code = cc → c.maxLocals = maxL → s.vm.findClass y.cls = some m.cls → meth.name = y.name → (∀ w ∈ ws', w.before args s = true) → (∀ q, s.heap.size ≤ q → A q) → va_K D cl tys s → va_P D cl w s.heap → va_D A w → va_S A s.heap s.heap [] → lv_has ls maxL (lv_args 0 av) → Z A s s.heap →
      (∀ {H : Heap} {locs : List Loc} {cells slots pc : Nat} {ls : Array Slot} {r : Int64}, va_P D cl w1 H → va_D A w1 → va_S A s.heap H locs → cells ≤ mc → slots ≤ ms → ex = none → r = v → decode cc pc = .ok (.lreturn, 1) → W p l e rm s m args below meth c H locs cells slots Q (F0 m pc ls [.long r])) →
      (∀ {H : Heap} {locs : List Loc} {cells slots pc q : Nat} {ls : Array Slot} {rest : List Value} {ce : Cell} {E : String}, va_P D cl w H → va_D A w → va_S A s.heap H locs → cells ≤ mc → slots ≤ ms → ex = some E → H[q]? = some ce → ce.vm = .none → s.vm.findClass E = some ce.cls → vx_W p l e rm s m args below meth c H locs cells slots Q (F0 m pc ls rest) q) →
      (Q = vx_MQ below (va_Ql (fun (r : Int64) (_ : Unit) => ex = none ∧ r = v) (qB D cl tys s.heap.size w w1) (va_A w s.heap.size)) (qXc D cl tys s.heap.size w ex) args s mc ms (va_A w s.heap.size) ∧ A = va_A w s.heap.size ∧ meth.locks = false ∧ ∀ x ∈ c.exceptionTable.toList, False) →
      W p l e rm s m args below meth c s.heap [] 0 0 Q (F0 m 0 ls [])) : qXl Z l y ws rm D cl tys av w w1 ex v mc ms := by
  intro sz
  refine vx_ofW (cc := cc) (maxL := maxL) (ret := some .long) hy hw ?_
  intro p e s m args below meth c s₁ B hml hEx hv
  obtain ⟨rfl, rfl, hP, hK, hD0, hZ⟩ := hv
  have hlocks := B.notSynchronized
  have hr := B.returns
  have hl := lv_entry av (n := maxL) hn
  rw [lg_entry_eq]
  refine body p e s m av.toArray below meth c _ (va_A w s.heap.size) _ B.exec B.bytes hml (findClass_of_methodNamed B.named) (name_of_methodNamed B.named B.method).1 (fun w h => atoms_spec (ws := ws) B.pre w (by rw [hw]; exact List.mem_cons_of_mem _ h)) (fun q h => Or.inr h) hK hP hD0.self va_S.rf hl hZ ?_ ?_ ⟨rfl, rfl, hlocks, hEx⟩
  · intro H locs cells slots pc ls r hP hD hS h1 h2 hex hrv hd
    refine W.widen (k := mc) (n := ms) h1 h2 (vx_ret ?_)
    exact W.lret (v := r) B.exec B.bytes hr (fun t ht hW => ⟨⟨r, (), rfl, ⟨hex, hrv⟩, by rw [ht]; exact hP, va_K.moved hW.alike hK, hD⟩, hS.F ht⟩) hS.2.2 hd
  · intro H locs cells slots pc q ls rest ce E hP hD hS h1 h2 hex hce hcv hcl
    exact vx_out (fun x hx => (hEx x hx).elim) hlocks hce hcv hcl (fun t ht ha => ⟨(), trivial, ⟨hex, by rw [ht]; exact hP, va_K.moved ha hK, hD⟩, hS.F ht⟩) hS.2.2 h1 h2
end Bodies
section Calls
variable {p : Program} {l : Launch} {e : Env} {R : Room} {s : State} {m : MethodId} {args : Array Value} {below : List Frame} {meth : Method} {c : Code} {H : Heap} {locs : List Loc} {cells slots : Nat} {Q : State → Prop}
variable {cc : ByteArray} {pc : Nat} {ls : Array Slot} {rest : List Value} {D : va_G} {cl : List vw_C} {A : Nat → Prop} {a : Nat} {tys : List (ClassId × FieldType)} {ws : va_W} {H0 : Heap}
variable {wc wr w1 ws2 : va_W} {y : MethodName} {bytes : ByteArray} {maxL nL mc ms n index ci q0 : Nat} {ret : Option FieldType} {wsy Ts : List Cond} {rm : Room} {own C : String} {b : Nat} {As st0 : List Value} {fs : List Value} {CT : u_T × Nat} {Z : (Nat → Prop) → State → Heap → Prop} {ex : Option String}
theorem qx_pre {As : List Value} (hZ : qZok Z) (hK : va_K D cl tys s) (hP : va_P D cl ws H) (hD : va_D A ws) (hFc : ∀ q, va_A wc H.size q → A q) (hz : Z A s H) (isC : List Nat) (hC : isC.map (fun i => ws[i]?) = wc.map some) (hnC : va_nd isC = true) : PreS s H (qPx Z D cl tys As H.size wc) As :=
  ⟨qPx_blind hZ, fun U hU hW => ⟨rfl, by rw [hU], by rw [hU]; exact hP.sub isC (qr_fm hC), va_K.moved hW.alike hK, (hD.sub isC hnC hC).weaken (fun _ _ _ _ => trivial), by rw [hU]; exact hZ.1 _ _ _ _ hW (hZ.2.2 _ _ _ _ hFc hz)⟩⟩
theorem qx_callVv (hZ : qZok Z) (hz : Z A s H0) (S : CallFix p m c cc nL s args Ts own) (hM : qXv Z l y wsy rm D cl tys (.ref b :: As) wc w1 ex mc ms) (cw : CallW R s args own C index y bytes maxL ret wsy rm mc ms n) (hK : va_K D cl tys s) (hP : va_P D cl ws H) (hD : va_D A ws) (hS : va_S A H0 H locs) (hA : ∀ q, H0.size ≤ q → A q) (hcl : cl[ci]? = some (C, CT)) (he : ws[q0]? = some (b, .inr (ci, fs))) 
    (isC isR isO : List Nat) (hC : isC.map (fun i => ws[i]?) = wc.map some) (hR : isR.map (fun i => ws[i]?) = wr.map some) (hnC : va_nd isC = true) (hn : va_nd isR = true ∧ ∀ i ∈ isR, i ∉ isC) (hO : isO.map (fun i => (wr ++ w1)[i]?) = ws2.map some) (hI : isO.map (fun i => (wr ++ wc)[i]?) = ws.map some) (hnO : va_nd isO = true) (hnn : As.length = n) (hsize : ls.size = nL) (hstack : st0 = As.reverse ++ .ref b :: rest) (hW : (rest.map fun v => v.category).sum ≤ 8) (hdg : decode cc pc = .ok (.invokevirtual index, 3)) (hf : cells + mc ≤ R.cells ∧ slots + ms ≤ R.slots)
    (kx : ∀ (E : String) (ce : Cell) (q9 : Addr) (H1 : Heap) (locs1 : List Loc), ex = some E → va_P D cl ws H1 → va_D A ws → va_S A H0 H1 locs1 → H1[q9]? = some ce → ce.vm = .none → s.vm.findClass E = some ce.cls → vx_W p l e R s m args below meth c H1 locs1 (cells + mc) (slots + ms) Q (F0 m pc ls rest) q9)
    (kk : ∀ (H1 : Heap) (locs1 : List Loc), ex = none → va_P D cl ws2 H1 → va_D A ws2 → va_S A H0 H1 locs1 → W p l e R s m args below meth c H1 locs1 (cells + mc) (slots + ms) Q (F0 m (pc + 3) ls rest)) : W p l e R s m args below meth c H locs cells slots Q (F0 m pc ls st0) := by
  have hFc := va_free (wc := wc) hD hS hA isC hC
  refine vx_callv (vx_runV (As := As) (rest := rest) S (hM H.size) cw ⟨qPx_blind hZ, va_recv hK hP hcl he, (qx_pre hZ hK hP hD hFc (hZ.2.1 _ _ _ _ hS.2.1 hz) isC hC hnC).2⟩ rfl hnn hsize hstack (lv_room hW) hdg hf) hS (fun q _ h => hFc q h) hFc (fun q _ h => hFc q h) (fun E ce q9 u t H1 locs1 ht hvm hw hB hz1 hk1 hS1 hce hcv hcl9 => ?_) (fun u t H1 locs1 ht hvm hw hB hz1 hk1 hS1 => ?_)
  · obtain ⟨hex, hP1, hK1, hD1⟩ := hB
    rw [ht] at hP1
    obtain ⟨h1, h2⟩ := qr_back (ws2 := ws) hP hD isC isR isO hC hR hn.1 hn.2 hI hnO hk1 hFc hP1 hD1
    exact kx E ce q9 H1 locs1 hex h1 h2 hS1 hce hcv hcl9
  · obtain ⟨hP1, hK1, hD1⟩ := hB
    rw [ht] at hP1
    obtain ⟨h1, h2⟩ := qr_back (ws2 := ws2) hP hD isC isR isO hC hR hn.1 hn.2 hO hnO hk1 hFc hP1 hD1
    exact kk H1 locs1 hw h1 h2 hS1
theorem qx_callVi {v : Int32} (hZ : qZok Z) (hz : Z A s H0) (S : CallFix p m c cc nL s args Ts own) (hM : qXi Z l y wsy rm D cl tys (.ref b :: As) wc w1 ex v mc ms) (cw : CallW R s args own C index y bytes maxL ret wsy rm mc ms n) (hK : va_K D cl tys s) (hP : va_P D cl ws H) (hD : va_D A ws) (hS : va_S A H0 H locs) (hA : ∀ q, H0.size ≤ q → A q) (hcl : cl[ci]? = some (C, CT)) (he : ws[q0]? = some (b, .inr (ci, fs))) 
    (isC isR isO : List Nat) (hC : isC.map (fun i => ws[i]?) = wc.map some) (hR : isR.map (fun i => ws[i]?) = wr.map some) (hnC : va_nd isC = true) (hn : va_nd isR = true ∧ ∀ i ∈ isR, i ∉ isC) (hO : isO.map (fun i => (wr ++ w1)[i]?) = ws2.map some) (hI : isO.map (fun i => (wr ++ wc)[i]?) = ws.map some) (hnO : va_nd isO = true) (hnn : As.length = n) (hsize : ls.size = nL) (hstack : st0 = As.reverse ++ .ref b :: rest) (hW : (rest.map fun v => v.category).sum ≤ 8) (hdg : decode cc pc = .ok (.invokevirtual index, 3)) (hf : cells + mc ≤ R.cells ∧ slots + ms ≤ R.slots)
    (kx : ∀ (E : String) (ce : Cell) (q9 : Addr) (H1 : Heap) (locs1 : List Loc), ex = some E → va_P D cl ws H1 → va_D A ws → va_S A H0 H1 locs1 → H1[q9]? = some ce → ce.vm = .none → s.vm.findClass E = some ce.cls → vx_W p l e R s m args below meth c H1 locs1 (cells + mc) (slots + ms) Q (F0 m pc ls rest) q9)
    (kk : ∀ (H1 : Heap) (locs1 : List Loc), ex = none → va_P D cl ws2 H1 → va_D A ws2 → va_S A H0 H1 locs1 → W p l e R s m args below meth c H1 locs1 (cells + mc) (slots + ms) Q (F0 m (pc + 3) ls (.int v :: rest))) : W p l e R s m args below meth c H locs cells slots Q (F0 m pc ls st0) := by
  have hFc := va_free (wc := wc) hD hS hA isC hC
  refine vx_calli (vx_runV (As := As) (rest := rest) S (hM H.size) cw ⟨qPx_blind hZ, va_recv hK hP hcl he, (qx_pre hZ hK hP hD hFc (hZ.2.1 _ _ _ _ hS.2.1 hz) isC hC hnC).2⟩ rfl hnn hsize hstack (lv_room hW) hdg hf) hS (fun q _ h => hFc q h) hFc (fun q _ h => hFc q h) (fun E ce q9 u t H1 locs1 ht hvm hw hB hz1 hk1 hS1 hce hcv hcl9 => ?_) (fun r u t H1 locs1 ht hvm hw hB hz1 hk1 hS1 => ?_)
  · obtain ⟨hex, hP1, hK1, hD1⟩ := hB
    rw [ht] at hP1
    obtain ⟨h1, h2⟩ := qr_back (ws2 := ws) hP hD isC isR isO hC hR hn.1 hn.2 hI hnO hk1 hFc hP1 hD1
    exact kx E ce q9 H1 locs1 hex h1 h2 hS1 hce hcv hcl9
  · obtain ⟨hP1, hK1, hD1⟩ := hB
    rw [ht] at hP1
    obtain ⟨h1, h2⟩ := qr_back (ws2 := ws2) hP hD isC isR isO hC hR hn.1 hn.2 hO hnO hk1 hFc hP1 hD1
    obtain ⟨hex, hw⟩ := hw
    subst hw
    exact kk H1 locs1 hex h1 h2 hS1
theorem qx_callVl {v : Int64} (hZ : qZok Z) (hz : Z A s H0) (S : CallFix p m c cc nL s args Ts own) (hM : qXl Z l y wsy rm D cl tys (.ref b :: As) wc w1 ex v mc ms) (cw : CallW R s args own C index y bytes maxL ret wsy rm mc ms n) (hK : va_K D cl tys s) (hP : va_P D cl ws H) (hD : va_D A ws) (hS : va_S A H0 H locs) (hA : ∀ q, H0.size ≤ q → A q) (hcl : cl[ci]? = some (C, CT)) (he : ws[q0]? = some (b, .inr (ci, fs))) 
    (isC isR isO : List Nat) (hC : isC.map (fun i => ws[i]?) = wc.map some) (hR : isR.map (fun i => ws[i]?) = wr.map some) (hnC : va_nd isC = true) (hn : va_nd isR = true ∧ ∀ i ∈ isR, i ∉ isC) (hO : isO.map (fun i => (wr ++ w1)[i]?) = ws2.map some) (hI : isO.map (fun i => (wr ++ wc)[i]?) = ws.map some) (hnO : va_nd isO = true) (hnn : As.length = n) (hsize : ls.size = nL) (hstack : st0 = As.reverse ++ .ref b :: rest) (hW : (rest.map fun v => v.category).sum ≤ 8) (hdg : decode cc pc = .ok (.invokevirtual index, 3)) (hf : cells + mc ≤ R.cells ∧ slots + ms ≤ R.slots)
    (kx : ∀ (E : String) (ce : Cell) (q9 : Addr) (H1 : Heap) (locs1 : List Loc), ex = some E → va_P D cl ws H1 → va_D A ws → va_S A H0 H1 locs1 → H1[q9]? = some ce → ce.vm = .none → s.vm.findClass E = some ce.cls → vx_W p l e R s m args below meth c H1 locs1 (cells + mc) (slots + ms) Q (F0 m pc ls rest) q9)
    (kk : ∀ (H1 : Heap) (locs1 : List Loc), ex = none → va_P D cl ws2 H1 → va_D A ws2 → va_S A H0 H1 locs1 → W p l e R s m args below meth c H1 locs1 (cells + mc) (slots + ms) Q (F0 m (pc + 3) ls (.long v :: rest))) : W p l e R s m args below meth c H locs cells slots Q (F0 m pc ls st0) := by
  have hFc := va_free (wc := wc) hD hS hA isC hC
  refine vx_calll (vx_runV (As := As) (rest := rest) S (hM H.size) cw ⟨qPx_blind hZ, va_recv hK hP hcl he, (qx_pre hZ hK hP hD hFc (hZ.2.1 _ _ _ _ hS.2.1 hz) isC hC hnC).2⟩ rfl hnn hsize hstack (lv_room hW) hdg hf) hS (fun q _ h => hFc q h) hFc (fun q _ h => hFc q h) (fun E ce q9 u t H1 locs1 ht hvm hw hB hz1 hk1 hS1 hce hcv hcl9 => ?_) (fun r u t H1 locs1 ht hvm hw hB hz1 hk1 hS1 => ?_)
  · obtain ⟨hex, hP1, hK1, hD1⟩ := hB
    rw [ht] at hP1
    obtain ⟨h1, h2⟩ := qr_back (ws2 := ws) hP hD isC isR isO hC hR hn.1 hn.2 hI hnO hk1 hFc hP1 hD1
    exact kx E ce q9 H1 locs1 hex h1 h2 hS1 hce hcv hcl9
  · obtain ⟨hP1, hK1, hD1⟩ := hB
    rw [ht] at hP1
    obtain ⟨h1, h2⟩ := qr_back (ws2 := ws2) hP hD isC isR isO hC hR hn.1 hn.2 hO hnO hk1 hFc hP1 hD1
    obtain ⟨hex, hw⟩ := hw
    subst hw
    exact kk H1 locs1 hex h1 h2 hS1
theorem qx_callSv (hZ : qZok Z) (hz : Z A s H0) (S : CallFix p m c cc nL s args Ts own) (hM : qXv Z l y wsy rm D cl tys As wc w1 ex mc ms) (cw : CallB R s args own index y bytes maxL ret wsy rm mc ms n ∧ (Cond.static y).before args s = true) (hK : va_K D cl tys s) (hP : va_P D cl ws H) (hD : va_D A ws) (hS : va_S A H0 H locs) (hA : ∀ q, H0.size ≤ q → A q) 
    (isC isR isO : List Nat) (hC : isC.map (fun i => ws[i]?) = wc.map some) (hR : isR.map (fun i => ws[i]?) = wr.map some) (hnC : va_nd isC = true) (hn : va_nd isR = true ∧ ∀ i ∈ isR, i ∉ isC) (hO : isO.map (fun i => (wr ++ w1)[i]?) = ws2.map some) (hI : isO.map (fun i => (wr ++ wc)[i]?) = ws.map some) (hnO : va_nd isO = true) (hnn : As.length = n) (hsize : ls.size = nL) (hstack : st0 = As.reverse ++ rest) (hW : (rest.map fun v => v.category).sum ≤ 8) (hdg : decode cc pc = .ok (.invokestatic index, 3)) (hf : cells + mc ≤ R.cells ∧ slots + ms ≤ R.slots)
    (kx : ∀ (E : String) (ce : Cell) (q9 : Addr) (H1 : Heap) (locs1 : List Loc), ex = some E → va_P D cl ws H1 → va_D A ws → va_S A H0 H1 locs1 → H1[q9]? = some ce → ce.vm = .none → s.vm.findClass E = some ce.cls → vx_W p l e R s m args below meth c H1 locs1 (cells + mc) (slots + ms) Q (F0 m pc ls rest) q9)
    (kk : ∀ (H1 : Heap) (locs1 : List Loc), ex = none → va_P D cl ws2 H1 → va_D A ws2 → va_S A H0 H1 locs1 → W p l e R s m args below meth c H1 locs1 (cells + mc) (slots + ms) Q (F0 m (pc + 3) ls rest)) : W p l e R s m args below meth c H locs cells slots Q (F0 m pc ls st0) := by
  have hFc := va_free (wc := wc) hD hS hA isC hC
  refine vx_callv (vx_runS (As := As) (rest := rest) S (hM H.size) cw (qx_pre hZ hK hP hD hFc (hZ.2.1 _ _ _ _ hS.2.1 hz) isC hC hnC) rfl hnn hsize hstack (lv_room hW) hdg hf) hS (fun q _ h => hFc q h) hFc (fun q _ h => hFc q h) (fun E ce q9 u t H1 locs1 ht hvm hw hB hz1 hk1 hS1 hce hcv hcl9 => ?_) (fun u t H1 locs1 ht hvm hw hB hz1 hk1 hS1 => ?_)
  · obtain ⟨hex, hP1, hK1, hD1⟩ := hB
    rw [ht] at hP1
    obtain ⟨h1, h2⟩ := qr_back (ws2 := ws) hP hD isC isR isO hC hR hn.1 hn.2 hI hnO hk1 hFc hP1 hD1
    exact kx E ce q9 H1 locs1 hex h1 h2 hS1 hce hcv hcl9
  · obtain ⟨hP1, hK1, hD1⟩ := hB
    rw [ht] at hP1
    obtain ⟨h1, h2⟩ := qr_back (ws2 := ws2) hP hD isC isR isO hC hR hn.1 hn.2 hO hnO hk1 hFc hP1 hD1
    exact kk H1 locs1 hw h1 h2 hS1
end Calls
end QX
