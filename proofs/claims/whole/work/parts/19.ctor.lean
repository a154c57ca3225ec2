section QCT
def qZc (_ : Nat → Prop) (U : State) (_ : Heap) : Prop := va_AOA .long U ∧ va_Nw (.methodLinkNest "OutlookOdds" 9 yS_init "OutlookOdds") U ∧ va_Nw (.methodLinkNest "OutlookOdds" 32 yY_init "OutlookOdds") U
theorem qZc_ok : qZok qZc := ⟨fun A u U H hW h => ⟨over_moved hW.alike h.1, va_Nw.warmM hW h.2.1, va_Nw.warmM hW h.2.2⟩, fun _ _ _ _ _ h => h, fun _ _ _ _ _ h => h⟩
/-- a constructor: behind it the cells are W1 u, u being where the new ones lie -/
def qMc (l : Launch) (y : MethodName) (ws : List Cond) (rm : Room) (D : va_G) (cl : List vw_C) (tys : List (ClassId × FieldType)) (av : List Value) (w : va_W) (W1 : (Nat → Nat → Nat) → va_W) (mc ms : Nat) : Prop :=
  ∀ sz : Nat, Met l y ws rm (qPx qZc D cl tys av sz w) (va_Qv (fun (_ : Nat → Nat → Nat) => True) (fun u t => va_P D cl (W1 u) t.heap ∧ va_K D cl tys t ∧ va_D (va_A w sz) (W1 u)) (va_A w sz)) mc ms (va_A w sz)
theorem qm_c {l : Launch} {D : va_G} {cl : List vw_C} {tys : List (ClassId × FieldType)} {y : MethodName} {ws ws' : List Cond} {rm : Room} {cc : ByteArray} {maxL mc ms : Nat} {av : List Value} {w : va_W} {W1 : (Nat → Nat → Nat) → va_W} (hy : plainName y.cls = true) (hw : ws = Cond.code y cc maxL none :: ws') (hn : (lg_sl av).length ≤ maxL)
    (body : ∀ (p : Program) (e : Env) (s : State) (m : MethodId) (args : Array Value) (below : List Frame) (meth : Method) (c : Code) (Q : State → Prop) (A : Nat → Prop) (ls : Array Slot),
      p.tables.exec = Jvm.exec → c.code = cc → c.maxLocals = maxL → s.vm.findClass y.cls = some m.cls → meth.name = y.name → (∀ w ∈ ws', w.before args s = true) → (∀ q, s.heap.size ≤ q → A q) → va_K D cl tys s → va_P D cl w s.heap → va_D A w → va_S A s.heap s.heap [] → lv_has ls maxL (lv_args 0 av) → qZc A s s.heap →
      (∀ (u : Nat → Nat → Nat) {H : Heap} {locs : List Loc} {cells slots pc : Nat} {ls : Array Slot}, va_P D cl (W1 u) H → va_D A (W1 u) → va_S A s.heap H locs → cells ≤ mc → slots ≤ ms → decode cc pc = .ok (.return_, 1) → W p l e rm s m args below meth c H locs cells slots Q (F0 m pc ls [])) →
      W p l e rm s m args below meth c s.heap [] 0 0 Q (F0 m 0 ls [])) : qMc l y ws rm D cl tys av w W1 mc ms := by
  intro sz
  refine Met.ofW (cc := cc) (maxL := maxL) (ret := none) hy hw ?_
  intro p e s m args below meth c s₁ B hml hv
  obtain ⟨rfl, rfl, hP, hK, hD0, hZ⟩ := hv
  have hlocks := B.notSynchronized
  have hr := B.returns
  have hl := lv_entry av (n := maxL) hn
  rw [lg_entry_eq]
  refine body p e s m av.toArray below meth c _ (va_A w s.heap.size) _ B.exec B.bytes hml (findClass_of_methodNamed B.named) (name_of_methodNamed B.named B.method).1 (fun w h => atoms_spec (ws := ws) B.pre w (by rw [hw]; exact List.mem_cons_of_mem _ h)) (fun q h => Or.inr h) hK hP hD0.self va_S.rf hl hZ ?_
  intro u H locs cells slots pc ls hP hD hS h1 h2 hd
  refine W.widen (k := mc) (n := ms) h1 h2 ?_
  exact W.vret B.exec B.bytes hr (fun t ht hW => ⟨⟨u, rfl, trivial, by rw [ht]; exact hP, va_K.moved hW.alike hK, hD⟩, hS.F ht⟩) hS.2.2 hd
section Rows
variable {p : Program} {l : Launch} {e : Env} {R : Room} {s : State} {m : MethodId} {args : Array Value} {below : List Frame} {meth : Method} {c : Code} {H : Heap} {locs : List Loc} {cells slots : Nat} {Q : State → Prop}
variable {cc : ByteArray} {pc : Nat} {ls : Array Slot} {rest : List Value} {D : va_G} {cl : List vw_C} {A : Nat → Prop} {a : Nat} {tys : List (ClassId × FieldType)} {ws : va_W} {H0 : Heap}
theorem qr_same {cA cT : ClassId} {ty : FieldType} {t0 : Nat} (hK : va_K D cl tys s) (hK' : va_K D cl (tys ++ [(cA, ty)]) s) (ht : tys[t0]? = some (cT, ty)) (h : ∀ c, va_RA s c ty → s.vm.findClass ("[" ++ ty.toString) = some c) : cA = cT := by
  have h1 := h _ (hK.2 t0 _ ht).2
  have h2 := h _ (hK'.2 tys.length (cA, ty) (by rw [List.getElem?_append_right (Nat.le_refl _), Nat.sub_self]; rfl)).2
  exact Option.some.inj (h2.symm.trans h1)
theorem qr_newI (hexec : p.tables.exec = Jvm.exec) (hb : c.code = cc) (harr : (Cond.arrayClass .int).before args s = true) (hK : va_K D cl tys s) (hP : va_P D cl ws H) (hD : va_D A ws) (hS : va_S A H0 H locs) (hA : ∀ q, H0.size ≤ q → A q) {cT : ClassId} (t0 : Nat) (ht : tys[t0]? = some (cT, .int))
    {n : Int32} {N' : Nat} (hn : ¬ n < 0) (hN : n.toNatClampNeg = N') (hbytes : N' * componentBytes .int ≤ 536870912) (hcells : cells + 1 ≤ R.cells) (hslots : slots + N' ≤ R.slots) (hdg : decode cc pc = .ok (.newarray .int, 2))
    (kk : ∀ (q : Nat) (H1 : Heap), va_P D cl (ws ++ [(q, .inl (cT, N', .inl (fun _ => 0)))]) H1 → va_D A (ws ++ [(q, .inl (cT, N', .inl (fun _ => 0)))]) → va_S A H0 H1 locs →
      W p l e R s m args below meth c H1 locs (cells + 1) (slots + N') Q (F0 m (pc + 2) ls (.ref q :: rest))) : W p l e R s m args below meth c H locs cells slots Q (F0 m pc ls (.int n :: rest)) := by
  refine va_newa (atype := .int) (ty := .int) (a0 := (N', .inl (fun _ => 0))) hexec hb harr rfl hK hP hD hS hA (fun cA => rfl) hn hN hbytes hcells hslots hdg (fun q cA H1 hK' hP hD hS => ?_)
  have e := qr_same hK hK' ht (fun c h => h)
  subst e
  exact kk q H1 hP hD hS
theorem qr_newJ (hexec : p.tables.exec = Jvm.exec) (hb : c.code = cc) (harr : (Cond.arrayClass .long).before args s = true) (hK : va_K D cl tys s) (hP : va_P D cl ws H) (hD : va_D A ws) (hS : va_S A H0 H locs) (hA : ∀ q, H0.size ≤ q → A q) {cT : ClassId} (t0 : Nat) (ht : tys[t0]? = some (cT, .long))
    {n : Int32} {N' : Nat} (hn : ¬ n < 0) (hN : n.toNatClampNeg = N') (hbytes : N' * componentBytes .long ≤ 536870912) (hcells : cells + 1 ≤ R.cells) (hslots : slots + N' ≤ R.slots) (hdg : decode cc pc = .ok (.newarray .long, 2))
    (kk : ∀ (q : Nat) (H1 : Heap), va_P D cl (ws ++ [(q, .inl (cT, N', .inr (.inl (fun _ => 0))))]) H1 → va_D A (ws ++ [(q, .inl (cT, N', .inr (.inl (fun _ => 0))))]) → va_S A H0 H1 locs →
      W p l e R s m args below meth c H1 locs (cells + 1) (slots + N') Q (F0 m (pc + 2) ls (.ref q :: rest))) : W p l e R s m args below meth c H locs cells slots Q (F0 m pc ls (.int n :: rest)) := by
  refine va_newa (atype := .long) (ty := .long) (a0 := (N', .inr (.inl (fun _ => 0)))) hexec hb harr rfl hK hP hD hS hA (fun cA => rfl) hn hN hbytes hcells hslots hdg (fun q cA H1 hK' hP hD hS => ?_)
  have e := qr_same hK hK' ht (fun c h => h)
  subst e
  exact kk q H1 hP hD hS
theorem qr_mna (hexec : p.tables.exec = Jvm.exec) (hb : c.code = cc) {own : String} {index : Nat} {cR cG : ClassId} (hown : s.vm.findClass own = some m.cls) (hclink : (Cond.classLink own index "[[J").before args s = true) (hover : va_AOA .long s) (harr : (Cond.arrayClass .long).before args s = true)
    (hK : va_K D cl tys s) (hP : va_P D cl ws H) (hD : va_D A ws) (hS : va_S A H0 H locs) (hA : ∀ q, H0.size ≤ q → A q) (t1 t2 : Nat) (ht1 : tys[t1]? = some (cR, .long)) (ht2 : tys[t2]? = some (cG, .array .long)) (hcells : cells + 5 ≤ R.cells) (hslots : slots + 1284 ≤ R.slots) (hdg : decode cc pc = .ok (.multianewarray index 2, 4))
    (kk : ∀ (q : Nat) (r : Nat → Nat) (H1 : Heap), va_P D cl (ws ++ [(q, .inl (cG, 4, .inr (.inr (.inr (.inr (pf_gf r)))))), (r 0, .inl (cR, 320, .inr (.inl (fun _ => 0)))), (r 1, .inl (cR, 320, .inr (.inl (fun _ => 0)))), (r 2, .inl (cR, 320, .inr (.inl (fun _ => 0)))), (r 3, .inl (cR, 320, .inr (.inl (fun _ => 0))))]) H1 → va_D A (ws ++ [(q, .inl (cG, 4, .inr (.inr (.inr (.inr (pf_gf r)))))), (r 0, .inl (cR, 320, .inr (.inl (fun _ => 0)))), (r 1, .inl (cR, 320, .inr (.inl (fun _ => 0)))), (r 2, .inl (cR, 320, .inr (.inl (fun _ => 0)))), (r 3, .inl (cR, 320, .inr (.inl (fun _ => 0))))]) → va_S A H0 H1 locs →
      W p l e R s m args below meth c H1 locs (cells + 5) (slots + 1284) Q (F0 m (pc + 4) ls (.ref q :: rest))) : W p l e R s m args below meth c H locs cells slots Q (F0 m pc ls (.int 320 :: .int 4 :: rest)) := by
  have hP0 : va_P D cl (ws ++ va_pl [] (fun _ => .inl (cR, 320, .inr (.inl (fun _ => 0))))) H := by rw [show va_pl [] (fun _ => .inl (cR, 320, .inr (.inl (fun _ => 0)))) = ([] : va_W) from rfl, List.append_nil]; exact hP
  have hD0 : va_D A (ws ++ va_pl [] (fun _ => .inl (cR, 320, .inr (.inl (fun _ => 0))))) := by rw [show va_pl [] (fun _ => .inl (cR, 320, .inr (.inl (fun _ => 0)))) = ([] : va_W) from rfl, List.append_nil]; exact hD
  have hcy : s.vm.findClass (FieldType.array .long).toString = some cR := (hK.2 t1 _ ht1).2
  refine va_mna (ty := .long) (cy := cR) (z := (320, .inr (.inl (fun _ => 0)))) (N' := 4) (K' := 320) hexec hb hown hclink hover harr hcy hK hP0 hD0 hS hA (by decide) (by decide) (by decide) (by decide) (by decide) (by decide) (by decide) rfl rfl hcells hslots (fun c => by show ({ cls := c, slots := Array.replicate 320 (defaultValue .long), vm := .none } : Cell) = _; rw [arrV_new]; rfl) hdg ?_
  intro q r cA H1 hinj hnl hK' hP1 hD1 hS1
  have e := qr_same hK hK' ht2 (fun c h => h)
  subst e
  have hu : vr_up (fun _ => (.inl (cR, 320, .inr (.inl (fun _ => 0))) : va_E)) ((List.range 4).map r) (.inl (cR, 320, .inr (.inl (fun _ => 0)))) = fun _ => .inl (cR, 320, .inr (.inl (fun _ => 0))) := funext fun a => by unfold vr_up; split <;> rfl
  rw [hu, List.append_assoc] at hP1 hD1
  exact kk q r H1 hP1 hD1 hS1
theorem qr_ctor {wc wr : va_W} {W1 : (Nat → Nat → Nat) → va_W} {a : Array Value} {st0 : List Value} {mc ms : Nat} (hr : va_Run p l e R s m args below meth c H locs cells slots mc ms (F0 m pc ls st0) rest (va_Qv (fun (_ : Nat → Nat → Nat) => True) (fun u t => va_P D cl (W1 u) t.heap ∧ va_K D cl tys t ∧ va_D (va_A wc H.size) (W1 u)) (va_A wc H.size) a) (va_A wc H.size)) (hP : va_P D cl ws H) (hD : va_D A ws) (hS : va_S A H0 H locs) (hA : ∀ q, H0.size ≤ q → A q) (isC isR : List Nat) (hC : isC.map (fun i => ws[i]?) = wc.map some) (hR : isR.map (fun i => ws[i]?) = wr.map some) (hn : va_nd isR = true ∧ ∀ i ∈ isR, i ∉ isC)
    (kk : ∀ (u : Nat → Nat → Nat) (H1 : Heap) (locs1 : List Loc), va_P D cl (wr ++ W1 u) H1 → va_D A (wr ++ W1 u) → va_S A H0 H1 locs1 → W p l e R s m args below meth c H1 locs1 (cells + mc) (slots + ms) Q (F0 m (pc + 3) ls rest)) : W p l e R s m args below meth c H locs cells slots Q (F0 m pc ls st0) := by
  have hFc := va_free (wc := wc) hD hS hA isC hC
  refine va_callv hr hS (fun q _ h => hFc q h) hFc (fun u t H1 locs1 ht hvm hw hB hz1 hk1 hS1 => ?_)
  obtain ⟨hP1, hK1, hD1⟩ := hB
  rw [ht] at hP1
  obtain ⟨h1, h2⟩ := va_join hP hD isC isR hC hR hn.1 hn.2 hk1 hFc hP1 hD1
  exact kk u H1 locs1 h1 h2 hS1
end Rows
end QCT
