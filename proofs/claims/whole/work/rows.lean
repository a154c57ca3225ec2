section
-- ===== PART A: goes FIRST, ahead of the names: the tables' words, and 'selects' of the private methods out of them =====
/-- a private method of a class that the tables say can be made, by its rows of tables_1 -/
def lw_okq (q : MethodName × Nat) : Prop := (q.1.cls ≠ "java/lang/invoke/MethodHandle" ∧ q.1.cls ≠ "java/lang/invoke/VarHandle") ∧ Cond.instantiable q.1.cls q.2 ∈ tables_1 ∧ Cond.privateMethod q.1 ∈ tables_1 ∧ Cond.instanceMethod q.1 ∈ tables_1
theorem lw_p0 : lw_okq (⟨"java/lang/Throwable", "fillInStackTrace", "(I)Ljava/lang/Throwable;"⟩, 6) := ⟨⟨by decide +kernel, by decide +kernel⟩, List.mem_of_getElem? (i := 168) (by decide +kernel), List.mem_of_getElem? (i := 166) (by decide +kernel), List.mem_of_getElem? (i := 167) (by decide +kernel)⟩
theorem lw_p1 : lw_okq (⟨"OutlookOdds", "runAllSeeds", "(LOutlookOdds$Story;I)V"⟩, 17) := ⟨⟨by decide +kernel, by decide +kernel⟩, List.mem_of_getElem? (i := 13) (by decide +kernel), List.mem_of_getElem? (i := 283) (by decide +kernel), List.mem_of_getElem? (i := 284) (by decide +kernel)⟩
theorem lw_p2 : lw_okq (⟨"OutlookOdds", "runYear", "(LOutlookOdds$Story;III)V"⟩, 17) := ⟨⟨by decide +kernel, by decide +kernel⟩, List.mem_of_getElem? (i := 13) (by decide +kernel), List.mem_of_getElem? (i := 291) (by decide +kernel), List.mem_of_getElem? (i := 292) (by decide +kernel)⟩
theorem lw_p3 : lw_okq (⟨"OutlookOdds", "massSeen", "(LOutlookOdds$Story;II)J"⟩, 17) := ⟨⟨by decide +kernel, by decide +kernel⟩, List.mem_of_getElem? (i := 13) (by decide +kernel), List.mem_of_getElem? (i := 304) (by decide +kernel), List.mem_of_getElem? (i := 305) (by decide +kernel)⟩
theorem lw_p4 : lw_okq (⟨"OutlookOdds", "rateAllowed", "(JI)J"⟩, 17) := ⟨⟨by decide +kernel, by decide +kernel⟩, List.mem_of_getElem? (i := 13) (by decide +kernel), List.mem_of_getElem? (i := 321) (by decide +kernel), List.mem_of_getElem? (i := 322) (by decide +kernel)⟩
theorem lw_p5 : lw_okq (⟨"OutlookOdds", "limitChange", "(LOutlookOdds$Story;JII)J"⟩, 17) := ⟨⟨by decide +kernel, by decide +kernel⟩, List.mem_of_getElem? (i := 13) (by decide +kernel), List.mem_of_getElem? (i := 326) (by decide +kernel), List.mem_of_getElem? (i := 327) (by decide +kernel)⟩
theorem lw_p6 : lw_okq (⟨"OutlookOdds", "youngBorn", "(II)J"⟩, 17) := ⟨⟨by decide +kernel, by decide +kernel⟩, List.mem_of_getElem? (i := 13) (by decide +kernel), List.mem_of_getElem? (i := 344) (by decide +kernel), List.mem_of_getElem? (i := 345) (by decide +kernel)⟩
theorem lw_p7 : lw_okq (⟨"OutlookOdds", "seedsEverBelowMark", "()I"⟩, 17) := ⟨⟨by decide +kernel, by decide +kernel⟩, List.mem_of_getElem? (i := 13) (by decide +kernel), List.mem_of_getElem? (i := 352) (by decide +kernel), List.mem_of_getElem? (i := 353) (by decide +kernel)⟩
theorem lw_p8 : lw_okq (⟨"OutlookOdds", "isEverBelowMark", "(I)Z"⟩, 17) := ⟨⟨by decide +kernel, by decide +kernel⟩, List.mem_of_getElem? (i := 13) (by decide +kernel), List.mem_of_getElem? (i := 356) (by decide +kernel), List.mem_of_getElem? (i := 357) (by decide +kernel)⟩
theorem lw_p9 : lw_okq (⟨"OutlookOdds", "isBelowMark", "(II)Z"⟩, 17) := ⟨⟨by decide +kernel, by decide +kernel⟩, List.mem_of_getElem? (i := 13) (by decide +kernel), List.mem_of_getElem? (i := 360) (by decide +kernel), List.mem_of_getElem? (i := 361) (by decide +kernel)⟩
theorem lw_p10 : lw_okq (⟨"OutlookOdds", "requireRun", "()V"⟩, 17) := ⟨⟨by decide +kernel, by decide +kernel⟩, List.mem_of_getElem? (i := 13) (by decide +kernel), List.mem_of_getElem? (i := 371) (by decide +kernel), List.mem_of_getElem? (i := 372) (by decide +kernel)⟩
theorem lw_p11 : lw_okq (⟨"OutlookOdds", "putInOrder", "(IJ)V"⟩, 17) := ⟨⟨by decide +kernel, by decide +kernel⟩, List.mem_of_getElem? (i := 13) (by decide +kernel), List.mem_of_getElem? (i := 413) (by decide +kernel), List.mem_of_getElem? (i := 414) (by decide +kernel)⟩
theorem lw_p12 : lw_okq (⟨"OutlookOdds", "sumOf", "(LOutlookOdds$Story;II)J"⟩, 17) := ⟨⟨by decide +kernel, by decide +kernel⟩, List.mem_of_getElem? (i := 13) (by decide +kernel), List.mem_of_getElem? (i := 424) (by decide +kernel), List.mem_of_getElem? (i := 425) (by decide +kernel)⟩
theorem lw_p13 : lw_okq (⟨"OutlookOdds", "caughtAtRate", "(I)J"⟩, 17) := ⟨⟨by decide +kernel, by decide +kernel⟩, List.mem_of_getElem? (i := 13) (by decide +kernel), List.mem_of_getElem? (i := 435) (by decide +kernel), List.mem_of_getElem? (i := 436) (by decide +kernel)⟩
theorem lw_p14 : lw_okq (⟨"OutlookOddsModel", "go", "(IIIII)V"⟩, 23) := ⟨⟨by decide +kernel, by decide +kernel⟩, List.mem_of_getElem? (i := 446) (by decide +kernel), List.mem_of_getElem? (i := 567) (by decide +kernel), List.mem_of_getElem? (i := 568) (by decide +kernel)⟩
theorem lw_p15 : lw_okq (⟨"OutlookOddsModel", "year", "(IIIII)V"⟩, 23) := ⟨⟨by decide +kernel, by decide +kernel⟩, List.mem_of_getElem? (i := 446) (by decide +kernel), List.mem_of_getElem? (i := 571) (by decide +kernel), List.mem_of_getElem? (i := 572) (by decide +kernel)⟩
def lw_privs_1 : List (MethodName × Nat) := [(⟨"java/lang/Throwable", "fillInStackTrace", "(I)Ljava/lang/Throwable;"⟩, 6), (⟨"OutlookOdds", "runAllSeeds", "(LOutlookOdds$Story;I)V"⟩, 17), (⟨"OutlookOdds", "runYear", "(LOutlookOdds$Story;III)V"⟩, 17), (⟨"OutlookOdds", "massSeen", "(LOutlookOdds$Story;II)J"⟩, 17), (⟨"OutlookOdds", "rateAllowed", "(JI)J"⟩, 17), (⟨"OutlookOdds", "limitChange", "(LOutlookOdds$Story;JII)J"⟩, 17), (⟨"OutlookOdds", "youngBorn", "(II)J"⟩, 17), (⟨"OutlookOdds", "seedsEverBelowMark", "()I"⟩, 17), (⟨"OutlookOdds", "isEverBelowMark", "(I)Z"⟩, 17), (⟨"OutlookOdds", "isBelowMark", "(II)Z"⟩, 17), (⟨"OutlookOdds", "requireRun", "()V"⟩, 17), (⟨"OutlookOdds", "putInOrder", "(IJ)V"⟩, 17), (⟨"OutlookOdds", "sumOf", "(LOutlookOdds$Story;II)J"⟩, 17), (⟨"OutlookOdds", "caughtAtRate", "(I)J"⟩, 17), (⟨"OutlookOddsModel", "go", "(IIIII)V"⟩, 23), (⟨"OutlookOddsModel", "year", "(IIIII)V"⟩, 23)]
theorem lw_r1 : ∀ q ∈ lw_privs_1, lw_okq q := List.forall_mem_cons.mpr ⟨lw_p0, List.forall_mem_cons.mpr ⟨lw_p1, List.forall_mem_cons.mpr ⟨lw_p2, List.forall_mem_cons.mpr ⟨lw_p3, List.forall_mem_cons.mpr ⟨lw_p4, List.forall_mem_cons.mpr ⟨lw_p5, List.forall_mem_cons.mpr ⟨lw_p6, List.forall_mem_cons.mpr ⟨lw_p7, List.forall_mem_cons.mpr ⟨lw_p8, List.forall_mem_cons.mpr ⟨lw_p9, List.forall_mem_cons.mpr ⟨lw_p10, List.forall_mem_cons.mpr ⟨lw_p11, List.forall_mem_cons.mpr ⟨lw_p12, List.forall_mem_cons.mpr ⟨lw_p13, List.forall_mem_cons.mpr ⟨lw_p14, List.forall_mem_cons.mpr ⟨lw_p15, fun _ h => absurd h List.not_mem_nil⟩⟩⟩⟩⟩⟩⟩⟩⟩⟩⟩⟩⟩⟩⟩⟩
theorem lw_p16 : lw_okq (⟨"OutlookOddsModel", "allowed", "(IIJ)J"⟩, 23) := ⟨⟨by decide +kernel, by decide +kernel⟩, List.mem_of_getElem? (i := 446) (by decide +kernel), List.mem_of_getElem? (i := 577) (by decide +kernel), List.mem_of_getElem? (i := 578) (by decide +kernel)⟩
theorem lw_p17 : lw_okq (⟨"OutlookOddsModel", "noSeed", "(I)Z"⟩, 23) := ⟨⟨by decide +kernel, by decide +kernel⟩, List.mem_of_getElem? (i := 446) (by decide +kernel), List.mem_of_getElem? (i := 585) (by decide +kernel), List.mem_of_getElem? (i := 586) (by decide +kernel)⟩
theorem lw_p18 : lw_okq (⟨"OutlookOddsModel", "noYear", "(I)Z"⟩, 23) := ⟨⟨by decide +kernel, by decide +kernel⟩, List.mem_of_getElem? (i := 446) (by decide +kernel), List.mem_of_getElem? (i := 589) (by decide +kernel), List.mem_of_getElem? (i := 590) (by decide +kernel)⟩
theorem lw_p19 : lw_okq (⟨"OutlookOddsModel", "allCaught", "(I)J"⟩, 23) := ⟨⟨by decide +kernel, by decide +kernel⟩, List.mem_of_getElem? (i := 446) (by decide +kernel), List.mem_of_getElem? (i := 616) (by decide +kernel), List.mem_of_getElem? (i := 617) (by decide +kernel)⟩
theorem lw_p20 : lw_okq (⟨"OutlookOddsModel", "tableOf", "(I)J"⟩, 23) := ⟨⟨by decide +kernel, by decide +kernel⟩, List.mem_of_getElem? (i := 446) (by decide +kernel), List.mem_of_getElem? (i := 624) (by decide +kernel), List.mem_of_getElem? (i := 625) (by decide +kernel)⟩
def lw_privs_2 : List (MethodName × Nat) := [(⟨"OutlookOddsModel", "allowed", "(IIJ)J"⟩, 23), (⟨"OutlookOddsModel", "noSeed", "(I)Z"⟩, 23), (⟨"OutlookOddsModel", "noYear", "(I)Z"⟩, 23), (⟨"OutlookOddsModel", "allCaught", "(I)J"⟩, 23), (⟨"OutlookOddsModel", "tableOf", "(I)J"⟩, 23)]
theorem lw_r2 : ∀ q ∈ lw_privs_2, lw_okq q := List.forall_mem_cons.mpr ⟨lw_p16, List.forall_mem_cons.mpr ⟨lw_p17, List.forall_mem_cons.mpr ⟨lw_p18, List.forall_mem_cons.mpr ⟨lw_p19, List.forall_mem_cons.mpr ⟨lw_p20, fun _ h => absurd h List.not_mem_nil⟩⟩⟩⟩⟩
def lw_privs : List (MethodName × Nat) := lw_privs_1 ++ (lw_privs_2)
def lw_tbl : List Cond := k2_sels lw_privs ++ tables_1
theorem lw_privs_ok : ∀ q ∈ lw_privs, lw_okq q := by
  show ∀ q ∈ lw_privs_1 ++ (lw_privs_2), lw_okq q
  exact List.forall_mem_append.mpr ⟨lw_r1, lw_r2⟩
end
section
section QAO
def va_AOA (t : FieldType) (U : State) : Prop := (Cond.arrayOver (.array t)).before #[] U = true
theorem va_AOA.use {t : FieldType} {A : Array Value} {U : State} (h : va_AOA t U) : (Cond.arrayOver (.array t)).before A U = true := h
end QAO
/-! ===== BEGIN words of one list among another's, by their places ===== -/
theorem goodIn_r {big : List Cond} (ws : List Cond) (ps : List Nat) (hp : ws = ps.filterMap (fun i => big[i]?)) (h : ws.all goodWord = true) : GoodIn big ws := by
  intro w hw
  have h1 := List.all_eq_true.mp h w hw
  rw [hp] at hw
  obtain ⟨i, -, hi⟩ := List.mem_filterMap.mp hw
  have hm : w ∈ big := by first | exact List.mem_of_getElem? hi | exact List.getElem?_mem hi
  exact ⟨hm, good_of_word h1⟩
theorem goodIn_app {big a b : List Cond} (ha : GoodIn big a) (hb : GoodIn big b) : GoodIn big (a ++ b) := fun w h => (List.mem_append.mp h).elim (ha w) (hb w)
theorem goodIn_ca {big a b : List Cond} {c : Cond} (ha : GoodIn big (c :: a)) (hb : GoodIn big b) : GoodIn big (c :: (a ++ b)) := fun w h => (List.mem_cons.mp h).elim (fun e => ha w (List.mem_cons.mpr (Or.inl e))) (fun h => (List.mem_append.mp h).elim (fun h => ha w (List.mem_cons.mpr (Or.inr h))) (hb w))
theorem goodIn_sub {big ws : List Cond} (hm : ∀ w ∈ ws, w ∈ big) (h : ws.all goodWord = true) : GoodIn big ws := fun w hw => ⟨hm w hw, good_of_word (List.all_eq_true.mp h w hw)⟩
/-! ===== END ===== -/

/-! ===== BEGIN new T[n][m]: the outer array a place, the inner ones among the pooled ===== -/
/-- f, but v at every address of l -/
def vr_up {α : Type} (f : Nat → α) (l : List Nat) (v : α) : Nat → α := fun a => if a ∈ l then v else f a
theorem vr_up_in {α : Type} {f : Nat → α} {l : List Nat} {v : α} {a : Nat} (h : a ∈ l) : vr_up f l v a = v := if_pos h
theorem vr_up_ne {α : Type} {f : Nat → α} {l : List Nat} {v : α} {a : Nat} (h : a ∉ l) : vr_up f l v a = f a := if_neg h
theorem vr_rows {L l : List Nat} {f : Nat → va_E} {e : va_E} (h : ∀ a, a ∈ l → a ∉ L) : va_pl L f ++ l.map (fun a => (a, e)) = va_pl (L ++ l) (vr_up f l e) := by
  unfold va_pl
  rw [List.map_append]
  congr 1
  · apply List.map_congr_left
    intro a ha
    rw [vr_up_ne (fun q => h a q ha)]
  · apply List.map_congr_left
    intro a ha
    rw [vr_up_in ha]
theorem vr_lay {X rows : va_W} {x : Nat × va_E} {pl : va_W} {D : va_G} {cl : List vw_C} {H : Heap} (hP : va_P D cl (((X ++ pl) ++ [x]) ++ rows) H) : va_P D cl ((X ++ [x]) ++ (pl ++ rows)) H := by
  rw [List.append_assoc (X ++ pl)] at hP
  have h := va_P.swap hP
  rw [← List.append_assoc X] at h
  have h2 := va_P.swap h
  rw [List.append_assoc (X ++ [x])] at h2
  exact h2
theorem vr_layD {X rows : va_W} {x : Nat × va_E} {pl : va_W} {A : Nat → Prop} (hD : va_D A (((X ++ pl) ++ [x]) ++ rows)) : va_D A ((X ++ [x]) ++ (pl ++ rows)) := by
  rw [List.append_assoc (X ++ pl)] at hD
  have h := va_D.swap hD
  rw [← List.append_assoc X] at h
  have h2 := va_D.swap h
  rw [List.append_assoc (X ++ [x])] at h2
  exact h2
theorem vr_outer (c : ClassId) (N h0 : Nat) : ∀ i : Nat, Jvm.Free.Multi.outerC c N h0 i = arrV c N (fun j => va_rf (if j < i then some (h0 + 1 + j) else none))
  | 0 => by
    show ({ cls := c, slots := Array.replicate N .null, vm := .none } : Cell) = _
    rw [arrV_new]
    refine congrArg (arrV c N) (funext fun j => ?_)
    simp [va_rf]
  | i + 1 => by
    show (Jvm.Free.Multi.outerC c N h0 i).setSlot i (.ref (h0 + 1 + i)) = _
    rw [vr_outer c N h0 i, arrV_store]
    refine congrArg (arrV c N) (funext fun j => ?_)
    by_cases e : j = i
    · subst e
      simp [updV, va_rf]
    · by_cases h : j < i
      · simp [updV, e, h, Nat.lt_succ_of_lt h]
      · simp [updV, e, h, show ¬ j < i + 1 by omega]
section VGM
variable {p : Program} {l : Launch} {e : Env} {R : Room} {s : State} {m : MethodId} {args : Array Value} {below : List Frame} {meth : Method} {c : Code} {H : Heap} {locs : List Loc} {cells slots : Nat} {Q : State → Prop}
variable {cc : ByteArray} {pc : Nat} {ls : Array Slot} {rest : List Value} {D : va_G} {cl : List vw_C} {A : Nat → Prop} {a : Nat} {tys : List (ClassId × FieldType)} {ws : va_W} {H0 : Heap}
theorem va_mna {X : va_W} {L : List Nat} {f : Nat → va_E} {cc : ByteArray} (hexec : p.tables.exec = Jvm.exec) (hb : c.code = cc) {own : String} {index : Nat} {ty : FieldType} {cy : ClassId} (hown : s.vm.findClass own = some m.cls) (hclink : (Cond.classLink own index ("[" ++ (FieldType.array ty).toString)).before args s = true) (hover : va_AOA ty s) (harr : (Cond.arrayClass ty).before args s = true) (hcy : s.vm.findClass (FieldType.array ty).toString = some cy)
    (hK : va_K D cl tys s) (hP : va_P D cl (X ++ va_pl L f) H) (hD : va_D A (X ++ va_pl L f)) (hS : va_S A H0 H locs) (hA : ∀ q, H0.size ≤ q → A q) {n k : Int32} {N' K' : Nat} {z : vp_A} (hn : ¬ n < 0) (hk : ¬ k < 0) (hN : n.toNatClampNeg = N') (hM : k.toNatClampNeg = K')
    (hb1 : N' * 4 ≤ 536870912) (hb2 : K' * componentBytes ty ≤ 536870912) (hb3 : K' ≤ 536870912) (hdf : fits ty (defaultValue ty) = true) (hdd : (defaultValue ty).isDefault = true) (hcells : cells + (1 + N') ≤ R.cells) (hslots : slots + (N' + N' * K') ≤ R.slots) (hz : ∀ c : ClassId, Jvm.Free.Multi.innerC c K' (defaultValue ty) = vp_cell c z) (hdg : decode cc pc = .ok (.multianewarray index 2, 4))
    (kk : ∀ (q : Nat) (r : Nat → Nat) (cA : ClassId) (H1 : Heap), (∀ i j : Nat, i < N' → j < N' → r i = r j → i = j) → (∀ i : Nat, i < N' → r i ∉ L) → va_K D cl (tys ++ [(cA, .array ty)]) s →
      va_P D cl ((X ++ [(q, .inl (cA, N', .inr (.inr (.inr (.inr (fun i => if i < N' then some (r i) else none))))))]) ++ va_pl (L ++ (List.range N').map r) (vr_up f ((List.range N').map r) (.inl (cy, z)))) H1 → va_D A ((X ++ [(q, .inl (cA, N', .inr (.inr (.inr (.inr (fun i => if i < N' then some (r i) else none))))))]) ++ va_pl (L ++ (List.range N').map r) (vr_up f ((List.range N').map r) (.inl (cy, z)))) → va_S A H0 H1 locs →
      W p l e R s m args below meth c H1 locs (cells + 1 + N') (slots + N' + N' * K') Q (F0 m (pc + 4) ls (.ref q :: rest))) : W p l e R s m args below meth c H locs cells slots Q (F0 m pc ls (.int k :: .int n :: rest)) := by
  subst hN
  subst hM
  intro T hT Xs
  obtain ⟨vm₁, cA, comp, -, fA, fC, hO, -, X', step⟩ := Xs.multianewarray2F hexec hown hclink (va_AOA.use hover) harr (g := F0 m pc ls (.int k :: .int n :: rest)) rfl (by rw [hb]; exact hdg) rfl hn hk hb1 hb2 hb3 hdf hdd hcells hslots
  have ec : some cy = some comp := hcy.symm.trans fC
  cases ec
  generalize hF : Jvm.Free.Multi.fill (T.setVm vm₁) cA cy n.toNatClampNeg k.toNatClampNeg (defaultValue ty) n.toNatClampNeg = F at X' step
  have hTh : (T.setVm vm₁).heap = H := hT
  obtain ⟨f1, f2, -, -⟩ := Jvm.Free.Multi.fill_facts (T.setVm vm₁) cA cy n.toNatClampNeg k.toNatClampNeg (defaultValue ty) n.toNatClampNeg
  rw [hF, hTh] at f1 f2
  have hold : ∀ x : Nat, x < H.size → F.heap[x]? = H[x]? := fun x hx => by
    have := Jvm.Free.Multi.fill_old (T.setVm vm₁) cA cy n.toNatClampNeg k.toNatClampNeg (defaultValue ty) (a := x) (by rw [hTh]; exact hx) n.toNatClampNeg
    rw [hF, hTh] at this
    exact this
  have hrow : ∀ j : Nat, j < n.toNatClampNeg → F.heap[H.size + 1 + j]? = some (vp_cell cy z) := fun j hj => by
    have := Jvm.Free.Multi.fill_inner (T.setVm vm₁) cA cy n.toNatClampNeg k.toNatClampNeg (defaultValue ty) n.toNatClampNeg j hj
    rw [hF, hTh, hz] at this
    exact this
  have hout : Jvm.Free.Multi.outerC cA n.toNatClampNeg H.size n.toNatClampNeg = vp_cell cA (n.toNatClampNeg, .inr (.inr (.inr (.inr (fun i => if i < n.toNatClampNeg then some (H.size + 1 + i) else none))))) := by
    rw [vp_cell_q]
    exact vr_outer cA n.toNatClampNeg H.size n.toNatClampNeg
  rw [hout] at f2
  have hlt : ∀ a, a ∈ L → a < H.size := fun a ha => by
    obtain ⟨k9, hk9⟩ := va_pl_get (X := X) (f := f) ha
    exact (hP k9 _ hk9).lt
  have hnl : ∀ i : Nat, i < n.toNatClampNeg → H.size + 1 + i ∉ L := fun i _ h => by
    have := hlt _ h
    omega
  have hnm : ∀ a, a ∈ (List.range n.toNatClampNeg).map (fun i => H.size + 1 + i) → a ∉ L := fun a ha h => by
    obtain ⟨i, -, rfl⟩ := List.mem_map.mp ha
    have := hlt _ h
    omega
  have hP0 : va_P D cl (X ++ va_pl L f) F.heap := hP.kept (fun k9 x hx => hold x.1 ((hP k9 x hx).lt))
  have hP1 : va_P D cl ((X ++ va_pl L f) ++ [(H.size, .inl (cA, n.toNatClampNeg, .inr (.inr (.inr (.inr (fun i => if i < n.toNatClampNeg then some (H.size + 1 + i) else none))))))]) F.heap := hP0.app (fun k9 x hx => by
    have h0 : k9 < 1 := (List.getElem?_eq_some_iff.mp hx).1
    rw [show k9 = 0 by omega] at hx
    cases hx
    exact f2)
  have hP2 : va_P D cl (((X ++ va_pl L f) ++ [(H.size, .inl (cA, n.toNatClampNeg, .inr (.inr (.inr (.inr (fun i => if i < n.toNatClampNeg then some (H.size + 1 + i) else none))))))]) ++ ((List.range n.toNatClampNeg).map (fun i => H.size + 1 + i)).map (fun a => (a, .inl (cy, z)))) F.heap := hP1.app (fun k9 x hx => by
    obtain ⟨a, ha, rfl⟩ := List.mem_map.mp (List.mem_of_getElem? hx)
    obtain ⟨i, hi, rfl⟩ := List.mem_map.mp ha
    exact hrow i (List.mem_range.mp hi))
  have hD2 : va_D A (((X ++ va_pl L f) ++ [(H.size, .inl (cA, n.toNatClampNeg, .inr (.inr (.inr (.inr (fun i => if i < n.toNatClampNeg then some (H.size + 1 + i) else none))))))]) ++ ((List.range n.toNatClampNeg).map (fun i => H.size + 1 + i)).map (fun a => (a, .inl (cy, z)))) := by
    have hD1 := hD.push (e := .inl (cA, n.toNatClampNeg, .inr (.inr (.inr (.inr (fun i => if i < n.toNatClampNeg then some (H.size + 1 + i) else none)))))) hP rfl (hA _ hS.1)
    generalize hW1 : (X ++ va_pl L f) ++ [(H.size, .inl (cA, n.toNatClampNeg, .inr (.inr (.inr (.inr (fun i => if i < n.toNatClampNeg then some (H.size + 1 + i) else none))))))] = W1 at hD1 hP1 ⊢
    have hle : ∀ (k9 : Nat) (x : Nat × va_E), W1[k9]? = some x → x.1 ≤ H.size := fun k9 x hx => by
      rw [← hW1] at hx
      by_cases hl : k9 < (X ++ va_pl L f).length
      · rw [List.getElem?_append_left hl] at hx
        exact Nat.le_of_lt ((hP k9 x hx).lt)
      · rw [List.getElem?_append_right (by omega)] at hx
        have h0 : k9 - (X ++ va_pl L f).length < 1 := (List.getElem?_eq_some_iff.mp hx).1
        rw [show k9 - (X ++ va_pl L f).length = 0 by omega] at hx
        cases hx
        exact Nat.le_refl _
    have hr : ∀ (k9 : Nat) (x : Nat × va_E), (((List.range n.toNatClampNeg).map (fun i => H.size + 1 + i)).map (fun a => ((a, .inl (cy, z)) : Nat × va_E)))[k9]? = some x → x.1 = H.size + 1 + k9 := fun k9 x hx => by
      rw [List.getElem?_map, List.getElem?_map] at hx
      by_cases h9 : k9 < n.toNatClampNeg
      · rw [List.getElem?_range h9] at hx
        cases hx
        rfl
      · have hn0 : (List.range n.toNatClampNeg)[k9]? = none := List.getElem?_eq_none (by rw [List.length_range]; omega)
        rw [hn0] at hx
        cases hx
    refine ⟨fun i j x y hi hj hxy => ?_, fun k9 x hx => ?_⟩
    · by_cases h1 : i < W1.length <;> by_cases h2 : j < W1.length
      · rw [List.getElem?_append_left h1] at hi
        rw [List.getElem?_append_left h2] at hj
        exact hD1.1 i j x y hi hj hxy
      · rw [List.getElem?_append_left h1] at hi
        rw [List.getElem?_append_right (by omega)] at hj
        have := hle _ _ hi
        have := hr _ _ hj
        omega
      · rw [List.getElem?_append_right (by omega)] at hi
        rw [List.getElem?_append_left h2] at hj
        have := hle _ _ hj
        have := hr _ _ hi
        omega
      · rw [List.getElem?_append_right (by omega)] at hi hj
        have := hr _ _ hi
        have := hr _ _ hj
        omega
    · by_cases h1 : k9 < W1.length
      · rw [List.getElem?_append_left h1] at hx
        exact hD1.2 k9 x hx
      · rw [List.getElem?_append_right (by omega)] at hx
        have := hr _ _ hx
        exact hA _ (by have := hS.1; omega)
  have hAr : ArrOfT s cA (.array ty) := fun N9 z9 => by
    obtain ⟨-, k9, hk9, cm9, hkk9⟩ := (hO 0 0 0).1
    exact ⟨(fun q hq => by cases hq), k9, hk9, cm9, hkk9⟩
  have hK2 : va_K D cl (tys ++ [(cA, .array ty)]) s := ⟨hK.1, fun k9 x hx => by
    by_cases hl : k9 < tys.length
    · rw [List.getElem?_append_left hl] at hx
      exact hK.2 k9 x hx
    · rw [List.getElem?_append_right (by omega)] at hx
      have h0 : k9 - tys.length < 1 := (List.getElem?_eq_some_iff.mp hx).1
      rw [show k9 - tys.length = 0 by omega] at hx
      cases hx
      exact ⟨hAr, fA⟩⟩
  obtain ⟨t, a1, b1⟩ := kk H.size (fun i => H.size + 1 + i) cA F.heap (fun i j _ _ h => by have h9 : H.size + 1 + i = H.size + 1 + j := h; omega) hnl hK2 (by rw [← vr_rows hnm]; exact vr_lay hP2) (by rw [← vr_rows hnm]; exact vr_layD hD2) ⟨by rw [f1]; have := hS.1; omega, fun x h1 h2 => (hold x (Nat.lt_of_lt_of_le h1 hS.1)).trans (hS.2.1 x h1 h2), hS.2.2⟩ F rfl X'
  refine ⟨t, step t ?_, b1⟩
  have e : T.heap.size = H.size := by rw [hT]
  rw [e]
  exact a1
end VGM
/-! ===== END ===== -/

/-! ===== BEGIN exceptions that leave a method, and their catching by the caller (launches without stack traces) ===== -/
section VXA
/-! The laws vx_back, vx_callV, vx_callS, vx_callSW, vx_throw0, vx_throwS follow proofs of the library, with one case more: JvmDerived/Free/Laws.lean (Back.of_free), Shelf42/LK1.lean (callV, callS), Shelf/KitTraced.lean (throwNew0V, throwNewS). -/
/-- where a method has thrown q: the class by its name, the cell, what was written, the world -/
def vx_T (XC : String → State → State → Prop) (st : State) (q : Addr) (t : State) (mc ms : Nat) (free : Addr → Prop) : Prop :=
  ∃ (E : String) (ce : Cell) (L : List Loc), XC E st t ∧ t.heap[q]? = some ce ∧ ce.vm = .none ∧ st.vm.findClass E = some ce.cls ∧ st.WarmedH t.vm ∧ st.sameButNew ({ t with vm := st.vm } : State) L mc ms ∧ ∀ z ∈ L, free z.base
def vx_Q (Qc : Array Value → State → Outcome → State → Prop) (XC : String → State → State → Prop) (mc ms : Nat) (free : Addr → Prop) : Array Value → State → Outcome → State → Prop := fun a st o t =>
  (Qc a st o t ∧ ∃ L, FrameEnd st o t L mc ms ∧ ∀ q ∈ L, free q.base) ∨ ∃ q, o = .threw q ∧ vx_T XC st q t mc ms free
/-- a callee that returns or throws -/
def vx_Met (l : Launch) (y : MethodName) (ws : List Cond) (rm : Room) (Pc : Array Value → State → Prop) (Qc : Array Value → State → Outcome → State → Prop) (XC : String → State → State → Prop) (mc ms : Nat) (free : Addr → Prop) : Prop :=
  MetFree l y (headSpec ws rm) Pc (fun _ _ _ _ _ => True) (vx_Q Qc XC mc ms free)
def vx_Post (XC : String → State → State → Prop) (mc ms : Nat) (free : Addr → Prop) : Pt → Array Value → Addr → Pt → Prop := fun A a q B =>
  ∃ (g : JFrame) (mk : MethodId) (t : State) (L : List Loc) (E : String) (ce : Cell), B.U.heap = t.heap ∧ B.U.vm = t.vm ∧ XC E (A.U.calling g mk a) t ∧ t.heap[q]? = some ce ∧ ce.vm = .none ∧ A.U.vm.findClass E = some ce.cls ∧ B.locs = A.locs ++ L ∧ (∀ z ∈ L, free z.base) ∧ B.cells = A.cells + mc ∧ B.slots = A.slots + ms
def vx_Back (l : Launch) (R : Room) (p : Program) (e : Env) (below : List Frame) (s : State) (sargs : Array Value) (y : MethodName) (len W9 : Nat)
    (Pre : Pt → Array Value → Prop) (Post : Pt → Array Value → Option Value → Pt → Prop) (PostX : Pt → Array Value → Addr → Pt → Prop) : Prop :=
  ∀ (m : MethodId) (meth : Method) (c : Code) (A : Pt) (g : JFrame) (ig : Instr) (mk : MethodId) (a : Array Value),
    Stand p l e R s m sargs below meth c A.U A.locs A.cells A.slots → g.method = m → g.locals.size = c.maxLocals → decode c.code g.pc = .ok (ig, len) →
    2 * g.monitorRoom + (g.stack.map fun v => v.category).sum ≤ W9 → A.U.methodNamed? y = some mk → Pre A a →
    (∃ (v : Option Value) (B : Pt), Stand p l e R s m sargs below meth c B.U B.locs B.cells B.slots ∧ Post A a v B ∧
      Steps p.tables e below (doInvoke e (A.U.setTop g) [] mk a).1 (B.U.setTop { g with pc := g.pc + len, stack := v.toList ++ g.stack })) ∨
    (∃ (q : Addr) (B : Pt), Stand p l e R s m sargs below meth c B.U B.locs B.cells B.slots ∧ PostX A a q B ∧
      Steps p.tables e below (doInvoke e (A.U.setTop g) [] mk a).1 ((B.U.setTop g).pushFrame (.throwing q)))
section Payer
variable {l : Launch} {R : Room} {p : Program} {e : Env} {below : List Frame} {s : State} {sargs : Array Value} {y : MethodName} {len W9 : Nat}
theorem vx_back {ws : List Cond} {rm : Room} {Pc : Array Value → State → Prop} {Qc : Array Value → State → Outcome → State → Prop} {XC : String → State → State → Prop} {mc ms : Nat} {free : Addr → Prop} {bytes : ByteArray} {maxL : Nat} {ret : Option FieldType}
    (hM : vx_Met l y ws rm Pc Qc XC mc ms free) (hblind : FrameBlind Pc) (hrc : rm.cells = mc) (hrs : rm.slots = ms)
    (hframes : rm.frames + 1 ≤ R.frames) (hlocals : W9 + (maxL + 11) + rm.locals ≤ R.locals)
    (hws : ∀ w ∈ ws, ∀ a' U, s.WarmedH U.vm → w.before a' U = true) (hcode : Cond.code y bytes maxL ret ∈ ws) (hinit : ∀ a' U, s.WarmedH U.vm → (Cond.initialized y.cls).before a' U = true) :
    vx_Back l R p e below s sargs y len W9 (PreOf R mc ms Pc) (PostOf Qc mc ms free) (vx_Post XC mc ms free) := by
  intro m meth c A g ig mk a X hg hsize hdg hW hn hp
  have h1 : (headSpec ws rm).pre.before a A.U = true := atoms_intro fun w hw => hws w hw _ _ X.warmed
  have h2 : (Cond.code y bytes maxL ret).before a A.U = true := hws _ hcode _ _ X.warmed
  have h3 : (Cond.initialized y.cls).before a A.U = true := hinit _ _ X.warmed
  have h4 : A.cells + (headSpec ws rm).room.cells ≤ R.cells := by rw [show (headSpec ws rm).room.cells = mc from hrc]; exact hp.1
  have h5 : A.slots + (headSpec ws rm).room.slots ≤ R.slots := by rw [show (headSpec ws rm).room.slots = ms from hrs]; exact hp.2.1
  have hPc : Pc a (A.U.calling g mk a) := hblind _ _ _ _ hp.2.2
  obtain ⟨U, Ls, c0, s0⟩ := A
  dsimp only [Pt.U, Pt.locs, Pt.cells, Pt.slots] at h1 h2 h3 h4 h5 X hn hPc ⊢
  obtain ⟨methY, cY, hmY, hcY, -, hlY, -, -, -, -⟩ := Cond.code_spec hn h2
  obtain ⟨kY, hkY, -⟩ := className_of_methodNamed hn
  have hinitY : kY.init = .initialized := Cond.initialized_spec (findClass_of_methodNamed hn) hkY h3
  have h : At U g.method c below := by rw [hg]; exact X.here
  have hlocals9 : W9 + (maxL + 11) + (headSpec ws rm).room.locals ≤ R.locals := hlocals
  have happ : (headSpec ws rm).appliesLoose y e.platform (U.calling g mk a) = true :=
    Spec.appliesLoose_calling (g := g) h hdg hn hkY hinitY
      (X.room_calling (g := g) (R' := (headSpec ws rm).room) hsize hmY hcY hframes (by rw [hlY]; omega) h4 h5) h1
  obtain ⟨mid, hmid⟩ := h.above
  have hfr : (U.setTop g).frames = (.java g :: mid) ++ below := by rw [State.frames_setTop' g h.top, hmid]; rfl
  obtain ⟨o, s₂, hsteps, -, hend, hq⟩ := Steps.callFree hM p X.admits X.cas X.clock (acts := []) hfr happ hPc trivial
  have hq' : vx_Q Qc XC mc ms free a (U.calling g mk a) o s₂ := hq
  rw [State.frames_setTop' g h.top] at hend
  obtain ⟨g₀, hg0⟩ := Option.isSome_iff_exists.mp h.top
  obtain ⟨r, hr⟩ := State.topJava?_eq_some.mp hg0
  have hr' : (({ U with heap := s₂.heap, slotsUsed := s₂.slotsUsed } : State).setVm s₂.vm).frames = .java g₀ :: r := hr
  rcases hq' with ⟨hqc, L, hfe, hL⟩ | ⟨q, rfl, E, ce, L, hx, hce, hcv, hcl, hW₂, hsm, hL⟩
  · obtain ⟨⟨v, rfl⟩, hW₂, e2, q2, q3, q4, q5, q6⟩ := id hfe
    have e3 : s₂ = ({ (U.calling g mk a).setFrames s₂.frames with heap := s₂.heap, slotsUsed := s₂.slotsUsed } : State).setVm s₂.vm := by
      have : s₂ = ({ s₂ with vm := (U.calling g mk a).vm } : State).setVm s₂.vm := rfl
      rw [e2] at this
      exact this
    obtain ⟨c₂, i₂, len₂, hc₂, hd₂, hf₂⟩ := hend
    have hW' : U.WarmedH s₂.vm := hW₂
    have hcc : c₂ = c := by
      have h1 : s₂.code? g.method = U.code? g.method := by
        rw [State.code?_eq, State.code?_eq, hW'.alike.method?]
      exact Option.some.inj (hc₂.symm.trans (h1.trans h.code))
    subst hcc
    have hlen : len₂ = len := by rw [hdg] at hd₂; cases hd₂; rfl
    subst hlen
    have hs₂ : s₂ = (({ U with heap := s₂.heap, slotsUsed := s₂.slotsUsed } : State).setVm s₂.vm).setTop { g with pc := g.pc + len₂, stack := v.toList ++ g.stack } := by
      refine e3.trans ?_
      rw [hf₂, State.calling_eq h.top, State.setFrames_setFrames, State.setTop_of_frames _ hr', hr]
      rfl
    have hsame : U.sameButNew ({ U with heap := s₂.heap, slotsUsed := s₂.slotsUsed } : State) L mc ms := by
      refine ⟨?_, q2, q3, q4, q5, q6⟩
      obtain ⟨t, ht, -⟩ := State.frames_cons hr
      show ({ U with heap := s₂.heap, slotsUsed := s₂.slotsUsed } : State) = { U.setFrames U.frames with heap := s₂.heap, slotsUsed := s₂.slotsUsed }
      rw [State.setFrames_self ht]
    subst hg
    refine Or.inl ⟨v, ⟨(({ U with heap := s₂.heap, slotsUsed := s₂.slotsUsed } : State).setVm s₂.vm), Ls ++ L, c0 + mc, s0 + ms⟩,
      ⟨X.admits, X.cas, X.clock, X.frames, X.room, X.hears, X.method, X.code, (X.here.setHeapUsed s₂.heap s₂.slotsUsed).setVm hW'.alike, X.tail, State.WarmedH.trans X.warmed hW', X.limits, X.bytes, X.same.trans (hsame.setVm s.vm)⟩,
      ⟨g, mk, s₂, L, rfl, rfl, hqc, rfl, hL, rfl, rfl⟩, ?_⟩
    show Steps p.tables e below _ ((({ U with heap := s₂.heap, slotsUsed := s₂.slotsUsed } : State).setVm s₂.vm).setTop { g with pc := g.pc + len₂, stack := v.toList ++ g.stack })
    rw [← hs₂]
    exact hsteps
  · obtain ⟨e2, q2, q3, q4, q5, q6⟩ := id hsm
    have e3 : s₂ = ({ (U.calling g mk a).setFrames s₂.frames with heap := s₂.heap, slotsUsed := s₂.slotsUsed } : State).setVm s₂.vm := by
      have : s₂ = ({ s₂ with vm := (U.calling g mk a).vm } : State).setVm s₂.vm := rfl
      rw [e2] at this
      exact this
    have hf₂ : s₂.frames = .throwing q :: .java g :: U.frames.tail := hend
    have hW' : U.WarmedH s₂.vm := hW₂
    have hs₂ : s₂ = ((({ U with heap := s₂.heap, slotsUsed := s₂.slotsUsed } : State).setVm s₂.vm).setTop g).pushFrame (.throwing q) := by
      refine e3.trans ?_
      rw [hf₂, State.calling_eq h.top, State.setFrames_setFrames, State.pushFrame, State.frames_setTop _ hr', State.setTop_of_frames _ hr', State.setFrames_setFrames, hr]
      rfl
    have hsame : U.sameButNew ({ U with heap := s₂.heap, slotsUsed := s₂.slotsUsed } : State) L mc ms := by
      refine ⟨?_, q2, q3, q4, q5, q6⟩
      obtain ⟨t, ht, -⟩ := State.frames_cons hr
      show ({ U with heap := s₂.heap, slotsUsed := s₂.slotsUsed } : State) = { U.setFrames U.frames with heap := s₂.heap, slotsUsed := s₂.slotsUsed }
      rw [State.setFrames_self ht]
    subst hg
    refine Or.inr ⟨q, ⟨(({ U with heap := s₂.heap, slotsUsed := s₂.slotsUsed } : State).setVm s₂.vm), Ls ++ L, c0 + mc, s0 + ms⟩,
      ⟨X.admits, X.cas, X.clock, X.frames, X.room, X.hears, X.method, X.code, (X.here.setHeapUsed s₂.heap s₂.slotsUsed).setVm hW'.alike, X.tail, State.WarmedH.trans X.warmed hW', X.limits, X.bytes, X.same.trans (hsame.setVm s.vm)⟩,
      ⟨g, mk, s₂, L, E, ce, rfl, rfl, hx, hce, hcv, hcl, rfl, hL, rfl, rfl⟩, ?_⟩
    show Steps p.tables e below _ (((({ U with heap := s₂.heap, slotsUsed := s₂.slotsUsed } : State).setVm s₂.vm).setTop g).pushFrame (.throwing q))
    rw [← hs₂]
    exact hsteps
end Payer
section Calls
variable {p : Program} {l : Launch} {e : Env} {R : Room} {s : State} {m : MethodId} {args : Array Value} {below : List Frame} {meth : Method} {c : Code} {T : State} {locs : List Loc} {cells slots : Nat}
theorem vx_callV (X : Stand p l e R s m args below meth c T locs cells slots) (hexec : p.tables.exec = Jvm.exec) {own C : String} {index : Nat} {y : MethodName} {bytes : ByteArray} {maxL : Nat} {ret : Option FieldType}
    (hown : s.vm.findClass own = some m.cls) (hlink : (Cond.methodLink own index y).before args s = true) (hinst : (Cond.instanceMethod y).before args s = true) (hsel : (Cond.selects C y y).before args s = true)
    (hcode : (Cond.code y bytes maxL ret).before args s = true) (hy : y.cls ≠ "java/lang/invoke/MethodHandle" ∧ y.cls ≠ "java/lang/invoke/VarHandle")
    {W9 : Nat} {Pre : Pt → Array Value → Prop} {Post : Pt → Array Value → Option Value → Pt → Prop} {PostX : Pt → Array Value → Addr → Pt → Prop} (hK : vx_Back l R p e below s args y 3 W9 Pre Post PostX)
    {b : Addr} {cellB : Cell} (hcell : T.heap[b]? = some cellB) (hobj : cellB.vm.isStatics = false) (hcls : s.vm.findClass C = some cellB.cls)
    {g : JFrame} (hg : g.method = m) (hsize : g.locals.size = c.maxLocals) {argsL rest : List Value} (hlen : ∀ sig, parseMethodDescriptor y.desc = some sig → argsL.length = sig.parameters.length)
    (hstack : g.stack = argsL.reverse ++ .ref b :: rest) (hW : 2 * g.monitorRoom + (rest.map fun v => v.category).sum ≤ W9) (hdg : decode c.code g.pc = .ok (.invokevirtual index, 3))
    (hpre : ∀ vm₁, s.WarmedH vm₁ → Pre ⟨T.setVm vm₁, locs, cells, slots⟩ (Value.ref b :: argsL).toArray) :
    (∃ (v : Option Value) (vm₁ : Vm) (B : Pt), s.WarmedH vm₁ ∧ Stand p l e R s m args below meth c B.U B.locs B.cells B.slots ∧ Post ⟨T.setVm vm₁, locs, cells, slots⟩ (Value.ref b :: argsL).toArray v B ∧
      ∀ target, Steps p.tables e below (B.U.setTop { g with pc := g.pc + 3, stack := v.toList ++ rest }) target → Steps p.tables e below (T.setTop g) target) ∨
    (∃ (q : Addr) (vm₁ : Vm) (B : Pt), s.WarmedH vm₁ ∧ Stand p l e R s m args below meth c B.U B.locs B.cells B.slots ∧ PostX ⟨T.setVm vm₁, locs, cells, slots⟩ (Value.ref b :: argsL).toArray q B ∧
      Steps p.tables e below (T.setTop g) ((B.U.setTop { g with stack := rest }).pushFrame (.throwing q))) := by
  obtain ⟨mk, methM, hnamed, hmethM, hstM, habM⟩ := Cond.instanceMethod_spec hinst
  obtain ⟨methM', cM, hmethM', -, -, -, -, -, -, hsigM⟩ := Cond.code_spec hnamed hcode
  cases hmethM.symm.trans hmethM'
  obtain ⟨c2, r2, m2, q1, q2, q3, q4, kP, hkP, hkPi⟩ := Cond.selects_spec hsel
  cases hcls.symm.trans q1
  cases (State.methodFound?_of_named hnamed hy).symm.trans q2
  cases hnamed.symm.trans q3
  have hselP : selectMethod e.platform s.vm cellB.cls mk = .method mk := by rw [Launch.admits_selectMethod X.admits]; exact q4
  obtain ⟨vm₁, X₁, hstep₁⟩ := X.invokevirtual hexec hown hlink hnamed hmethM hstM hkP hkPi hy (a := b) (cell := cellB) hcell
    (fun z h => by rw [h] at hobj; cases hobj) hselP hmethM habM hkP hkPi (g := g) hg (argsL := argsL) (rest := rest) (hlen _ hsigM) hstack hdg
  rcases hK m meth c ⟨T.setVm vm₁, locs, cells, slots⟩ { g with stack := rest } (.invokevirtual index) mk (Value.ref b :: argsL).toArray X₁ hg hsize hdg hW (X₁.named hnamed) (hpre vm₁ X₁.warmed) with ⟨v, B, X', hpost, hsteps⟩ | ⟨q, B, X', hpost, hsteps⟩
  · exact Or.inl ⟨v, vm₁, B, X₁.warmed, X', hpost, fun target h => hstep₁ _ fun acts => by rw [doInvoke_state]; exact hsteps.trans h⟩
  · exact Or.inr ⟨q, vm₁, B, X₁.warmed, X', hpost, hstep₁ _ fun acts => by rw [doInvoke_state]; exact hsteps⟩
theorem vx_callS (X : Stand p l e R s m args below meth c T locs cells slots) (hexec : p.tables.exec = Jvm.exec) {own : String} {index : Nat} {y : MethodName} {bytes : ByteArray} {maxL : Nat} {ret : Option FieldType}
    (hown : s.vm.findClass own = some m.cls) (hlink : (Cond.methodLink own index y).before args s = true) (hstat : (Cond.static y).before args s = true) (hinit : (Cond.initialized y.cls).before args s = true)
    (hcode : (Cond.code y bytes maxL ret).before args s = true) (hy : y.cls ≠ "java/lang/invoke/MethodHandle" ∧ y.cls ≠ "java/lang/invoke/VarHandle")
    {W9 : Nat} {Pre : Pt → Array Value → Prop} {Post : Pt → Array Value → Option Value → Pt → Prop} {PostX : Pt → Array Value → Addr → Pt → Prop} (hK : vx_Back l R p e below s args y 3 W9 Pre Post PostX)
    {g : JFrame} (hg : g.method = m) (hsize : g.locals.size = c.maxLocals) {argsL rest : List Value} (hlen : ∀ sig, parseMethodDescriptor y.desc = some sig → argsL.length = sig.parameters.length)
    (hstack : g.stack = argsL.reverse ++ rest) (hW : 2 * g.monitorRoom + (rest.map fun v => v.category).sum ≤ W9) (hdg : decode c.code g.pc = .ok (.invokestatic index, 3))
    (hpre : ∀ vm₁, s.WarmedH vm₁ → Pre ⟨T.setVm vm₁, locs, cells, slots⟩ argsL.toArray) :
    (∃ (v : Option Value) (vm₁ : Vm) (B : Pt), s.WarmedH vm₁ ∧ Stand p l e R s m args below meth c B.U B.locs B.cells B.slots ∧ Post ⟨T.setVm vm₁, locs, cells, slots⟩ argsL.toArray v B ∧
      ∀ target, Steps p.tables e below (B.U.setTop { g with pc := g.pc + 3, stack := v.toList ++ rest }) target → Steps p.tables e below (T.setTop g) target) ∨
    (∃ (q : Addr) (vm₁ : Vm) (B : Pt), s.WarmedH vm₁ ∧ Stand p l e R s m args below meth c B.U B.locs B.cells B.slots ∧ PostX ⟨T.setVm vm₁, locs, cells, slots⟩ argsL.toArray q B ∧
      Steps p.tables e below (T.setTop g) ((B.U.setTop { g with stack := rest }).pushFrame (.throwing q))) := by
  obtain ⟨mk, hnamed⟩ := Cond.code_named hcode
  obtain ⟨methM, cM, hmethM, -, -, -, -, -, -, hsigM⟩ := Cond.code_spec hnamed hcode
  have hstatic : methM.isStatic = true := Cond.static_spec hnamed hmethM hstat
  obtain ⟨kP, hkP, -⟩ := className_of_methodNamed hnamed
  have hinitP : kP.init = .initialized := Cond.initialized_spec (findClass_of_methodNamed hnamed) hkP hinit
  obtain ⟨vm₁, X₁, hstep₁⟩ := X.invokestatic hexec hown hlink hnamed hmethM hstatic hkP hinitP hy (g := g) hg (argsL := argsL) (rest := rest) (hlen _ hsigM) hstack hdg
  rcases hK m meth c ⟨T.setVm vm₁, locs, cells, slots⟩ { g with stack := rest } (.invokestatic index) mk argsL.toArray X₁ hg hsize hdg hW (X₁.named hnamed) (hpre vm₁ X₁.warmed) with ⟨v, B, X', hpost, hsteps⟩ | ⟨q, B, X', hpost, hsteps⟩
  · exact Or.inl ⟨v, vm₁, B, X₁.warmed, X', hpost, fun target h => hstep₁ _ fun acts => by rw [doInvoke_state]; exact hsteps.trans h⟩
  · exact Or.inr ⟨q, vm₁, B, X₁.warmed, X', hpost, hstep₁ _ fun acts => by rw [doInvoke_state]; exact hsteps⟩
end Calls
theorem vx_cls {s : State} {T : State} {vm₁ : Vm} {E : String} {k : ClassId} (hW : s.WarmedH vm₁) (h : (T.setVm vm₁).vm.findClass E = some k) : s.vm.findClass E = some k := by
  have h1 : vm₁.findClass E = some k := h
  rw [hW.alike.findClass] at h1
  exact h1
/-- the method's frame g, with q thrown over it -/
def vx_W (p : Program) (l : Launch) (e : Env) (R : Room) (s : State) (m : MethodId) (args : Array Value) (below : List Frame) (meth : Method) (c : Code) (H : Heap) (locs : List Loc) (cells slots : Nat) (Q : State → Prop) (g : JFrame) (q : Addr) : Prop :=
  ∀ T : State, T.heap = H → Stand p l e R s m args below meth c T locs cells slots → ∃ t, Steps p.tables e below ((T.setTop g).pushFrame (.throwing q)) t ∧ Q t
def vx_Run (p : Program) (l : Launch) (e : Env) (R : Room) (s : State) (m : MethodId) (args : Array Value) (below : List Frame) (meth : Method) (c : Code) (H : Heap) (locs : List Loc) (cells slots mc ms : Nat) (g : JFrame) (rest : List Value) (Qa : State → Outcome → State → Prop) (XC : String → State → State → Prop) (free : Addr → Prop) : Prop :=
  ∀ T : State, T.heap = H → Stand p l e R s m args below meth c T locs cells slots →
    (∃ (v : Option Value) (st₀ t T' : State) (L : List Loc), st₀.heap = H ∧ Stand p l e R s m args below meth c T' (locs ++ L) (cells + mc) (slots + ms) ∧ (∀ q ∈ L, free q.base) ∧ T'.heap = t.heap ∧ T'.vm = t.vm ∧ Qa st₀ (.returned v) t ∧
      Goes p e below T g T' { g with pc := g.pc + 3, stack := v.toList ++ rest }) ∨
    (∃ (q : Addr) (st₀ t T' : State) (L : List Loc) (E : String) (ce : Cell), st₀.heap = H ∧ Stand p l e R s m args below meth c T' (locs ++ L) (cells + mc) (slots + ms) ∧ (∀ z ∈ L, free z.base) ∧ T'.heap = t.heap ∧ T'.vm = t.vm ∧ XC E st₀ t ∧ t.heap[q]? = some ce ∧ ce.vm = .none ∧ s.vm.findClass E = some ce.cls ∧
      Steps p.tables e below (T.setTop g) ((T'.setTop { g with stack := rest }).pushFrame (.throwing q)))
def vx_X {S : Type} (px : S → Prop) (B : String → S → State → Prop) (A : Nat → Prop) : String → State → State → Prop := fun E st t => ∃ u : S, px u ∧ B E u t ∧ va_F A st t
section Runs
variable {p : Program} {l : Launch} {e : Env} {R : Room} {s : State} {m : MethodId} {args : Array Value} {below : List Frame} {meth : Method} {c : Code} {H : Heap} {locs : List Loc} {cells slots : Nat}
variable {y : MethodName} {bytes cc : ByteArray} {maxL nL mc ms n index : Nat} {ret : Option FieldType} {ws : List Cond} {rm : Room} {Pc : Array Value → State → Prop} {Qc : Array Value → State → Outcome → State → Prop} {XC : String → State → State → Prop} {free : Addr → Prop} {Ts : List Cond} {own C : String} {b : Addr} {As rest : List Value} {g : JFrame}
theorem vx_callBack (cb : CallB R s args own index y bytes maxL ret ws rm mc ms n) (hM : vx_Met l y ws rm Pc Qc XC mc ms free) (hbl : FrameBlind Pc) : vx_Back l R p e below s args y 3 8 (PreOf R mc ms Pc) (PostOf Qc mc ms free) (vx_Post XC mc ms free) := by
  obtain ⟨hrc, hrs, hfr, hlo, hws, hcw, -, hini, -⟩ := cb
  exact vx_back (bytes := bytes) (maxL := maxL) (ret := ret) hM hbl hrc hrs hfr hlo hws hcw (fun a' U hW => word_at hW (Or.inl (by first | rfl | simp [Cond.onTables, Cond.keeps, Cond.steady])) hini)
theorem vx_runV (S : CallFix p m c cc nL s args Ts own) (hM : vx_Met l y ws rm Pc Qc XC mc ms free) (cw : CallW R s args own C index y bytes maxL ret ws rm mc ms n) (hp : PreV s H C b Pc As)
    (hg : g.method = m) (hn : As.length = n) (hsize : g.locals.size = nL) (hstack : g.stack = As.reverse ++ .ref b :: rest) (hW : 2 * g.monitorRoom + (rest.map fun v => v.category).sum ≤ 8) (hdg : decode cc g.pc = .ok (.invokevirtual index, 3)) (hf : cells + mc ≤ R.cells ∧ slots + ms ≤ R.slots) :
    vx_Run p l e R s m args below meth c H locs cells slots mc ms g rest (Qc (Value.ref b :: As).toArray) XC free := by
  have hK : vx_Back l R p e below s args y 3 8 (PreOf R mc ms Pc) (PostOf Qc mc ms free) (vx_Post XC mc ms free) := vx_callBack cw.1 hM hp.1
  obtain ⟨⟨-, -, -, -, -, -, hcode, -, hy, hlen, hl⟩, hin, hse⟩ := cw
  obtain ⟨hx, hb, hml, ho, -⟩ := S
  obtain ⟨-, ⟨cellB, hcB, hoB, hclB⟩, hPc⟩ := hp
  intro T hT X
  rcases vx_callV X hx (C := C) (bytes := bytes) (maxL := maxL) (ret := ret) ho hl hin hse hcode hy hK (by rw [hT]; exact hcB) hoB hclB hg (hsize.trans hml.symm) (argsL := As) (rest := rest) (fun sig h => hn.trans (hlen sig h)) hstack hW (by rw [hb]; exact hdg)
    (fun vm₁ hW₁ => ⟨hf.1, hf.2, hPc (T.setVm vm₁) hT hW₁⟩) with ⟨v, vm₁, ⟨U', l2, c2, s2⟩, hW₁, X', ⟨g', mk, t, L, e1, e2, hq, h1, hL, h2, h3⟩, st⟩ | ⟨q, vm₁, ⟨U', l2, c2, s2⟩, hW₁, X', ⟨g', mk, t, L, E, ce, e1, e2, hq, hce, hcv, hcl, h1, hL, h2, h3⟩, st⟩
  · dsimp only [Pt.U, Pt.locs, Pt.cells, Pt.slots] at X' e1 e2 h1 h2 h3 st
    subst h1; subst h2; subst h3
    exact Or.inl ⟨v, (T.setVm vm₁).calling g' mk (Value.ref b :: As).toArray, t, U', L, hT, X', hL, e1, e2, hq, st⟩
  · dsimp only [Pt.U, Pt.locs, Pt.cells, Pt.slots] at X' e1 e2 h1 h2 h3 st hcl
    subst h1; subst h2; subst h3
    exact Or.inr ⟨q, (T.setVm vm₁).calling g' mk (Value.ref b :: As).toArray, t, U', L, E, ce, hT, X', hL, e1, e2, hq, hce, hcv, vx_cls hW₁ hcl, st⟩
theorem vx_runS (S : CallFix p m c cc nL s args Ts own) (hM : vx_Met l y ws rm Pc Qc XC mc ms free) (cw : CallB R s args own index y bytes maxL ret ws rm mc ms n ∧ (Cond.static y).before args s = true) (hp : PreS s H Pc As)
    (hg : g.method = m) (hn : As.length = n) (hsize : g.locals.size = nL) (hstack : g.stack = As.reverse ++ rest) (hW : 2 * g.monitorRoom + (rest.map fun v => v.category).sum ≤ 8) (hdg : decode cc g.pc = .ok (.invokestatic index, 3)) (hf : cells + mc ≤ R.cells ∧ slots + ms ≤ R.slots) :
    vx_Run p l e R s m args below meth c H locs cells slots mc ms g rest (Qc As.toArray) XC free := by
  have hK : vx_Back l R p e below s args y 3 8 (PreOf R mc ms Pc) (PostOf Qc mc ms free) (vx_Post XC mc ms free) := vx_callBack cw.1 hM hp.1
  obtain ⟨⟨-, -, -, -, -, -, hcode, hini, hy, hlen, hl⟩, hstt⟩ := cw
  obtain ⟨hx, hb, hml, ho, -⟩ := S
  intro T hT X
  rcases vx_callS X hx (bytes := bytes) (maxL := maxL) (ret := ret) ho hl hstt hini hcode hy hK hg (hsize.trans hml.symm) (argsL := As) (rest := rest) (fun sig h => hn.trans (hlen sig h)) hstack hW (by rw [hb]; exact hdg)
    (fun vm₁ hW₁ => ⟨hf.1, hf.2, hp.2 (T.setVm vm₁) hT hW₁⟩) with ⟨v, vm₁, ⟨U', l2, c2, s2⟩, hW₁, X', ⟨g', mk, t, L, e1, e2, hq, h1, hL, h2, h3⟩, st⟩ | ⟨q, vm₁, ⟨U', l2, c2, s2⟩, hW₁, X', ⟨g', mk, t, L, E, ce, e1, e2, hq, hce, hcv, hcl, h1, hL, h2, h3⟩, st⟩
  · dsimp only [Pt.U, Pt.locs, Pt.cells, Pt.slots] at X' e1 e2 h1 h2 h3 st
    subst h1; subst h2; subst h3
    exact Or.inl ⟨v, (T.setVm vm₁).calling g' mk As.toArray, t, U', L, hT, X', hL, e1, e2, hq, st⟩
  · dsimp only [Pt.U, Pt.locs, Pt.cells, Pt.slots] at X' e1 e2 h1 h2 h3 st hcl
    subst h1; subst h2; subst h3
    exact Or.inr ⟨q, (T.setVm vm₁).calling g' mk As.toArray, t, U', L, E, ce, hT, X', hL, e1, e2, hq, hce, hcv, vx_cls hW₁ hcl, st⟩
end Runs
section Rows
variable {p : Program} {l : Launch} {e : Env} {R : Room} {s : State} {m : MethodId} {args : Array Value} {below : List Frame} {meth : Method} {c : Code} {H : Heap} {locs : List Loc} {cells slots : Nat} {Q : State → Prop}
variable {mc ms : Nat} {free : Addr → Prop} {A0 A1 : Nat → Prop} {H0 : Heap} {a : Array Value} {pc : Nat} {ls : Array Slot} {st0 rest : List Value}
theorem vx_keep {st₀ t T' : State} {L : List Loc} (h0 : st₀.heap = H) (e1 : T'.heap = t.heap) (hS : va_S A0 H0 H locs) (hA : ∀ q, q < H.size → A1 q → A0 q) (hf : ∀ q, free q → A0 q) (hL : ∀ q ∈ L, free q.base) (hF : va_F A1 st₀ t) :
    H.size ≤ T'.heap.size ∧ (∀ q : Nat, q < H.size → ¬ A1 q → T'.heap[q]? = H[q]?) ∧ va_S A0 H0 T'.heap (locs ++ L) := by
  obtain ⟨hz, hk⟩ := hF
  rw [h0] at hz hk
  exact ⟨by rw [e1]; exact hz, fun q h1 h2 => by rw [e1]; exact hk q h1 h2,
    ⟨Nat.le_trans hS.1 (by rw [e1]; exact hz), fun q h1 h2 => by rw [e1, hk q (Nat.lt_of_lt_of_le h1 hS.1) (fun z => h2 (hA q (Nat.lt_of_lt_of_le h1 hS.1) z))]; exact hS.2.1 q h1 h2, fun q hq => by
      rcases List.mem_append.mp hq with h | h
      · exact hS.2.2 q h
      · exact hf _ (hL q h)⟩⟩
theorem vx_calli {S SX : Type} {post : Int32 → S → Prop} {px : SX → Prop} {B : S → State → Prop} {BX : String → SX → State → Prop} {AX : Nat → Prop} (hr : vx_Run p l e R s m args below meth c H locs cells slots mc ms (F0 m pc ls st0) rest (va_Qi post B A1 a) (vx_X px BX AX) free) (hS : va_S A0 H0 H locs) (hA : ∀ q, q < H.size → A1 q → A0 q) (hf : ∀ q, free q → A0 q) (hAX : ∀ q, q < H.size → AX q → A0 q)
    (kx : ∀ (E : String) (ce : Cell) (q9 : Addr) (u : SX) (t : State) (H1 : Heap) (locs1 : List Loc), t.heap = H1 → s.vm.Alike t.vm → px u → BX E u t → H.size ≤ H1.size → (∀ q : Nat, q < H.size → ¬ AX q → H1[q]? = H[q]?) → va_S A0 H0 H1 locs1 → H1[q9]? = some ce → ce.vm = .none → s.vm.findClass E = some ce.cls → vx_W p l e R s m args below meth c H1 locs1 (cells + mc) (slots + ms) Q (F0 m pc ls rest) q9)
    (kk : ∀ (r : Int32) (u : S) (t : State) (H1 : Heap) (locs1 : List Loc), t.heap = H1 → s.vm.Alike t.vm → post r u → B u t → H.size ≤ H1.size → (∀ q : Nat, q < H.size → ¬ A1 q → H1[q]? = H[q]?) → va_S A0 H0 H1 locs1 → W p l e R s m args below meth c H1 locs1 (cells + mc) (slots + ms) Q (F0 m (pc + 3) ls (.int r :: rest))) : W p l e R s m args below meth c H locs cells slots Q (F0 m pc ls st0) := by
  intro T hT X
  rcases hr T hT X with ⟨v, st₀, t, T', L, h0, X', hL, e1, e2, ⟨⟨r, u, hv, hp, hb⟩, hF⟩, st⟩ | ⟨q, st₀, t, T', L, E, ce, h0, X', hL, e1, e2, ⟨u, hp, hb, hF⟩, hce, hcv, hcl, st⟩
  · cases hv
    obtain ⟨k1, k2, k3⟩ := vx_keep h0 e1 hS hA hf hL hF
    obtain ⟨t2, a1, b1⟩ := kk r u t T'.heap (locs ++ L) e1.symm (by rw [← e2]; exact X'.warmed.alike) hp hb k1 k2 k3 T' rfl X'
    exact ⟨t2, st t2 a1, b1⟩
  · obtain ⟨k1, k2, k3⟩ := vx_keep h0 e1 hS hAX hf hL hF
    obtain ⟨t2, a1, b1⟩ := kx E ce q u t T'.heap (locs ++ L) e1.symm (by rw [← e2]; exact X'.warmed.alike) hp hb k1 k2 k3 (by rw [e1]; exact hce) hcv hcl T' rfl X'
    exact ⟨t2, st.trans a1, b1⟩
theorem vx_calll {S SX : Type} {post : Int64 → S → Prop} {px : SX → Prop} {B : S → State → Prop} {BX : String → SX → State → Prop} {AX : Nat → Prop} (hr : vx_Run p l e R s m args below meth c H locs cells slots mc ms (F0 m pc ls st0) rest (va_Ql post B A1 a) (vx_X px BX AX) free) (hS : va_S A0 H0 H locs) (hA : ∀ q, q < H.size → A1 q → A0 q) (hf : ∀ q, free q → A0 q) (hAX : ∀ q, q < H.size → AX q → A0 q)
    (kx : ∀ (E : String) (ce : Cell) (q9 : Addr) (u : SX) (t : State) (H1 : Heap) (locs1 : List Loc), t.heap = H1 → s.vm.Alike t.vm → px u → BX E u t → H.size ≤ H1.size → (∀ q : Nat, q < H.size → ¬ AX q → H1[q]? = H[q]?) → va_S A0 H0 H1 locs1 → H1[q9]? = some ce → ce.vm = .none → s.vm.findClass E = some ce.cls → vx_W p l e R s m args below meth c H1 locs1 (cells + mc) (slots + ms) Q (F0 m pc ls rest) q9)
    (kk : ∀ (r : Int64) (u : S) (t : State) (H1 : Heap) (locs1 : List Loc), t.heap = H1 → s.vm.Alike t.vm → post r u → B u t → H.size ≤ H1.size → (∀ q : Nat, q < H.size → ¬ A1 q → H1[q]? = H[q]?) → va_S A0 H0 H1 locs1 → W p l e R s m args below meth c H1 locs1 (cells + mc) (slots + ms) Q (F0 m (pc + 3) ls (.long r :: rest))) : W p l e R s m args below meth c H locs cells slots Q (F0 m pc ls st0) := by
  intro T hT X
  rcases hr T hT X with ⟨v, st₀, t, T', L, h0, X', hL, e1, e2, ⟨⟨r, u, hv, hp, hb⟩, hF⟩, st⟩ | ⟨q, st₀, t, T', L, E, ce, h0, X', hL, e1, e2, ⟨u, hp, hb, hF⟩, hce, hcv, hcl, st⟩
  · cases hv
    obtain ⟨k1, k2, k3⟩ := vx_keep h0 e1 hS hA hf hL hF
    obtain ⟨t2, a1, b1⟩ := kk r u t T'.heap (locs ++ L) e1.symm (by rw [← e2]; exact X'.warmed.alike) hp hb k1 k2 k3 T' rfl X'
    exact ⟨t2, st t2 a1, b1⟩
  · obtain ⟨k1, k2, k3⟩ := vx_keep h0 e1 hS hAX hf hL hF
    obtain ⟨t2, a1, b1⟩ := kx E ce q u t T'.heap (locs ++ L) e1.symm (by rw [← e2]; exact X'.warmed.alike) hp hb k1 k2 k3 (by rw [e1]; exact hce) hcv hcl T' rfl X'
    exact ⟨t2, st.trans a1, b1⟩
theorem vx_callf {S SX : Type} {post : UInt32 → S → Prop} {px : SX → Prop} {B : S → State → Prop} {BX : String → SX → State → Prop} {AX : Nat → Prop} (hr : vx_Run p l e R s m args below meth c H locs cells slots mc ms (F0 m pc ls st0) rest (va_Qf post B A1 a) (vx_X px BX AX) free) (hS : va_S A0 H0 H locs) (hA : ∀ q, q < H.size → A1 q → A0 q) (hf : ∀ q, free q → A0 q) (hAX : ∀ q, q < H.size → AX q → A0 q)
    (kx : ∀ (E : String) (ce : Cell) (q9 : Addr) (u : SX) (t : State) (H1 : Heap) (locs1 : List Loc), t.heap = H1 → s.vm.Alike t.vm → px u → BX E u t → H.size ≤ H1.size → (∀ q : Nat, q < H.size → ¬ AX q → H1[q]? = H[q]?) → va_S A0 H0 H1 locs1 → H1[q9]? = some ce → ce.vm = .none → s.vm.findClass E = some ce.cls → vx_W p l e R s m args below meth c H1 locs1 (cells + mc) (slots + ms) Q (F0 m pc ls rest) q9)
    (kk : ∀ (r : UInt32) (u : S) (t : State) (H1 : Heap) (locs1 : List Loc), t.heap = H1 → s.vm.Alike t.vm → post r u → B u t → H.size ≤ H1.size → (∀ q : Nat, q < H.size → ¬ A1 q → H1[q]? = H[q]?) → va_S A0 H0 H1 locs1 → W p l e R s m args below meth c H1 locs1 (cells + mc) (slots + ms) Q (F0 m (pc + 3) ls (.float r :: rest))) : W p l e R s m args below meth c H locs cells slots Q (F0 m pc ls st0) := by
  intro T hT X
  rcases hr T hT X with ⟨v, st₀, t, T', L, h0, X', hL, e1, e2, ⟨⟨r, u, hv, hp, hb⟩, hF⟩, st⟩ | ⟨q, st₀, t, T', L, E, ce, h0, X', hL, e1, e2, ⟨u, hp, hb, hF⟩, hce, hcv, hcl, st⟩
  · cases hv
    obtain ⟨k1, k2, k3⟩ := vx_keep h0 e1 hS hA hf hL hF
    obtain ⟨t2, a1, b1⟩ := kk r u t T'.heap (locs ++ L) e1.symm (by rw [← e2]; exact X'.warmed.alike) hp hb k1 k2 k3 T' rfl X'
    exact ⟨t2, st t2 a1, b1⟩
  · obtain ⟨k1, k2, k3⟩ := vx_keep h0 e1 hS hAX hf hL hF
    obtain ⟨t2, a1, b1⟩ := kx E ce q u t T'.heap (locs ++ L) e1.symm (by rw [← e2]; exact X'.warmed.alike) hp hb k1 k2 k3 (by rw [e1]; exact hce) hcv hcl T' rfl X'
    exact ⟨t2, st.trans a1, b1⟩
theorem vx_calld {S SX : Type} {post : UInt64 → S → Prop} {px : SX → Prop} {B : S → State → Prop} {BX : String → SX → State → Prop} {AX : Nat → Prop} (hr : vx_Run p l e R s m args below meth c H locs cells slots mc ms (F0 m pc ls st0) rest (va_Qd post B A1 a) (vx_X px BX AX) free) (hS : va_S A0 H0 H locs) (hA : ∀ q, q < H.size → A1 q → A0 q) (hf : ∀ q, free q → A0 q) (hAX : ∀ q, q < H.size → AX q → A0 q)
    (kx : ∀ (E : String) (ce : Cell) (q9 : Addr) (u : SX) (t : State) (H1 : Heap) (locs1 : List Loc), t.heap = H1 → s.vm.Alike t.vm → px u → BX E u t → H.size ≤ H1.size → (∀ q : Nat, q < H.size → ¬ AX q → H1[q]? = H[q]?) → va_S A0 H0 H1 locs1 → H1[q9]? = some ce → ce.vm = .none → s.vm.findClass E = some ce.cls → vx_W p l e R s m args below meth c H1 locs1 (cells + mc) (slots + ms) Q (F0 m pc ls rest) q9)
    (kk : ∀ (r : UInt64) (u : S) (t : State) (H1 : Heap) (locs1 : List Loc), t.heap = H1 → s.vm.Alike t.vm → post r u → B u t → H.size ≤ H1.size → (∀ q : Nat, q < H.size → ¬ A1 q → H1[q]? = H[q]?) → va_S A0 H0 H1 locs1 → W p l e R s m args below meth c H1 locs1 (cells + mc) (slots + ms) Q (F0 m (pc + 3) ls (.double r :: rest))) : W p l e R s m args below meth c H locs cells slots Q (F0 m pc ls st0) := by
  intro T hT X
  rcases hr T hT X with ⟨v, st₀, t, T', L, h0, X', hL, e1, e2, ⟨⟨r, u, hv, hp, hb⟩, hF⟩, st⟩ | ⟨q, st₀, t, T', L, E, ce, h0, X', hL, e1, e2, ⟨u, hp, hb, hF⟩, hce, hcv, hcl, st⟩
  · cases hv
    obtain ⟨k1, k2, k3⟩ := vx_keep h0 e1 hS hA hf hL hF
    obtain ⟨t2, a1, b1⟩ := kk r u t T'.heap (locs ++ L) e1.symm (by rw [← e2]; exact X'.warmed.alike) hp hb k1 k2 k3 T' rfl X'
    exact ⟨t2, st t2 a1, b1⟩
  · obtain ⟨k1, k2, k3⟩ := vx_keep h0 e1 hS hAX hf hL hF
    obtain ⟨t2, a1, b1⟩ := kx E ce q u t T'.heap (locs ++ L) e1.symm (by rw [← e2]; exact X'.warmed.alike) hp hb k1 k2 k3 (by rw [e1]; exact hce) hcv hcl T' rfl X'
    exact ⟨t2, st.trans a1, b1⟩
theorem vx_callv {S SX : Type} {post : S → Prop} {px : SX → Prop} {B : S → State → Prop} {BX : String → SX → State → Prop} {AX : Nat → Prop} (hr : vx_Run p l e R s m args below meth c H locs cells slots mc ms (F0 m pc ls st0) rest (va_Qv post B A1 a) (vx_X px BX AX) free) (hS : va_S A0 H0 H locs) (hA : ∀ q, q < H.size → A1 q → A0 q) (hf : ∀ q, free q → A0 q) (hAX : ∀ q, q < H.size → AX q → A0 q)
    (kx : ∀ (E : String) (ce : Cell) (q9 : Addr) (u : SX) (t : State) (H1 : Heap) (locs1 : List Loc), t.heap = H1 → s.vm.Alike t.vm → px u → BX E u t → H.size ≤ H1.size → (∀ q : Nat, q < H.size → ¬ AX q → H1[q]? = H[q]?) → va_S A0 H0 H1 locs1 → H1[q9]? = some ce → ce.vm = .none → s.vm.findClass E = some ce.cls → vx_W p l e R s m args below meth c H1 locs1 (cells + mc) (slots + ms) Q (F0 m pc ls rest) q9)
    (kk : ∀ (u : S) (t : State) (H1 : Heap) (locs1 : List Loc), t.heap = H1 → s.vm.Alike t.vm → post u → B u t → H.size ≤ H1.size → (∀ q : Nat, q < H.size → ¬ A1 q → H1[q]? = H[q]?) → va_S A0 H0 H1 locs1 → W p l e R s m args below meth c H1 locs1 (cells + mc) (slots + ms) Q (F0 m (pc + 3) ls (rest))) : W p l e R s m args below meth c H locs cells slots Q (F0 m pc ls st0) := by
  intro T hT X
  rcases hr T hT X with ⟨v, st₀, t, T', L, h0, X', hL, e1, e2, ⟨⟨u, hv, hp, hb⟩, hF⟩, st⟩ | ⟨q, st₀, t, T', L, E, ce, h0, X', hL, e1, e2, ⟨u, hp, hb, hF⟩, hce, hcv, hcl, st⟩
  · cases hv
    obtain ⟨k1, k2, k3⟩ := vx_keep h0 e1 hS hA hf hL hF
    obtain ⟨t2, a1, b1⟩ := kk u t T'.heap (locs ++ L) e1.symm (by rw [← e2]; exact X'.warmed.alike) hp hb k1 k2 k3 T' rfl X'
    exact ⟨t2, st t2 a1, b1⟩
  · obtain ⟨k1, k2, k3⟩ := vx_keep h0 e1 hS hAX hf hL hF
    obtain ⟨t2, a1, b1⟩ := kx E ce q u t T'.heap (locs ++ L) e1.symm (by rw [← e2]; exact X'.warmed.alike) hp hb k1 k2 k3 (by rw [e1]; exact hce) hcv hcl T' rfl X'
    exact ⟨t2, st.trans a1, b1⟩
/-- caught by the row x of this method's table; the rows ahead don't take it -/
theorem vx_catch {own name : String} {E : String} {ce : Cell} {q : Addr} (hown : s.vm.findClass own = some m.cls) (pre : List ExceptionTableEntry) (x : ExceptionTableEntry) (suf : List ExceptionTableEntry) (hsplit : c.exceptionTable.toList = pre ++ x :: suf)
    (hpass : ∀ z ∈ pre, covers z pc = false ∨ (z.catchType ≠ 0 ∧ ∃ nm : String, (Cond.classLink own z.catchType nm).before args s = true ∧ va_Nc E nm s)) (hx : covers x pc = true) (h0 : x.catchType ≠ 0)
    (hlink : (Cond.classLink own x.catchType name).before args s = true) (hcast : (Cond.castable E name).before args s = true) (hcell : H[q]? = some ce) (hv : ce.vm = .none) (hcl : s.vm.findClass E = some ce.cls)
    (kk : W p l e R s m args below meth c H locs cells slots Q (F0 m x.handlerPc ls [.ref q])) : vx_W p l e R s m args below meth c H locs cells slots Q (F0 m pc ls rest) q := by
  intro T hT X
  have hpl : e.platform.magicAccessors = ({} : Platform).magicAccessors := by rw [X.admits.platform]
  obtain ⟨c3, c4, hc3, hc4, hasg⟩ := Cond.castable_spec hcast
  cases Option.some.inj (hc3.symm.trans hcl)
  obtain ⟨c5, hc5, hcl5⟩ := Cond.classLink_spec hown hlink e.platform hpl
  cases Option.some.inj (hc4.symm.trans hc5)
  obtain ⟨vm', X', st⟩ := X.thenCaughtThrough q (g := F0 m pc ls rest) rfl (Steps.refl _) (by rw [hT]; exact hcell) (by rw [hv]; rfl) (by obtain ⟨k9, h9, -⟩ := Vm.findClass_spec hcl; exact ⟨k9, h9⟩) pre x suf hsplit
    (fun z hz => by
      rcases hpass z hz with h | ⟨hz0, nm, hl1, hn1⟩
      · exact Or.inl h
      · obtain ⟨c6, hc6, hcl6⟩ := Cond.classLink_spec hown hl1 e.platform hpl
        obtain ⟨a8, b8, h1, h2, h3⟩ := hn1
        cases Option.some.inj (h1.symm.trans hcl)
        cases Option.some.inj (h2.symm.trans hc6)
        exact Or.inr ⟨hz0, _, hcl6, h3⟩) hx (Or.inr ⟨h0, c4, hcl5, hasg⟩)
  obtain ⟨t, a1, b1⟩ := kk (T.setVm vm') hT X'
  exact ⟨t, st.trans a1, b1⟩
end Rows
section Ends
variable {p : Program} {l : Launch} {e : Env} {R : Room} {s : State} {m : MethodId} {args : Array Value} {below : List Frame} {meth : Method} {c : Code} {H : Heap} {locs : List Loc} {cells slots : Nat} {Q : State → Prop}
variable {mc ms : Nat} {free : Addr → Prop} {A0 A1 : Nat → Prop} {H0 : Heap} {a : Array Value} {ls : Array Slot} {st0 rest : List Value}
variable {Qc : Array Value → State → Outcome → State → Prop} {XC : String → State → State → Prop}
/-- what a body that may throw owes at its end -/
def vx_MQ (below : List Frame) (Qc : Array Value → State → Outcome → State → Prop) (XC : String → State → State → Prop) (a : Array Value) (s : State) (mc ms : Nat) (free : Addr → Prop) : State → Prop := fun t =>
  ∃ o, t.status = .running ∧ Ended t below o ∧ vx_Q Qc XC mc ms free a s o t
theorem vx_ret {g : JFrame} {mc ms : Nat} (k : W p l e R s m args below meth c H locs cells slots (MQ below Qc args s mc ms free) g) : W p l e R s m args below meth c H locs cells slots (vx_MQ below Qc XC args s mc ms free) g := by
  intro T hT X
  obtain ⟨t, a1, o, b1, b2, b3, b4⟩ := k T hT X
  exact ⟨t, a1, o, b1, b2, Or.inl ⟨b3, b4⟩⟩
/-- not caught here: it goes on to the caller -/
theorem vx_widen {g : JFrame} {q : Addr} {k n : Nat} (h1 : cells ≤ k) (h2 : slots ≤ n) (kk : vx_W p l e R s m args below meth c H locs k n Q g q) : vx_W p l e R s m args below meth c H locs cells slots Q g q := fun T hT X => kk T hT (stand_widen X h1 h2)
theorem vx_out {pc : Nat} {E : String} {ce : Cell} {q : Addr} {mc ms : Nat} (hout : ∀ x ∈ c.exceptionTable.toList, covers x pc = false) (hlocks : meth.locks = false) (hcell : H[q]? = some ce) (hv : ce.vm = .none) (hcl : s.vm.findClass E = some ce.cls)
    (hx : ∀ t : State, t.heap = H → s.vm.Alike t.vm → XC E s t) (hf : ∀ z ∈ locs, free z.base) (hc : cells ≤ mc) (hs : slots ≤ ms) :
    vx_W p l e R s m args below meth c H locs cells slots (vx_MQ below Qc XC args s mc ms free) (F0 m pc ls rest) q := by
  intro T hT X
  obtain ⟨st1, hrun, hend, hW, hsm⟩ := X.leaveThrown q (g := F0 m pc ls rest) rfl rfl rfl hout hlocks
  have hcell9 : (T.setFrames (.throwing q :: below)).heap[q]? = some ce := by
    show T.heap[q]? = some ce
    rw [hT]; exact hcell
  exact ⟨_, st1, .threw q, hrun, hend, Or.inr ⟨q, rfl, E, ce, locs, hx _ hT hW.alike, hcell9, hv, hcl, hW, hsm.mono hc hs, hf⟩⟩
theorem vx_frame {U : State} {k n : Nat} (h : s.sameButNew ({ U with vm := s.vm } : State) locs k n) : s.heap.size ≤ U.heap.size ∧ ∀ q : Nat, q < s.heap.size → (∀ z ∈ locs, z.base ≠ q) → U.heap[q]? = s.heap[q]? := by
  obtain ⟨-, h2, -, -, -, h6⟩ := h
  refine ⟨h2, fun q hq hz => ?_⟩
  obtain ⟨c9, e1, e2, e3, e4⟩ := h6 q _ (Array.getElem?_eq_getElem hq)
  have hs : c9.slots = (s.heap[q]).slots := Array.ext_getElem? fun i => e4 i fun hm => hz _ hm rfl
  have h9 : c9 = s.heap[q] := by
    rw [hs] at e2
    exact e2
  have e5 : U.heap[q]? = some c9 := e1
  rw [e5, h9, Array.getElem?_eq_getElem hq]
/-- the words of a throw but the four that speak of the heap -/
def vx_no (w : Cond) : Bool := decide (w ≠ .isRef (.static Jvm.Bundle.tN "UNASSIGNED_STACK" Jvm.Bundle.steD)) && decide (w ≠ .isRef (.static Jvm.Bundle.tN "SUPPRESSED_SENTINEL" Jvm.Bundle.listD)) && decide (w ≠ .laysStatic Jvm.Bundle.tN "UNASSIGNED_STACK" Jvm.Bundle.steD) && decide (w ≠ .laysStatic Jvm.Bundle.tN "SUPPRESSED_SENTINEL" Jvm.Bundle.listD)
def vx_at0 (own : String) (ic : Nat) (X : String) (names : List String) : List Cond := (Jvm.Bundle.ownAtoms0 own ic X names).filter vx_no
def vx_atS (own : String) (ic : Nat) (X : String) (names : List String) : List Cond := (Jvm.Bundle.ownAtoms own ic X names).filter vx_no
/-- a word that the tables alone decide, or a good one -/
def vx_ot (w : Cond) : Bool := w.onTables || goodWord w
theorem vx_ot_at {args a' : Array Value} {s U : State} {w : Cond} (hW : s.WarmedH U.vm) (hvm : s.vm = U.vm) (hg : vx_ot w = true) (h : w.before args s = true) : w.before a' U = true := by
  simp only [vx_ot, Bool.or_eq_true] at hg
  rcases hg with hg | hg
  · exact va_tabs hg hvm h
  · exact word_at hW (good_of_word hg) h
/-- a list's words: the good ones out of the method's own list, the others by premises of their own -/
theorem vx_hat {args : Array Value} {s : State} {L B : List Cond} (h1 : ∀ w ∈ L.filter goodWord, w.before args s = true) (h2 : ∀ w ∈ L.filter (fun w => !goodWord w), w ∈ B) (h3 : ∀ w ∈ B, w.before args s = true) : ∀ w ∈ L, w.before args s = true := by
  intro w hw
  by_cases g : goodWord w = true
  · exact h1 w (List.mem_filter.mpr ⟨hw, g⟩)
  · refine h3 w (h2 w (List.mem_filter.mpr ⟨hw, ?_⟩))
    show (!goodWord w) = true
    cases hgw : goodWord w
    · rfl
    · exact absurd hgw g
theorem vx_c {args : Array Value} {s : State} {w : Cond} {B : List Cond} (h : w.before args s = true) (t : ∀ w ∈ B, w.before args s = true) : ∀ w' ∈ w :: B, w'.before args s = true := fun w' h' => (List.mem_cons.mp h').elim (fun e => by rw [e]; exact h) (t w')
theorem vx_n {args : Array Value} {s : State} : ∀ w ∈ ([] : List Cond), w.before args s = true := fun _ h => nomatch h
theorem vx_own {args : Array Value} {s : State} {L : List Cond} (h1 : ∀ w ∈ L.filter vx_no, w.before args s = true)
    (hU : (Cond.isRef (.static Jvm.Bundle.tN "UNASSIGNED_STACK" Jvm.Bundle.steD)).before args s = true) (hN : (Cond.isRef (.static Jvm.Bundle.tN "SUPPRESSED_SENTINEL" Jvm.Bundle.listD)).before args s = true)
    (lU : (Cond.laysStatic Jvm.Bundle.tN "UNASSIGNED_STACK" Jvm.Bundle.steD).before args s = true) (lN : (Cond.laysStatic Jvm.Bundle.tN "SUPPRESSED_SENTINEL" Jvm.Bundle.listD).before args s = true) : ∀ w ∈ L, w.before args s = true := by
  intro w hw
  by_cases e1 : w = .isRef (.static Jvm.Bundle.tN "UNASSIGNED_STACK" Jvm.Bundle.steD)
  · rw [e1]; exact hU
  · by_cases e2 : w = .isRef (.static Jvm.Bundle.tN "SUPPRESSED_SENTINEL" Jvm.Bundle.listD)
    · rw [e2]; exact hN
    · by_cases e3 : w = .laysStatic Jvm.Bundle.tN "UNASSIGNED_STACK" Jvm.Bundle.steD
      · rw [e3]; exact lU
      · by_cases e4 : w = .laysStatic Jvm.Bundle.tN "SUPPRESSED_SENTINEL" Jvm.Bundle.listD
        · rw [e4]; exact lN
        · exact h1 w (List.mem_filter.mpr ⟨hw, by unfold vx_no; rw [decide_eq_true e1, decide_eq_true e2, decide_eq_true e3, decide_eq_true e4]; rfl⟩)
/-- where a static field lies, its class's statics cell in H -/
def vx_L (C n d : String) (A : Nat → Prop) (U : State) (H : Heap) : Prop := ∃ (c : ClassId) (k : Class) (i : Nat) (f : Field) (a : Nat) (cell : Cell), U.vm.findClass C = some c ∧ U.fieldFound? C n d = some (c, k, i, f) ∧ f.isStatic = true ∧ k.statics = some a ∧ H[a]? = some cell ∧ cell.vm.isStatics = true ∧ cell.cls = c ∧ f.slot < cell.slots.size ∧ k.staticTypes[f.slot]? = some f.type ∧ ¬ A a
theorem vx_L.moved {C n d : String} {A : Nat → Prop} {u U : State} {H : Heap} (hvm : u.vm.Alike U.vm) (h : vx_L C n d A u H) : vx_L C n d A U H := by
  obtain ⟨c, k, i, f, a, cell, h1, h2, h3, h4, h5, h6, h7, h8, h9, h10⟩ := h
  obtain ⟨k', hi', he⟩ := State.fieldFound?_setVm hvm h2
  exact ⟨c, k', i, f, a, cell, by rw [hvm.findClass]; exact h1, hi', h3, by rw [he]; exact h4, h5, h6, h7, h8, by rw [he]; exact h9, h10⟩
theorem vx_L.kept {C n d : String} {A : Nat → Prop} {U : State} {H H1 : Heap} (h : vx_L C n d A U H) (hq : ∀ a : Nat, a < H.size → ¬ A a → H1[a]? = H[a]?) : vx_L C n d A U H1 := by
  obtain ⟨c, k, i, f, a, cell, h1, h2, h3, h4, h5, h6, h7, h8, h9, h10⟩ := h
  exact ⟨c, k, i, f, a, cell, h1, h2, h3, h4, by rw [hq a (Array.getElem?_eq_some_iff.mp h5).1 h10]; exact h5, h6, h7, h8, h9, h10⟩
theorem vx_L.narrow {C n d : String} {A B : Nat → Prop} {U : State} {H : Heap} (h : vx_L C n d A U H) (hAB : ∀ q, B q → A q) : vx_L C n d B U H := by
  obtain ⟨c, k, i, f, a, cell, h1, h2, h3, h4, h5, h6, h7, h8, h9, h10⟩ := h
  exact ⟨c, k, i, f, a, cell, h1, h2, h3, h4, h5, h6, h7, h8, h9, fun z => h10 (hAB _ z)⟩
theorem vx_L.word {C n d : String} {A : Nat → Prop} {s : State} {args : Array Value} (h : vx_L C n d A s s.heap) : (Cond.laysStatic C n d).before args s = true := by
  obtain ⟨c, k, i, f, a, cell, h1, h2, h3, h4, h5, h6, h7, h8, h9, -⟩ := h
  show (Cond.laysStatic C n d).holds args s none s [] = true
  exact Cond.laysStatic_of h1 h2 h3 h4 h5 h6 h7 h8 h9
/-- .. and what it holds: null or some reference -/
def vx_Zq (C n d : String) (A : Nat → Prop) (U : State) (H : Heap) : Prop := va_Zq C n d A U H ∧ vx_L C n d A U H
theorem vx_Zq.moved {C n d : String} {A : Nat → Prop} {u U : State} {H : Heap} (hvm : u.vm.Alike U.vm) (h : vx_Zq C n d A u H) : vx_Zq C n d A U H := ⟨va_Zq.moved hvm h.1, vx_L.moved hvm h.2⟩
theorem vx_Zq.kept {C n d : String} {A : Nat → Prop} {U : State} {H H1 : Heap} (h : vx_Zq C n d A U H) (hq : ∀ a : Nat, a < H.size → ¬ A a → H1[a]? = H[a]?) : vx_Zq C n d A U H1 := ⟨va_Zq.kept h.1 hq, vx_L.kept h.2 hq⟩
theorem vx_Zq.narrow {C n d : String} {A B : Nat → Prop} {U : State} {H : Heap} (h : vx_Zq C n d A U H) (hAB : ∀ q, B q → A q) : vx_Zq C n d B U H := ⟨va_Zq.narrow h.1 hAB, vx_L.narrow h.2 hAB⟩
theorem vx_Zqof {args : Array Value} {s : State} {C n d : String} {A : Nat → Prop} (hl : (Cond.laysStatic C n d).before args s = true) (hini : (Cond.initialized C).before args s = true) (h : (Cond.isRef (.static C n d)).before args s = true) (hA : ∀ a : Nat, a < s.heap.size → ¬ A a) : vx_Zq C n d A s s.heap := by
  refine ⟨va_Zqof hl hini h hA, ?_⟩
  obtain ⟨c, k, i, f, a, cell, h1, h2, h3, h4, h5, h6, h7, h8, h9⟩ := Cond.laysStatic_spec hl
  exact ⟨c, k, i, f, a, cell, h1, h2, h3, h4, h5, h6, h7, h8, h9, hA a (Array.getElem?_eq_some_iff.mp h5).1⟩
theorem vx_isRef {C n d : String} {v : Value} {A : Nat → Prop} {s : State} {args : Array Value} (h : va_Z C n d v A s s.heap) (hv : v.isRef = true) : (Cond.isRef (.static C n d)).before args s = true := by
  obtain ⟨cf, kf, fi, f, a, cell, h1, h2, h3, h4, h5, h6, h7, -⟩ := h
  have he : (Term.static C n d).eval args s none [] s = some v := by
    simp [Term.eval, State.fieldNamed?, h1, h2, h4, h5, h6, h7]
  simp only [Cond.before, Cond.holds, Cond.value, he]
  cases v <;> simp_all [Value.isRef]
theorem vx_isRefq {C n d : String} {A : Nat → Prop} {s : State} {args : Array Value} (h : va_Zq C n d A s s.heap) : (Cond.isRef (.static C n d)).before args s = true := by
  rcases h with h | ⟨t, h⟩
  · exact vx_isRef h rfl
  · exact vx_isRef h rfl
/-- the same frame, seen from here: as if the method were called anew in this heap -/
theorem vx_rebase {T : State} (X : Stand p l e R s m args below meth c T locs cells slots) {R' : Room} (hf : R'.frames ≤ R.frames) (hl : R'.locals ≤ R.locals) (hc : cells + R'.cells ≤ R.cells) (hs : slots + R'.slots ≤ R.slots) :
    Stand p l e R' ((T.setVm s.vm).setFrames (.invoking m args :: below)) m args below meth c T [] 0 0 := by
  have htop : (T.setVm s.vm).topJava?.isSome := X.here.top
  have hF : ((T.setVm s.vm).setFrames (.invoking m args :: below)).frames = .invoking m args :: below := State.frames_setFrames _ (State.cur_lt_of_top htop)
  obtain ⟨g₀, hg0⟩ := Option.isSome_iff_exists.mp htop
  obtain ⟨r, hr⟩ := State.topJava?_eq_some.mp hg0
  have hl9 : e.platform.stackLimits (T.setVm s.vm).me = e.platform.stackLimits s.me := X.limits
  have hb9 : (T.setVm s.vm).me.stackBytes = s.me.stackBytes := X.bytes
  refine ⟨X.admits, X.cas, X.clock, hF, ?_, X.hears, X.method, X.code, X.here, X.tail, X.warmed, ?_, ?_, ?_⟩
  · have h := X.room
    have hU : ((T.setVm s.vm).setFrames (.invoking m args :: below)).localsInUse = s.localsInUse := by
      rw [State.localsInUse_invoking hF (meth := meth) (c := c) X.method X.code, State.localsInUse_invoking X.frames X.method X.code]
    simp only [State.hasRoom, Bool.and_eq_true, decide_eq_true_eq] at h ⊢
    obtain ⟨⟨⟨⟨h1, h2, h3, h4, h5, h6⟩, h7⟩, h8⟩, h9⟩ := h
    rw [X.frames, List.length_cons] at h2 h3
    have q1 := X.heapSize
    have q2 := X.used
    simp only [hF, hU, List.length_cons, State.stackLimits_setFrames, State.stackBytes_setFrames, hl9, hb9]
    refine ⟨⟨⟨⟨by omega, by omega, by omega, by omega, by omega, h6⟩, ?_⟩, ?_⟩, X.book⟩
    · show T.heap.size + R'.cells ≤ e.platform.maxCells
      omega
    · show T.slotsUsed + R'.slots ≤ e.platform.maxSlots
      omega
  · rw [State.stackLimits_setFrames]; rfl
  · rw [State.stackBytes_setFrames]; rfl
  · refine ⟨?_, Nat.le_refl _, Nat.le_refl _, ?_, ?_, fun a c9 h9 => ⟨c9, h9, rfl, rfl, fun _ _ => rfl⟩⟩
    · obtain ⟨t, ht, -⟩ := State.frames_cons hr
      show T.setVm s.vm = { ((T.setVm s.vm).setFrames (.invoking m args :: below)).setFrames (T.setVm s.vm).frames with heap := T.heap, slotsUsed := T.slotsUsed }
      rw [State.setFrames_setFrames, State.setFrames_self ht]
      rfl
    · show T.slotsUsed = T.slotsUsed + ((T.heap.toList.drop T.heap.size).map (·.slots.size)).sum
      rw [List.drop_eq_nil_of_le (Nat.le_of_eq Array.length_toList)]
      rfl
    · show ((T.heap.toList.drop T.heap.size).map (·.slots.size)).sum ≤ 0
      rw [List.drop_eq_nil_of_le (Nat.le_of_eq Array.length_toList)]
      exact Nat.le_refl _
/-- 'throw new E()': new; dup; invokespecial; athrow -/
theorem vx_throw0 {cc : ByteArray} {pc : Nat} (hexec : p.tables.exec = Jvm.exec) (hb : c.code = cc) (hl : l.stackTraces = false) {own cls : String} {names : List String} {ik ic mc ms : Nat} {A : Nat → Prop}
    (hown : s.vm.findClass own = some m.cls) (hcls : Jvm.Bundle.fit cls = true) (hnames : ∀ n ∈ names, Jvm.Bundle.fit n = true)
    (hk : (Cond.classLink own ik cls).before args s = true) (hini : (Cond.initialized cls).before args s = true) (hat : ∀ w ∈ vx_at0 own ic cls names, w.before args s = true)
    (hgood : ∀ w ∈ Cond.classLink own ik cls :: Cond.initialized cls :: vx_at0 own ic cls names, vx_ot w = true)
    (hU : vx_Zq Jvm.Bundle.tN "UNASSIGNED_STACK" Jvm.Bundle.steD A s s.heap) (hN : vx_Zq Jvm.Bundle.tN "SUPPRESSED_SENTINEL" Jvm.Bundle.listD A s s.heap) (hS : va_S A s.heap H locs) (hsize : ls.size = c.maxLocals)
    (d0 : decode cc pc = .ok (.new ik, 3)) (d3 : decode cc (pc + 3) = .ok (.dup, 1)) (d4 : decode cc (pc + 4) = .ok (.invokespecial ic, 3)) (d7 : decode cc (pc + 7) = .ok (.athrow, 1))
    (hout : ∀ x ∈ c.exceptionTable.toList, covers x (pc + 7) = false)
    (hRframes : names.length + 3 < R.frames) (hRlocals : (rest.map fun v => v.category).sum + (13 * (names.length + 1) + 42) ≤ R.locals) (hRcells : cells + 1 ≤ R.cells) (hRslots : slots + 6 ≤ R.slots) (hlocks : meth.locks = false)
    (hx : ∀ t : State, s.vm.Alike t.vm → H.size ≤ t.heap.size → (∀ q : Nat, q < H.size → t.heap[q]? = H[q]?) → XC cls s t)
    (hf : ∀ z ∈ locs, free z.base) (hc : cells + 1 ≤ mc) (hs : slots + 6 ≤ ms) :
    W p l e R s m args below meth c H locs cells slots (vx_MQ below Qc XC args s mc ms free) (F0 m pc ls rest) := by
  intro T hT X
  have htr : e.platform.stackTraces = false := (show e.platform.stackTraces = l.stackTraces by rw [X.admits.platform]).trans hl
  have Y := vx_rebase X (R' := { frames := R.frames, locals := R.locals, cells := 1, slots := 6 }) (Nat.le_refl _) (Nat.le_refl _) hRcells hRslots
  obtain ⟨s', hA⟩ : ∃ z, z = (T.setVm s.vm).setFrames (.invoking m args :: below) := ⟨_, rfl⟩
  rw [← hA] at Y
  have hvm : s'.vm = s.vm := by rw [hA]; rfl
  have hhp : s'.heap = H := by rw [hA]; exact hT
  have hW0 : s.WarmedH s'.vm := by rw [hvm]; exact State.WarmedH.refl s
  have hat' : ∀ w ∈ vx_at0 own ic cls names, w.before args s' = true := fun w hw => vx_ot_at hW0 hvm.symm (hgood w (List.mem_cons_of_mem _ (List.mem_cons_of_mem _ hw))) (hat w hw)
  have hk' : (Cond.classLink own ik cls).before args s' = true := vx_ot_at hW0 hvm.symm (hgood _ List.mem_cons_self) hk
  have hini' : (Cond.initialized cls).before args s' = true := vx_ot_at hW0 hvm.symm (hgood _ (List.mem_cons_of_mem _ List.mem_cons_self)) hini
  have hU' : vx_Zq Jvm.Bundle.tN "UNASSIGNED_STACK" Jvm.Bundle.steD A s' s'.heap := by rw [hhp]; exact vx_Zq.moved hW0.alike (hU.kept hS.2.1)
  have hN' : vx_Zq Jvm.Bundle.tN "SUPPRESSED_SENTINEL" Jvm.Bundle.listD A s' s'.heap := by rw [hhp]; exact vx_Zq.moved hW0.alike (hN.kept hS.2.1)
  have h : ∀ w ∈ Jvm.Bundle.ownAtoms0 own ic cls names, w.before args s' = true := vx_own hat' (vx_isRefq hU'.1) (vx_isRefq hN'.1) hU'.2.word hN'.2.word
  have hown' : s'.vm.findClass own = some m.cls := by rw [hvm]; exact hown
  have hins : (Cond.instantiable cls 6).before args s' = true := h _ (by simp [Jvm.Bundle.ownAtoms0])
  obtain ⟨vm₁, cX, kX, hfX, hkX, -, -, X₁, st1⟩ := Y.newCold hexec (own := own) (C := cls) (index := ik) (n := 6) hown' hk' hins hini'
    (g := F0 m pc ls rest) rfl (by rw [hb]; exact d0) (Nat.le_refl _) (Nat.le_refl _)
  generalize hT1 : (T.setVm vm₁).pushCell { cls := cX, slots := kX.instanceTypes.map defaultValue, vm := .none } = T1 at X₁ st1
  have hcat : (Value.ref T.heap.size).category = 1 := rfl
  have hcellA : T1.heap[T.heap.size]? = some (freshCell cX kX) := by rw [← hT1]; exact State.heap_pushCell_size _ _
  have d3' : decode c.code (pc + 3) = .ok (.dup, 1) := by rw [hb]; exact d3
  obtain ⟨U, hsteps, hrun, hend, hW, hsame, ce, hce, hO⟩ := X₁.ctorThrow0 hexec htr (own := own) (cls := cls) (names := names) (ic := ic) hown' hcls hnames h (fun x hx => nomatch hx) hfX hkX hcellA (by rw [hhp, hT]; exact Nat.le_refl _)
    (g := { method := m, pc := pc + 4, locals := ls, stack := .ref T.heap.size :: .ref T.heap.size :: rest, locked := none }) rfl hsize rfl rfl (rest := rest) rfl
    (by rw [hb]; exact d4) (by rw [hb]; exact d7) hout hRframes (by simp only [List.map_cons, List.sum_cons, hcat]; omega) hlocks
  obtain ⟨f1, f2⟩ := vx_frame hsame
  rw [hhp] at f1 f2
  have hWs : s.WarmedH U.vm := State.WarmedH.trans hW0 hW
  have hcl : s.vm.findClass cls = some ce.cls := by
    have h9 := hO.cls
    rw [hvm] at h9
    exact h9
  have hall : s.sameButNew ({ U with vm := s.vm } : State) locs mc ms := by
    subst hA
    obtain ⟨e1, e2⟩ := hsame
    rw [State.setFrames_setFrames] at e1
    have h2 : (T.setVm s.vm).sameButNew ({ U with vm := s.vm } : State) [] (0 + 1) (0 + 6) := ⟨e1, e2⟩
    have h3 := X.same.trans h2
    rw [List.append_nil] at h3
    exact h3.mono hc hs
  refine ⟨U, ?_, .threw T.heap.size, hrun, hend, Or.inr ⟨T.heap.size, rfl, cls, ce, locs, hx U hWs.alike f1 (fun q hq => f2 q hq (fun z hz => nomatch hz)), hce, hO.vm, hcl, hWs, hall, hf⟩⟩
  refine st1 _ ?_
  show Steps p.tables e below (T1.setTop { method := m, pc := pc + 3, locals := ls, stack := .ref T.heap.size :: rest, locked := none }) _
  jvm_step X₁.here [X₁.here.top, hexec, d3', Value.category]
  exact hsteps
/-- 'throw new E("text")': new; dup; ldc; invokespecial; athrow -/
theorem vx_throwS {cc : ByteArray} {pc : Nat} (hexec : p.tables.exec = Jvm.exec) (hb : c.code = cc) (hl : l.stackTraces = false) {own cls text : String} {names : List String} {ik is ic mc ms sa : Nat} {A : Nat → Prop}
    (hown : s.vm.findClass own = some m.cls) (hcls : Jvm.Bundle.fit cls = true) (hnames : ∀ n ∈ names, Jvm.Bundle.fit n = true)
    (hk : (Cond.classLink own ik cls).before args s = true) (hini : (Cond.initialized cls).before args s = true) (hstr : vk_R own is text sa s) (hat : ∀ w ∈ vx_atS own ic cls names, w.before args s = true)
    (hgood : ∀ w ∈ Cond.classLink own ik cls :: Cond.initialized cls :: vx_atS own ic cls names, vx_ot w = true)
    (hU : vx_Zq Jvm.Bundle.tN "UNASSIGNED_STACK" Jvm.Bundle.steD A s s.heap) (hN : vx_Zq Jvm.Bundle.tN "SUPPRESSED_SENTINEL" Jvm.Bundle.listD A s s.heap) (hS : va_S A s.heap H locs) (hsize : ls.size = c.maxLocals)
    (d0 : decode cc pc = .ok (.new ik, 3)) (d3 : decode cc (pc + 3) = .ok (.dup, 1)) (d4 : decode cc (pc + 4) = .ok (.ldc is, 2)) (d6 : decode cc (pc + 6) = .ok (.invokespecial ic, 3)) (d9 : decode cc (pc + 9) = .ok (.athrow, 1))
    (hout : ∀ x ∈ c.exceptionTable.toList, covers x (pc + 9) = false)
    (hRframes : names.length + 3 < R.frames) (hRlocals : (rest.map fun v => v.category).sum + (13 * (names.length + 1) + 43) ≤ R.locals) (hRcells : cells + 1 ≤ R.cells) (hRslots : slots + 6 ≤ R.slots) (hlocks : meth.locks = false)
    (hx : ∀ t : State, s.vm.Alike t.vm → H.size ≤ t.heap.size → (∀ q : Nat, q < H.size → t.heap[q]? = H[q]?) → XC cls s t)
    (hf : ∀ z ∈ locs, free z.base) (hc : cells + 1 ≤ mc) (hs : slots + 6 ≤ ms) :
    W p l e R s m args below meth c H locs cells slots (vx_MQ below Qc XC args s mc ms free) (F0 m pc ls rest) := by
  intro T hT X
  have htr : e.platform.stackTraces = false := (show e.platform.stackTraces = l.stackTraces by rw [X.admits.platform]).trans hl
  have Y := vx_rebase X (R' := { frames := R.frames, locals := R.locals, cells := 1, slots := 6 }) (Nat.le_refl _) (Nat.le_refl _) hRcells hRslots
  obtain ⟨s', hA⟩ : ∃ z, z = (T.setVm s.vm).setFrames (.invoking m args :: below) := ⟨_, rfl⟩
  rw [← hA] at Y
  have hvm : s'.vm = s.vm := by rw [hA]; rfl
  have hhp : s'.heap = H := by rw [hA]; exact hT
  have hW0 : s.WarmedH s'.vm := by rw [hvm]; exact State.WarmedH.refl s
  have hat' : ∀ w ∈ vx_atS own ic cls names, w.before args s' = true := fun w hw => vx_ot_at hW0 hvm.symm (hgood w (List.mem_cons_of_mem _ (List.mem_cons_of_mem _ hw))) (hat w hw)
  have hk' : (Cond.classLink own ik cls).before args s' = true := vx_ot_at hW0 hvm.symm (hgood _ List.mem_cons_self) hk
  have hini' : (Cond.initialized cls).before args s' = true := vx_ot_at hW0 hvm.symm (hgood _ (List.mem_cons_of_mem _ List.mem_cons_self)) hini
  have hU' : vx_Zq Jvm.Bundle.tN "UNASSIGNED_STACK" Jvm.Bundle.steD A s' s'.heap := by rw [hhp]; exact vx_Zq.moved hW0.alike (hU.kept hS.2.1)
  have hN' : vx_Zq Jvm.Bundle.tN "SUPPRESSED_SENTINEL" Jvm.Bundle.listD A s' s'.heap := by rw [hhp]; exact vx_Zq.moved hW0.alike (hN.kept hS.2.1)
  have h : ∀ w ∈ Jvm.Bundle.ownAtoms own ic cls names, w.before args s' = true := vx_own hat' (vx_isRefq hU'.1) (vx_isRefq hN'.1) hU'.2.word hN'.2.word
  have hown' : s'.vm.findClass own = some m.cls := by rw [hvm]; exact hown
  have hins : (Cond.instantiable cls 6).before args s' = true := h _ (by simp [Jvm.Bundle.ownAtoms])
  obtain ⟨vm₁, cX, kX, hfX, hkX, -, -, X₁, st1⟩ := Y.newCold hexec (own := own) (C := cls) (index := ik) (n := 6) hown' hk' hins hini'
    (g := F0 m pc ls rest) rfl (by rw [hb]; exact d0) (Nat.le_refl _) (Nat.le_refl _)
  generalize hT1 : (T.setVm vm₁).pushCell { cls := cX, slots := kX.instanceTypes.map defaultValue, vm := .none } = T1 at X₁ st1
  have hcat : (Value.ref T.heap.size).category = 1 := rfl
  have hcellA : T1.heap[T.heap.size]? = some (freshCell cX kX) := by rw [← hT1]; exact State.heap_pushCell_size _ _
  have d3' : decode c.code (pc + 3) = .ok (.dup, 1) := by rw [hb]; exact d3
  have d4' : decode c.code (pc + 4) = .ok (.ldc is, 2) := by rw [hb]; exact d4
  have hstr' : vk_R own is text sa s' := vk_R.warm hW0 hstr
  obtain ⟨U, hsteps, hrun, hend, hW, hsame, ce, hce, hO⟩ := X₁.ctorThrowS hexec htr (own := own) (cls := cls) (names := names) (ic := ic) hown' hcls hnames h (fun x hx => nomatch hx) hfX hkX hcellA (by rw [hhp, hT]; exact Nat.le_refl _) (msg := .ref sa) rfl
    (g := { method := m, pc := pc + 6, locals := ls, stack := .ref sa :: .ref T.heap.size :: .ref T.heap.size :: rest, locked := none }) rfl hsize rfl rfl (rest := rest) rfl
    (by rw [hb]; exact d6) (by rw [hb]; exact d9) hout hRframes (by simp only [List.map_cons, List.sum_cons, hcat]; omega) hlocks
  obtain ⟨f1, f2⟩ := vx_frame hsame
  rw [hhp] at f1 f2
  have hWs : s.WarmedH U.vm := State.WarmedH.trans hW0 hW
  have hcl : s.vm.findClass cls = some ce.cls := by
    have h9 := hO.cls
    rw [hvm] at h9
    exact h9
  have hall : s.sameButNew ({ U with vm := s.vm } : State) locs mc ms := by
    subst hA
    obtain ⟨e1, e2⟩ := hsame
    rw [State.setFrames_setFrames] at e1
    have h2 : (T.setVm s.vm).sameButNew ({ U with vm := s.vm } : State) [] (0 + 1) (0 + 6) := ⟨e1, e2⟩
    have h3 := X.same.trans h2
    rw [List.append_nil] at h3
    exact h3.mono hc hs
  refine ⟨U, ?_, .threw T.heap.size, hrun, hend, Or.inr ⟨T.heap.size, rfl, cls, ce, locs, hx U hWs.alike f1 (fun q hq => f2 q hq (fun z hz => nomatch hz)), hce, hO.vm, hcl, hWs, hall, hf⟩⟩
  refine st1 _ ?_
  show Steps p.tables e below (T1.setTop { method := m, pc := pc + 3, locals := ls, stack := .ref T.heap.size :: rest, locked := none }) _
  jvm_step X₁.here [X₁.here.top, hexec, d3', Value.category]
  exact X₁.ldcString hexec (own := own) (text := text) (index := is) (a := sa) hown' hstr'.1 hstr'.2
    (g := { method := m, pc := pc + 4, locals := ls, stack := .ref T.heap.size :: .ref T.heap.size :: rest, locked := none }) rfl d4' _ hsteps
/-- 'throw new E("text")', the text by a wide index -/
theorem vx_throwSW {cc : ByteArray} {pc : Nat} (hexec : p.tables.exec = Jvm.exec) (hb : c.code = cc) (hl : l.stackTraces = false) {own cls text : String} {names : List String} {ik is ic mc ms sa : Nat} {A : Nat → Prop}
    (hown : s.vm.findClass own = some m.cls) (hcls : Jvm.Bundle.fit cls = true) (hnames : ∀ n ∈ names, Jvm.Bundle.fit n = true)
    (hk : (Cond.classLink own ik cls).before args s = true) (hini : (Cond.initialized cls).before args s = true) (hstr : vk_R own is text sa s) (hat : ∀ w ∈ vx_atS own ic cls names, w.before args s = true)
    (hgood : ∀ w ∈ Cond.classLink own ik cls :: Cond.initialized cls :: vx_atS own ic cls names, vx_ot w = true)
    (hU : vx_Zq Jvm.Bundle.tN "UNASSIGNED_STACK" Jvm.Bundle.steD A s s.heap) (hN : vx_Zq Jvm.Bundle.tN "SUPPRESSED_SENTINEL" Jvm.Bundle.listD A s s.heap) (hS : va_S A s.heap H locs) (hsize : ls.size = c.maxLocals)
    (d0 : decode cc pc = .ok (.new ik, 3)) (d3 : decode cc (pc + 3) = .ok (.dup, 1)) (d4 : decode cc (pc + 4) = .ok (.ldc_w is, 3)) (d7 : decode cc (pc + 7) = .ok (.invokespecial ic, 3)) (d10 : decode cc (pc + 10) = .ok (.athrow, 1))
    (hout : ∀ x ∈ c.exceptionTable.toList, covers x (pc + 10) = false)
    (hRframes : names.length + 3 < R.frames) (hRlocals : (rest.map fun v => v.category).sum + (13 * (names.length + 1) + 43) ≤ R.locals) (hRcells : cells + 1 ≤ R.cells) (hRslots : slots + 6 ≤ R.slots) (hlocks : meth.locks = false)
    (hx : ∀ t : State, s.vm.Alike t.vm → H.size ≤ t.heap.size → (∀ q : Nat, q < H.size → t.heap[q]? = H[q]?) → XC cls s t)
    (hf : ∀ z ∈ locs, free z.base) (hc : cells + 1 ≤ mc) (hs : slots + 6 ≤ ms) :
    W p l e R s m args below meth c H locs cells slots (vx_MQ below Qc XC args s mc ms free) (F0 m pc ls rest) := by
  intro T hT X
  have htr : e.platform.stackTraces = false := (show e.platform.stackTraces = l.stackTraces by rw [X.admits.platform]).trans hl
  have Y := vx_rebase X (R' := { frames := R.frames, locals := R.locals, cells := 1, slots := 6 }) (Nat.le_refl _) (Nat.le_refl _) hRcells hRslots
  obtain ⟨s', hA⟩ : ∃ z, z = (T.setVm s.vm).setFrames (.invoking m args :: below) := ⟨_, rfl⟩
  rw [← hA] at Y
  have hvm : s'.vm = s.vm := by rw [hA]; rfl
  have hhp : s'.heap = H := by rw [hA]; exact hT
  have hW0 : s.WarmedH s'.vm := by rw [hvm]; exact State.WarmedH.refl s
  have hat' : ∀ w ∈ vx_atS own ic cls names, w.before args s' = true := fun w hw => vx_ot_at hW0 hvm.symm (hgood w (List.mem_cons_of_mem _ (List.mem_cons_of_mem _ hw))) (hat w hw)
  have hk' : (Cond.classLink own ik cls).before args s' = true := vx_ot_at hW0 hvm.symm (hgood _ List.mem_cons_self) hk
  have hini' : (Cond.initialized cls).before args s' = true := vx_ot_at hW0 hvm.symm (hgood _ (List.mem_cons_of_mem _ List.mem_cons_self)) hini
  have hU' : vx_Zq Jvm.Bundle.tN "UNASSIGNED_STACK" Jvm.Bundle.steD A s' s'.heap := by rw [hhp]; exact vx_Zq.moved hW0.alike (hU.kept hS.2.1)
  have hN' : vx_Zq Jvm.Bundle.tN "SUPPRESSED_SENTINEL" Jvm.Bundle.listD A s' s'.heap := by rw [hhp]; exact vx_Zq.moved hW0.alike (hN.kept hS.2.1)
  have h : ∀ w ∈ Jvm.Bundle.ownAtoms own ic cls names, w.before args s' = true := vx_own hat' (vx_isRefq hU'.1) (vx_isRefq hN'.1) hU'.2.word hN'.2.word
  have hown' : s'.vm.findClass own = some m.cls := by rw [hvm]; exact hown
  have hins : (Cond.instantiable cls 6).before args s' = true := h _ (by simp [Jvm.Bundle.ownAtoms])
  obtain ⟨vm₁, cX, kX, hfX, hkX, -, -, X₁, st1⟩ := Y.newCold hexec (own := own) (C := cls) (index := ik) (n := 6) hown' hk' hins hini'
    (g := F0 m pc ls rest) rfl (by rw [hb]; exact d0) (Nat.le_refl _) (Nat.le_refl _)
  generalize hT1 : (T.setVm vm₁).pushCell { cls := cX, slots := kX.instanceTypes.map defaultValue, vm := .none } = T1 at X₁ st1
  have hcat : (Value.ref T.heap.size).category = 1 := rfl
  have hcellA : T1.heap[T.heap.size]? = some (freshCell cX kX) := by rw [← hT1]; exact State.heap_pushCell_size _ _
  have d3' : decode c.code (pc + 3) = .ok (.dup, 1) := by rw [hb]; exact d3
  have d4' : decode c.code (pc + 4) = .ok (.ldc_w is, 3) := by rw [hb]; exact d4
  have hstr' : vk_R own is text sa s' := vk_R.warm hW0 hstr
  obtain ⟨U, hsteps, hrun, hend, hW, hsame, ce, hce, hO⟩ := X₁.ctorThrowS hexec htr (own := own) (cls := cls) (names := names) (ic := ic) hown' hcls hnames h (fun x hx => nomatch hx) hfX hkX hcellA (by rw [hhp, hT]; exact Nat.le_refl _) (msg := .ref sa) rfl
    (g := { method := m, pc := pc + 7, locals := ls, stack := .ref sa :: .ref T.heap.size :: .ref T.heap.size :: rest, locked := none }) rfl hsize rfl rfl (rest := rest) rfl
    (by rw [hb]; exact d7) (by rw [hb]; exact d10) hout hRframes (by simp only [List.map_cons, List.sum_cons, hcat]; omega) hlocks
  obtain ⟨f1, f2⟩ := vx_frame hsame
  rw [hhp] at f1 f2
  have hWs : s.WarmedH U.vm := State.WarmedH.trans hW0 hW
  have hcl : s.vm.findClass cls = some ce.cls := by
    have h9 := hO.cls
    rw [hvm] at h9
    exact h9
  have hall : s.sameButNew ({ U with vm := s.vm } : State) locs mc ms := by
    subst hA
    obtain ⟨e1, e2⟩ := hsame
    rw [State.setFrames_setFrames] at e1
    have h2 : (T.setVm s.vm).sameButNew ({ U with vm := s.vm } : State) [] (0 + 1) (0 + 6) := ⟨e1, e2⟩
    have h3 := X.same.trans h2
    rw [List.append_nil] at h3
    exact h3.mono hc hs
  refine ⟨U, ?_, .threw T.heap.size, hrun, hend, Or.inr ⟨T.heap.size, rfl, cls, ce, locs, hx U hWs.alike f1 (fun q hq => f2 q hq (fun z hz => nomatch hz)), hce, hO.vm, hcl, hWs, hall, hf⟩⟩
  refine st1 _ ?_
  show Steps p.tables e below (T1.setTop { method := m, pc := pc + 3, locals := ls, stack := .ref T.heap.size :: rest, locked := none }) _
  jvm_step X₁.here [X₁.here.top, hexec, d3', Value.category]
  exact X₁.ldcStringW hexec (own := own) (text := text) (index := is) (a := sa) hown' hstr'.1 hstr'.2
    (g := { method := m, pc := pc + 4, locals := ls, stack := .ref T.heap.size :: .ref T.heap.size :: rest, locked := none }) rfl d4' _ hsteps
end Ends
section Bodies
variable {l : Launch}
theorem vx_ofW {y : MethodName} {ws ws' : List Cond} {rm : Room} {Pc : Array Value → State → Prop} {Qc : Array Value → State → Outcome → State → Prop} {XC : String → State → State → Prop} {mc ms : Nat} {free : Addr → Prop} {cc : ByteArray} {maxL : Nat} {ret : Option FieldType}
    (hy : plainName y.cls = true) (hw : ws = Cond.code y cc maxL ret :: ws')
    (body : ∀ p e s m args below meth c s₁, BodyLoose p l y (headSpec ws rm) cc maxL ret e s m args below meth c s₁ → c.maxLocals = maxL → (∀ x ∈ c.exceptionTable.toList, False) → Pc args s →
      W p l e (headSpec ws rm).room s m args below meth c s.heap [] 0 0 (vx_MQ below Qc XC args s mc ms free) (entryFrame m args maxL)) : vx_Met l y ws rm Pc Qc XC mc ms free := by
  refine MetFree.of_bodyS (code := cc) (maxLocals := maxL) (ret := ret) hy ?_ ?_
  · intro args s m h hn
    obtain ⟨meth, c, h1, h2, h3, h4, h5, h6, -, -⟩ := Cond.code_spec hn (atoms_spec (ws := ws) h _ (by rw [hw]; exact List.mem_cons_self))
    exact ⟨meth, c, h1, h2, h3, h4, h5, h6⟩
  · intro p e s m args below meth c s₁ B hml hP _
    have hh0 : s₁.heap = s.heap := by rw [B.state]; rfl
    have ht : ∀ x ∈ c.exceptionTable.toList, False := by
      obtain ⟨meth9, c9, h1, h2, -, -, -, -, h7, -⟩ := Cond.code_spec B.named (atoms_spec (ws := ws) B.pre _ (by rw [hw]; exact List.mem_cons_self))
      cases Option.some.inj (h1.symm.trans B.method)
      cases Option.some.inj (h2.symm.trans (Stand.of_body B).code)
      intro x hx
      rw [Array.isEmpty_iff.mp h7] at hx
      cases hx
    obtain ⟨t, a1, o, b1, b2, b3⟩ := body p e s m args below meth c s₁ B hml ht hP s₁ hh0 (Stand.of_body B)
    exact ⟨t, o, a1, b1, b2, b3⟩
/-- the table of a body with handlers -/
theorem vx_table {p : Program} {x y : MethodName} {S : Spec} {cc bytes : ByteArray} {maxL maxL' : Nat} {ret ret' : Option FieldType} {e : Env} {s s₁ : State} {m : MethodId} {args : Array Value} {below : List Frame} {meth : Method} {c : Code} {hh : List (Nat × Nat × Nat × Nat)}
    (B : BodyLoose p l y S cc maxL ret e s m args below meth c s₁) (h : (Cond.codeWith y bytes maxL' ret' hh).before args s = true) : c.exceptionTable.toList = tableOf hh := by
  obtain ⟨m9, meth9, c9, hn9, h1, h2, -, -, h6, -⟩ := Cond.codeWith_spec h
  cases Option.some.inj (hn9.symm.trans B.named)
  cases Option.some.inj (h1.symm.trans B.method)
  cases Option.some.inj (h2.symm.trans (Stand.of_body B).code)
  rw [← h6, table_eq]
end Bodies
end VXA
/-! ===== END ===== -/
/-! ===== BEGIN a static call of a method with an exception table ===== -/
section VXS
variable {p : Program} {l : Launch} {e : Env} {R : Room} {s : State} {m : MethodId} {args : Array Value} {below : List Frame} {meth : Method} {c : Code} {T : State} {H : Heap} {locs : List Loc} {cells slots : Nat}
abbrev vx_CSW (R : Room) (s : State) (args : Array Value) (own : String) (index : Nat) (y : MethodName) (bytes : ByteArray) (maxL : Nat) (ret : Option FieldType) (hh : List (Nat × Nat × Nat × Nat)) (ws : List Cond) (rm : Room) (mc ms n : Nat) : Prop :=
  (rm.cells = mc ∧ rm.slots = ms ∧ rm.frames + 1 ≤ R.frames ∧ 8 + (maxL + 11) + rm.locals ≤ R.locals ∧ (∀ w ∈ ws, ∀ (a' : Array Value) (U : State), s.WarmedH U.vm → w.before a' U = true) ∧ Cond.codeWith y bytes maxL ret hh ∈ ws) ∧
  (Cond.codeWith y bytes maxL ret hh).before args s = true ∧ (Cond.initialized y.cls).before args s = true ∧ (y.cls ≠ "java/lang/invoke/MethodHandle" ∧ y.cls ≠ "java/lang/invoke/VarHandle") ∧
  (∀ sig, parseMethodDescriptor y.desc = some sig → n = sig.parameters.length) ∧ (Cond.methodLink own index y).before args s = true ∧ (Cond.static y).before args s = true
theorem vx_cwSW {own : String} {index maxL mc ms : Nat} {y : MethodName} {bytes : ByteArray} {ret : Option FieldType} {hh : List (Nat × Nat × Nat × Nat)} {Ts ws ws' : List Cond} {rm : Room} (n : Nat) (ht : ∀ w ∈ Ts, w.before args s = true) (hT : GoodIn Ts (va_wsS own index y ws)) (hw : ws = Cond.codeWith y bytes maxL ret hh :: ws') (hrc : rm.cells = mc) (hrs : rm.slots = ms)
    (hd : y.cls ≠ "java/lang/invoke/MethodHandle" ∧ y.cls ≠ "java/lang/invoke/VarHandle" ∧ (parseMethodDescriptor y.desc).map (fun d => d.parameters.length) = some n) (hR : rm.frames + 1 ≤ R.frames ∧ 8 + (maxL + 11) + rm.locals ≤ R.locals) :
    vx_CSW R s args own index y bytes maxL ret hh ws rm mc ms n := by
  have ok : ∀ w ∈ va_wsS own index y ws, w.before args s = true := fun w h => ht w (hT w h).1
  have hG : GoodIn Ts ws := fun w h => hT w (by unfold va_wsS; exact List.mem_append_right _ h)
  have hc : Cond.codeWith y bytes maxL ret hh ∈ ws := by rw [hw]; exact List.mem_cons_self
  refine ⟨⟨hrc, hrs, hR.1, hR.2, pay_in ht hG, hc⟩, ht _ (hG _ hc).1, ok _ (by simp [va_wsS]), ⟨hd.1, hd.2.1⟩, fun sig h => ?_, ok _ (by simp [va_wsS]), ok _ (by simp [va_wsS])⟩
  have h2 := hd.2.2
  rw [h] at h2
  exact (Option.some.inj h2).symm
theorem vx_callSW (X : Stand p l e R s m args below meth c T locs cells slots) (hexec : p.tables.exec = Jvm.exec) {own : String} {index : Nat} {y : MethodName} {bytes : ByteArray} {maxL : Nat} {ret : Option FieldType} {hh : List (Nat × Nat × Nat × Nat)}
    (hown : s.vm.findClass own = some m.cls) (hlink : (Cond.methodLink own index y).before args s = true) (hstat : (Cond.static y).before args s = true) (hinit : (Cond.initialized y.cls).before args s = true)
    (hcode : (Cond.codeWith y bytes maxL ret hh).before args s = true) (hy : y.cls ≠ "java/lang/invoke/MethodHandle" ∧ y.cls ≠ "java/lang/invoke/VarHandle")
    {W9 : Nat} {Pre : Pt → Array Value → Prop} {Post : Pt → Array Value → Option Value → Pt → Prop} (hK : Back l R p e below s args y 3 W9 Pre Post)
    {g : JFrame} (hg : g.method = m) (hsize : g.locals.size = c.maxLocals) {argsL rest : List Value} (hlen : ∀ sig, parseMethodDescriptor y.desc = some sig → argsL.length = sig.parameters.length)
    (hstack : g.stack = argsL.reverse ++ rest) (hW : 2 * g.monitorRoom + (rest.map fun v => v.category).sum ≤ W9) (hdg : decode c.code g.pc = .ok (.invokestatic index, 3))
    (hpre : ∀ vm₁, s.WarmedH vm₁ → Pre ⟨T.setVm vm₁, locs, cells, slots⟩ argsL.toArray) :
    ∃ (v : Option Value) (vm₁ : Vm) (B : Pt), s.WarmedH vm₁ ∧ Stand p l e R s m args below meth c B.U B.locs B.cells B.slots ∧ Post ⟨T.setVm vm₁, locs, cells, slots⟩ argsL.toArray v B ∧
      ∀ target, Steps p.tables e below (B.U.setTop { g with pc := g.pc + 3, stack := v.toList ++ rest }) target → Steps p.tables e below (T.setTop g) target := by
  obtain ⟨mk, methM, cM, hnamed, hmethM, -, -, -, -, -, -, hsigM⟩ := Cond.codeWith_spec hcode
  have hstatic : methM.isStatic = true := Cond.static_spec hnamed hmethM hstat
  obtain ⟨kP, hkP, -⟩ := className_of_methodNamed hnamed
  have hinitP : kP.init = .initialized := Cond.initialized_spec (findClass_of_methodNamed hnamed) hkP hinit
  obtain ⟨vm₁, X₁, hstep₁⟩ := X.invokestatic hexec hown hlink hnamed hmethM hstatic hkP hinitP hy (g := g) hg (argsL := argsL) (rest := rest) (hlen _ hsigM) hstack hdg
  obtain ⟨v, B, X', hpost, hsteps⟩ := hK m meth c ⟨T.setVm vm₁, locs, cells, slots⟩ { g with stack := rest } (.invokestatic index) mk argsL.toArray X₁ hg hsize hdg hW (X₁.named hnamed) (hpre vm₁ X₁.warmed)
  exact ⟨v, vm₁, B, X₁.warmed, X', hpost, fun target h => hstep₁ _ fun acts => by rw [doInvoke_state]; exact hsteps.trans h⟩
theorem vx_runSW {y : MethodName} {bytes cc : ByteArray} {maxL nL mc ms n index : Nat} {ret : Option FieldType} {hh : List (Nat × Nat × Nat × Nat)} {ws : List Cond} {rm : Room} {Pc : Array Value → State → Prop} {Qc : Array Value → State → Outcome → State → Prop} {free : Addr → Prop} {Ts : List Cond} {own : String} {As rest : List Value} {g : JFrame}
    (S : CallFix p m c cc nL s args Ts own) (hM : Met l y ws rm Pc Qc mc ms free) (cw : vx_CSW R s args own index y bytes maxL ret hh ws rm mc ms n) (hp : PreS s H Pc As)
    (hg : g.method = m) (hn : As.length = n) (hsize : g.locals.size = nL) (hstack : g.stack = As.reverse ++ rest) (hW : 2 * g.monitorRoom + (rest.map fun v => v.category).sum ≤ 8) (hdg : decode cc g.pc = .ok (.invokestatic index, 3)) (hf : cells + mc ≤ R.cells ∧ slots + ms ≤ R.slots) :
    va_Run p l e R s m args below meth c H locs cells slots mc ms g rest (Qc As.toArray) (free) := by
  obtain ⟨⟨hrc, hrs, hfr, hlo, hws, hcw⟩, hcode, hini, hy, hlen, hl, hstt⟩ := cw
  have hK : Back l R p e below s args y 3 8 (PreOf R mc ms Pc) (PostOf Qc mc ms free) := va_backW (hh := hh) (bytes := bytes) (maxL := maxL) (ret := ret) hM hp.1 hrc hrs hfr hlo hws hcw (fun a' U hW => word_at hW (Or.inl (by first | rfl | simp [Cond.onTables, Cond.keeps, Cond.steady])) hini)
  obtain ⟨hx, hb, hml, ho, -⟩ := S
  intro T hT X
  obtain ⟨v, vm₁, ⟨U', l2, c2, s2⟩, hW₁, X', ⟨g', mk, t, L, e1, e2, hq, h1, hL, h2, h3⟩, st⟩ := vx_callSW X hx (hh := hh) (bytes := bytes) (maxL := maxL) (ret := ret) ho hl hstt hini hcode hy hK hg (hsize.trans hml.symm) (argsL := As) (rest := rest) (fun sig h => hn.trans (hlen sig h)) hstack hW (by rw [hb]; exact hdg)
    (fun vm₁ hW₁ => ⟨hf.1, hf.2, hp.2 (T.setVm vm₁) hT hW₁⟩)
  dsimp only [Pt.U, Pt.locs, Pt.cells, Pt.slots] at X' e1 e2 h1 h2 h3 st
  subst h1; subst h2; subst h3
  exact ⟨v, (T.setVm vm₁).calling g' mk As.toArray, t, U', L, hT, X', hL, e1, e2, hq, st⟩
/-- not caught here, past rows that name other classes: it goes on to the caller -/
theorem vx_outP {p : Program} {l : Launch} {e : Env} {R : Room} {s : State} {m : MethodId} {args : Array Value} {below : List Frame} {meth : Method} {c : Code} {H : Heap} {locs : List Loc} {cells slots : Nat} {free : Addr → Prop} {ls : Array Slot} {rest : List Value} {Qc : Array Value → State → Outcome → State → Prop} {XC : String → State → State → Prop}
    {pc : Nat} {own E : String} {ce : Cell} {q : Addr} {mc ms : Nat} (hown : s.vm.findClass own = some m.cls) (hlocks : meth.locks = false)
    (hpass : ∀ z ∈ c.exceptionTable.toList, covers z pc = false ∨ (z.catchType ≠ 0 ∧ ∃ nm : String, (Cond.classLink own z.catchType nm).before args s = true ∧ va_Nc E nm s)) (hcell : H[q]? = some ce) (hv : ce.vm = .none) (hcl : s.vm.findClass E = some ce.cls)
    (hx : ∀ t : State, t.heap = H → s.vm.Alike t.vm → XC E s t) (hf : ∀ z ∈ locs, free z.base) (hc : cells ≤ mc) (hs : slots ≤ ms) :
    vx_W p l e R s m args below meth c H locs cells slots (vx_MQ below Qc XC args s mc ms free) (F0 m pc ls rest) q := by
  intro T hT X
  have hpl : e.platform.magicAccessors = ({} : Platform).magicAccessors := by rw [X.admits.platform]
  obtain ⟨vm', hW', X', st⟩ := X.outThrough hlocks q (g := F0 m pc ls rest) rfl rfl rfl (cell := ce) (by rw [hT]; exact hcell) (by rw [hv]; rfl)
    (by obtain ⟨k9, h9, -⟩ := Vm.findClass_spec hcl; exact ⟨k9, h9⟩) (fun z hz => by
      rcases hpass z hz with h | ⟨hz0, nm, hl1, hn1⟩
      · exact Or.inl h
      · obtain ⟨c6, hc6, hcl6⟩ := Cond.classLink_spec hown hl1 e.platform hpl
        obtain ⟨a8, b8, h1, h2, h3⟩ := hn1
        cases Option.some.inj (h1.symm.trans hcl)
        cases Option.some.inj (h2.symm.trans hc6)
        exact Or.inr ⟨hz0, _, hcl6, h3⟩)
  obtain ⟨g₀, hfr⟩ := X'.frames_eq
  have hcell9 : ((T.setVm vm').setFrames (.throwing q :: below)).heap[q]? = some ce := by
    show T.heap[q]? = some ce
    rw [hT]; exact hcell
  have hend : Ended ((T.setVm vm').setFrames (.throwing q :: below)) below (.threw q) := State.frames_setFrames _ (State.cur_lt_of_frames hfr)
  refine ⟨(T.setVm vm').setFrames (.throwing q :: below), ?_, .threw q, X'.here.running, hend, Or.inr ⟨q, rfl, E, ce, locs, hx _ hT (X'.ends _).1.alike, hcell9, hv, hcl, (X'.ends _).1, (X'.ends _).2.mono hc hs, hf⟩⟩
  rw [X.pushThrowing_eq]
  exact st
/-- a thing of a world lies in the heap -/
theorem vx_lt {D : va_G} {cl : List vw_C} {ws : va_W} {H1 : Heap} (h : va_P D cl ws H1) {k : Nat} {q : Nat × va_E} (hk : ws[k]? = some q) : q.1 < H1.size := (h k q hk).lt
end VXS
/-! ===== END ===== -/
/-! ===== BEGIN methods with a table of their own: called by a name, returning or throwing ===== -/
section VXH
/-! vx_backW, vx_callVX, vx_callSX, vx_callVW, vx_runVW, vx_runVX, vx_runSX, vx_ofWH follow the same proofs as their sisters above (Free/Laws.lean, Shelf42/LK1.lean); vx_outP calls Shelf42/NT130.lean (outThrough). -/
section
variable {l : Launch} {R : Room} {p : Program} {e : Env} {below : List Frame} {s : State} {sargs : Array Value} {y : MethodName} {len W9 : Nat}
theorem vx_backW {ws : List Cond} {rm : Room} {Pc : Array Value → State → Prop} {Qc : Array Value → State → Outcome → State → Prop} {XC : String → State → State → Prop} {mc ms : Nat} {free : Addr → Prop} {bytes : ByteArray} {maxL : Nat} {ret : Option FieldType} {hh : List (Nat × Nat × Nat × Nat)}
    (hM : vx_Met l y ws rm Pc Qc XC mc ms free) (hblind : FrameBlind Pc) (hrc : rm.cells = mc) (hrs : rm.slots = ms)
    (hframes : rm.frames + 1 ≤ R.frames) (hlocals : W9 + (maxL + 11) + rm.locals ≤ R.locals)
    (hws : ∀ w ∈ ws, ∀ a' U, s.WarmedH U.vm → w.before a' U = true) (hcode : Cond.codeWith y bytes maxL ret hh ∈ ws) (hinit : ∀ a' U, s.WarmedH U.vm → (Cond.initialized y.cls).before a' U = true) :
    vx_Back l R p e below s sargs y len W9 (PreOf R mc ms Pc) (PostOf Qc mc ms free) (vx_Post XC mc ms free) := by
  intro m meth c A g ig mk a X hg hsize hdg hW hn hp
  have h1 : (headSpec ws rm).pre.before a A.U = true := atoms_intro fun w hw => hws w hw _ _ X.warmed
  have h2 : (Cond.codeWith y bytes maxL ret hh).before a A.U = true := hws _ hcode _ _ X.warmed
  have h3 : (Cond.initialized y.cls).before a A.U = true := hinit _ _ X.warmed
  have h4 : A.cells + (headSpec ws rm).room.cells ≤ R.cells := by rw [show (headSpec ws rm).room.cells = mc from hrc]; exact hp.1
  have h5 : A.slots + (headSpec ws rm).room.slots ≤ R.slots := by rw [show (headSpec ws rm).room.slots = ms from hrs]; exact hp.2.1
  have hPc : Pc a (A.U.calling g mk a) := hblind _ _ _ _ hp.2.2
  obtain ⟨U, Ls, c0, s0⟩ := A
  dsimp only [Pt.U, Pt.locs, Pt.cells, Pt.slots] at h1 h2 h3 h4 h5 X hn hPc ⊢
  obtain ⟨m9, methY, cY, hn9, hmY, hcY, -, hlY, -⟩ := Cond.codeWith_spec h2
  cases Option.some.inj (hn9.symm.trans hn)
  obtain ⟨kY, hkY, -⟩ := className_of_methodNamed hn
  have hinitY : kY.init = .initialized := Cond.initialized_spec (findClass_of_methodNamed hn) hkY h3
  have h : At U g.method c below := by rw [hg]; exact X.here
  have hlocals9 : W9 + (maxL + 11) + (headSpec ws rm).room.locals ≤ R.locals := hlocals
  have happ : (headSpec ws rm).appliesLoose y e.platform (U.calling g mk a) = true :=
    Spec.appliesLoose_calling (g := g) h hdg hn hkY hinitY
      (X.room_calling (g := g) (R' := (headSpec ws rm).room) hsize hmY hcY hframes (by rw [hlY]; omega) h4 h5) h1
  obtain ⟨mid, hmid⟩ := h.above
  have hfr : (U.setTop g).frames = (.java g :: mid) ++ below := by rw [State.frames_setTop' g h.top, hmid]; rfl
  obtain ⟨o, s₂, hsteps, -, hend, hq⟩ := Steps.callFree hM p X.admits X.cas X.clock (acts := []) hfr happ hPc trivial
  have hq' : vx_Q Qc XC mc ms free a (U.calling g mk a) o s₂ := hq
  rw [State.frames_setTop' g h.top] at hend
  obtain ⟨g₀, hg0⟩ := Option.isSome_iff_exists.mp h.top
  obtain ⟨r, hr⟩ := State.topJava?_eq_some.mp hg0
  have hr' : (({ U with heap := s₂.heap, slotsUsed := s₂.slotsUsed } : State).setVm s₂.vm).frames = .java g₀ :: r := hr
  rcases hq' with ⟨hqc, L, hfe, hL⟩ | ⟨q, rfl, E, ce, L, hx, hce, hcv, hcl, hW₂, hsm, hL⟩
  · obtain ⟨⟨v, rfl⟩, hW₂, e2, q2, q3, q4, q5, q6⟩ := id hfe
    have e3 : s₂ = ({ (U.calling g mk a).setFrames s₂.frames with heap := s₂.heap, slotsUsed := s₂.slotsUsed } : State).setVm s₂.vm := by
      have : s₂ = ({ s₂ with vm := (U.calling g mk a).vm } : State).setVm s₂.vm := rfl
      rw [e2] at this
      exact this
    obtain ⟨c₂, i₂, len₂, hc₂, hd₂, hf₂⟩ := hend
    have hW' : U.WarmedH s₂.vm := hW₂
    have hcc : c₂ = c := by
      have h1 : s₂.code? g.method = U.code? g.method := by
        rw [State.code?_eq, State.code?_eq, hW'.alike.method?]
      exact Option.some.inj (hc₂.symm.trans (h1.trans h.code))
    subst hcc
    have hlen : len₂ = len := by rw [hdg] at hd₂; cases hd₂; rfl
    subst hlen
    have hs₂ : s₂ = (({ U with heap := s₂.heap, slotsUsed := s₂.slotsUsed } : State).setVm s₂.vm).setTop { g with pc := g.pc + len₂, stack := v.toList ++ g.stack } := by
      refine e3.trans ?_
      rw [hf₂, State.calling_eq h.top, State.setFrames_setFrames, State.setTop_of_frames _ hr', hr]
      rfl
    have hsame : U.sameButNew ({ U with heap := s₂.heap, slotsUsed := s₂.slotsUsed } : State) L mc ms := by
      refine ⟨?_, q2, q3, q4, q5, q6⟩
      obtain ⟨t, ht, -⟩ := State.frames_cons hr
      show ({ U with heap := s₂.heap, slotsUsed := s₂.slotsUsed } : State) = { U.setFrames U.frames with heap := s₂.heap, slotsUsed := s₂.slotsUsed }
      rw [State.setFrames_self ht]
    subst hg
    refine Or.inl ⟨v, ⟨(({ U with heap := s₂.heap, slotsUsed := s₂.slotsUsed } : State).setVm s₂.vm), Ls ++ L, c0 + mc, s0 + ms⟩,
      ⟨X.admits, X.cas, X.clock, X.frames, X.room, X.hears, X.method, X.code, (X.here.setHeapUsed s₂.heap s₂.slotsUsed).setVm hW'.alike, X.tail, State.WarmedH.trans X.warmed hW', X.limits, X.bytes, X.same.trans (hsame.setVm s.vm)⟩,
      ⟨g, mk, s₂, L, rfl, rfl, hqc, rfl, hL, rfl, rfl⟩, ?_⟩
    show Steps p.tables e below _ ((({ U with heap := s₂.heap, slotsUsed := s₂.slotsUsed } : State).setVm s₂.vm).setTop { g with pc := g.pc + len₂, stack := v.toList ++ g.stack })
    rw [← hs₂]
    exact hsteps
  · obtain ⟨e2, q2, q3, q4, q5, q6⟩ := id hsm
    have e3 : s₂ = ({ (U.calling g mk a).setFrames s₂.frames with heap := s₂.heap, slotsUsed := s₂.slotsUsed } : State).setVm s₂.vm := by
      have : s₂ = ({ s₂ with vm := (U.calling g mk a).vm } : State).setVm s₂.vm := rfl
      rw [e2] at this
      exact this
    have hf₂ : s₂.frames = .throwing q :: .java g :: U.frames.tail := hend
    have hW' : U.WarmedH s₂.vm := hW₂
    have hs₂ : s₂ = ((({ U with heap := s₂.heap, slotsUsed := s₂.slotsUsed } : State).setVm s₂.vm).setTop g).pushFrame (.throwing q) := by
      refine e3.trans ?_
      rw [hf₂, State.calling_eq h.top, State.setFrames_setFrames, State.pushFrame, State.frames_setTop _ hr', State.setTop_of_frames _ hr', State.setFrames_setFrames, hr]
      rfl
    have hsame : U.sameButNew ({ U with heap := s₂.heap, slotsUsed := s₂.slotsUsed } : State) L mc ms := by
      refine ⟨?_, q2, q3, q4, q5, q6⟩
      obtain ⟨t, ht, -⟩ := State.frames_cons hr
      show ({ U with heap := s₂.heap, slotsUsed := s₂.slotsUsed } : State) = { U.setFrames U.frames with heap := s₂.heap, slotsUsed := s₂.slotsUsed }
      rw [State.setFrames_self ht]
    subst hg
    refine Or.inr ⟨q, ⟨(({ U with heap := s₂.heap, slotsUsed := s₂.slotsUsed } : State).setVm s₂.vm), Ls ++ L, c0 + mc, s0 + ms⟩,
      ⟨X.admits, X.cas, X.clock, X.frames, X.room, X.hears, X.method, X.code, (X.here.setHeapUsed s₂.heap s₂.slotsUsed).setVm hW'.alike, X.tail, State.WarmedH.trans X.warmed hW', X.limits, X.bytes, X.same.trans (hsame.setVm s.vm)⟩,
      ⟨g, mk, s₂, L, E, ce, rfl, rfl, hx, hce, hcv, hcl, rfl, hL, rfl, rfl⟩, ?_⟩
    show Steps p.tables e below _ (((({ U with heap := s₂.heap, slotsUsed := s₂.slotsUsed } : State).setVm s₂.vm).setTop g).pushFrame (.throwing q))
    rw [← hs₂]
    exact hsteps
end
variable {p : Program} {l : Launch} {e : Env} {R : Room} {s : State} {m : MethodId} {args : Array Value} {below : List Frame} {meth : Method} {c : Code} {T : State} {H : Heap} {locs : List Loc} {cells slots : Nat}
theorem vx_callVX (X : Stand p l e R s m args below meth c T locs cells slots) (hexec : p.tables.exec = Jvm.exec) {own C : String} {index : Nat} {y : MethodName} {bytes : ByteArray} {maxL : Nat} {ret : Option FieldType} {hh : List (Nat × Nat × Nat × Nat)}
    (hown : s.vm.findClass own = some m.cls) (hlink : (Cond.methodLink own index y).before args s = true) (hinst : (Cond.instanceMethod y).before args s = true) (hsel : (Cond.selects C y y).before args s = true)
    (hcode : (Cond.codeWith y bytes maxL ret hh).before args s = true) (hy : y.cls ≠ "java/lang/invoke/MethodHandle" ∧ y.cls ≠ "java/lang/invoke/VarHandle")
    {W9 : Nat} {Pre : Pt → Array Value → Prop} {Post : Pt → Array Value → Option Value → Pt → Prop} {PostX : Pt → Array Value → Addr → Pt → Prop} (hK : vx_Back l R p e below s args y 3 W9 Pre Post PostX)
    {b : Addr} {cellB : Cell} (hcell : T.heap[b]? = some cellB) (hobj : cellB.vm.isStatics = false) (hcls : s.vm.findClass C = some cellB.cls)
    {g : JFrame} (hg : g.method = m) (hsize : g.locals.size = c.maxLocals) {argsL rest : List Value} (hlen : ∀ sig, parseMethodDescriptor y.desc = some sig → argsL.length = sig.parameters.length)
    (hstack : g.stack = argsL.reverse ++ .ref b :: rest) (hW : 2 * g.monitorRoom + (rest.map fun v => v.category).sum ≤ W9) (hdg : decode c.code g.pc = .ok (.invokevirtual index, 3))
    (hpre : ∀ vm₁, s.WarmedH vm₁ → Pre ⟨T.setVm vm₁, locs, cells, slots⟩ (Value.ref b :: argsL).toArray) :
    (∃ (v : Option Value) (vm₁ : Vm) (B : Pt), s.WarmedH vm₁ ∧ Stand p l e R s m args below meth c B.U B.locs B.cells B.slots ∧ Post ⟨T.setVm vm₁, locs, cells, slots⟩ (Value.ref b :: argsL).toArray v B ∧
      ∀ target, Steps p.tables e below (B.U.setTop { g with pc := g.pc + 3, stack := v.toList ++ rest }) target → Steps p.tables e below (T.setTop g) target) ∨
    (∃ (q : Addr) (vm₁ : Vm) (B : Pt), s.WarmedH vm₁ ∧ Stand p l e R s m args below meth c B.U B.locs B.cells B.slots ∧ PostX ⟨T.setVm vm₁, locs, cells, slots⟩ (Value.ref b :: argsL).toArray q B ∧
      Steps p.tables e below (T.setTop g) ((B.U.setTop { g with stack := rest }).pushFrame (.throwing q))) := by
  obtain ⟨mk, methM, hnamed, hmethM, hstM, habM⟩ := Cond.instanceMethod_spec hinst
  obtain ⟨m8, methM', cM, hn8, hmethM', -, -, -, -, -, -, hsigM⟩ := Cond.codeWith_spec hcode
  cases Option.some.inj (hn8.symm.trans hnamed)
  cases hmethM.symm.trans hmethM'
  obtain ⟨c2, r2, m2, q1, q2, q3, q4, kP, hkP, hkPi⟩ := Cond.selects_spec hsel
  cases hcls.symm.trans q1
  cases (State.methodFound?_of_named hnamed hy).symm.trans q2
  cases hnamed.symm.trans q3
  have hselP : selectMethod e.platform s.vm cellB.cls mk = .method mk := by rw [Launch.admits_selectMethod X.admits]; exact q4
  obtain ⟨vm₁, X₁, hstep₁⟩ := X.invokevirtual hexec hown hlink hnamed hmethM hstM hkP hkPi hy (a := b) (cell := cellB) hcell
    (fun z h => by rw [h] at hobj; cases hobj) hselP hmethM habM hkP hkPi (g := g) hg (argsL := argsL) (rest := rest) (hlen _ hsigM) hstack hdg
  rcases hK m meth c ⟨T.setVm vm₁, locs, cells, slots⟩ { g with stack := rest } (.invokevirtual index) mk (Value.ref b :: argsL).toArray X₁ hg hsize hdg hW (X₁.named hnamed) (hpre vm₁ X₁.warmed) with ⟨v, B, X', hpost, hsteps⟩ | ⟨q, B, X', hpost, hsteps⟩
  · exact Or.inl ⟨v, vm₁, B, X₁.warmed, X', hpost, fun target h => hstep₁ _ fun acts => by rw [doInvoke_state]; exact hsteps.trans h⟩
  · exact Or.inr ⟨q, vm₁, B, X₁.warmed, X', hpost, hstep₁ _ fun acts => by rw [doInvoke_state]; exact hsteps⟩
theorem vx_callSX (X : Stand p l e R s m args below meth c T locs cells slots) (hexec : p.tables.exec = Jvm.exec) {own : String} {index : Nat} {y : MethodName} {bytes : ByteArray} {maxL : Nat} {ret : Option FieldType} {hh : List (Nat × Nat × Nat × Nat)}
    (hown : s.vm.findClass own = some m.cls) (hlink : (Cond.methodLink own index y).before args s = true) (hstat : (Cond.static y).before args s = true) (hinit : (Cond.initialized y.cls).before args s = true)
    (hcode : (Cond.codeWith y bytes maxL ret hh).before args s = true) (hy : y.cls ≠ "java/lang/invoke/MethodHandle" ∧ y.cls ≠ "java/lang/invoke/VarHandle")
    {W9 : Nat} {Pre : Pt → Array Value → Prop} {Post : Pt → Array Value → Option Value → Pt → Prop} {PostX : Pt → Array Value → Addr → Pt → Prop} (hK : vx_Back l R p e below s args y 3 W9 Pre Post PostX)
    {g : JFrame} (hg : g.method = m) (hsize : g.locals.size = c.maxLocals) {argsL rest : List Value} (hlen : ∀ sig, parseMethodDescriptor y.desc = some sig → argsL.length = sig.parameters.length)
    (hstack : g.stack = argsL.reverse ++ rest) (hW : 2 * g.monitorRoom + (rest.map fun v => v.category).sum ≤ W9) (hdg : decode c.code g.pc = .ok (.invokestatic index, 3))
    (hpre : ∀ vm₁, s.WarmedH vm₁ → Pre ⟨T.setVm vm₁, locs, cells, slots⟩ argsL.toArray) :
    (∃ (v : Option Value) (vm₁ : Vm) (B : Pt), s.WarmedH vm₁ ∧ Stand p l e R s m args below meth c B.U B.locs B.cells B.slots ∧ Post ⟨T.setVm vm₁, locs, cells, slots⟩ argsL.toArray v B ∧
      ∀ target, Steps p.tables e below (B.U.setTop { g with pc := g.pc + 3, stack := v.toList ++ rest }) target → Steps p.tables e below (T.setTop g) target) ∨
    (∃ (q : Addr) (vm₁ : Vm) (B : Pt), s.WarmedH vm₁ ∧ Stand p l e R s m args below meth c B.U B.locs B.cells B.slots ∧ PostX ⟨T.setVm vm₁, locs, cells, slots⟩ argsL.toArray q B ∧
      Steps p.tables e below (T.setTop g) ((B.U.setTop { g with stack := rest }).pushFrame (.throwing q))) := by
  obtain ⟨mk, methM, cM, hnamed, hmethM, -, -, -, -, -, -, hsigM⟩ := Cond.codeWith_spec hcode
  have hstatic : methM.isStatic = true := Cond.static_spec hnamed hmethM hstat
  obtain ⟨kP, hkP, -⟩ := className_of_methodNamed hnamed
  have hinitP : kP.init = .initialized := Cond.initialized_spec (findClass_of_methodNamed hnamed) hkP hinit
  obtain ⟨vm₁, X₁, hstep₁⟩ := X.invokestatic hexec hown hlink hnamed hmethM hstatic hkP hinitP hy (g := g) hg (argsL := argsL) (rest := rest) (hlen _ hsigM) hstack hdg
  rcases hK m meth c ⟨T.setVm vm₁, locs, cells, slots⟩ { g with stack := rest } (.invokestatic index) mk argsL.toArray X₁ hg hsize hdg hW (X₁.named hnamed) (hpre vm₁ X₁.warmed) with ⟨v, B, X', hpost, hsteps⟩ | ⟨q, B, X', hpost, hsteps⟩
  · exact Or.inl ⟨v, vm₁, B, X₁.warmed, X', hpost, fun target h => hstep₁ _ fun acts => by rw [doInvoke_state]; exact hsteps.trans h⟩
  · exact Or.inr ⟨q, vm₁, B, X₁.warmed, X', hpost, hstep₁ _ fun acts => by rw [doInvoke_state]; exact hsteps⟩
theorem vx_callVW (X : Stand p l e R s m args below meth c T locs cells slots) (hexec : p.tables.exec = Jvm.exec) {own C : String} {index : Nat} {y : MethodName} {bytes : ByteArray} {maxL : Nat} {ret : Option FieldType} {hh : List (Nat × Nat × Nat × Nat)}
    (hown : s.vm.findClass own = some m.cls) (hlink : (Cond.methodLink own index y).before args s = true) (hinst : (Cond.instanceMethod y).before args s = true) (hsel : (Cond.selects C y y).before args s = true)
    (hcode : (Cond.codeWith y bytes maxL ret hh).before args s = true) (hy : y.cls ≠ "java/lang/invoke/MethodHandle" ∧ y.cls ≠ "java/lang/invoke/VarHandle")
    {W9 : Nat} {Pre : Pt → Array Value → Prop} {Post : Pt → Array Value → Option Value → Pt → Prop} (hK : Back l R p e below s args y 3 W9 Pre Post)
    {b : Addr} {cellB : Cell} (hcell : T.heap[b]? = some cellB) (hobj : cellB.vm.isStatics = false) (hcls : s.vm.findClass C = some cellB.cls)
    {g : JFrame} (hg : g.method = m) (hsize : g.locals.size = c.maxLocals) {argsL rest : List Value} (hlen : ∀ sig, parseMethodDescriptor y.desc = some sig → argsL.length = sig.parameters.length)
    (hstack : g.stack = argsL.reverse ++ .ref b :: rest) (hW : 2 * g.monitorRoom + (rest.map fun v => v.category).sum ≤ W9) (hdg : decode c.code g.pc = .ok (.invokevirtual index, 3))
    (hpre : ∀ vm₁, s.WarmedH vm₁ → Pre ⟨T.setVm vm₁, locs, cells, slots⟩ (Value.ref b :: argsL).toArray) :
    ∃ (v : Option Value) (vm₁ : Vm) (B : Pt), s.WarmedH vm₁ ∧ Stand p l e R s m args below meth c B.U B.locs B.cells B.slots ∧ Post ⟨T.setVm vm₁, locs, cells, slots⟩ (Value.ref b :: argsL).toArray v B ∧
      ∀ target, Steps p.tables e below (B.U.setTop { g with pc := g.pc + 3, stack := v.toList ++ rest }) target → Steps p.tables e below (T.setTop g) target := by
  obtain ⟨mk, methM, hnamed, hmethM, hstM, habM⟩ := Cond.instanceMethod_spec hinst
  obtain ⟨m8, methM', cM, hn8, hmethM', -, -, -, -, -, -, hsigM⟩ := Cond.codeWith_spec hcode
  cases Option.some.inj (hn8.symm.trans hnamed)
  cases hmethM.symm.trans hmethM'
  obtain ⟨c2, r2, m2, q1, q2, q3, q4, kP, hkP, hkPi⟩ := Cond.selects_spec hsel
  cases hcls.symm.trans q1
  cases (State.methodFound?_of_named hnamed hy).symm.trans q2
  cases hnamed.symm.trans q3
  have hselP : selectMethod e.platform s.vm cellB.cls mk = .method mk := by rw [Launch.admits_selectMethod X.admits]; exact q4
  obtain ⟨vm₁, X₁, hstep₁⟩ := X.invokevirtual hexec hown hlink hnamed hmethM hstM hkP hkPi hy (a := b) (cell := cellB) hcell
    (fun z h => by rw [h] at hobj; cases hobj) hselP hmethM habM hkP hkPi (g := g) hg (argsL := argsL) (rest := rest) (hlen _ hsigM) hstack hdg
  obtain ⟨v, B, X', hpost, hsteps⟩ := hK m meth c ⟨T.setVm vm₁, locs, cells, slots⟩ { g with stack := rest } (.invokevirtual index) mk (Value.ref b :: argsL).toArray X₁ hg hsize hdg hW (X₁.named hnamed) (hpre vm₁ X₁.warmed)
  exact ⟨v, vm₁, B, X₁.warmed, X', hpost, fun target h => hstep₁ _ fun acts => by rw [doInvoke_state]; exact hsteps.trans h⟩
abbrev vx_CVW (R : Room) (s : State) (args : Array Value) (own C : String) (index : Nat) (y : MethodName) (bytes : ByteArray) (maxL : Nat) (ret : Option FieldType) (hh : List (Nat × Nat × Nat × Nat)) (ws : List Cond) (rm : Room) (mc ms n : Nat) : Prop :=
  (rm.cells = mc ∧ rm.slots = ms ∧ rm.frames + 1 ≤ R.frames ∧ 8 + (maxL + 11) + rm.locals ≤ R.locals ∧ (∀ w ∈ ws, ∀ (a' : Array Value) (U : State), s.WarmedH U.vm → w.before a' U = true) ∧ Cond.codeWith y bytes maxL ret hh ∈ ws) ∧
  (Cond.codeWith y bytes maxL ret hh).before args s = true ∧ (Cond.initialized y.cls).before args s = true ∧ (y.cls ≠ "java/lang/invoke/MethodHandle" ∧ y.cls ≠ "java/lang/invoke/VarHandle") ∧
  (∀ sig, parseMethodDescriptor y.desc = some sig → n = sig.parameters.length) ∧ (Cond.methodLink own index y).before args s = true ∧ (Cond.instanceMethod y).before args s = true ∧ (Cond.selects C y y).before args s = true
theorem vx_cwVW {own C : String} {index maxL mc ms : Nat} {y : MethodName} {bytes : ByteArray} {ret : Option FieldType} {hh : List (Nat × Nat × Nat × Nat)} {Ts ws ws' : List Cond} {rm : Room} (n : Nat) (ht : ∀ w ∈ Ts, w.before args s = true) (hT : GoodIn Ts (wsV own index C y ws)) (hw : ws = Cond.codeWith y bytes maxL ret hh :: ws') (hrc : rm.cells = mc) (hrs : rm.slots = ms)
    (hd : y.cls = C ∧ y.cls ≠ "java/lang/invoke/MethodHandle" ∧ y.cls ≠ "java/lang/invoke/VarHandle" ∧ (parseMethodDescriptor y.desc).map (fun d => d.parameters.length) = some n) (hR : rm.frames + 1 ≤ R.frames ∧ 8 + (maxL + 11) + rm.locals ≤ R.locals) :
    vx_CVW R s args own C index y bytes maxL ret hh ws rm mc ms n := by
  obtain ⟨hC, hd⟩ := hd
  subst hC
  have ok : ∀ w ∈ wsV own index y.cls y ws, w.before args s = true := fun w h => ht w (hT w h).1
  have hG : GoodIn Ts ws := fun w h => hT w (by unfold wsV; exact List.mem_append_right _ h)
  have hc : Cond.codeWith y bytes maxL ret hh ∈ ws := by rw [hw]; exact List.mem_cons_self
  refine ⟨⟨hrc, hrs, hR.1, hR.2, pay_in ht hG, hc⟩, ht _ (hG _ hc).1, ok _ (by simp [wsV]), ⟨hd.1, hd.2.1⟩, fun sig h => ?_, ok _ (by simp [wsV]), ok _ (by simp [wsV]), ok _ (by simp [wsV])⟩
  have h2 := hd.2.2
  rw [h] at h2
  exact (Option.some.inj h2).symm
theorem vx_runVW {y : MethodName} {bytes cc : ByteArray} {maxL nL mc ms n index : Nat} {ret : Option FieldType} {hh : List (Nat × Nat × Nat × Nat)} {ws : List Cond} {rm : Room} {Pc : Array Value → State → Prop} {Qc : Array Value → State → Outcome → State → Prop} {free : Addr → Prop} {Ts : List Cond} {own C : String} {b : Addr} {As rest : List Value} {g : JFrame}
    (S : CallFix p m c cc nL s args Ts own) (hM : Met l y ws rm Pc Qc mc ms free) (cw : vx_CVW R s args own C index y bytes maxL ret hh ws rm mc ms n) (hp : PreV s H C b Pc As)
    (hg : g.method = m) (hn : As.length = n) (hsize : g.locals.size = nL) (hstack : g.stack = As.reverse ++ .ref b :: rest) (hW : 2 * g.monitorRoom + (rest.map fun v => v.category).sum ≤ 8) (hdg : decode cc g.pc = .ok (.invokevirtual index, 3)) (hf : cells + mc ≤ R.cells ∧ slots + ms ≤ R.slots) :
    va_Run p l e R s m args below meth c H locs cells slots mc ms g rest (Qc (Value.ref b :: As).toArray) free := by
  obtain ⟨⟨hrc, hrs, hfr, hlo, hws, hcw⟩, hcode, hini, hy, hlen, hl, hin, hse⟩ := cw
  have hK : Back l R p e below s args y 3 8 (PreOf R mc ms Pc) (PostOf Qc mc ms free) := va_backW (hh := hh) (bytes := bytes) (maxL := maxL) (ret := ret) hM hp.1 hrc hrs hfr hlo hws hcw (fun a' U hW => word_at hW (Or.inl (by first | rfl | simp [Cond.onTables, Cond.keeps, Cond.steady])) hini)
  obtain ⟨hx, hb, hml, ho, -⟩ := S
  obtain ⟨-, ⟨cellB, hcB, hoB, hclB⟩, hPc⟩ := hp
  intro T hT X
  obtain ⟨v, vm₁, ⟨U', l2, c2, s2⟩, hW₁, X', ⟨g', mk, t, L, e1, e2, hq, h1, hL, h2, h3⟩, st⟩ := vx_callVW X hx (C := C) (hh := hh) (bytes := bytes) (maxL := maxL) (ret := ret) ho hl hin hse hcode hy hK (by rw [hT]; exact hcB) hoB hclB hg (hsize.trans hml.symm) (argsL := As) (rest := rest) (fun sig h => hn.trans (hlen sig h)) hstack hW (by rw [hb]; exact hdg)
    (fun vm₁ hW₁ => ⟨hf.1, hf.2, hPc (T.setVm vm₁) hT hW₁⟩)
  dsimp only [Pt.U, Pt.locs, Pt.cells, Pt.slots] at X' e1 e2 h1 h2 h3 st
  subst h1; subst h2; subst h3
  exact ⟨v, (T.setVm vm₁).calling g' mk (Value.ref b :: As).toArray, t, U', L, hT, X', hL, e1, e2, hq, st⟩
section
variable {y : MethodName} {bytes cc : ByteArray} {maxL nL mc ms n index : Nat} {ret : Option FieldType} {ws : List Cond} {rm : Room} {Pc : Array Value → State → Prop} {Qc : Array Value → State → Outcome → State → Prop} {XC : String → State → State → Prop} {free : Addr → Prop} {Ts : List Cond} {own C : String} {b : Addr} {As rest : List Value} {g : JFrame}
theorem vx_runVX {hh : List (Nat × Nat × Nat × Nat)} (S : CallFix p m c cc nL s args Ts own) (hM : vx_Met l y ws rm Pc Qc XC mc ms free) (cw : vx_CVW R s args own C index y bytes maxL ret hh ws rm mc ms n) (hp : PreV s H C b Pc As)
    (hg : g.method = m) (hn : As.length = n) (hsize : g.locals.size = nL) (hstack : g.stack = As.reverse ++ .ref b :: rest) (hW : 2 * g.monitorRoom + (rest.map fun v => v.category).sum ≤ 8) (hdg : decode cc g.pc = .ok (.invokevirtual index, 3)) (hf : cells + mc ≤ R.cells ∧ slots + ms ≤ R.slots) :
    vx_Run p l e R s m args below meth c H locs cells slots mc ms g rest (Qc (Value.ref b :: As).toArray) XC free := by
  obtain ⟨⟨hrc, hrs, hfr, hlo, hws, hcw⟩, hcode, hini, hy, hlen, hl, hin, hse⟩ := cw
  have hK : vx_Back l R p e below s args y 3 8 (PreOf R mc ms Pc) (PostOf Qc mc ms free) (vx_Post XC mc ms free) := vx_backW (hh := hh) (bytes := bytes) (maxL := maxL) (ret := ret) hM hp.1 hrc hrs hfr hlo hws hcw (fun a' U hW => word_at hW (Or.inl (by first | rfl | simp [Cond.onTables, Cond.keeps, Cond.steady])) hini)
  obtain ⟨hx, hb, hml, ho, -⟩ := S
  obtain ⟨-, ⟨cellB, hcB, hoB, hclB⟩, hPc⟩ := hp
  intro T hT X
  rcases vx_callVX X hx (C := C) (hh := hh) (bytes := bytes) (maxL := maxL) (ret := ret) ho hl hin hse hcode hy hK (by rw [hT]; exact hcB) hoB hclB hg (hsize.trans hml.symm) (argsL := As) (rest := rest) (fun sig h => hn.trans (hlen sig h)) hstack hW (by rw [hb]; exact hdg)
    (fun vm₁ hW₁ => ⟨hf.1, hf.2, hPc (T.setVm vm₁) hT hW₁⟩) with ⟨v, vm₁, ⟨U', l2, c2, s2⟩, hW₁, X', ⟨g', mk, t, L, e1, e2, hq, h1, hL, h2, h3⟩, st⟩ | ⟨q, vm₁, ⟨U', l2, c2, s2⟩, hW₁, X', ⟨g', mk, t, L, E, ce, e1, e2, hq, hce, hcv, hcl, h1, hL, h2, h3⟩, st⟩
  · dsimp only [Pt.U, Pt.locs, Pt.cells, Pt.slots] at X' e1 e2 h1 h2 h3 st
    subst h1; subst h2; subst h3
    exact Or.inl ⟨v, (T.setVm vm₁).calling g' mk (Value.ref b :: As).toArray, t, U', L, hT, X', hL, e1, e2, hq, st⟩
  · dsimp only [Pt.U, Pt.locs, Pt.cells, Pt.slots] at X' e1 e2 h1 h2 h3 st hcl
    subst h1; subst h2; subst h3
    exact Or.inr ⟨q, (T.setVm vm₁).calling g' mk (Value.ref b :: As).toArray, t, U', L, E, ce, hT, X', hL, e1, e2, hq, hce, hcv, vx_cls hW₁ hcl, st⟩
theorem vx_runSX {hh : List (Nat × Nat × Nat × Nat)} (S : CallFix p m c cc nL s args Ts own) (hM : vx_Met l y ws rm Pc Qc XC mc ms free) (cw : vx_CSW R s args own index y bytes maxL ret hh ws rm mc ms n) (hp : PreS s H Pc As)
    (hg : g.method = m) (hn : As.length = n) (hsize : g.locals.size = nL) (hstack : g.stack = As.reverse ++ rest) (hW : 2 * g.monitorRoom + (rest.map fun v => v.category).sum ≤ 8) (hdg : decode cc g.pc = .ok (.invokestatic index, 3)) (hf : cells + mc ≤ R.cells ∧ slots + ms ≤ R.slots) :
    vx_Run p l e R s m args below meth c H locs cells slots mc ms g rest (Qc As.toArray) XC free := by
  obtain ⟨⟨hrc, hrs, hfr, hlo, hws, hcw⟩, hcode, hini, hy, hlen, hl, hstt⟩ := cw
  have hK : vx_Back l R p e below s args y 3 8 (PreOf R mc ms Pc) (PostOf Qc mc ms free) (vx_Post XC mc ms free) := vx_backW (hh := hh) (bytes := bytes) (maxL := maxL) (ret := ret) hM hp.1 hrc hrs hfr hlo hws hcw (fun a' U hW => word_at hW (Or.inl (by first | rfl | simp [Cond.onTables, Cond.keeps, Cond.steady])) hini)
  obtain ⟨hx, hb, hml, ho, -⟩ := S
  intro T hT X
  rcases vx_callSX X hx (hh := hh) (bytes := bytes) (maxL := maxL) (ret := ret) ho hl hstt hini hcode hy hK hg (hsize.trans hml.symm) (argsL := As) (rest := rest) (fun sig h => hn.trans (hlen sig h)) hstack hW (by rw [hb]; exact hdg)
    (fun vm₁ hW₁ => ⟨hf.1, hf.2, hp.2 (T.setVm vm₁) hT hW₁⟩) with ⟨v, vm₁, ⟨U', l2, c2, s2⟩, hW₁, X', ⟨g', mk, t, L, e1, e2, hq, h1, hL, h2, h3⟩, st⟩ | ⟨q, vm₁, ⟨U', l2, c2, s2⟩, hW₁, X', ⟨g', mk, t, L, E, ce, e1, e2, hq, hce, hcv, hcl, h1, hL, h2, h3⟩, st⟩
  · dsimp only [Pt.U, Pt.locs, Pt.cells, Pt.slots] at X' e1 e2 h1 h2 h3 st
    subst h1; subst h2; subst h3
    exact Or.inl ⟨v, (T.setVm vm₁).calling g' mk As.toArray, t, U', L, hT, X', hL, e1, e2, hq, st⟩
  · dsimp only [Pt.U, Pt.locs, Pt.cells, Pt.slots] at X' e1 e2 h1 h2 h3 st hcl
    subst h1; subst h2; subst h3
    exact Or.inr ⟨q, (T.setVm vm₁).calling g' mk As.toArray, t, U', L, E, ce, hT, X', hL, e1, e2, hq, hce, hcv, vx_cls hW₁ hcl, st⟩
end
end VXH
theorem vx_ofWH {l : Launch} {y : MethodName} {ws ws' : List Cond} {rm : Room} {Pc : Array Value → State → Prop} {Qc : Array Value → State → Outcome → State → Prop} {XC : String → State → State → Prop} {mc ms : Nat} {free : Addr → Prop} {cc : ByteArray} {maxL : Nat} {ret : Option FieldType} {hh : List (Nat × Nat × Nat × Nat)}
    (hy : plainName y.cls = true) (hw : ws = Cond.codeWith y cc maxL ret hh :: ws')
    (body : ∀ p e s m args below meth c s₁, BodyLoose p l y (headSpec ws rm) cc maxL ret e s m args below meth c s₁ → c.maxLocals = maxL → Pc args s →
      W p l e (headSpec ws rm).room s m args below meth c s.heap [] 0 0 (vx_MQ below Qc XC args s mc ms free) (entryFrame m args maxL)) : vx_Met l y ws rm Pc Qc XC mc ms free := by
  refine MetFree.of_bodyS (code := cc) (maxLocals := maxL) (ret := ret) hy ?_ ?_
  · intro args s m h hn
    obtain ⟨m9, meth, c, hn9, h1, h2, h3, h4, -, h5, h6, -⟩ := Cond.codeWith_spec (atoms_spec (ws := ws) h _ (by rw [hw]; exact List.mem_cons_self))
    cases hn.symm.trans hn9
    exact ⟨meth, c, h1, h2, h3, h4, h5, h6⟩
  · intro p e s m args below meth c s₁ B hml hP _
    have hh0 : s₁.heap = s.heap := by rw [B.state]; rfl
    obtain ⟨t, a1, o, b1, b2, b3⟩ := body p e s m args below meth c s₁ B hml hP s₁ hh0 (Stand.of_body B)
    exact ⟨t, o, a1, b1, b2, b3⟩
/-! ===== END ===== -/
end
section
section QNM
def qT : List Cond := lw_tbl.filter goodWord
theorem qT_good : GoodIn qT qT := fun w h => ⟨h, good_of_word (List.mem_filter.mp h).2⟩
theorem qT_1 {k : Nat} {w : Cond} (h : tables_1_1[k]? = some w) (g : goodWord w = true) : w ∈ qT := List.mem_filter.mpr ⟨List.mem_append_right _ (List.mem_append_left _ (List.mem_of_getElem? h)), g⟩
theorem qT_2 {k : Nat} {w : Cond} (h : tables_1_2[k]? = some w) (g : goodWord w = true) : w ∈ qT := List.mem_filter.mpr ⟨List.mem_append_right _ (List.mem_append_right _ (List.mem_append_left _ (List.mem_of_getElem? h))), g⟩
theorem qT_3 {k : Nat} {w : Cond} (h : tables_1_3[k]? = some w) (g : goodWord w = true) : w ∈ qT := List.mem_filter.mpr ⟨List.mem_append_right _ (List.mem_append_right _ (List.mem_append_right _ (List.mem_of_getElem? h))), g⟩
theorem qT_p {k : Nat} {w : Cond} (h : (k2_sels lw_privs)[k]? = some w) (g : goodWord w = true) : w ∈ qT := List.mem_filter.mpr ⟨List.mem_append_left _ (List.mem_of_getElem? h), g⟩
def TO : u_T := fun k => match k with
  | 0 => ("OutlookOdds", "stock", "LOutlookOdds$Stock;", true)
  | 1 => ("OutlookOdds", "lows", "[I", true)
  | 2 => ("OutlookOdds", "highs", "[I", true)
  | 3 => ("OutlookOdds", "rates", "[I", true)
  | 4 => ("OutlookOdds", "rules", "I", false)
  | 5 => ("OutlookOdds", "youngFish", "I", false)
  | 6 => ("OutlookOdds", "mostChange", "I", false)
  | 7 => ("OutlookOdds", "errorSpread", "I", false)
  | 8 => ("OutlookOdds", "seeingDelay", "I", false)
  | 9 => ("OutlookOdds", "massMark", "I", false)
  | 10 => ("OutlookOdds", "story", "LOutlookOdds$Story;", true)
  | 11 => ("OutlookOdds", "trial", "LOutlookOdds$Story;", true)
  | 12 => ("OutlookOdds", "ordered", "[J", true)
  | 13 => ("OutlookOdds", "ranRule", "I", false)
  | 14 => ("OutlookOdds", "years", "I", false)
  | 15 => ("OutlookOdds", "seeds", "I", false)
  | _ => ("OutlookOdds", "runs", "I", false)
def tyO : Nat → FieldType := fun k => match k with
  | 0 => .object "OutlookOdds$Stock"
  | 1 => .array .int
  | 2 => .array .int
  | 3 => .array .int
  | 4 => .int
  | 5 => .int
  | 6 => .int
  | 7 => .int
  | 8 => .int
  | 9 => .int
  | 10 => .object "OutlookOdds$Story"
  | 11 => .object "OutlookOdds$Story"
  | 12 => .array .long
  | 13 => .int
  | 14 => .int
  | 15 => .int
  | _ => .int
theorem nmO : ∀ a, a < 17 → ∀ b, b < 17 → a ≠ b → (TO a).2.1 ≠ (TO b).2.1 := by decide +kernel
theorem tyO_ok : ∀ k, k < 17 → parseFieldDescriptor (TO k).2.2.1 = some (tyO k) := by decide +kernel
theorem inO_0 : ∀ w ∈ u_ws "OutlookOdds" TO 17, w ∈ lw_tbl := by decide +kernel
theorem inO_1 : (u_ws "OutlookOdds" TO 17).all goodWord = true := by decide +kernel
theorem inO : ∀ w ∈ u_ws "OutlookOdds" TO 17, w ∈ qT := fun w h => List.mem_filter.mpr ⟨inO_0 w h, List.all_eq_true.mp inO_1 w h⟩
def TS : u_T := fun k => match k with
  | 0 => ("OutlookOdds$Stock", "numbers", "[I", true)
  | 1 => ("OutlookOdds$Stock", "weights", "[I", true)
  | 2 => ("OutlookOdds$Stock", "ripes", "[I", true)
  | 3 => ("OutlookOdds$Stock", "dies", "[I", true)
  | _ => ("OutlookOdds$Stock", "living", "[J", true)
def tyS : Nat → FieldType := fun k => match k with
  | 0 => .array .int
  | 1 => .array .int
  | 2 => .array .int
  | 3 => .array .int
  | _ => .array .long
theorem nmS : ∀ a, a < 5 → ∀ b, b < 5 → a ≠ b → (TS a).2.1 ≠ (TS b).2.1 := by decide +kernel
theorem tyS_ok : ∀ k, k < 5 → parseFieldDescriptor (TS k).2.2.1 = some (tyS k) := by decide +kernel
theorem inS_0 : ∀ w ∈ u_ws "OutlookOdds$Stock" TS 5, w ∈ lw_tbl := by decide +kernel
theorem inS_1 : (u_ws "OutlookOdds$Stock" TS 5).all goodWord = true := by decide +kernel
theorem inS : ∀ w ∈ u_ws "OutlookOdds$Stock" TS 5, w ∈ qT := fun w h => List.mem_filter.mpr ⟨inS_0 w h, List.all_eq_true.mp inS_1 w h⟩
def TY : u_T := fun k => match k with
  | _ => ("OutlookOdds$Story", "rows", "[[J", true)
def tyY : Nat → FieldType := fun k => match k with
  | _ => .array (.array .long)
theorem nmY : ∀ a, a < 1 → ∀ b, b < 1 → a ≠ b → (TY a).2.1 ≠ (TY b).2.1 := by decide +kernel
theorem tyY_ok : ∀ k, k < 1 → parseFieldDescriptor (TY k).2.2.1 = some (tyY k) := by decide +kernel
theorem inY_0 : ∀ w ∈ u_ws "OutlookOdds$Story" TY 1, w ∈ lw_tbl := by decide +kernel
theorem inY_1 : (u_ws "OutlookOdds$Story" TY 1).all goodWord = true := by decide +kernel
theorem inY : ∀ w ∈ u_ws "OutlookOdds$Story" TY 1, w ∈ qT := fun w h => List.mem_filter.mpr ⟨inY_0 w h, List.all_eq_true.mp inY_1 w h⟩
def TM : u_T := fun k => match k with
  | 0 => ("OutlookOddsModel", "thrown", "I", false)
  | 1 => ("OutlookOddsModel", "numbers", "[J", true)
  | 2 => ("OutlookOddsModel", "weights", "[J", true)
  | 3 => ("OutlookOddsModel", "ripe", "[J", true)
  | 4 => ("OutlookOddsModel", "dies", "[J", true)
  | 5 => ("OutlookOddsModel", "young", "I", false)
  | 6 => ("OutlookOddsModel", "rules", "I", false)
  | 7 => ("OutlookOddsModel", "lows", "[J", true)
  | 8 => ("OutlookOddsModel", "highs", "[J", true)
  | 9 => ("OutlookOddsModel", "rates", "[I", true)
  | 10 => ("OutlookOddsModel", "change", "I", false)
  | 11 => ("OutlookOddsModel", "spread", "I", false)
  | 12 => ("OutlookOddsModel", "delay", "I", false)
  | 13 => ("OutlookOddsModel", "mark", "I", false)
  | 14 => ("OutlookOddsModel", "runs", "I", false)
  | 15 => ("OutlookOddsModel", "ranRule", "I", false)
  | 16 => ("OutlookOddsModel", "ranYears", "I", false)
  | 17 => ("OutlookOddsModel", "ranSeeds", "I", false)
  | 18 => ("OutlookOddsModel", "masses", "[J", true)
  | 19 => ("OutlookOddsModel", "caught", "[J", true)
  | 20 => ("OutlookOddsModel", "catches", "[J", true)
  | 21 => ("OutlookOddsModel", "seen", "[J", true)
  | _ => ("OutlookOddsModel", "now", "[J", true)
def tyM : Nat → FieldType := fun k => match k with
  | 0 => .int
  | 1 => .array .long
  | 2 => .array .long
  | 3 => .array .long
  | 4 => .array .long
  | 5 => .int
  | 6 => .int
  | 7 => .array .long
  | 8 => .array .long
  | 9 => .array .int
  | 10 => .int
  | 11 => .int
  | 12 => .int
  | 13 => .int
  | 14 => .int
  | 15 => .int
  | 16 => .int
  | 17 => .int
  | 18 => .array .long
  | 19 => .array .long
  | 20 => .array .long
  | 21 => .array .long
  | _ => .array .long
theorem nmM : ∀ a, a < 23 → ∀ b, b < 23 → a ≠ b → (TM a).2.1 ≠ (TM b).2.1 := by decide +kernel
theorem tyM_ok : ∀ k, k < 23 → parseFieldDescriptor (TM k).2.2.1 = some (tyM k) := by decide +kernel
theorem inM_0 : ∀ w ∈ u_ws "OutlookOddsModel" TM 23, w ∈ lw_tbl := by decide +kernel
theorem inM_1 : (u_ws "OutlookOddsModel" TM 23).all goodWord = true := by decide +kernel
theorem inM : ∀ w ∈ u_ws "OutlookOddsModel" TM 23, w ∈ qT := fun w h => List.mem_filter.mpr ⟨inM_0 w h, List.all_eq_true.mp inM_1 w h⟩
abbrev qCl : List vw_C := [("OutlookOdds", TO, 17), ("OutlookOdds$Stock", TS, 5), ("OutlookOdds$Story", TY, 1), ("OutlookOddsModel", TM, 23)]
abbrev yO_init : MethodName := { cls := "OutlookOdds", name := "<init>", desc := "()V" }
abbrev wO_init : List Cond := (Jvm.Cond.code ({ cls := "OutlookOdds", name := "<init>", desc := "()V" } : Jvm.MethodName) prog_1_method_1_code (1 : Nat) (Option.none : Option Jvm.ClassFile.FieldType)) :: qT
abbrev yS_init : MethodName := { cls := "OutlookOdds$Stock", name := "<init>", desc := "()V" }
abbrev wS_init : List Cond := (Jvm.Cond.code ({ cls := "OutlookOdds$Stock", name := "<init>", desc := "()V" } : Jvm.MethodName) prog_2_method_1_code (1 : Nat) (Option.none : Option Jvm.ClassFile.FieldType)) :: qT
abbrev yY_init : MethodName := { cls := "OutlookOdds$Story", name := "<init>", desc := "()V" }
abbrev wY_init : List Cond := (Jvm.Cond.code ({ cls := "OutlookOdds$Story", name := "<init>", desc := "()V" } : Jvm.MethodName) prog_3_method_1_code (1 : Nat) (Option.none : Option Jvm.ClassFile.FieldType)) :: qT
abbrev yO_draw : MethodName := { cls := "OutlookOdds", name := "draw", desc := "(III)I" }
abbrev wO_draw : List Cond := (Jvm.Cond.code ({ cls := "OutlookOdds", name := "draw", desc := "(III)I" } : Jvm.MethodName) prog_1_method_8_code (5 : Nat) (Option.some Jvm.ClassFile.FieldType.int)) :: qT
abbrev yO_count : MethodName := { cls := "OutlookOdds", name := "count", desc := "(I)I" }
abbrev wO_count : List Cond := (Jvm.Cond.code ({ cls := "OutlookOdds", name := "count", desc := "(I)I" } : Jvm.MethodName) prog_1_method_18_code (2 : Nat) (Option.some Jvm.ClassFile.FieldType.int)) :: qT
abbrev yL_age : MethodName := { cls := "OutlookOddsLaw", name := "age", desc := "(LOutlookOdds;IIIII)I" }
abbrev wL_age : List Cond := (Jvm.Cond.codeWith ({ cls := "OutlookOddsLaw", name := "age", desc := "(LOutlookOdds;IIIII)I" } : Jvm.MethodName) method_3_code (7 : Nat) (Option.some Jvm.ClassFile.FieldType.int) [((0 : Nat), (11 : Nat), (14 : Nat), (13 : Nat)), ((0 : Nat), (11 : Nat), (18 : Nat), (15 : Nat))]) :: qT
abbrev yO_age : MethodName := { cls := "OutlookOdds", name := "age", desc := "(IIIII)V" }
abbrev wO_age : List Cond := (Jvm.Cond.code ({ cls := "OutlookOdds", name := "age", desc := "(IIIII)V" } : Jvm.MethodName) prog_1_method_2_code (6 : Nat) (Option.none : Option Jvm.ClassFile.FieldType)) :: qT
abbrev yO_requirePlace : MethodName := { cls := "OutlookOdds", name := "requirePlace", desc := "(III)V" }
abbrev wO_requirePlace : List Cond := (Jvm.Cond.code ({ cls := "OutlookOdds", name := "requirePlace", desc := "(III)V" } : Jvm.MethodName) prog_1_method_34_code (3 : Nat) (Option.none : Option Jvm.ClassFile.FieldType)) :: qT
abbrev yO_requireNumber : MethodName := { cls := "OutlookOdds", name := "requireNumber", desc := "(III)V" }
abbrev wO_requireNumber : List Cond := (Jvm.Cond.code ({ cls := "OutlookOdds", name := "requireNumber", desc := "(III)V" } : Jvm.MethodName) prog_1_method_35_code (3 : Nat) (Option.none : Option Jvm.ClassFile.FieldType)) :: qT
abbrev yS_setAge : MethodName := { cls := "OutlookOdds$Stock", name := "setAge", desc := "(IIIII)V" }
abbrev wS_setAge : List Cond := (Jvm.Cond.code ({ cls := "OutlookOdds$Stock", name := "setAge", desc := "(IIIII)V" } : Jvm.MethodName) prog_2_method_2_code (6 : Nat) (Option.none : Option Jvm.ClassFile.FieldType)) :: qT
abbrev yL_young : MethodName := { cls := "OutlookOddsLaw", name := "young", desc := "(LOutlookOdds;I[J)I" }
abbrev wL_young : List Cond := (Jvm.Cond.codeWith ({ cls := "OutlookOddsLaw", name := "young", desc := "(LOutlookOdds;I[J)I" } : Jvm.MethodName) method_4_code (4 : Nat) (Option.some Jvm.ClassFile.FieldType.int) [((0 : Nat), (9 : Nat), (12 : Nat), (15 : Nat))]) :: qT
abbrev yO_young : MethodName := { cls := "OutlookOdds", name := "young", desc := "(I)I" }
abbrev wO_young : List Cond := (Jvm.Cond.code ({ cls := "OutlookOdds", name := "young", desc := "(I)I" } : Jvm.MethodName) prog_1_method_3_code (3 : Nat) (Option.some Jvm.ClassFile.FieldType.int)) :: qT
abbrev yL_rule : MethodName := { cls := "OutlookOddsLaw", name := "rule", desc := "(LOutlookOdds;III[J)I" }
abbrev wL_rule : List Cond := (Jvm.Cond.codeWith ({ cls := "OutlookOddsLaw", name := "rule", desc := "(LOutlookOdds;III[J)I" } : Jvm.MethodName) method_5_code (6 : Nat) (Option.some Jvm.ClassFile.FieldType.int) [((0 : Nat), (12 : Nat), (15 : Nat), (15 : Nat)), ((0 : Nat), (12 : Nat), (19 : Nat), (25 : Nat))]) :: qT
abbrev yO_rule : MethodName := { cls := "OutlookOdds", name := "rule", desc := "(III)I" }
abbrev wO_rule : List Cond := (Jvm.Cond.code ({ cls := "OutlookOdds", name := "rule", desc := "(III)I" } : Jvm.MethodName) prog_1_method_4_code (5 : Nat) (Option.some Jvm.ClassFile.FieldType.int)) :: qT
abbrev yL_change : MethodName := { cls := "OutlookOddsLaw", name := "change", desc := "(LOutlookOdds;I[J)I" }
abbrev wL_change : List Cond := (Jvm.Cond.codeWith ({ cls := "OutlookOddsLaw", name := "change", desc := "(LOutlookOdds;I[J)I" } : Jvm.MethodName) method_6_code (4 : Nat) (Option.some Jvm.ClassFile.FieldType.int) [((0 : Nat), (9 : Nat), (12 : Nat), (15 : Nat))]) :: qT
abbrev yO_change : MethodName := { cls := "OutlookOdds", name := "change", desc := "(I)I" }
abbrev wO_change : List Cond := (Jvm.Cond.code ({ cls := "OutlookOdds", name := "change", desc := "(I)I" } : Jvm.MethodName) prog_1_method_5_code (3 : Nat) (Option.some Jvm.ClassFile.FieldType.int)) :: qT
abbrev yL_error : MethodName := { cls := "OutlookOddsLaw", name := "error", desc := "(LOutlookOdds;II)I" }
abbrev wL_error : List Cond := (Jvm.Cond.codeWith ({ cls := "OutlookOddsLaw", name := "error", desc := "(LOutlookOdds;II)I" } : Jvm.MethodName) method_7_code (4 : Nat) (Option.some Jvm.ClassFile.FieldType.int) [((0 : Nat), (6 : Nat), (9 : Nat), (15 : Nat))]) :: qT
abbrev yO_error : MethodName := { cls := "OutlookOdds", name := "error", desc := "(II)V" }
abbrev wO_error : List Cond := (Jvm.Cond.code ({ cls := "OutlookOdds", name := "error", desc := "(II)V" } : Jvm.MethodName) prog_1_method_6_code (3 : Nat) (Option.none : Option Jvm.ClassFile.FieldType)) :: qT
abbrev yL_mark : MethodName := { cls := "OutlookOddsLaw", name := "mark", desc := "(LOutlookOdds;I[J)I" }
abbrev wL_mark : List Cond := (Jvm.Cond.codeWith ({ cls := "OutlookOddsLaw", name := "mark", desc := "(LOutlookOdds;I[J)I" } : Jvm.MethodName) method_8_code (4 : Nat) (Option.some Jvm.ClassFile.FieldType.int) [((0 : Nat), (9 : Nat), (12 : Nat), (15 : Nat))]) :: qT
abbrev yO_mark : MethodName := { cls := "OutlookOdds", name := "mark", desc := "(I)I" }
abbrev wO_mark : List Cond := (Jvm.Cond.code ({ cls := "OutlookOdds", name := "mark", desc := "(I)I" } : Jvm.MethodName) prog_1_method_7_code (3 : Nat) (Option.some Jvm.ClassFile.FieldType.int)) :: qT
abbrev yL_run : MethodName := { cls := "OutlookOddsLaw", name := "run", desc := "(LOutlookOdds;III[J)I" }
abbrev wL_run : List Cond := (Jvm.Cond.codeWith ({ cls := "OutlookOddsLaw", name := "run", desc := "(LOutlookOdds;III[J)I" } : Jvm.MethodName) method_9_code (6 : Nat) (Option.some Jvm.ClassFile.FieldType.int) [((0 : Nat), (12 : Nat), (15 : Nat), (13 : Nat)), ((0 : Nat), (12 : Nat), (19 : Nat), (15 : Nat))]) :: qT
abbrev yO_run : MethodName := { cls := "OutlookOdds", name := "run", desc := "(III)I" }
abbrev wO_run : List Cond := (Jvm.Cond.code ({ cls := "OutlookOdds", name := "run", desc := "(III)I" } : Jvm.MethodName) prog_1_method_9_code (4 : Nat) (Option.some Jvm.ClassFile.FieldType.int)) :: qT
abbrev yO_runAllSeeds : MethodName := { cls := "OutlookOdds", name := "runAllSeeds", desc := "(LOutlookOdds$Story;I)V" }
abbrev wO_runAllSeeds : List Cond := (Jvm.Cond.code ({ cls := "OutlookOdds", name := "runAllSeeds", desc := "(LOutlookOdds$Story;I)V" } : Jvm.MethodName) prog_1_method_19_code (5 : Nat) (Option.none : Option Jvm.ClassFile.FieldType)) :: qT
abbrev yS_begin : MethodName := { cls := "OutlookOdds$Stock", name := "begin", desc := "()V" }
abbrev wS_begin : List Cond := (Jvm.Cond.code ({ cls := "OutlookOdds$Stock", name := "begin", desc := "()V" } : Jvm.MethodName) prog_2_method_3_code (2 : Nat) (Option.none : Option Jvm.ClassFile.FieldType)) :: qT
abbrev yO_runYear : MethodName := { cls := "OutlookOdds", name := "runYear", desc := "(LOutlookOdds$Story;III)V" }
abbrev wO_runYear : List Cond := (Jvm.Cond.code ({ cls := "OutlookOdds", name := "runYear", desc := "(LOutlookOdds$Story;III)V" } : Jvm.MethodName) prog_1_method_20_code (13 : Nat) (Option.none : Option Jvm.ClassFile.FieldType)) :: qT
abbrev yS_ripeMass : MethodName := { cls := "OutlookOdds$Stock", name := "ripeMass", desc := "()J" }
abbrev wS_ripeMass : List Cond := (Jvm.Cond.code ({ cls := "OutlookOdds$Stock", name := "ripeMass", desc := "()J" } : Jvm.MethodName) prog_2_method_4_code (4 : Nat) (Option.some Jvm.ClassFile.FieldType.long)) :: qT
abbrev yY_put : MethodName := { cls := "OutlookOdds$Story", name := "put", desc := "(IIIJ)V" }
abbrev wY_put : List Cond := (Jvm.Cond.code ({ cls := "OutlookOdds$Story", name := "put", desc := "(IIIJ)V" } : Jvm.MethodName) prog_3_method_3_code (6 : Nat) (Option.none : Option Jvm.ClassFile.FieldType)) :: qT
abbrev yO_massSeen : MethodName := { cls := "OutlookOdds", name := "massSeen", desc := "(LOutlookOdds$Story;II)J" }
abbrev wO_massSeen : List Cond := (Jvm.Cond.code ({ cls := "OutlookOdds", name := "massSeen", desc := "(LOutlookOdds$Story;II)J" } : Jvm.MethodName) prog_1_method_21_code (6 : Nat) (Option.some Jvm.ClassFile.FieldType.long)) :: qT
abbrev yY_get : MethodName := { cls := "OutlookOdds$Story", name := "get", desc := "(III)J" }
abbrev wY_get : List Cond := (Jvm.Cond.code ({ cls := "OutlookOdds$Story", name := "get", desc := "(III)J" } : Jvm.MethodName) prog_3_method_2_code (4 : Nat) (Option.some Jvm.ClassFile.FieldType.long)) :: qT
abbrev yS_totalMass : MethodName := { cls := "OutlookOdds$Stock", name := "totalMass", desc := "()J" }
abbrev wS_totalMass : List Cond := (Jvm.Cond.code ({ cls := "OutlookOdds$Stock", name := "totalMass", desc := "()J" } : Jvm.MethodName) prog_2_method_5_code (4 : Nat) (Option.some Jvm.ClassFile.FieldType.long)) :: qT
abbrev yO_rateAllowed : MethodName := { cls := "OutlookOdds", name := "rateAllowed", desc := "(JI)J" }
abbrev wO_rateAllowed : List Cond := (Jvm.Cond.code ({ cls := "OutlookOdds", name := "rateAllowed", desc := "(JI)J" } : Jvm.MethodName) prog_1_method_22_code (8 : Nat) (Option.some Jvm.ClassFile.FieldType.long)) :: qT
abbrev yO_limitChange : MethodName := { cls := "OutlookOdds", name := "limitChange", desc := "(LOutlookOdds$Story;JII)J" }
abbrev wO_limitChange : List Cond := (Jvm.Cond.code ({ cls := "OutlookOdds", name := "limitChange", desc := "(LOutlookOdds$Story;JII)J" } : Jvm.MethodName) prog_1_method_23_code (10 : Nat) (Option.some Jvm.ClassFile.FieldType.long)) :: qT
abbrev yS_takeOut : MethodName := { cls := "OutlookOdds$Stock", name := "takeOut", desc := "(JJ)J" }
abbrev wS_takeOut : List Cond := (Jvm.Cond.code ({ cls := "OutlookOdds$Stock", name := "takeOut", desc := "(JJ)J" } : Jvm.MethodName) prog_2_method_6_code (10 : Nat) (Option.some Jvm.ClassFile.FieldType.long)) :: qT
abbrev yS_loseDead : MethodName := { cls := "OutlookOdds$Stock", name := "loseDead", desc := "()V" }
abbrev wS_loseDead : List Cond := (Jvm.Cond.code ({ cls := "OutlookOdds$Stock", name := "loseDead", desc := "()V" } : Jvm.MethodName) prog_2_method_7_code (2 : Nat) (Option.none : Option Jvm.ClassFile.FieldType)) :: qT
abbrev yO_youngBorn : MethodName := { cls := "OutlookOdds", name := "youngBorn", desc := "(II)J" }
abbrev wO_youngBorn : List Cond := (Jvm.Cond.code ({ cls := "OutlookOdds", name := "youngBorn", desc := "(II)J" } : Jvm.MethodName) prog_1_method_24_code (3 : Nat) (Option.some Jvm.ClassFile.FieldType.long)) :: qT
abbrev yS_growOlder : MethodName := { cls := "OutlookOdds$Stock", name := "growOlder", desc := "(J)V" }
abbrev wS_growOlder : List Cond := (Jvm.Cond.code ({ cls := "OutlookOdds$Stock", name := "growOlder", desc := "(J)V" } : Jvm.MethodName) prog_2_method_8_code (5 : Nat) (Option.none : Option Jvm.ClassFile.FieldType)) :: qT
abbrev yO_seedsEverBelowMark : MethodName := { cls := "OutlookOdds", name := "seedsEverBelowMark", desc := "()I" }
abbrev wO_seedsEverBelowMark : List Cond := (Jvm.Cond.code ({ cls := "OutlookOdds", name := "seedsEverBelowMark", desc := "()I" } : Jvm.MethodName) prog_1_method_28_code (3 : Nat) (Option.some Jvm.ClassFile.FieldType.int)) :: qT
abbrev yO_isEverBelowMark : MethodName := { cls := "OutlookOdds", name := "isEverBelowMark", desc := "(I)Z" }
abbrev wO_isEverBelowMark : List Cond := (Jvm.Cond.code ({ cls := "OutlookOdds", name := "isEverBelowMark", desc := "(I)Z" } : Jvm.MethodName) prog_1_method_29_code (3 : Nat) (Option.some Jvm.ClassFile.FieldType.boolean)) :: qT
abbrev yO_isBelowMark : MethodName := { cls := "OutlookOdds", name := "isBelowMark", desc := "(II)Z" }
abbrev wO_isBelowMark : List Cond := (Jvm.Cond.code ({ cls := "OutlookOdds", name := "isBelowMark", desc := "(II)Z" } : Jvm.MethodName) prog_1_method_27_code (3 : Nat) (Option.some Jvm.ClassFile.FieldType.boolean)) :: qT
abbrev yL_told : MethodName := { cls := "OutlookOddsLaw", name := "told", desc := "(LOutlookOdds;III[J)I" }
abbrev wL_told : List Cond := (Jvm.Cond.codeWith ({ cls := "OutlookOddsLaw", name := "told", desc := "(LOutlookOdds;III[J)I" } : Jvm.MethodName) method_10_code (6 : Nat) (Option.some Jvm.ClassFile.FieldType.int) [((0 : Nat), (11 : Nat), (14 : Nat), (25 : Nat)), ((0 : Nat), (11 : Nat), (18 : Nat), (13 : Nat))]) :: qT
abbrev yO_told : MethodName := { cls := "OutlookOdds", name := "told", desc := "(III)J" }
abbrev wO_told : List Cond := (Jvm.Cond.code ({ cls := "OutlookOdds", name := "told", desc := "(III)J" } : Jvm.MethodName) prog_1_method_10_code (4 : Nat) (Option.some Jvm.ClassFile.FieldType.long)) :: qT
abbrev yO_requireRun : MethodName := { cls := "OutlookOdds", name := "requireRun", desc := "()V" }
abbrev wO_requireRun : List Cond := (Jvm.Cond.code ({ cls := "OutlookOdds", name := "requireRun", desc := "()V" } : Jvm.MethodName) prog_1_method_33_code (1 : Nat) (Option.none : Option Jvm.ClassFile.FieldType)) :: qT
abbrev yL_below : MethodName := { cls := "OutlookOddsLaw", name := "below", desc := "(LOutlookOdds;II[J)I" }
abbrev wL_below : List Cond := (Jvm.Cond.codeWith ({ cls := "OutlookOddsLaw", name := "below", desc := "(LOutlookOdds;II[J)I" } : Jvm.MethodName) method_11_code (5 : Nat) (Option.some Jvm.ClassFile.FieldType.int) [((0 : Nat), (10 : Nat), (13 : Nat), (25 : Nat)), ((0 : Nat), (10 : Nat), (17 : Nat), (13 : Nat))]) :: qT
abbrev yO_below : MethodName := { cls := "OutlookOdds", name := "below", desc := "(II)I" }
abbrev wO_below : List Cond := (Jvm.Cond.code ({ cls := "OutlookOdds", name := "below", desc := "(II)I" } : Jvm.MethodName) prog_1_method_11_code (5 : Nat) (Option.some Jvm.ClassFile.FieldType.int)) :: qT
abbrev yO_partOfFraction : MethodName := { cls := "OutlookOdds", name := "partOfFraction", desc := "(JJI)J" }
abbrev wO_partOfFraction : List Cond := (Jvm.Cond.code ({ cls := "OutlookOdds", name := "partOfFraction", desc := "(JJI)J" } : Jvm.MethodName) prog_1_method_31_code (7 : Nat) (Option.some Jvm.ClassFile.FieldType.long)) :: qT
abbrev yO_commonDivisor : MethodName := { cls := "OutlookOdds", name := "commonDivisor", desc := "(JJ)J" }
abbrev wO_commonDivisor : List Cond := (Jvm.Cond.code ({ cls := "OutlookOdds", name := "commonDivisor", desc := "(JJ)J" } : Jvm.MethodName) prog_1_method_32_code (11 : Nat) (Option.some Jvm.ClassFile.FieldType.long)) :: qT
abbrev yL_steady : MethodName := { cls := "OutlookOddsLaw", name := "steady", desc := "(LOutlookOdds;I[J)I" }
abbrev wL_steady : List Cond := (Jvm.Cond.codeWith ({ cls := "OutlookOddsLaw", name := "steady", desc := "(LOutlookOdds;I[J)I" } : Jvm.MethodName) method_12_code (4 : Nat) (Option.some Jvm.ClassFile.FieldType.int) [((0 : Nat), (8 : Nat), (11 : Nat), (25 : Nat)), ((0 : Nat), (8 : Nat), (14 : Nat), (13 : Nat))]) :: qT
abbrev yO_steady : MethodName := { cls := "OutlookOdds", name := "steady", desc := "(I)J" }
abbrev wO_steady : List Cond := (Jvm.Cond.code ({ cls := "OutlookOdds", name := "steady", desc := "(I)J" } : Jvm.MethodName) prog_1_method_12_code (5 : Nat) (Option.some Jvm.ClassFile.FieldType.long)) :: qT
abbrev yL_recovers : MethodName := { cls := "OutlookOddsLaw", name := "recovers", desc := "(LOutlookOdds;II[J)I" }
abbrev wL_recovers : List Cond := (Jvm.Cond.codeWith ({ cls := "OutlookOddsLaw", name := "recovers", desc := "(LOutlookOdds;II[J)I" } : Jvm.MethodName) method_13_code (5 : Nat) (Option.some Jvm.ClassFile.FieldType.int) [((0 : Nat), (10 : Nat), (13 : Nat), (25 : Nat)), ((0 : Nat), (10 : Nat), (17 : Nat), (13 : Nat)), ((0 : Nat), (10 : Nat), (21 : Nat), (15 : Nat))]) :: qT
abbrev yO_recovers : MethodName := { cls := "OutlookOdds", name := "recovers", desc := "(II)I" }
abbrev wO_recovers : List Cond := (Jvm.Cond.code ({ cls := "OutlookOdds", name := "recovers", desc := "(II)I" } : Jvm.MethodName) prog_1_method_13_code (5 : Nat) (Option.some Jvm.ClassFile.FieldType.int)) :: qT
abbrev yL_rank : MethodName := { cls := "OutlookOddsLaw", name := "rank", desc := "(LOutlookOdds;II[J)I" }
abbrev wL_rank : List Cond := (Jvm.Cond.codeWith ({ cls := "OutlookOddsLaw", name := "rank", desc := "(LOutlookOdds;II[J)I" } : Jvm.MethodName) method_14_code (5 : Nat) (Option.some Jvm.ClassFile.FieldType.int) [((0 : Nat), (9 : Nat), (12 : Nat), (25 : Nat)), ((0 : Nat), (9 : Nat), (16 : Nat), (13 : Nat))]) :: qT
abbrev yO_rank : MethodName := { cls := "OutlookOdds", name := "rank", desc := "(II)J" }
abbrev wO_rank : List Cond := (Jvm.Cond.code ({ cls := "OutlookOdds", name := "rank", desc := "(II)J" } : Jvm.MethodName) prog_1_method_14_code (4 : Nat) (Option.some Jvm.ClassFile.FieldType.long)) :: qT
abbrev yO_putInOrder : MethodName := { cls := "OutlookOdds", name := "putInOrder", desc := "(IJ)V" }
abbrev wO_putInOrder : List Cond := (Jvm.Cond.code ({ cls := "OutlookOdds", name := "putInOrder", desc := "(IJ)V" } : Jvm.MethodName) prog_1_method_30_code (5 : Nat) (Option.none : Option Jvm.ClassFile.FieldType)) :: qT
abbrev yL_mean : MethodName := { cls := "OutlookOddsLaw", name := "mean", desc := "(LOutlookOdds;II[J)I" }
abbrev wL_mean : List Cond := (Jvm.Cond.codeWith ({ cls := "OutlookOddsLaw", name := "mean", desc := "(LOutlookOdds;II[J)I" } : Jvm.MethodName) method_15_code (5 : Nat) (Option.some Jvm.ClassFile.FieldType.int) [((0 : Nat), (9 : Nat), (12 : Nat), (25 : Nat)), ((0 : Nat), (9 : Nat), (16 : Nat), (13 : Nat))]) :: qT
abbrev yO_mean : MethodName := { cls := "OutlookOdds", name := "mean", desc := "(II)J" }
abbrev wO_mean : List Cond := (Jvm.Cond.code ({ cls := "OutlookOdds", name := "mean", desc := "(II)J" } : Jvm.MethodName) prog_1_method_15_code (3 : Nat) (Option.some Jvm.ClassFile.FieldType.long)) :: qT
abbrev yO_sumOf : MethodName := { cls := "OutlookOdds", name := "sumOf", desc := "(LOutlookOdds$Story;II)J" }
abbrev wO_sumOf : List Cond := (Jvm.Cond.code ({ cls := "OutlookOdds", name := "sumOf", desc := "(LOutlookOdds$Story;II)J" } : Jvm.MethodName) prog_1_method_26_code (8 : Nat) (Option.some Jvm.ClassFile.FieldType.long)) :: qT
abbrev yL_table : MethodName := { cls := "OutlookOddsLaw", name := "table", desc := "(LOutlookOdds;I[J)I" }
abbrev wL_table : List Cond := (Jvm.Cond.codeWith ({ cls := "OutlookOddsLaw", name := "table", desc := "(LOutlookOdds;I[J)I" } : Jvm.MethodName) method_16_code (4 : Nat) (Option.some Jvm.ClassFile.FieldType.int) [((0 : Nat), (8 : Nat), (11 : Nat), (25 : Nat)), ((0 : Nat), (8 : Nat), (14 : Nat), (13 : Nat))]) :: qT
abbrev yO_table : MethodName := { cls := "OutlookOdds", name := "table", desc := "(I)J" }
abbrev wO_table : List Cond := (Jvm.Cond.code ({ cls := "OutlookOdds", name := "table", desc := "(I)J" } : Jvm.MethodName) prog_1_method_16_code (2 : Nat) (Option.some Jvm.ClassFile.FieldType.long)) :: qT
abbrev yO_caughtAtRate : MethodName := { cls := "OutlookOdds", name := "caughtAtRate", desc := "(I)J" }
abbrev wO_caughtAtRate : List Cond := (Jvm.Cond.code ({ cls := "OutlookOdds", name := "caughtAtRate", desc := "(I)J" } : Jvm.MethodName) prog_1_method_25_code (2 : Nat) (Option.some Jvm.ClassFile.FieldType.long)) :: qT
abbrev yL_top : MethodName := { cls := "OutlookOddsLaw", name := "top", desc := "(LOutlookOdds;[J)I" }
abbrev wL_top : List Cond := (Jvm.Cond.codeWith ({ cls := "OutlookOddsLaw", name := "top", desc := "(LOutlookOdds;[J)I" } : Jvm.MethodName) method_17_code (3 : Nat) (Option.some Jvm.ClassFile.FieldType.int) [((0 : Nat), (8 : Nat), (11 : Nat), (25 : Nat))]) :: qT
abbrev yO_top : MethodName := { cls := "OutlookOdds", name := "top", desc := "()I" }
abbrev wO_top : List Cond := (Jvm.Cond.code ({ cls := "OutlookOdds", name := "top", desc := "()I" } : Jvm.MethodName) prog_1_method_17_code (7 : Nat) (Option.some Jvm.ClassFile.FieldType.int)) :: qT
abbrev yM_init : MethodName := { cls := "OutlookOddsModel", name := "<init>", desc := "()V" }
abbrev wM_init : List Cond := (Jvm.Cond.code ({ cls := "OutlookOddsModel", name := "<init>", desc := "()V" } : Jvm.MethodName) prog_5_method_1_code (1 : Nat) (Option.none : Option Jvm.ClassFile.FieldType)) :: qT
abbrev yM_thrown : MethodName := { cls := "OutlookOddsModel", name := "thrown", desc := "()I" }
abbrev wM_thrown : List Cond := (Jvm.Cond.code ({ cls := "OutlookOddsModel", name := "thrown", desc := "()I" } : Jvm.MethodName) prog_5_method_2_code (1 : Nat) (Option.some Jvm.ClassFile.FieldType.int)) :: qT
abbrev yM_age : MethodName := { cls := "OutlookOddsModel", name := "age", desc := "(IIIII)V" }
abbrev wM_age : List Cond := (Jvm.Cond.code ({ cls := "OutlookOddsModel", name := "age", desc := "(IIIII)V" } : Jvm.MethodName) prog_5_method_4_code (7 : Nat) (Option.none : Option Jvm.ClassFile.FieldType)) :: qT
abbrev yM_isIn : MethodName := { cls := "OutlookOddsModel", name := "isIn", desc := "(III)Z" }
abbrev wM_isIn : List Cond := (Jvm.Cond.code ({ cls := "OutlookOddsModel", name := "isIn", desc := "(III)Z" } : Jvm.MethodName) prog_5_method_3_code (3 : Nat) (Option.some Jvm.ClassFile.FieldType.boolean)) :: qT
abbrev yM_young : MethodName := { cls := "OutlookOddsModel", name := "young", desc := "(I)I" }
abbrev wM_young : List Cond := (Jvm.Cond.code ({ cls := "OutlookOddsModel", name := "young", desc := "(I)I" } : Jvm.MethodName) prog_5_method_5_code (3 : Nat) (Option.some Jvm.ClassFile.FieldType.int)) :: qT
abbrev yM_rule : MethodName := { cls := "OutlookOddsModel", name := "rule", desc := "(III)I" }
abbrev wM_rule : List Cond := (Jvm.Cond.code ({ cls := "OutlookOddsModel", name := "rule", desc := "(III)I" } : Jvm.MethodName) prog_5_method_6_code (5 : Nat) (Option.some Jvm.ClassFile.FieldType.int)) :: qT
abbrev yM_change : MethodName := { cls := "OutlookOddsModel", name := "change", desc := "(I)I" }
abbrev wM_change : List Cond := (Jvm.Cond.code ({ cls := "OutlookOddsModel", name := "change", desc := "(I)I" } : Jvm.MethodName) prog_5_method_7_code (3 : Nat) (Option.some Jvm.ClassFile.FieldType.int)) :: qT
abbrev yM_error : MethodName := { cls := "OutlookOddsModel", name := "error", desc := "(II)V" }
abbrev wM_error : List Cond := (Jvm.Cond.code ({ cls := "OutlookOddsModel", name := "error", desc := "(II)V" } : Jvm.MethodName) prog_5_method_8_code (3 : Nat) (Option.none : Option Jvm.ClassFile.FieldType)) :: qT
abbrev yM_mark : MethodName := { cls := "OutlookOddsModel", name := "mark", desc := "(I)I" }
abbrev wM_mark : List Cond := (Jvm.Cond.code ({ cls := "OutlookOddsModel", name := "mark", desc := "(I)I" } : Jvm.MethodName) prog_5_method_9_code (3 : Nat) (Option.some Jvm.ClassFile.FieldType.int)) :: qT
abbrev yM_draw : MethodName := { cls := "OutlookOddsModel", name := "draw", desc := "(III)I" }
abbrev wM_draw : List Cond := (Jvm.Cond.code ({ cls := "OutlookOddsModel", name := "draw", desc := "(III)I" } : Jvm.MethodName) prog_5_method_11_code (4 : Nat) (Option.some Jvm.ClassFile.FieldType.int)) :: qT
abbrev yM_drawn : MethodName := { cls := "OutlookOddsModel", name := "drawn", desc := "(III)I" }
abbrev wM_drawn : List Cond := (Jvm.Cond.code ({ cls := "OutlookOddsModel", name := "drawn", desc := "(III)I" } : Jvm.MethodName) prog_5_method_10_code (5 : Nat) (Option.some Jvm.ClassFile.FieldType.int)) :: qT
abbrev yM_run : MethodName := { cls := "OutlookOddsModel", name := "run", desc := "(III)I" }
abbrev wM_run : List Cond := (Jvm.Cond.code ({ cls := "OutlookOddsModel", name := "run", desc := "(III)I" } : Jvm.MethodName) prog_5_method_15_code (8 : Nat) (Option.some Jvm.ClassFile.FieldType.int)) :: qT
abbrev yM_go : MethodName := { cls := "OutlookOddsModel", name := "go", desc := "(IIIII)V" }
abbrev wM_go : List Cond := (Jvm.Cond.code ({ cls := "OutlookOddsModel", name := "go", desc := "(IIIII)V" } : Jvm.MethodName) prog_5_method_14_code (8 : Nat) (Option.none : Option Jvm.ClassFile.FieldType)) :: qT
abbrev yM_year : MethodName := { cls := "OutlookOddsModel", name := "year", desc := "(IIIII)V" }
abbrev wM_year : List Cond := (Jvm.Cond.code ({ cls := "OutlookOddsModel", name := "year", desc := "(IIIII)V" } : Jvm.MethodName) prog_5_method_13_code (18 : Nat) (Option.none : Option Jvm.ClassFile.FieldType)) :: qT
abbrev yM_allowed : MethodName := { cls := "OutlookOddsModel", name := "allowed", desc := "(IIJ)J" }
abbrev wM_allowed : List Cond := (Jvm.Cond.code ({ cls := "OutlookOddsModel", name := "allowed", desc := "(IIJ)J" } : Jvm.MethodName) prog_5_method_12_code (5 : Nat) (Option.some Jvm.ClassFile.FieldType.long)) :: qT
abbrev yM_told : MethodName := { cls := "OutlookOddsModel", name := "told", desc := "(III)J" }
abbrev wM_told : List Cond := (Jvm.Cond.code ({ cls := "OutlookOddsModel", name := "told", desc := "(III)J" } : Jvm.MethodName) prog_5_method_18_code (5 : Nat) (Option.some Jvm.ClassFile.FieldType.long)) :: qT
abbrev yM_noSeed : MethodName := { cls := "OutlookOddsModel", name := "noSeed", desc := "(I)Z" }
abbrev wM_noSeed : List Cond := (Jvm.Cond.code ({ cls := "OutlookOddsModel", name := "noSeed", desc := "(I)Z" } : Jvm.MethodName) prog_5_method_17_code (2 : Nat) (Option.some Jvm.ClassFile.FieldType.boolean)) :: qT
abbrev yM_noYear : MethodName := { cls := "OutlookOddsModel", name := "noYear", desc := "(I)Z" }
abbrev wM_noYear : List Cond := (Jvm.Cond.code ({ cls := "OutlookOddsModel", name := "noYear", desc := "(I)Z" } : Jvm.MethodName) prog_5_method_16_code (2 : Nat) (Option.some Jvm.ClassFile.FieldType.boolean)) :: qT
abbrev yM_below : MethodName := { cls := "OutlookOddsModel", name := "below", desc := "(II)I" }
abbrev wM_below : List Cond := (Jvm.Cond.code ({ cls := "OutlookOddsModel", name := "below", desc := "(II)I" } : Jvm.MethodName) prog_5_method_20_code (5 : Nat) (Option.some Jvm.ClassFile.FieldType.int)) :: qT
abbrev yM_part : MethodName := { cls := "OutlookOddsModel", name := "part", desc := "(JJI)J" }
abbrev wM_part : List Cond := (Jvm.Cond.code ({ cls := "OutlookOddsModel", name := "part", desc := "(JJI)J" } : Jvm.MethodName) prog_5_method_19_code (11 : Nat) (Option.some Jvm.ClassFile.FieldType.long)) :: qT
abbrev yM_steady : MethodName := { cls := "OutlookOddsModel", name := "steady", desc := "(I)J" }
abbrev wM_steady : List Cond := (Jvm.Cond.code ({ cls := "OutlookOddsModel", name := "steady", desc := "(I)J" } : Jvm.MethodName) prog_5_method_21_code (7 : Nat) (Option.some Jvm.ClassFile.FieldType.long)) :: qT
abbrev yM_recovers : MethodName := { cls := "OutlookOddsModel", name := "recovers", desc := "(II)I" }
abbrev wM_recovers : List Cond := (Jvm.Cond.code ({ cls := "OutlookOddsModel", name := "recovers", desc := "(II)I" } : Jvm.MethodName) prog_5_method_22_code (6 : Nat) (Option.some Jvm.ClassFile.FieldType.int)) :: qT
abbrev yM_rank : MethodName := { cls := "OutlookOddsModel", name := "rank", desc := "(II)J" }
abbrev wM_rank : List Cond := (Jvm.Cond.code ({ cls := "OutlookOddsModel", name := "rank", desc := "(II)J" } : Jvm.MethodName) prog_5_method_23_code (8 : Nat) (Option.some Jvm.ClassFile.FieldType.long)) :: qT
abbrev yM_mean : MethodName := { cls := "OutlookOddsModel", name := "mean", desc := "(II)J" }
abbrev wM_mean : List Cond := (Jvm.Cond.code ({ cls := "OutlookOddsModel", name := "mean", desc := "(II)J" } : Jvm.MethodName) prog_5_method_25_code (6 : Nat) (Option.some Jvm.ClassFile.FieldType.long)) :: qT
abbrev yM_allCaught : MethodName := { cls := "OutlookOddsModel", name := "allCaught", desc := "(I)J" }
abbrev wM_allCaught : List Cond := (Jvm.Cond.code ({ cls := "OutlookOddsModel", name := "allCaught", desc := "(I)J" } : Jvm.MethodName) prog_5_method_24_code (6 : Nat) (Option.some Jvm.ClassFile.FieldType.long)) :: qT
abbrev yM_table : MethodName := { cls := "OutlookOddsModel", name := "table", desc := "(I)J" }
abbrev wM_table : List Cond := (Jvm.Cond.code ({ cls := "OutlookOddsModel", name := "table", desc := "(I)J" } : Jvm.MethodName) prog_5_method_27_code (2 : Nat) (Option.some Jvm.ClassFile.FieldType.long)) :: qT
abbrev yM_tableOf : MethodName := { cls := "OutlookOddsModel", name := "tableOf", desc := "(I)J" }
abbrev wM_tableOf : List Cond := (Jvm.Cond.code ({ cls := "OutlookOddsModel", name := "tableOf", desc := "(I)J" } : Jvm.MethodName) prog_5_method_26_code (2 : Nat) (Option.some Jvm.ClassFile.FieldType.long)) :: qT
abbrev yM_top : MethodName := { cls := "OutlookOddsModel", name := "top", desc := "()I" }
abbrev wM_top : List Cond := (Jvm.Cond.code ({ cls := "OutlookOddsModel", name := "top", desc := "()I" } : Jvm.MethodName) prog_5_method_28_code (7 : Nat) (Option.some Jvm.ClassFile.FieldType.int)) :: qT
abbrev yM_count : MethodName := { cls := "OutlookOddsModel", name := "count", desc := "(I)I" }
abbrev wM_count : List Cond := (Jvm.Cond.code ({ cls := "OutlookOddsModel", name := "count", desc := "(I)I" } : Jvm.MethodName) prog_5_method_29_code (2 : Nat) (Option.some Jvm.ClassFile.FieldType.int)) :: qT
theorem mq_1_0 : (Jvm.Cond.initialized "OutlookOddsLaw") ∈ qT := qT_1 (k := 0) rfl rfl
theorem mq_1_1 : (Jvm.Cond.initialized "OutlookOdds") ∈ qT := qT_1 (k := 1) rfl rfl
theorem mq_1_2 : (Jvm.Cond.initialized "OutlookOdds$Stock") ∈ qT := qT_1 (k := 2) rfl rfl
theorem mq_1_3 : (Jvm.Cond.initialized "OutlookOdds$Story") ∈ qT := qT_1 (k := 3) rfl rfl
theorem mq_1_4 : (Jvm.Cond.initialized "OutlookOddsModel") ∈ qT := qT_1 (k := 4) rfl rfl
theorem mq_1_5 : (Jvm.Cond.initialized "java/lang/Throwable") ∈ qT := qT_1 (k := 5) rfl rfl
theorem mq_1_6 : (Jvm.Cond.initialized "java/lang/Exception") ∈ qT := qT_1 (k := 6) rfl rfl
theorem mq_1_7 : (Jvm.Cond.initialized "java/lang/RuntimeException") ∈ qT := qT_1 (k := 7) rfl rfl
theorem mq_1_8 : (Jvm.Cond.initialized "java/lang/IndexOutOfBoundsException") ∈ qT := qT_1 (k := 8) rfl rfl
theorem mq_1_9 : (Jvm.Cond.initialized "java/lang/IllegalArgumentException") ∈ qT := qT_1 (k := 9) rfl rfl
theorem mq_1_10 : (Jvm.Cond.initialized "java/lang/IllegalStateException") ∈ qT := qT_1 (k := 10) rfl rfl
theorem mq_1_11 : (Jvm.Cond.initialized "java/lang/Math") ∈ qT := qT_1 (k := 11) rfl rfl
theorem mq_1_12 : (Jvm.Cond.classLink "OutlookOddsLaw" (8 : Nat) "OutlookOdds") ∈ qT := qT_1 (k := 12) rfl rfl
theorem mq_1_13 : (Jvm.Cond.instantiable "OutlookOdds" (17 : Nat)) ∈ qT := qT_1 (k := 13) rfl rfl
theorem mq_1_14 : (Jvm.Cond.methodLink "OutlookOddsLaw" (69 : Nat) ({ cls := "OutlookOdds", name := "<init>", desc := "()V" } : Jvm.MethodName)) ∈ qT := qT_1 (k := 14) rfl rfl
theorem mq_1_15 : (Jvm.Cond.instanceMethod ({ cls := "OutlookOdds", name := "<init>", desc := "()V" } : Jvm.MethodName)) ∈ qT := qT_1 (k := 15) rfl rfl
theorem mq_1_16 : (Jvm.Cond.code ({ cls := "OutlookOdds", name := "<init>", desc := "()V" } : Jvm.MethodName) prog_1_method_1_code (1 : Nat) (Option.none : Option Jvm.ClassFile.FieldType)) ∈ qT := qT_1 (k := 16) rfl rfl
theorem mq_1_17 : (Jvm.Cond.methodLink "OutlookOdds" (1 : Nat) ({ cls := "java/lang/Object", name := "<init>", desc := "()V" } : Jvm.MethodName)) ∈ qT := qT_1 (k := 17) rfl rfl
theorem mq_1_18 : (Jvm.Cond.instanceMethod ({ cls := "java/lang/Object", name := "<init>", desc := "()V" } : Jvm.MethodName)) ∈ qT := qT_1 (k := 18) rfl rfl
theorem mq_1_19 : (Jvm.Cond.code ({ cls := "java/lang/Object", name := "<init>", desc := "()V" } : Jvm.MethodName) object_method_1_code (1 : Nat) (Option.none : Option Jvm.ClassFile.FieldType)) ∈ qT := qT_1 (k := 19) rfl rfl
theorem mq_1_20 : (Jvm.Cond.classLink "OutlookOdds" (7 : Nat) "OutlookOdds$Stock") ∈ qT := qT_1 (k := 20) rfl rfl
theorem mq_1_21 : (Jvm.Cond.instantiable "OutlookOdds$Stock" (5 : Nat)) ∈ qT := qT_1 (k := 21) rfl rfl
theorem mq_1_23 : (Jvm.Cond.instanceMethod ({ cls := "OutlookOdds$Stock", name := "<init>", desc := "()V" } : Jvm.MethodName)) ∈ qT := qT_1 (k := 23) rfl rfl
theorem mq_1_24 : (Jvm.Cond.code ({ cls := "OutlookOdds$Stock", name := "<init>", desc := "()V" } : Jvm.MethodName) prog_2_method_1_code (1 : Nat) (Option.none : Option Jvm.ClassFile.FieldType)) ∈ qT := qT_1 (k := 24) rfl rfl
theorem mq_1_25 : (Jvm.Cond.methodLink "OutlookOdds$Stock" (3 : Nat) ({ cls := "java/lang/Object", name := "<init>", desc := "()V" } : Jvm.MethodName)) ∈ qT := qT_1 (k := 25) rfl rfl
theorem mq_1_26 : (Jvm.Cond.fieldLink "OutlookOdds$Stock" (9 : Nat) "OutlookOdds$Stock" "numbers" "[I") ∈ qT := qT_1 (k := 26) rfl rfl
theorem mq_1_27 : (Jvm.Cond.fieldLink "OutlookOdds$Stock" (15 : Nat) "OutlookOdds$Stock" "weights" "[I") ∈ qT := qT_1 (k := 27) rfl rfl
theorem mq_1_28 : (Jvm.Cond.fieldLink "OutlookOdds$Stock" (18 : Nat) "OutlookOdds$Stock" "ripes" "[I") ∈ qT := qT_1 (k := 28) rfl rfl
theorem mq_1_29 : (Jvm.Cond.fieldLink "OutlookOdds$Stock" (21 : Nat) "OutlookOdds$Stock" "dies" "[I") ∈ qT := qT_1 (k := 29) rfl rfl
theorem mq_1_30 : (Jvm.Cond.fieldLink "OutlookOdds$Stock" (24 : Nat) "OutlookOdds$Stock" "living" "[J") ∈ qT := qT_1 (k := 30) rfl rfl
theorem mq_1_31 : (Jvm.Cond.laysFinal "OutlookOdds$Stock" "OutlookOdds$Stock" "numbers" "[I") ∈ qT := qT_1 (k := 31) rfl rfl
theorem mq_1_32 : (Jvm.Cond.soleField "OutlookOdds$Stock" "numbers") ∈ qT := qT_1 (k := 32) rfl rfl
theorem mq_1_33 : (Jvm.Cond.laysFinal "OutlookOdds$Stock" "OutlookOdds$Stock" "weights" "[I") ∈ qT := qT_1 (k := 33) rfl rfl
theorem mq_1_34 : (Jvm.Cond.soleField "OutlookOdds$Stock" "weights") ∈ qT := qT_1 (k := 34) rfl rfl
theorem mq_1_35 : (Jvm.Cond.laysFinal "OutlookOdds$Stock" "OutlookOdds$Stock" "ripes" "[I") ∈ qT := qT_1 (k := 35) rfl rfl
theorem mq_1_36 : (Jvm.Cond.soleField "OutlookOdds$Stock" "ripes") ∈ qT := qT_1 (k := 36) rfl rfl
theorem mq_1_37 : (Jvm.Cond.laysFinal "OutlookOdds$Stock" "OutlookOdds$Stock" "dies" "[I") ∈ qT := qT_1 (k := 37) rfl rfl
theorem mq_1_38 : (Jvm.Cond.soleField "OutlookOdds$Stock" "dies") ∈ qT := qT_1 (k := 38) rfl rfl
theorem mq_1_39 : (Jvm.Cond.laysFinal "OutlookOdds$Stock" "OutlookOdds$Stock" "living" "[J") ∈ qT := qT_1 (k := 39) rfl rfl
theorem mq_1_40 : (Jvm.Cond.soleField "OutlookOdds$Stock" "living") ∈ qT := qT_1 (k := 40) rfl rfl
theorem mq_1_42 : (Jvm.Cond.arrayClass Jvm.ClassFile.FieldType.int) ∈ qT := qT_1 (k := 42) rfl rfl
theorem mq_1_43 : (Jvm.Cond.arrayClass Jvm.ClassFile.FieldType.long) ∈ qT := qT_1 (k := 43) rfl rfl
theorem mq_1_44 : (Jvm.Cond.classLink "OutlookOdds" (30 : Nat) "OutlookOdds$Story") ∈ qT := qT_1 (k := 44) rfl rfl
theorem mq_1_45 : (Jvm.Cond.instantiable "OutlookOdds$Story" (1 : Nat)) ∈ qT := qT_1 (k := 45) rfl rfl
theorem mq_1_47 : (Jvm.Cond.instanceMethod ({ cls := "OutlookOdds$Story", name := "<init>", desc := "()V" } : Jvm.MethodName)) ∈ qT := qT_1 (k := 47) rfl rfl
theorem mq_1_48 : (Jvm.Cond.code ({ cls := "OutlookOdds$Story", name := "<init>", desc := "()V" } : Jvm.MethodName) prog_3_method_1_code (1 : Nat) (Option.none : Option Jvm.ClassFile.FieldType)) ∈ qT := qT_1 (k := 48) rfl rfl
theorem mq_1_49 : (Jvm.Cond.methodLink "OutlookOdds$Story" (3 : Nat) ({ cls := "java/lang/Object", name := "<init>", desc := "()V" } : Jvm.MethodName)) ∈ qT := qT_1 (k := 49) rfl rfl
theorem mq_1_50 : (Jvm.Cond.classLink "OutlookOdds$Story" (9 : Nat) "[[J") ∈ qT := qT_1 (k := 50) rfl rfl
theorem mq_1_52 : (Jvm.Cond.fieldLink "OutlookOdds$Story" (11 : Nat) "OutlookOdds$Story" "rows" "[[J") ∈ qT := qT_1 (k := 52) rfl rfl
theorem mq_1_53 : (Jvm.Cond.laysFinal "OutlookOdds$Story" "OutlookOdds$Story" "rows" "[[J") ∈ qT := qT_1 (k := 53) rfl rfl
theorem mq_1_54 : (Jvm.Cond.soleField "OutlookOdds$Story" "rows") ∈ qT := qT_1 (k := 54) rfl rfl
theorem mq_1_56 : (Jvm.Cond.fieldLink "OutlookOdds" (10 : Nat) "OutlookOdds" "stock" "LOutlookOdds$Stock;") ∈ qT := qT_1 (k := 56) rfl rfl
theorem mq_1_57 : (Jvm.Cond.fieldLink "OutlookOdds" (16 : Nat) "OutlookOdds" "lows" "[I") ∈ qT := qT_1 (k := 57) rfl rfl
theorem mq_1_58 : (Jvm.Cond.fieldLink "OutlookOdds" (20 : Nat) "OutlookOdds" "highs" "[I") ∈ qT := qT_1 (k := 58) rfl rfl
theorem mq_1_59 : (Jvm.Cond.fieldLink "OutlookOdds" (23 : Nat) "OutlookOdds" "rates" "[I") ∈ qT := qT_1 (k := 59) rfl rfl
theorem mq_1_60 : (Jvm.Cond.fieldLink "OutlookOdds" (60 : Nat) "OutlookOdds" "rules" "I") ∈ qT := qT_1 (k := 60) rfl rfl
theorem mq_1_61 : (Jvm.Cond.fieldLink "OutlookOdds" (56 : Nat) "OutlookOdds" "youngFish" "I") ∈ qT := qT_1 (k := 61) rfl rfl
theorem mq_1_62 : (Jvm.Cond.fieldLink "OutlookOdds" (26 : Nat) "OutlookOdds" "mostChange" "I") ∈ qT := qT_1 (k := 62) rfl rfl
theorem mq_1_63 : (Jvm.Cond.fieldLink "OutlookOdds" (70 : Nat) "OutlookOdds" "errorSpread" "I") ∈ qT := qT_1 (k := 63) rfl rfl
theorem mq_1_64 : (Jvm.Cond.fieldLink "OutlookOdds" (73 : Nat) "OutlookOdds" "seeingDelay" "I") ∈ qT := qT_1 (k := 64) rfl rfl
theorem mq_1_65 : (Jvm.Cond.fieldLink "OutlookOdds" (77 : Nat) "OutlookOdds" "massMark" "I") ∈ qT := qT_1 (k := 65) rfl rfl
theorem mq_1_66 : (Jvm.Cond.fieldLink "OutlookOdds" (33 : Nat) "OutlookOdds" "story" "LOutlookOdds$Story;") ∈ qT := qT_1 (k := 66) rfl rfl
theorem mq_1_67 : (Jvm.Cond.fieldLink "OutlookOdds" (37 : Nat) "OutlookOdds" "trial" "LOutlookOdds$Story;") ∈ qT := qT_1 (k := 67) rfl rfl
theorem mq_1_68 : (Jvm.Cond.fieldLink "OutlookOdds" (40 : Nat) "OutlookOdds" "ordered" "[J") ∈ qT := qT_1 (k := 68) rfl rfl
theorem mq_1_69 : (Jvm.Cond.fieldLink "OutlookOdds" (81 : Nat) "OutlookOdds" "ranRule" "I") ∈ qT := qT_1 (k := 69) rfl rfl
theorem mq_1_70 : (Jvm.Cond.fieldLink "OutlookOdds" (84 : Nat) "OutlookOdds" "years" "I") ∈ qT := qT_1 (k := 70) rfl rfl
theorem mq_1_71 : (Jvm.Cond.fieldLink "OutlookOdds" (87 : Nat) "OutlookOdds" "seeds" "I") ∈ qT := qT_1 (k := 71) rfl rfl
theorem mq_1_72 : (Jvm.Cond.fieldLink "OutlookOdds" (90 : Nat) "OutlookOdds" "runs" "I") ∈ qT := qT_1 (k := 72) rfl rfl
theorem mq_1_73 : (Jvm.Cond.laysFinal "OutlookOdds" "OutlookOdds" "stock" "LOutlookOdds$Stock;") ∈ qT := qT_1 (k := 73) rfl rfl
theorem mq_1_74 : (Jvm.Cond.soleField "OutlookOdds" "stock") ∈ qT := qT_1 (k := 74) rfl rfl
theorem mq_1_75 : (Jvm.Cond.laysFinal "OutlookOdds" "OutlookOdds" "lows" "[I") ∈ qT := qT_1 (k := 75) rfl rfl
theorem mq_1_76 : (Jvm.Cond.soleField "OutlookOdds" "lows") ∈ qT := qT_1 (k := 76) rfl rfl
theorem mq_1_77 : (Jvm.Cond.laysFinal "OutlookOdds" "OutlookOdds" "highs" "[I") ∈ qT := qT_1 (k := 77) rfl rfl
theorem mq_1_78 : (Jvm.Cond.soleField "OutlookOdds" "highs") ∈ qT := qT_1 (k := 78) rfl rfl
theorem mq_1_79 : (Jvm.Cond.laysFinal "OutlookOdds" "OutlookOdds" "rates" "[I") ∈ qT := qT_1 (k := 79) rfl rfl
theorem mq_1_80 : (Jvm.Cond.soleField "OutlookOdds" "rates") ∈ qT := qT_1 (k := 80) rfl rfl
theorem mq_1_81 : (Jvm.Cond.lays "OutlookOdds" "OutlookOdds" "rules" "I") ∈ qT := qT_1 (k := 81) rfl rfl
theorem mq_1_82 : (Jvm.Cond.soleField "OutlookOdds" "rules") ∈ qT := qT_1 (k := 82) rfl rfl
theorem mq_1_83 : (Jvm.Cond.lays "OutlookOdds" "OutlookOdds" "youngFish" "I") ∈ qT := qT_1 (k := 83) rfl rfl
theorem mq_1_84 : (Jvm.Cond.soleField "OutlookOdds" "youngFish") ∈ qT := qT_1 (k := 84) rfl rfl
theorem mq_1_85 : (Jvm.Cond.lays "OutlookOdds" "OutlookOdds" "mostChange" "I") ∈ qT := qT_1 (k := 85) rfl rfl
theorem mq_1_86 : (Jvm.Cond.soleField "OutlookOdds" "mostChange") ∈ qT := qT_1 (k := 86) rfl rfl
theorem mq_1_87 : (Jvm.Cond.lays "OutlookOdds" "OutlookOdds" "errorSpread" "I") ∈ qT := qT_1 (k := 87) rfl rfl
theorem mq_1_88 : (Jvm.Cond.soleField "OutlookOdds" "errorSpread") ∈ qT := qT_1 (k := 88) rfl rfl
theorem mq_1_89 : (Jvm.Cond.lays "OutlookOdds" "OutlookOdds" "seeingDelay" "I") ∈ qT := qT_1 (k := 89) rfl rfl
theorem mq_1_90 : (Jvm.Cond.soleField "OutlookOdds" "seeingDelay") ∈ qT := qT_1 (k := 90) rfl rfl
theorem mq_1_91 : (Jvm.Cond.lays "OutlookOdds" "OutlookOdds" "massMark" "I") ∈ qT := qT_1 (k := 91) rfl rfl
theorem mq_1_92 : (Jvm.Cond.soleField "OutlookOdds" "massMark") ∈ qT := qT_1 (k := 92) rfl rfl
theorem mq_1_93 : (Jvm.Cond.laysFinal "OutlookOdds" "OutlookOdds" "story" "LOutlookOdds$Story;") ∈ qT := qT_1 (k := 93) rfl rfl
theorem mq_1_94 : (Jvm.Cond.soleField "OutlookOdds" "story") ∈ qT := qT_1 (k := 94) rfl rfl
theorem mq_1_95 : (Jvm.Cond.laysFinal "OutlookOdds" "OutlookOdds" "trial" "LOutlookOdds$Story;") ∈ qT := qT_1 (k := 95) rfl rfl
theorem mq_1_96 : (Jvm.Cond.soleField "OutlookOdds" "trial") ∈ qT := qT_1 (k := 96) rfl rfl
theorem mq_1_97 : (Jvm.Cond.laysFinal "OutlookOdds" "OutlookOdds" "ordered" "[J") ∈ qT := qT_1 (k := 97) rfl rfl
theorem mq_1_98 : (Jvm.Cond.soleField "OutlookOdds" "ordered") ∈ qT := qT_1 (k := 98) rfl rfl
theorem mq_1_99 : (Jvm.Cond.lays "OutlookOdds" "OutlookOdds" "ranRule" "I") ∈ qT := qT_1 (k := 99) rfl rfl
theorem mq_1_100 : (Jvm.Cond.soleField "OutlookOdds" "ranRule") ∈ qT := qT_1 (k := 100) rfl rfl
theorem mq_1_101 : (Jvm.Cond.lays "OutlookOdds" "OutlookOdds" "years" "I") ∈ qT := qT_1 (k := 101) rfl rfl
theorem mq_1_102 : (Jvm.Cond.soleField "OutlookOdds" "years") ∈ qT := qT_1 (k := 102) rfl rfl
theorem mq_1_103 : (Jvm.Cond.lays "OutlookOdds" "OutlookOdds" "seeds" "I") ∈ qT := qT_1 (k := 103) rfl rfl
theorem mq_1_104 : (Jvm.Cond.soleField "OutlookOdds" "seeds") ∈ qT := qT_1 (k := 104) rfl rfl
theorem mq_1_105 : (Jvm.Cond.lays "OutlookOdds" "OutlookOdds" "runs" "I") ∈ qT := qT_1 (k := 105) rfl rfl
theorem mq_1_106 : (Jvm.Cond.soleField "OutlookOdds" "runs") ∈ qT := qT_1 (k := 106) rfl rfl
theorem mq_1_108 : (Jvm.Cond.methodLink "OutlookOddsLaw" (100 : Nat) ({ cls := "OutlookOdds", name := "draw", desc := "(III)I" } : Jvm.MethodName)) ∈ qT := qT_1 (k := 108) rfl rfl
theorem mq_1_109 : (Jvm.Cond.instanceMethod ({ cls := "OutlookOdds", name := "draw", desc := "(III)I" } : Jvm.MethodName)) ∈ qT := qT_1 (k := 109) rfl rfl
theorem mq_1_110 : (Jvm.Cond.selects "OutlookOdds" ({ cls := "OutlookOdds", name := "draw", desc := "(III)I" } : Jvm.MethodName) ({ cls := "OutlookOdds", name := "draw", desc := "(III)I" } : Jvm.MethodName)) ∈ qT := qT_1 (k := 110) rfl rfl
theorem mq_1_111 : (Jvm.Cond.code ({ cls := "OutlookOdds", name := "draw", desc := "(III)I" } : Jvm.MethodName) prog_1_method_8_code (5 : Nat) (Option.some Jvm.ClassFile.FieldType.int)) ∈ qT := qT_1 (k := 111) rfl rfl
theorem mq_1_112 : (Jvm.Cond.constant "OutlookOdds" (80 : Nat) (1103515245 : Int32)) ∈ qT := qT_1 (k := 112) rfl rfl
theorem mq_1_113 : (Jvm.Cond.methodLink "OutlookOddsLaw" (133 : Nat) ({ cls := "OutlookOdds", name := "count", desc := "(I)I" } : Jvm.MethodName)) ∈ qT := qT_1 (k := 113) rfl rfl
theorem mq_1_114 : (Jvm.Cond.instanceMethod ({ cls := "OutlookOdds", name := "count", desc := "(I)I" } : Jvm.MethodName)) ∈ qT := qT_1 (k := 114) rfl rfl
theorem mq_1_115 : (Jvm.Cond.selects "OutlookOdds" ({ cls := "OutlookOdds", name := "count", desc := "(I)I" } : Jvm.MethodName) ({ cls := "OutlookOdds", name := "count", desc := "(I)I" } : Jvm.MethodName)) ∈ qT := qT_1 (k := 115) rfl rfl
theorem mq_1_116 : (Jvm.Cond.code ({ cls := "OutlookOdds", name := "count", desc := "(I)I" } : Jvm.MethodName) prog_1_method_18_code (2 : Nat) (Option.some Jvm.ClassFile.FieldType.int)) ∈ qT := qT_1 (k := 116) rfl rfl
theorem mq_1_117 : (Jvm.Cond.methodLink "OutlookOddsLaw" (73 : Nat) ({ cls := "OutlookOddsLaw", name := "age", desc := "(LOutlookOdds;IIIII)I" } : Jvm.MethodName)) ∈ qT := qT_1 (k := 117) rfl rfl
theorem mq_1_118 : (Jvm.Cond.static ({ cls := "OutlookOddsLaw", name := "age", desc := "(LOutlookOdds;IIIII)I" } : Jvm.MethodName)) ∈ qT := qT_1 (k := 118) rfl rfl
theorem mq_1_119 : (Jvm.Cond.codeWith ({ cls := "OutlookOddsLaw", name := "age", desc := "(LOutlookOdds;IIIII)I" } : Jvm.MethodName) method_3_code (7 : Nat) (Option.some Jvm.ClassFile.FieldType.int) [((0 : Nat), (11 : Nat), (14 : Nat), (13 : Nat)), ((0 : Nat), (11 : Nat), (18 : Nat), (15 : Nat))]) ∈ qT := qT_1 (k := 119) rfl rfl
theorem mq_1_120 : (Jvm.Cond.classLink "OutlookOddsLaw" (13 : Nat) "java/lang/IndexOutOfBoundsException") ∈ qT := qT_1 (k := 120) rfl rfl
theorem mq_1_121 : (Jvm.Cond.classLink "OutlookOddsLaw" (15 : Nat) "java/lang/IllegalArgumentException") ∈ qT := qT_1 (k := 121) rfl rfl
theorem mq_1_122 : (Jvm.Cond.methodLink "OutlookOddsLaw" (7 : Nat) ({ cls := "OutlookOdds", name := "age", desc := "(IIIII)V" } : Jvm.MethodName)) ∈ qT := qT_1 (k := 122) rfl rfl
theorem mq_1_123 : (Jvm.Cond.instanceMethod ({ cls := "OutlookOdds", name := "age", desc := "(IIIII)V" } : Jvm.MethodName)) ∈ qT := qT_1 (k := 123) rfl rfl
theorem mq_1_124 : (Jvm.Cond.selects "OutlookOdds" ({ cls := "OutlookOdds", name := "age", desc := "(IIIII)V" } : Jvm.MethodName) ({ cls := "OutlookOdds", name := "age", desc := "(IIIII)V" } : Jvm.MethodName)) ∈ qT := qT_1 (k := 124) rfl rfl
theorem mq_1_125 : (Jvm.Cond.code ({ cls := "OutlookOdds", name := "age", desc := "(IIIII)V" } : Jvm.MethodName) prog_1_method_2_code (6 : Nat) (Option.none : Option Jvm.ClassFile.FieldType)) ∈ qT := qT_1 (k := 125) rfl rfl
theorem mq_1_126 : (Jvm.Cond.methodLink "OutlookOdds" (44 : Nat) ({ cls := "OutlookOdds", name := "requirePlace", desc := "(III)V" } : Jvm.MethodName)) ∈ qT := qT_1 (k := 126) rfl rfl
theorem mq_1_127 : (Jvm.Cond.static ({ cls := "OutlookOdds", name := "requirePlace", desc := "(III)V" } : Jvm.MethodName)) ∈ qT := qT_1 (k := 127) rfl rfl
theorem mq_1_128 : (Jvm.Cond.code ({ cls := "OutlookOdds", name := "requirePlace", desc := "(III)V" } : Jvm.MethodName) prog_1_method_34_code (3 : Nat) (Option.none : Option Jvm.ClassFile.FieldType)) ∈ qT := qT_1 (k := 128) rfl rfl
theorem mq_1_129 : (Jvm.Cond.classLink "OutlookOdds" (204 : Nat) "java/lang/IndexOutOfBoundsException") ∈ qT := qT_1 (k := 129) rfl rfl
theorem mq_1_130 : (Jvm.Cond.instantiable "java/lang/IndexOutOfBoundsException" (6 : Nat)) ∈ qT := qT_1 (k := 130) rfl rfl
theorem mq_1_138 : (Jvm.Cond.selects "java/lang/IndexOutOfBoundsException" ({ cls := "java/lang/Throwable", name := "fillInStackTrace", desc := "(I)Ljava/lang/Throwable;" } : Jvm.MethodName) ({ cls := "java/lang/Throwable", name := "fillInStackTrace", desc := "(I)Ljava/lang/Throwable;" } : Jvm.MethodName)) ∈ qT := qT_1 (k := 138) rfl rfl
theorem mq_1_139 : (Jvm.Cond.selects "java/lang/IndexOutOfBoundsException" ({ cls := "java/lang/Throwable", name := "fillInStackTrace", desc := "()Ljava/lang/Throwable;" } : Jvm.MethodName) ({ cls := "java/lang/Throwable", name := "fillInStackTrace", desc := "()Ljava/lang/Throwable;" } : Jvm.MethodName)) ∈ qT := qT_1 (k := 139) rfl rfl
theorem mq_1_140 : (Jvm.Cond.lays "java/lang/IndexOutOfBoundsException" "java/lang/Throwable" "cause" "Ljava/lang/Throwable;") ∈ qT := qT_1 (k := 140) rfl rfl
theorem mq_1_141 : (Jvm.Cond.lays "java/lang/Throwable" "java/lang/Throwable" "cause" "Ljava/lang/Throwable;") ∈ qT := qT_1 (k := 141) rfl rfl
theorem mq_1_142 : (Jvm.Cond.lays "java/lang/IndexOutOfBoundsException" "java/lang/Throwable" "stackTrace" "[Ljava/lang/StackTraceElement;") ∈ qT := qT_1 (k := 142) rfl rfl
theorem mq_1_143 : (Jvm.Cond.lays "java/lang/Throwable" "java/lang/Throwable" "stackTrace" "[Ljava/lang/StackTraceElement;") ∈ qT := qT_1 (k := 143) rfl rfl
theorem mq_1_144 : (Jvm.Cond.lays "java/lang/IndexOutOfBoundsException" "java/lang/Throwable" "suppressedExceptions" "Ljava/util/List;") ∈ qT := qT_1 (k := 144) rfl rfl
theorem mq_1_145 : (Jvm.Cond.lays "java/lang/Throwable" "java/lang/Throwable" "suppressedExceptions" "Ljava/util/List;") ∈ qT := qT_1 (k := 145) rfl rfl
theorem mq_1_146 : (Jvm.Cond.lays "java/lang/IndexOutOfBoundsException" "java/lang/Throwable" "detailMessage" "Ljava/lang/String;") ∈ qT := qT_1 (k := 146) rfl rfl
theorem mq_1_147 : (Jvm.Cond.lays "java/lang/Throwable" "java/lang/Throwable" "detailMessage" "Ljava/lang/String;") ∈ qT := qT_1 (k := 147) rfl rfl
theorem mq_1_148 : (Jvm.Cond.lays "java/lang/IndexOutOfBoundsException" "java/lang/Throwable" "backtrace" "Ljava/lang/Object;") ∈ qT := qT_1 (k := 148) rfl rfl
theorem mq_1_149 : (Jvm.Cond.lays "java/lang/Throwable" "java/lang/Throwable" "backtrace" "Ljava/lang/Object;") ∈ qT := qT_1 (k := 149) rfl rfl
theorem mq_1_150 : (Jvm.Cond.fieldLink "java/lang/Throwable" (198 : Nat) "java/lang/Throwable" "backtrace" "Ljava/lang/Object;") ∈ qT := qT_1 (k := 150) rfl rfl
theorem mq_1_152 : (Jvm.Cond.instanceMethod ({ cls := "java/lang/Throwable", name := "<init>", desc := "()V" } : Jvm.MethodName)) ∈ qT := qT_1 (k := 152) rfl rfl
theorem mq_1_153 : (Jvm.Cond.code ({ cls := "java/lang/Throwable", name := "<init>", desc := "()V" } : Jvm.MethodName) prog_13_method_1_code (1 : Nat) (Option.none : Option Jvm.ClassFile.FieldType)) ∈ qT := qT_1 (k := 153) rfl rfl
theorem mq_1_154 : (Jvm.Cond.methodLink "java/lang/Throwable" (1 : Nat) ({ cls := "java/lang/Object", name := "<init>", desc := "()V" } : Jvm.MethodName)) ∈ qT := qT_1 (k := 154) rfl rfl
theorem mq_1_155 : (Jvm.Cond.fieldLink "java/lang/Throwable" (13 : Nat) "java/lang/Throwable" "UNASSIGNED_STACK" "[Ljava/lang/StackTraceElement;") ∈ qT := qT_1 (k := 155) rfl rfl
theorem mq_1_157 : (Jvm.Cond.fieldLink "java/lang/Throwable" (20 : Nat) "java/lang/Throwable" "SUPPRESSED_SENTINEL" "Ljava/util/List;") ∈ qT := qT_1 (k := 157) rfl rfl
theorem mq_1_159 : (Jvm.Cond.methodLink "java/lang/Throwable" (27 : Nat) ({ cls := "java/lang/Throwable", name := "fillInStackTrace", desc := "()Ljava/lang/Throwable;" } : Jvm.MethodName)) ∈ qT := qT_1 (k := 159) rfl rfl
theorem mq_1_160 : (Jvm.Cond.instanceMethod ({ cls := "java/lang/Throwable", name := "fillInStackTrace", desc := "()Ljava/lang/Throwable;" } : Jvm.MethodName)) ∈ qT := qT_1 (k := 160) rfl rfl
theorem mq_1_162 : (Jvm.Cond.selects "java/lang/IllegalArgumentException" ({ cls := "java/lang/Throwable", name := "fillInStackTrace", desc := "()Ljava/lang/Throwable;" } : Jvm.MethodName) ({ cls := "java/lang/Throwable", name := "fillInStackTrace", desc := "()Ljava/lang/Throwable;" } : Jvm.MethodName)) ∈ qT := qT_1 (k := 162) rfl rfl
theorem mq_1_163 : (Jvm.Cond.selects "java/lang/IllegalStateException" ({ cls := "java/lang/Throwable", name := "fillInStackTrace", desc := "()Ljava/lang/Throwable;" } : Jvm.MethodName) ({ cls := "java/lang/Throwable", name := "fillInStackTrace", desc := "()Ljava/lang/Throwable;" } : Jvm.MethodName)) ∈ qT := qT_1 (k := 163) rfl rfl
theorem mq_1_165 : (Jvm.Cond.methodLink "java/lang/Throwable" (202 : Nat) ({ cls := "java/lang/Throwable", name := "fillInStackTrace", desc := "(I)Ljava/lang/Throwable;" } : Jvm.MethodName)) ∈ qT := qT_1 (k := 165) rfl rfl
theorem mq_1_167 : (Jvm.Cond.instanceMethod ({ cls := "java/lang/Throwable", name := "fillInStackTrace", desc := "(I)Ljava/lang/Throwable;" } : Jvm.MethodName)) ∈ qT := qT_1 (k := 167) rfl rfl
theorem mq_1_168 : (Jvm.Cond.instantiable "java/lang/Throwable" (6 : Nat)) ∈ qT := qT_1 (k := 168) rfl rfl
theorem mq_1_171 : (Jvm.Cond.methodLink "OutlookOdds" (208 : Nat) ({ cls := "java/lang/IndexOutOfBoundsException", name := "<init>", desc := "(Ljava/lang/String;)V" } : Jvm.MethodName)) ∈ qT := qT_1 (k := 171) rfl rfl
theorem mq_1_172 : (Jvm.Cond.instanceMethod ({ cls := "java/lang/IndexOutOfBoundsException", name := "<init>", desc := "(Ljava/lang/String;)V" } : Jvm.MethodName)) ∈ qT := qT_1 (k := 172) rfl rfl
theorem mq_1_173 : (Jvm.Cond.code ({ cls := "java/lang/IndexOutOfBoundsException", name := "<init>", desc := "(Ljava/lang/String;)V" } : Jvm.MethodName) prog_9_method_2_code (2 : Nat) (Option.none : Option Jvm.ClassFile.FieldType)) ∈ qT := qT_1 (k := 173) rfl rfl
theorem mq_1_174 : (Jvm.Cond.methodLink "java/lang/IndexOutOfBoundsException" (7 : Nat) ({ cls := "java/lang/RuntimeException", name := "<init>", desc := "(Ljava/lang/String;)V" } : Jvm.MethodName)) ∈ qT := qT_1 (k := 174) rfl rfl
theorem mq_1_175 : (Jvm.Cond.instanceMethod ({ cls := "java/lang/RuntimeException", name := "<init>", desc := "(Ljava/lang/String;)V" } : Jvm.MethodName)) ∈ qT := qT_1 (k := 175) rfl rfl
theorem mq_1_176 : (Jvm.Cond.code ({ cls := "java/lang/RuntimeException", name := "<init>", desc := "(Ljava/lang/String;)V" } : Jvm.MethodName) prog_11_method_2_code (2 : Nat) (Option.none : Option Jvm.ClassFile.FieldType)) ∈ qT := qT_1 (k := 176) rfl rfl
theorem mq_1_177 : (Jvm.Cond.methodLink "java/lang/RuntimeException" (7 : Nat) ({ cls := "java/lang/Exception", name := "<init>", desc := "(Ljava/lang/String;)V" } : Jvm.MethodName)) ∈ qT := qT_1 (k := 177) rfl rfl
theorem mq_1_178 : (Jvm.Cond.instanceMethod ({ cls := "java/lang/Exception", name := "<init>", desc := "(Ljava/lang/String;)V" } : Jvm.MethodName)) ∈ qT := qT_1 (k := 178) rfl rfl
theorem mq_1_179 : (Jvm.Cond.code ({ cls := "java/lang/Exception", name := "<init>", desc := "(Ljava/lang/String;)V" } : Jvm.MethodName) prog_6_method_2_code (2 : Nat) (Option.none : Option Jvm.ClassFile.FieldType)) ∈ qT := qT_1 (k := 179) rfl rfl
theorem mq_1_180 : (Jvm.Cond.methodLink "java/lang/Exception" (7 : Nat) ({ cls := "java/lang/Throwable", name := "<init>", desc := "(Ljava/lang/String;)V" } : Jvm.MethodName)) ∈ qT := qT_1 (k := 180) rfl rfl
theorem mq_1_181 : (Jvm.Cond.instanceMethod ({ cls := "java/lang/Throwable", name := "<init>", desc := "(Ljava/lang/String;)V" } : Jvm.MethodName)) ∈ qT := qT_1 (k := 181) rfl rfl
theorem mq_1_182 : (Jvm.Cond.code ({ cls := "java/lang/Throwable", name := "<init>", desc := "(Ljava/lang/String;)V" } : Jvm.MethodName) prog_13_method_2_code (2 : Nat) (Option.none : Option Jvm.ClassFile.FieldType)) ∈ qT := qT_1 (k := 182) rfl rfl
theorem mq_1_183 : (Jvm.Cond.fieldLink "java/lang/Throwable" (198 : Nat) "java/lang/Throwable" "backtrace" "Ljava/lang/Object;") ∈ qT := qT_1 (k := 183) rfl rfl
theorem mq_1_184 : (Jvm.Cond.fieldLink "java/lang/Throwable" (31 : Nat) "java/lang/Throwable" "detailMessage" "Ljava/lang/String;") ∈ qT := qT_1 (k := 184) rfl rfl
theorem mq_1_185 : (Jvm.Cond.fieldLink "java/lang/Throwable" (7 : Nat) "java/lang/Throwable" "cause" "Ljava/lang/Throwable;") ∈ qT := qT_1 (k := 185) rfl rfl
theorem mq_1_186 : (Jvm.Cond.fieldLink "java/lang/Throwable" (17 : Nat) "java/lang/Throwable" "stackTrace" "[Ljava/lang/StackTraceElement;") ∈ qT := qT_1 (k := 186) rfl rfl
theorem mq_1_187 : (Jvm.Cond.fieldLink "java/lang/Throwable" (24 : Nat) "java/lang/Throwable" "suppressedExceptions" "Ljava/util/List;") ∈ qT := qT_1 (k := 187) rfl rfl
theorem mq_1_188 : (Jvm.Cond.soleField "java/lang/Throwable" "backtrace") ∈ qT := qT_1 (k := 188) rfl rfl
theorem mq_1_189 : (Jvm.Cond.soleField "java/lang/Throwable" "detailMessage") ∈ qT := qT_1 (k := 189) rfl rfl
theorem mq_1_190 : (Jvm.Cond.soleField "java/lang/Throwable" "cause") ∈ qT := qT_1 (k := 190) rfl rfl
theorem mq_1_191 : (Jvm.Cond.soleField "java/lang/Throwable" "stackTrace") ∈ qT := qT_1 (k := 191) rfl rfl
theorem mq_1_192 : (Jvm.Cond.lays "java/lang/IndexOutOfBoundsException" "java/lang/Throwable" "depth" "I") ∈ qT := qT_1 (k := 192) rfl rfl
theorem mq_1_193 : (Jvm.Cond.soleField "java/lang/Throwable" "depth") ∈ qT := qT_1 (k := 193) rfl rfl
theorem mq_1_194 : (Jvm.Cond.soleField "java/lang/Throwable" "suppressedExceptions") ∈ qT := qT_1 (k := 194) rfl rfl
theorem mq_1_196 : (Jvm.Cond.arrayClass Jvm.ClassFile.FieldType.byte) ∈ qT := qT_1 (k := 196) rfl rfl
theorem mq_1_197 : (Jvm.Cond.constant "OutlookOdds" (48 : Nat) (100000 : Int32)) ∈ qT := qT_1 (k := 197) rfl rfl
theorem mq_1_198 : (Jvm.Cond.methodLink "OutlookOdds" (49 : Nat) ({ cls := "OutlookOdds", name := "requireNumber", desc := "(III)V" } : Jvm.MethodName)) ∈ qT := qT_1 (k := 198) rfl rfl
theorem mq_1_199 : (Jvm.Cond.static ({ cls := "OutlookOdds", name := "requireNumber", desc := "(III)V" } : Jvm.MethodName)) ∈ qT := qT_1 (k := 199) rfl rfl
theorem mq_1_200 : (Jvm.Cond.code ({ cls := "OutlookOdds", name := "requireNumber", desc := "(III)V" } : Jvm.MethodName) prog_1_method_35_code (3 : Nat) (Option.none : Option Jvm.ClassFile.FieldType)) ∈ qT := qT_1 (k := 200) rfl rfl
theorem mq_1_201 : (Jvm.Cond.classLink "OutlookOdds" (209 : Nat) "java/lang/IllegalArgumentException") ∈ qT := qT_1 (k := 201) rfl rfl
theorem mq_1_202 : (Jvm.Cond.instantiable "java/lang/IllegalArgumentException" (6 : Nat)) ∈ qT := qT_1 (k := 202) rfl rfl
theorem mq_1_204 : (Jvm.Cond.selects "java/lang/IllegalArgumentException" ({ cls := "java/lang/Throwable", name := "fillInStackTrace", desc := "(I)Ljava/lang/Throwable;" } : Jvm.MethodName) ({ cls := "java/lang/Throwable", name := "fillInStackTrace", desc := "(I)Ljava/lang/Throwable;" } : Jvm.MethodName)) ∈ qT := qT_1 (k := 204) rfl rfl
theorem mq_1_205 : (Jvm.Cond.lays "java/lang/IllegalArgumentException" "java/lang/Throwable" "cause" "Ljava/lang/Throwable;") ∈ qT := qT_1 (k := 205) rfl rfl
theorem mq_1_206 : (Jvm.Cond.lays "java/lang/IllegalArgumentException" "java/lang/Throwable" "stackTrace" "[Ljava/lang/StackTraceElement;") ∈ qT := qT_1 (k := 206) rfl rfl
theorem mq_1_207 : (Jvm.Cond.lays "java/lang/IllegalArgumentException" "java/lang/Throwable" "suppressedExceptions" "Ljava/util/List;") ∈ qT := qT_1 (k := 207) rfl rfl
theorem mq_1_208 : (Jvm.Cond.lays "java/lang/IllegalArgumentException" "java/lang/Throwable" "detailMessage" "Ljava/lang/String;") ∈ qT := qT_1 (k := 208) rfl rfl
theorem mq_1_209 : (Jvm.Cond.lays "java/lang/IllegalArgumentException" "java/lang/Throwable" "backtrace" "Ljava/lang/Object;") ∈ qT := qT_1 (k := 209) rfl rfl
theorem mq_1_211 : (Jvm.Cond.methodLink "OutlookOdds" (213 : Nat) ({ cls := "java/lang/IllegalArgumentException", name := "<init>", desc := "(Ljava/lang/String;)V" } : Jvm.MethodName)) ∈ qT := qT_1 (k := 211) rfl rfl
theorem mq_1_212 : (Jvm.Cond.instanceMethod ({ cls := "java/lang/IllegalArgumentException", name := "<init>", desc := "(Ljava/lang/String;)V" } : Jvm.MethodName)) ∈ qT := qT_1 (k := 212) rfl rfl
theorem mq_1_213 : (Jvm.Cond.code ({ cls := "java/lang/IllegalArgumentException", name := "<init>", desc := "(Ljava/lang/String;)V" } : Jvm.MethodName) prog_7_method_2_code (2 : Nat) (Option.none : Option Jvm.ClassFile.FieldType)) ∈ qT := qT_1 (k := 213) rfl rfl
theorem mq_1_214 : (Jvm.Cond.methodLink "java/lang/IllegalArgumentException" (7 : Nat) ({ cls := "java/lang/RuntimeException", name := "<init>", desc := "(Ljava/lang/String;)V" } : Jvm.MethodName)) ∈ qT := qT_1 (k := 214) rfl rfl
theorem mq_1_215 : (Jvm.Cond.lays "java/lang/IllegalArgumentException" "java/lang/Throwable" "depth" "I") ∈ qT := qT_1 (k := 215) rfl rfl
theorem mq_1_217 : (Jvm.Cond.methodLink "OutlookOdds" (52 : Nat) ({ cls := "OutlookOdds$Stock", name := "setAge", desc := "(IIIII)V" } : Jvm.MethodName)) ∈ qT := qT_1 (k := 217) rfl rfl
theorem mq_1_218 : (Jvm.Cond.instanceMethod ({ cls := "OutlookOdds$Stock", name := "setAge", desc := "(IIIII)V" } : Jvm.MethodName)) ∈ qT := qT_1 (k := 218) rfl rfl
theorem mq_1_219 : (Jvm.Cond.selects "OutlookOdds$Stock" ({ cls := "OutlookOdds$Stock", name := "setAge", desc := "(IIIII)V" } : Jvm.MethodName) ({ cls := "OutlookOdds$Stock", name := "setAge", desc := "(IIIII)V" } : Jvm.MethodName)) ∈ qT := qT_1 (k := 219) rfl rfl
theorem mq_1_220 : (Jvm.Cond.code ({ cls := "OutlookOdds$Stock", name := "setAge", desc := "(IIIII)V" } : Jvm.MethodName) prog_2_method_2_code (6 : Nat) (Option.none : Option Jvm.ClassFile.FieldType)) ∈ qT := qT_1 (k := 220) rfl rfl
theorem mq_1_221 : (Jvm.Cond.methodLink "OutlookOddsLaw" (82 : Nat) ({ cls := "OutlookOddsLaw", name := "young", desc := "(LOutlookOdds;I[J)I" } : Jvm.MethodName)) ∈ qT := qT_1 (k := 221) rfl rfl
theorem mq_1_222 : (Jvm.Cond.static ({ cls := "OutlookOddsLaw", name := "young", desc := "(LOutlookOdds;I[J)I" } : Jvm.MethodName)) ∈ qT := qT_1 (k := 222) rfl rfl
theorem mq_1_223 : (Jvm.Cond.codeWith ({ cls := "OutlookOddsLaw", name := "young", desc := "(LOutlookOdds;I[J)I" } : Jvm.MethodName) method_4_code (4 : Nat) (Option.some Jvm.ClassFile.FieldType.int) [((0 : Nat), (9 : Nat), (12 : Nat), (15 : Nat))]) ∈ qT := qT_1 (k := 223) rfl rfl
theorem mq_1_224 : (Jvm.Cond.methodLink "OutlookOddsLaw" (17 : Nat) ({ cls := "OutlookOdds", name := "young", desc := "(I)I" } : Jvm.MethodName)) ∈ qT := qT_1 (k := 224) rfl rfl
theorem mq_1_225 : (Jvm.Cond.instanceMethod ({ cls := "OutlookOdds", name := "young", desc := "(I)I" } : Jvm.MethodName)) ∈ qT := qT_1 (k := 225) rfl rfl
theorem mq_1_226 : (Jvm.Cond.selects "OutlookOdds" ({ cls := "OutlookOdds", name := "young", desc := "(I)I" } : Jvm.MethodName) ({ cls := "OutlookOdds", name := "young", desc := "(I)I" } : Jvm.MethodName)) ∈ qT := qT_1 (k := 226) rfl rfl
theorem mq_1_227 : (Jvm.Cond.code ({ cls := "OutlookOdds", name := "young", desc := "(I)I" } : Jvm.MethodName) prog_1_method_3_code (3 : Nat) (Option.some Jvm.ClassFile.FieldType.int)) ∈ qT := qT_1 (k := 227) rfl rfl
theorem mq_1_228 : (Jvm.Cond.methodLink "OutlookOddsLaw" (86 : Nat) ({ cls := "OutlookOddsLaw", name := "rule", desc := "(LOutlookOdds;III[J)I" } : Jvm.MethodName)) ∈ qT := qT_1 (k := 228) rfl rfl
theorem mq_1_229 : (Jvm.Cond.static ({ cls := "OutlookOddsLaw", name := "rule", desc := "(LOutlookOdds;III[J)I" } : Jvm.MethodName)) ∈ qT := qT_1 (k := 229) rfl rfl
theorem mq_1_230 : (Jvm.Cond.codeWith ({ cls := "OutlookOddsLaw", name := "rule", desc := "(LOutlookOdds;III[J)I" } : Jvm.MethodName) method_5_code (6 : Nat) (Option.some Jvm.ClassFile.FieldType.int) [((0 : Nat), (12 : Nat), (15 : Nat), (15 : Nat)), ((0 : Nat), (12 : Nat), (19 : Nat), (25 : Nat))]) ∈ qT := qT_1 (k := 230) rfl rfl
theorem mq_1_231 : (Jvm.Cond.classLink "OutlookOddsLaw" (25 : Nat) "java/lang/IllegalStateException") ∈ qT := qT_1 (k := 231) rfl rfl
theorem mq_1_232 : (Jvm.Cond.methodLink "OutlookOddsLaw" (21 : Nat) ({ cls := "OutlookOdds", name := "rule", desc := "(III)I" } : Jvm.MethodName)) ∈ qT := qT_1 (k := 232) rfl rfl
theorem mq_1_233 : (Jvm.Cond.instanceMethod ({ cls := "OutlookOdds", name := "rule", desc := "(III)I" } : Jvm.MethodName)) ∈ qT := qT_1 (k := 233) rfl rfl
theorem mq_1_234 : (Jvm.Cond.selects "OutlookOdds" ({ cls := "OutlookOdds", name := "rule", desc := "(III)I" } : Jvm.MethodName) ({ cls := "OutlookOdds", name := "rule", desc := "(III)I" } : Jvm.MethodName)) ∈ qT := qT_1 (k := 234) rfl rfl
theorem mq_1_235 : (Jvm.Cond.code ({ cls := "OutlookOdds", name := "rule", desc := "(III)I" } : Jvm.MethodName) prog_1_method_4_code (5 : Nat) (Option.some Jvm.ClassFile.FieldType.int)) ∈ qT := qT_1 (k := 235) rfl rfl
theorem mq_1_236 : (Jvm.Cond.constant "OutlookOdds" (59 : Nat) (2000000000 : Int32)) ∈ qT := qT_1 (k := 236) rfl rfl
theorem mq_1_237 : (Jvm.Cond.classLink "OutlookOdds" (63 : Nat) "java/lang/IllegalStateException") ∈ qT := qT_1 (k := 237) rfl rfl
theorem mq_1_238 : (Jvm.Cond.instantiable "java/lang/IllegalStateException" (6 : Nat)) ∈ qT := qT_1 (k := 238) rfl rfl
theorem mq_2_0 : (Jvm.Cond.selects "java/lang/IllegalStateException" ({ cls := "java/lang/Throwable", name := "fillInStackTrace", desc := "(I)Ljava/lang/Throwable;" } : Jvm.MethodName) ({ cls := "java/lang/Throwable", name := "fillInStackTrace", desc := "(I)Ljava/lang/Throwable;" } : Jvm.MethodName)) ∈ qT := qT_2 (k := 0) rfl rfl
theorem mq_2_1 : (Jvm.Cond.lays "java/lang/IllegalStateException" "java/lang/Throwable" "cause" "Ljava/lang/Throwable;") ∈ qT := qT_2 (k := 1) rfl rfl
theorem mq_2_2 : (Jvm.Cond.lays "java/lang/IllegalStateException" "java/lang/Throwable" "stackTrace" "[Ljava/lang/StackTraceElement;") ∈ qT := qT_2 (k := 2) rfl rfl
theorem mq_2_3 : (Jvm.Cond.lays "java/lang/IllegalStateException" "java/lang/Throwable" "suppressedExceptions" "Ljava/util/List;") ∈ qT := qT_2 (k := 3) rfl rfl
theorem mq_2_4 : (Jvm.Cond.lays "java/lang/IllegalStateException" "java/lang/Throwable" "detailMessage" "Ljava/lang/String;") ∈ qT := qT_2 (k := 4) rfl rfl
theorem mq_2_5 : (Jvm.Cond.lays "java/lang/IllegalStateException" "java/lang/Throwable" "backtrace" "Ljava/lang/Object;") ∈ qT := qT_2 (k := 5) rfl rfl
theorem mq_2_7 : (Jvm.Cond.methodLink "OutlookOdds" (67 : Nat) ({ cls := "java/lang/IllegalStateException", name := "<init>", desc := "(Ljava/lang/String;)V" } : Jvm.MethodName)) ∈ qT := qT_2 (k := 7) rfl rfl
theorem mq_2_8 : (Jvm.Cond.instanceMethod ({ cls := "java/lang/IllegalStateException", name := "<init>", desc := "(Ljava/lang/String;)V" } : Jvm.MethodName)) ∈ qT := qT_2 (k := 8) rfl rfl
theorem mq_2_9 : (Jvm.Cond.code ({ cls := "java/lang/IllegalStateException", name := "<init>", desc := "(Ljava/lang/String;)V" } : Jvm.MethodName) prog_8_method_2_code (2 : Nat) (Option.none : Option Jvm.ClassFile.FieldType)) ∈ qT := qT_2 (k := 9) rfl rfl
theorem mq_2_10 : (Jvm.Cond.methodLink "java/lang/IllegalStateException" (7 : Nat) ({ cls := "java/lang/RuntimeException", name := "<init>", desc := "(Ljava/lang/String;)V" } : Jvm.MethodName)) ∈ qT := qT_2 (k := 10) rfl rfl
theorem mq_2_11 : (Jvm.Cond.lays "java/lang/IllegalStateException" "java/lang/Throwable" "depth" "I") ∈ qT := qT_2 (k := 11) rfl rfl
theorem mq_2_13 : (Jvm.Cond.methodLink "OutlookOddsLaw" (90 : Nat) ({ cls := "OutlookOddsLaw", name := "change", desc := "(LOutlookOdds;I[J)I" } : Jvm.MethodName)) ∈ qT := qT_2 (k := 13) rfl rfl
theorem mq_2_14 : (Jvm.Cond.static ({ cls := "OutlookOddsLaw", name := "change", desc := "(LOutlookOdds;I[J)I" } : Jvm.MethodName)) ∈ qT := qT_2 (k := 14) rfl rfl
theorem mq_2_15 : (Jvm.Cond.codeWith ({ cls := "OutlookOddsLaw", name := "change", desc := "(LOutlookOdds;I[J)I" } : Jvm.MethodName) method_6_code (4 : Nat) (Option.some Jvm.ClassFile.FieldType.int) [((0 : Nat), (9 : Nat), (12 : Nat), (15 : Nat))]) ∈ qT := qT_2 (k := 15) rfl rfl
theorem mq_2_16 : (Jvm.Cond.methodLink "OutlookOddsLaw" (27 : Nat) ({ cls := "OutlookOdds", name := "change", desc := "(I)I" } : Jvm.MethodName)) ∈ qT := qT_2 (k := 16) rfl rfl
theorem mq_2_17 : (Jvm.Cond.instanceMethod ({ cls := "OutlookOdds", name := "change", desc := "(I)I" } : Jvm.MethodName)) ∈ qT := qT_2 (k := 17) rfl rfl
theorem mq_2_18 : (Jvm.Cond.selects "OutlookOdds" ({ cls := "OutlookOdds", name := "change", desc := "(I)I" } : Jvm.MethodName) ({ cls := "OutlookOdds", name := "change", desc := "(I)I" } : Jvm.MethodName)) ∈ qT := qT_2 (k := 18) rfl rfl
theorem mq_2_19 : (Jvm.Cond.code ({ cls := "OutlookOdds", name := "change", desc := "(I)I" } : Jvm.MethodName) prog_1_method_5_code (3 : Nat) (Option.some Jvm.ClassFile.FieldType.int)) ∈ qT := qT_2 (k := 19) rfl rfl
theorem mq_2_20 : (Jvm.Cond.methodLink "OutlookOddsLaw" (93 : Nat) ({ cls := "OutlookOddsLaw", name := "error", desc := "(LOutlookOdds;II)I" } : Jvm.MethodName)) ∈ qT := qT_2 (k := 20) rfl rfl
theorem mq_2_21 : (Jvm.Cond.static ({ cls := "OutlookOddsLaw", name := "error", desc := "(LOutlookOdds;II)I" } : Jvm.MethodName)) ∈ qT := qT_2 (k := 21) rfl rfl
theorem mq_2_22 : (Jvm.Cond.codeWith ({ cls := "OutlookOddsLaw", name := "error", desc := "(LOutlookOdds;II)I" } : Jvm.MethodName) method_7_code (4 : Nat) (Option.some Jvm.ClassFile.FieldType.int) [((0 : Nat), (6 : Nat), (9 : Nat), (15 : Nat))]) ∈ qT := qT_2 (k := 22) rfl rfl
theorem mq_2_23 : (Jvm.Cond.methodLink "OutlookOddsLaw" (30 : Nat) ({ cls := "OutlookOdds", name := "error", desc := "(II)V" } : Jvm.MethodName)) ∈ qT := qT_2 (k := 23) rfl rfl
theorem mq_2_24 : (Jvm.Cond.instanceMethod ({ cls := "OutlookOdds", name := "error", desc := "(II)V" } : Jvm.MethodName)) ∈ qT := qT_2 (k := 24) rfl rfl
theorem mq_2_25 : (Jvm.Cond.selects "OutlookOdds" ({ cls := "OutlookOdds", name := "error", desc := "(II)V" } : Jvm.MethodName) ({ cls := "OutlookOdds", name := "error", desc := "(II)V" } : Jvm.MethodName)) ∈ qT := qT_2 (k := 25) rfl rfl
theorem mq_2_26 : (Jvm.Cond.code ({ cls := "OutlookOdds", name := "error", desc := "(II)V" } : Jvm.MethodName) prog_1_method_6_code (3 : Nat) (Option.none : Option Jvm.ClassFile.FieldType)) ∈ qT := qT_2 (k := 26) rfl rfl
theorem mq_2_27 : (Jvm.Cond.methodLink "OutlookOddsLaw" (97 : Nat) ({ cls := "OutlookOddsLaw", name := "mark", desc := "(LOutlookOdds;I[J)I" } : Jvm.MethodName)) ∈ qT := qT_2 (k := 27) rfl rfl
theorem mq_2_28 : (Jvm.Cond.static ({ cls := "OutlookOddsLaw", name := "mark", desc := "(LOutlookOdds;I[J)I" } : Jvm.MethodName)) ∈ qT := qT_2 (k := 28) rfl rfl
theorem mq_2_29 : (Jvm.Cond.codeWith ({ cls := "OutlookOddsLaw", name := "mark", desc := "(LOutlookOdds;I[J)I" } : Jvm.MethodName) method_8_code (4 : Nat) (Option.some Jvm.ClassFile.FieldType.int) [((0 : Nat), (9 : Nat), (12 : Nat), (15 : Nat))]) ∈ qT := qT_2 (k := 29) rfl rfl
theorem mq_2_30 : (Jvm.Cond.methodLink "OutlookOddsLaw" (34 : Nat) ({ cls := "OutlookOdds", name := "mark", desc := "(I)I" } : Jvm.MethodName)) ∈ qT := qT_2 (k := 30) rfl rfl
theorem mq_2_31 : (Jvm.Cond.instanceMethod ({ cls := "OutlookOdds", name := "mark", desc := "(I)I" } : Jvm.MethodName)) ∈ qT := qT_2 (k := 31) rfl rfl
theorem mq_2_32 : (Jvm.Cond.selects "OutlookOdds" ({ cls := "OutlookOdds", name := "mark", desc := "(I)I" } : Jvm.MethodName) ({ cls := "OutlookOdds", name := "mark", desc := "(I)I" } : Jvm.MethodName)) ∈ qT := qT_2 (k := 32) rfl rfl
theorem mq_2_33 : (Jvm.Cond.code ({ cls := "OutlookOdds", name := "mark", desc := "(I)I" } : Jvm.MethodName) prog_1_method_7_code (3 : Nat) (Option.some Jvm.ClassFile.FieldType.int)) ∈ qT := qT_2 (k := 33) rfl rfl
theorem mq_2_34 : (Jvm.Cond.constant "OutlookOdds" (76 : Nat) (2147483647 : Int32)) ∈ qT := qT_2 (k := 34) rfl rfl
theorem mq_2_35 : (Jvm.Cond.methodLink "OutlookOddsLaw" (104 : Nat) ({ cls := "OutlookOddsLaw", name := "run", desc := "(LOutlookOdds;III[J)I" } : Jvm.MethodName)) ∈ qT := qT_2 (k := 35) rfl rfl
theorem mq_2_36 : (Jvm.Cond.static ({ cls := "OutlookOddsLaw", name := "run", desc := "(LOutlookOdds;III[J)I" } : Jvm.MethodName)) ∈ qT := qT_2 (k := 36) rfl rfl
theorem mq_2_37 : (Jvm.Cond.codeWith ({ cls := "OutlookOddsLaw", name := "run", desc := "(LOutlookOdds;III[J)I" } : Jvm.MethodName) method_9_code (6 : Nat) (Option.some Jvm.ClassFile.FieldType.int) [((0 : Nat), (12 : Nat), (15 : Nat), (13 : Nat)), ((0 : Nat), (12 : Nat), (19 : Nat), (15 : Nat))]) ∈ qT := qT_2 (k := 37) rfl rfl
theorem mq_2_38 : (Jvm.Cond.methodLink "OutlookOddsLaw" (37 : Nat) ({ cls := "OutlookOdds", name := "run", desc := "(III)I" } : Jvm.MethodName)) ∈ qT := qT_2 (k := 38) rfl rfl
theorem mq_2_39 : (Jvm.Cond.instanceMethod ({ cls := "OutlookOdds", name := "run", desc := "(III)I" } : Jvm.MethodName)) ∈ qT := qT_2 (k := 39) rfl rfl
theorem mq_2_40 : (Jvm.Cond.selects "OutlookOdds" ({ cls := "OutlookOdds", name := "run", desc := "(III)I" } : Jvm.MethodName) ({ cls := "OutlookOdds", name := "run", desc := "(III)I" } : Jvm.MethodName)) ∈ qT := qT_2 (k := 40) rfl rfl
theorem mq_2_41 : (Jvm.Cond.code ({ cls := "OutlookOdds", name := "run", desc := "(III)I" } : Jvm.MethodName) prog_1_method_9_code (4 : Nat) (Option.some Jvm.ClassFile.FieldType.int)) ∈ qT := qT_2 (k := 41) rfl rfl
theorem mq_2_42 : (Jvm.Cond.methodLink "OutlookOdds" (93 : Nat) ({ cls := "OutlookOdds", name := "runAllSeeds", desc := "(LOutlookOdds$Story;I)V" } : Jvm.MethodName)) ∈ qT := qT_2 (k := 42) rfl rfl
theorem mq_2_44 : (Jvm.Cond.instanceMethod ({ cls := "OutlookOdds", name := "runAllSeeds", desc := "(LOutlookOdds$Story;I)V" } : Jvm.MethodName)) ∈ qT := qT_2 (k := 44) rfl rfl
theorem mq_2_45 : (Jvm.Cond.code ({ cls := "OutlookOdds", name := "runAllSeeds", desc := "(LOutlookOdds$Story;I)V" } : Jvm.MethodName) prog_1_method_19_code (5 : Nat) (Option.none : Option Jvm.ClassFile.FieldType)) ∈ qT := qT_2 (k := 45) rfl rfl
theorem mq_2_46 : (Jvm.Cond.methodLink "OutlookOdds" (134 : Nat) ({ cls := "OutlookOdds$Stock", name := "begin", desc := "()V" } : Jvm.MethodName)) ∈ qT := qT_2 (k := 46) rfl rfl
theorem mq_2_47 : (Jvm.Cond.instanceMethod ({ cls := "OutlookOdds$Stock", name := "begin", desc := "()V" } : Jvm.MethodName)) ∈ qT := qT_2 (k := 47) rfl rfl
theorem mq_2_48 : (Jvm.Cond.selects "OutlookOdds$Stock" ({ cls := "OutlookOdds$Stock", name := "begin", desc := "()V" } : Jvm.MethodName) ({ cls := "OutlookOdds$Stock", name := "begin", desc := "()V" } : Jvm.MethodName)) ∈ qT := qT_2 (k := 48) rfl rfl
theorem mq_2_49 : (Jvm.Cond.code ({ cls := "OutlookOdds$Stock", name := "begin", desc := "()V" } : Jvm.MethodName) prog_2_method_3_code (2 : Nat) (Option.none : Option Jvm.ClassFile.FieldType)) ∈ qT := qT_2 (k := 49) rfl rfl
theorem mq_2_50 : (Jvm.Cond.methodLink "OutlookOdds" (137 : Nat) ({ cls := "OutlookOdds", name := "runYear", desc := "(LOutlookOdds$Story;III)V" } : Jvm.MethodName)) ∈ qT := qT_2 (k := 50) rfl rfl
theorem mq_2_52 : (Jvm.Cond.instanceMethod ({ cls := "OutlookOdds", name := "runYear", desc := "(LOutlookOdds$Story;III)V" } : Jvm.MethodName)) ∈ qT := qT_2 (k := 52) rfl rfl
theorem mq_2_53 : (Jvm.Cond.code ({ cls := "OutlookOdds", name := "runYear", desc := "(LOutlookOdds$Story;III)V" } : Jvm.MethodName) prog_1_method_20_code (13 : Nat) (Option.none : Option Jvm.ClassFile.FieldType)) ∈ qT := qT_2 (k := 53) rfl rfl
theorem mq_2_54 : (Jvm.Cond.methodLink "OutlookOdds" (141 : Nat) ({ cls := "OutlookOdds$Stock", name := "ripeMass", desc := "()J" } : Jvm.MethodName)) ∈ qT := qT_2 (k := 54) rfl rfl
theorem mq_2_55 : (Jvm.Cond.instanceMethod ({ cls := "OutlookOdds$Stock", name := "ripeMass", desc := "()J" } : Jvm.MethodName)) ∈ qT := qT_2 (k := 55) rfl rfl
theorem mq_2_56 : (Jvm.Cond.selects "OutlookOdds$Stock" ({ cls := "OutlookOdds$Stock", name := "ripeMass", desc := "()J" } : Jvm.MethodName) ({ cls := "OutlookOdds$Stock", name := "ripeMass", desc := "()J" } : Jvm.MethodName)) ∈ qT := qT_2 (k := 56) rfl rfl
theorem mq_2_57 : (Jvm.Cond.code ({ cls := "OutlookOdds$Stock", name := "ripeMass", desc := "()J" } : Jvm.MethodName) prog_2_method_4_code (4 : Nat) (Option.some Jvm.ClassFile.FieldType.long)) ∈ qT := qT_2 (k := 57) rfl rfl
theorem mq_2_58 : (Jvm.Cond.constantLong "OutlookOdds$Stock" (28 : Nat) (1000 : Int64)) ∈ qT := qT_2 (k := 58) rfl rfl
theorem mq_2_59 : (Jvm.Cond.methodLink "OutlookOdds" (145 : Nat) ({ cls := "OutlookOdds$Story", name := "put", desc := "(IIIJ)V" } : Jvm.MethodName)) ∈ qT := qT_2 (k := 59) rfl rfl
theorem mq_2_60 : (Jvm.Cond.instanceMethod ({ cls := "OutlookOdds$Story", name := "put", desc := "(IIIJ)V" } : Jvm.MethodName)) ∈ qT := qT_2 (k := 60) rfl rfl
theorem mq_2_61 : (Jvm.Cond.selects "OutlookOdds$Story" ({ cls := "OutlookOdds$Story", name := "put", desc := "(IIIJ)V" } : Jvm.MethodName) ({ cls := "OutlookOdds$Story", name := "put", desc := "(IIIJ)V" } : Jvm.MethodName)) ∈ qT := qT_2 (k := 61) rfl rfl
theorem mq_2_62 : (Jvm.Cond.code ({ cls := "OutlookOdds$Story", name := "put", desc := "(IIIJ)V" } : Jvm.MethodName) prog_3_method_3_code (6 : Nat) (Option.none : Option Jvm.ClassFile.FieldType)) ∈ qT := qT_2 (k := 62) rfl rfl
theorem mq_2_63 : (Jvm.Cond.methodLink "OutlookOdds" (149 : Nat) ({ cls := "OutlookOdds", name := "massSeen", desc := "(LOutlookOdds$Story;II)J" } : Jvm.MethodName)) ∈ qT := qT_2 (k := 63) rfl rfl
theorem mq_2_65 : (Jvm.Cond.instanceMethod ({ cls := "OutlookOdds", name := "massSeen", desc := "(LOutlookOdds$Story;II)J" } : Jvm.MethodName)) ∈ qT := qT_2 (k := 65) rfl rfl
theorem mq_2_66 : (Jvm.Cond.code ({ cls := "OutlookOdds", name := "massSeen", desc := "(LOutlookOdds$Story;II)J" } : Jvm.MethodName) prog_1_method_21_code (6 : Nat) (Option.some Jvm.ClassFile.FieldType.long)) ∈ qT := qT_2 (k := 66) rfl rfl
theorem mq_2_67 : (Jvm.Cond.methodLink "OutlookOdds" (183 : Nat) ({ cls := "java/lang/Math", name := "max", desc := "(II)I" } : Jvm.MethodName)) ∈ qT := qT_2 (k := 67) rfl rfl
theorem mq_2_68 : (Jvm.Cond.static ({ cls := "java/lang/Math", name := "max", desc := "(II)I" } : Jvm.MethodName)) ∈ qT := qT_2 (k := 68) rfl rfl
theorem mq_2_69 : (Jvm.Cond.code ({ cls := "java/lang/Math", name := "max", desc := "(II)I" } : Jvm.MethodName) prog_10_method_65_code (2 : Nat) (Option.some Jvm.ClassFile.FieldType.int)) ∈ qT := qT_2 (k := 69) rfl rfl
theorem mq_2_70 : (Jvm.Cond.methodLink "OutlookOdds" (187 : Nat) ({ cls := "OutlookOdds", name := "draw", desc := "(III)I" } : Jvm.MethodName)) ∈ qT := qT_2 (k := 70) rfl rfl
theorem mq_2_71 : (Jvm.Cond.methodLink "OutlookOdds" (104 : Nat) ({ cls := "OutlookOdds$Story", name := "get", desc := "(III)J" } : Jvm.MethodName)) ∈ qT := qT_2 (k := 71) rfl rfl
theorem mq_2_72 : (Jvm.Cond.instanceMethod ({ cls := "OutlookOdds$Story", name := "get", desc := "(III)J" } : Jvm.MethodName)) ∈ qT := qT_2 (k := 72) rfl rfl
theorem mq_2_73 : (Jvm.Cond.selects "OutlookOdds$Story" ({ cls := "OutlookOdds$Story", name := "get", desc := "(III)J" } : Jvm.MethodName) ({ cls := "OutlookOdds$Story", name := "get", desc := "(III)J" } : Jvm.MethodName)) ∈ qT := qT_2 (k := 73) rfl rfl
theorem mq_2_74 : (Jvm.Cond.code ({ cls := "OutlookOdds$Story", name := "get", desc := "(III)J" } : Jvm.MethodName) prog_3_method_2_code (4 : Nat) (Option.some Jvm.ClassFile.FieldType.long)) ∈ qT := qT_2 (k := 74) rfl rfl
theorem mq_2_75 : (Jvm.Cond.constantLong "OutlookOdds" (191 : Nat) (100 : Int64)) ∈ qT := qT_2 (k := 75) rfl rfl
theorem mq_2_76 : (Jvm.Cond.methodLink "OutlookOdds" (152 : Nat) ({ cls := "OutlookOdds$Stock", name := "totalMass", desc := "()J" } : Jvm.MethodName)) ∈ qT := qT_2 (k := 76) rfl rfl
theorem mq_2_77 : (Jvm.Cond.instanceMethod ({ cls := "OutlookOdds$Stock", name := "totalMass", desc := "()J" } : Jvm.MethodName)) ∈ qT := qT_2 (k := 77) rfl rfl
theorem mq_2_78 : (Jvm.Cond.selects "OutlookOdds$Stock" ({ cls := "OutlookOdds$Stock", name := "totalMass", desc := "()J" } : Jvm.MethodName) ({ cls := "OutlookOdds$Stock", name := "totalMass", desc := "()J" } : Jvm.MethodName)) ∈ qT := qT_2 (k := 78) rfl rfl
theorem mq_2_79 : (Jvm.Cond.code ({ cls := "OutlookOdds$Stock", name := "totalMass", desc := "()J" } : Jvm.MethodName) prog_2_method_5_code (4 : Nat) (Option.some Jvm.ClassFile.FieldType.long)) ∈ qT := qT_2 (k := 79) rfl rfl
theorem mq_2_80 : (Jvm.Cond.methodLink "OutlookOdds" (155 : Nat) ({ cls := "OutlookOdds", name := "rateAllowed", desc := "(JI)J" } : Jvm.MethodName)) ∈ qT := qT_2 (k := 80) rfl rfl
theorem mq_2_82 : (Jvm.Cond.instanceMethod ({ cls := "OutlookOdds", name := "rateAllowed", desc := "(JI)J" } : Jvm.MethodName)) ∈ qT := qT_2 (k := 82) rfl rfl
theorem mq_2_83 : (Jvm.Cond.code ({ cls := "OutlookOdds", name := "rateAllowed", desc := "(JI)J" } : Jvm.MethodName) prog_1_method_22_code (8 : Nat) (Option.some Jvm.ClassFile.FieldType.long)) ∈ qT := qT_2 (k := 83) rfl rfl
theorem mq_2_84 : (Jvm.Cond.constantLong "OutlookOdds" (159 : Nat) (1000 : Int64)) ∈ qT := qT_2 (k := 84) rfl rfl
theorem mq_2_85 : (Jvm.Cond.methodLink "OutlookOdds" (161 : Nat) ({ cls := "OutlookOdds", name := "limitChange", desc := "(LOutlookOdds$Story;JII)J" } : Jvm.MethodName)) ∈ qT := qT_2 (k := 85) rfl rfl
theorem mq_2_87 : (Jvm.Cond.instanceMethod ({ cls := "OutlookOdds", name := "limitChange", desc := "(LOutlookOdds$Story;JII)J" } : Jvm.MethodName)) ∈ qT := qT_2 (k := 87) rfl rfl
theorem mq_2_88 : (Jvm.Cond.code ({ cls := "OutlookOdds", name := "limitChange", desc := "(LOutlookOdds$Story;JII)J" } : Jvm.MethodName) prog_1_method_23_code (10 : Nat) (Option.some Jvm.ClassFile.FieldType.long)) ∈ qT := qT_2 (k := 88) rfl rfl
theorem mq_2_89 : (Jvm.Cond.methodLink "OutlookOdds" (165 : Nat) ({ cls := "java/lang/Math", name := "min", desc := "(JJ)J" } : Jvm.MethodName)) ∈ qT := qT_2 (k := 89) rfl rfl
theorem mq_2_90 : (Jvm.Cond.static ({ cls := "java/lang/Math", name := "min", desc := "(JJ)J" } : Jvm.MethodName)) ∈ qT := qT_2 (k := 90) rfl rfl
theorem mq_2_91 : (Jvm.Cond.code ({ cls := "java/lang/Math", name := "min", desc := "(JJ)J" } : Jvm.MethodName) prog_10_method_70_code (4 : Nat) (Option.some Jvm.ClassFile.FieldType.long)) ∈ qT := qT_2 (k := 91) rfl rfl
theorem mq_2_92 : (Jvm.Cond.methodLink "OutlookOdds" (193 : Nat) ({ cls := "java/lang/Math", name := "max", desc := "(JJ)J" } : Jvm.MethodName)) ∈ qT := qT_2 (k := 92) rfl rfl
theorem mq_2_93 : (Jvm.Cond.static ({ cls := "java/lang/Math", name := "max", desc := "(JJ)J" } : Jvm.MethodName)) ∈ qT := qT_2 (k := 93) rfl rfl
theorem mq_2_94 : (Jvm.Cond.code ({ cls := "java/lang/Math", name := "max", desc := "(JJ)J" } : Jvm.MethodName) prog_10_method_66_code (4 : Nat) (Option.some Jvm.ClassFile.FieldType.long)) ∈ qT := qT_2 (k := 94) rfl rfl
theorem mq_2_95 : (Jvm.Cond.methodLink "OutlookOdds" (169 : Nat) ({ cls := "OutlookOdds$Stock", name := "takeOut", desc := "(JJ)J" } : Jvm.MethodName)) ∈ qT := qT_2 (k := 95) rfl rfl
theorem mq_2_96 : (Jvm.Cond.instanceMethod ({ cls := "OutlookOdds$Stock", name := "takeOut", desc := "(JJ)J" } : Jvm.MethodName)) ∈ qT := qT_2 (k := 96) rfl rfl
theorem mq_2_97 : (Jvm.Cond.selects "OutlookOdds$Stock" ({ cls := "OutlookOdds$Stock", name := "takeOut", desc := "(JJ)J" } : Jvm.MethodName) ({ cls := "OutlookOdds$Stock", name := "takeOut", desc := "(JJ)J" } : Jvm.MethodName)) ∈ qT := qT_2 (k := 97) rfl rfl
theorem mq_2_98 : (Jvm.Cond.code ({ cls := "OutlookOdds$Stock", name := "takeOut", desc := "(JJ)J" } : Jvm.MethodName) prog_2_method_6_code (10 : Nat) (Option.some Jvm.ClassFile.FieldType.long)) ∈ qT := qT_2 (k := 98) rfl rfl
theorem mq_2_99 : (Jvm.Cond.methodLink "OutlookOdds" (172 : Nat) ({ cls := "OutlookOdds$Stock", name := "loseDead", desc := "()V" } : Jvm.MethodName)) ∈ qT := qT_2 (k := 99) rfl rfl
theorem mq_2_100 : (Jvm.Cond.instanceMethod ({ cls := "OutlookOdds$Stock", name := "loseDead", desc := "()V" } : Jvm.MethodName)) ∈ qT := qT_2 (k := 100) rfl rfl
theorem mq_2_101 : (Jvm.Cond.selects "OutlookOdds$Stock" ({ cls := "OutlookOdds$Stock", name := "loseDead", desc := "()V" } : Jvm.MethodName) ({ cls := "OutlookOdds$Stock", name := "loseDead", desc := "()V" } : Jvm.MethodName)) ∈ qT := qT_2 (k := 101) rfl rfl
theorem mq_2_102 : (Jvm.Cond.code ({ cls := "OutlookOdds$Stock", name := "loseDead", desc := "()V" } : Jvm.MethodName) prog_2_method_7_code (2 : Nat) (Option.none : Option Jvm.ClassFile.FieldType)) ∈ qT := qT_2 (k := 102) rfl rfl
theorem mq_2_103 : (Jvm.Cond.methodLink "OutlookOdds" (175 : Nat) ({ cls := "OutlookOdds", name := "youngBorn", desc := "(II)J" } : Jvm.MethodName)) ∈ qT := qT_2 (k := 103) rfl rfl
theorem mq_2_105 : (Jvm.Cond.instanceMethod ({ cls := "OutlookOdds", name := "youngBorn", desc := "(II)J" } : Jvm.MethodName)) ∈ qT := qT_2 (k := 105) rfl rfl
theorem mq_2_106 : (Jvm.Cond.code ({ cls := "OutlookOdds", name := "youngBorn", desc := "(II)J" } : Jvm.MethodName) prog_1_method_24_code (3 : Nat) (Option.some Jvm.ClassFile.FieldType.long)) ∈ qT := qT_2 (k := 106) rfl rfl
theorem mq_2_107 : (Jvm.Cond.methodLink "OutlookOdds" (179 : Nat) ({ cls := "OutlookOdds$Stock", name := "growOlder", desc := "(J)V" } : Jvm.MethodName)) ∈ qT := qT_2 (k := 107) rfl rfl
theorem mq_2_108 : (Jvm.Cond.instanceMethod ({ cls := "OutlookOdds$Stock", name := "growOlder", desc := "(J)V" } : Jvm.MethodName)) ∈ qT := qT_2 (k := 108) rfl rfl
theorem mq_2_109 : (Jvm.Cond.selects "OutlookOdds$Stock" ({ cls := "OutlookOdds$Stock", name := "growOlder", desc := "(J)V" } : Jvm.MethodName) ({ cls := "OutlookOdds$Stock", name := "growOlder", desc := "(J)V" } : Jvm.MethodName)) ∈ qT := qT_2 (k := 109) rfl rfl
theorem mq_2_110 : (Jvm.Cond.code ({ cls := "OutlookOdds$Stock", name := "growOlder", desc := "(J)V" } : Jvm.MethodName) prog_2_method_8_code (5 : Nat) (Option.none : Option Jvm.ClassFile.FieldType)) ∈ qT := qT_2 (k := 110) rfl rfl
theorem mq_2_111 : (Jvm.Cond.methodLink "OutlookOdds" (97 : Nat) ({ cls := "OutlookOdds", name := "seedsEverBelowMark", desc := "()I" } : Jvm.MethodName)) ∈ qT := qT_2 (k := 111) rfl rfl
theorem mq_2_113 : (Jvm.Cond.instanceMethod ({ cls := "OutlookOdds", name := "seedsEverBelowMark", desc := "()I" } : Jvm.MethodName)) ∈ qT := qT_2 (k := 113) rfl rfl
theorem mq_2_114 : (Jvm.Cond.code ({ cls := "OutlookOdds", name := "seedsEverBelowMark", desc := "()I" } : Jvm.MethodName) prog_1_method_28_code (3 : Nat) (Option.some Jvm.ClassFile.FieldType.int)) ∈ qT := qT_2 (k := 114) rfl rfl
theorem mq_2_115 : (Jvm.Cond.methodLink "OutlookOdds" (195 : Nat) ({ cls := "OutlookOdds", name := "isEverBelowMark", desc := "(I)Z" } : Jvm.MethodName)) ∈ qT := qT_2 (k := 115) rfl rfl
theorem mq_2_117 : (Jvm.Cond.instanceMethod ({ cls := "OutlookOdds", name := "isEverBelowMark", desc := "(I)Z" } : Jvm.MethodName)) ∈ qT := qT_2 (k := 117) rfl rfl
theorem mq_2_118 : (Jvm.Cond.code ({ cls := "OutlookOdds", name := "isEverBelowMark", desc := "(I)Z" } : Jvm.MethodName) prog_1_method_29_code (3 : Nat) (Option.some Jvm.ClassFile.FieldType.boolean)) ∈ qT := qT_2 (k := 118) rfl rfl
theorem mq_2_119 : (Jvm.Cond.methodLink "OutlookOdds" (108 : Nat) ({ cls := "OutlookOdds", name := "isBelowMark", desc := "(II)Z" } : Jvm.MethodName)) ∈ qT := qT_2 (k := 119) rfl rfl
theorem mq_2_121 : (Jvm.Cond.instanceMethod ({ cls := "OutlookOdds", name := "isBelowMark", desc := "(II)Z" } : Jvm.MethodName)) ∈ qT := qT_2 (k := 121) rfl rfl
theorem mq_2_122 : (Jvm.Cond.code ({ cls := "OutlookOdds", name := "isBelowMark", desc := "(II)Z" } : Jvm.MethodName) prog_1_method_27_code (3 : Nat) (Option.some Jvm.ClassFile.FieldType.boolean)) ∈ qT := qT_2 (k := 122) rfl rfl
theorem mq_2_123 : (Jvm.Cond.methodLink "OutlookOddsLaw" (107 : Nat) ({ cls := "OutlookOddsLaw", name := "told", desc := "(LOutlookOdds;III[J)I" } : Jvm.MethodName)) ∈ qT := qT_2 (k := 123) rfl rfl
theorem mq_2_124 : (Jvm.Cond.static ({ cls := "OutlookOddsLaw", name := "told", desc := "(LOutlookOdds;III[J)I" } : Jvm.MethodName)) ∈ qT := qT_2 (k := 124) rfl rfl
theorem mq_2_125 : (Jvm.Cond.codeWith ({ cls := "OutlookOddsLaw", name := "told", desc := "(LOutlookOdds;III[J)I" } : Jvm.MethodName) method_10_code (6 : Nat) (Option.some Jvm.ClassFile.FieldType.int) [((0 : Nat), (11 : Nat), (14 : Nat), (25 : Nat)), ((0 : Nat), (11 : Nat), (18 : Nat), (13 : Nat))]) ∈ qT := qT_2 (k := 125) rfl rfl
theorem mq_2_126 : (Jvm.Cond.methodLink "OutlookOddsLaw" (40 : Nat) ({ cls := "OutlookOdds", name := "told", desc := "(III)J" } : Jvm.MethodName)) ∈ qT := qT_2 (k := 126) rfl rfl
theorem mq_2_127 : (Jvm.Cond.instanceMethod ({ cls := "OutlookOdds", name := "told", desc := "(III)J" } : Jvm.MethodName)) ∈ qT := qT_2 (k := 127) rfl rfl
theorem mq_2_128 : (Jvm.Cond.selects "OutlookOdds" ({ cls := "OutlookOdds", name := "told", desc := "(III)J" } : Jvm.MethodName) ({ cls := "OutlookOdds", name := "told", desc := "(III)J" } : Jvm.MethodName)) ∈ qT := qT_2 (k := 128) rfl rfl
theorem mq_2_129 : (Jvm.Cond.code ({ cls := "OutlookOdds", name := "told", desc := "(III)J" } : Jvm.MethodName) prog_1_method_10_code (4 : Nat) (Option.some Jvm.ClassFile.FieldType.long)) ∈ qT := qT_2 (k := 129) rfl rfl
theorem mq_2_130 : (Jvm.Cond.methodLink "OutlookOdds" (101 : Nat) ({ cls := "OutlookOdds", name := "requireRun", desc := "()V" } : Jvm.MethodName)) ∈ qT := qT_2 (k := 130) rfl rfl
theorem mq_2_132 : (Jvm.Cond.instanceMethod ({ cls := "OutlookOdds", name := "requireRun", desc := "()V" } : Jvm.MethodName)) ∈ qT := qT_2 (k := 132) rfl rfl
theorem mq_2_133 : (Jvm.Cond.code ({ cls := "OutlookOdds", name := "requireRun", desc := "()V" } : Jvm.MethodName) prog_1_method_33_code (1 : Nat) (Option.none : Option Jvm.ClassFile.FieldType)) ∈ qT := qT_2 (k := 133) rfl rfl
theorem mq_2_135 : (Jvm.Cond.methodLink "OutlookOddsLaw" (110 : Nat) ({ cls := "OutlookOddsLaw", name := "below", desc := "(LOutlookOdds;II[J)I" } : Jvm.MethodName)) ∈ qT := qT_2 (k := 135) rfl rfl
theorem mq_2_136 : (Jvm.Cond.static ({ cls := "OutlookOddsLaw", name := "below", desc := "(LOutlookOdds;II[J)I" } : Jvm.MethodName)) ∈ qT := qT_2 (k := 136) rfl rfl
theorem mq_2_137 : (Jvm.Cond.codeWith ({ cls := "OutlookOddsLaw", name := "below", desc := "(LOutlookOdds;II[J)I" } : Jvm.MethodName) method_11_code (5 : Nat) (Option.some Jvm.ClassFile.FieldType.int) [((0 : Nat), (10 : Nat), (13 : Nat), (25 : Nat)), ((0 : Nat), (10 : Nat), (17 : Nat), (13 : Nat))]) ∈ qT := qT_2 (k := 137) rfl rfl
theorem mq_2_138 : (Jvm.Cond.methodLink "OutlookOddsLaw" (44 : Nat) ({ cls := "OutlookOdds", name := "below", desc := "(II)I" } : Jvm.MethodName)) ∈ qT := qT_2 (k := 138) rfl rfl
theorem mq_2_139 : (Jvm.Cond.instanceMethod ({ cls := "OutlookOdds", name := "below", desc := "(II)I" } : Jvm.MethodName)) ∈ qT := qT_2 (k := 139) rfl rfl
theorem mq_2_140 : (Jvm.Cond.selects "OutlookOdds" ({ cls := "OutlookOdds", name := "below", desc := "(II)I" } : Jvm.MethodName) ({ cls := "OutlookOdds", name := "below", desc := "(II)I" } : Jvm.MethodName)) ∈ qT := qT_2 (k := 140) rfl rfl
theorem mq_2_141 : (Jvm.Cond.code ({ cls := "OutlookOdds", name := "below", desc := "(II)I" } : Jvm.MethodName) prog_1_method_11_code (5 : Nat) (Option.some Jvm.ClassFile.FieldType.int)) ∈ qT := qT_2 (k := 141) rfl rfl
theorem mq_2_142 : (Jvm.Cond.methodLink "OutlookOdds" (112 : Nat) ({ cls := "OutlookOdds", name := "partOfFraction", desc := "(JJI)J" } : Jvm.MethodName)) ∈ qT := qT_2 (k := 142) rfl rfl
theorem mq_2_143 : (Jvm.Cond.static ({ cls := "OutlookOdds", name := "partOfFraction", desc := "(JJI)J" } : Jvm.MethodName)) ∈ qT := qT_2 (k := 143) rfl rfl
theorem mq_2_144 : (Jvm.Cond.code ({ cls := "OutlookOdds", name := "partOfFraction", desc := "(JJI)J" } : Jvm.MethodName) prog_1_method_31_code (7 : Nat) (Option.some Jvm.ClassFile.FieldType.long)) ∈ qT := qT_2 (k := 144) rfl rfl
theorem mq_2_145 : (Jvm.Cond.methodLink "OutlookOdds" (199 : Nat) ({ cls := "OutlookOdds", name := "commonDivisor", desc := "(JJ)J" } : Jvm.MethodName)) ∈ qT := qT_2 (k := 145) rfl rfl
theorem mq_2_146 : (Jvm.Cond.static ({ cls := "OutlookOdds", name := "commonDivisor", desc := "(JJ)J" } : Jvm.MethodName)) ∈ qT := qT_2 (k := 146) rfl rfl
theorem mq_2_147 : (Jvm.Cond.code ({ cls := "OutlookOdds", name := "commonDivisor", desc := "(JJ)J" } : Jvm.MethodName) prog_1_method_32_code (11 : Nat) (Option.some Jvm.ClassFile.FieldType.long)) ∈ qT := qT_2 (k := 147) rfl rfl
theorem mq_2_148 : (Jvm.Cond.methodLink "OutlookOddsLaw" (114 : Nat) ({ cls := "OutlookOddsLaw", name := "steady", desc := "(LOutlookOdds;I[J)I" } : Jvm.MethodName)) ∈ qT := qT_2 (k := 148) rfl rfl
theorem mq_2_149 : (Jvm.Cond.static ({ cls := "OutlookOddsLaw", name := "steady", desc := "(LOutlookOdds;I[J)I" } : Jvm.MethodName)) ∈ qT := qT_2 (k := 149) rfl rfl
theorem mq_2_150 : (Jvm.Cond.codeWith ({ cls := "OutlookOddsLaw", name := "steady", desc := "(LOutlookOdds;I[J)I" } : Jvm.MethodName) method_12_code (4 : Nat) (Option.some Jvm.ClassFile.FieldType.int) [((0 : Nat), (8 : Nat), (11 : Nat), (25 : Nat)), ((0 : Nat), (8 : Nat), (14 : Nat), (13 : Nat))]) ∈ qT := qT_2 (k := 150) rfl rfl
theorem mq_2_151 : (Jvm.Cond.methodLink "OutlookOddsLaw" (48 : Nat) ({ cls := "OutlookOdds", name := "steady", desc := "(I)J" } : Jvm.MethodName)) ∈ qT := qT_2 (k := 151) rfl rfl
theorem mq_2_152 : (Jvm.Cond.instanceMethod ({ cls := "OutlookOdds", name := "steady", desc := "(I)J" } : Jvm.MethodName)) ∈ qT := qT_2 (k := 152) rfl rfl
theorem mq_2_153 : (Jvm.Cond.selects "OutlookOdds" ({ cls := "OutlookOdds", name := "steady", desc := "(I)J" } : Jvm.MethodName) ({ cls := "OutlookOdds", name := "steady", desc := "(I)J" } : Jvm.MethodName)) ∈ qT := qT_2 (k := 153) rfl rfl
theorem mq_2_154 : (Jvm.Cond.code ({ cls := "OutlookOdds", name := "steady", desc := "(I)J" } : Jvm.MethodName) prog_1_method_12_code (5 : Nat) (Option.some Jvm.ClassFile.FieldType.long)) ∈ qT := qT_2 (k := 154) rfl rfl
theorem mq_2_155 : (Jvm.Cond.methodLink "OutlookOdds" (116 : Nat) ({ cls := "java/lang/Math", name := "abs", desc := "(J)J" } : Jvm.MethodName)) ∈ qT := qT_2 (k := 155) rfl rfl
theorem mq_2_156 : (Jvm.Cond.static ({ cls := "java/lang/Math", name := "abs", desc := "(J)J" } : Jvm.MethodName)) ∈ qT := qT_2 (k := 156) rfl rfl
theorem mq_2_157 : (Jvm.Cond.code ({ cls := "java/lang/Math", name := "abs", desc := "(J)J" } : Jvm.MethodName) prog_10_method_61_code (2 : Nat) (Option.some Jvm.ClassFile.FieldType.long)) ∈ qT := qT_2 (k := 157) rfl rfl
theorem mq_2_158 : (Jvm.Cond.methodLink "OutlookOddsLaw" (117 : Nat) ({ cls := "OutlookOddsLaw", name := "recovers", desc := "(LOutlookOdds;II[J)I" } : Jvm.MethodName)) ∈ qT := qT_2 (k := 158) rfl rfl
theorem mq_2_159 : (Jvm.Cond.static ({ cls := "OutlookOddsLaw", name := "recovers", desc := "(LOutlookOdds;II[J)I" } : Jvm.MethodName)) ∈ qT := qT_2 (k := 159) rfl rfl
theorem mq_2_160 : (Jvm.Cond.codeWith ({ cls := "OutlookOddsLaw", name := "recovers", desc := "(LOutlookOdds;II[J)I" } : Jvm.MethodName) method_13_code (5 : Nat) (Option.some Jvm.ClassFile.FieldType.int) [((0 : Nat), (10 : Nat), (13 : Nat), (25 : Nat)), ((0 : Nat), (10 : Nat), (17 : Nat), (13 : Nat)), ((0 : Nat), (10 : Nat), (21 : Nat), (15 : Nat))]) ∈ qT := qT_2 (k := 160) rfl rfl
theorem mq_2_161 : (Jvm.Cond.methodLink "OutlookOddsLaw" (52 : Nat) ({ cls := "OutlookOdds", name := "recovers", desc := "(II)I" } : Jvm.MethodName)) ∈ qT := qT_2 (k := 161) rfl rfl
theorem mq_2_162 : (Jvm.Cond.instanceMethod ({ cls := "OutlookOdds", name := "recovers", desc := "(II)I" } : Jvm.MethodName)) ∈ qT := qT_2 (k := 162) rfl rfl
theorem mq_2_163 : (Jvm.Cond.selects "OutlookOdds" ({ cls := "OutlookOdds", name := "recovers", desc := "(II)I" } : Jvm.MethodName) ({ cls := "OutlookOdds", name := "recovers", desc := "(II)I" } : Jvm.MethodName)) ∈ qT := qT_2 (k := 163) rfl rfl
theorem mq_2_164 : (Jvm.Cond.code ({ cls := "OutlookOdds", name := "recovers", desc := "(II)I" } : Jvm.MethodName) prog_1_method_13_code (5 : Nat) (Option.some Jvm.ClassFile.FieldType.int)) ∈ qT := qT_2 (k := 164) rfl rfl
theorem mq_2_165 : (Jvm.Cond.methodLink "OutlookOddsLaw" (120 : Nat) ({ cls := "OutlookOddsLaw", name := "rank", desc := "(LOutlookOdds;II[J)I" } : Jvm.MethodName)) ∈ qT := qT_2 (k := 165) rfl rfl
theorem mq_2_166 : (Jvm.Cond.static ({ cls := "OutlookOddsLaw", name := "rank", desc := "(LOutlookOdds;II[J)I" } : Jvm.MethodName)) ∈ qT := qT_2 (k := 166) rfl rfl
theorem mq_2_167 : (Jvm.Cond.codeWith ({ cls := "OutlookOddsLaw", name := "rank", desc := "(LOutlookOdds;II[J)I" } : Jvm.MethodName) method_14_code (5 : Nat) (Option.some Jvm.ClassFile.FieldType.int) [((0 : Nat), (9 : Nat), (12 : Nat), (25 : Nat)), ((0 : Nat), (9 : Nat), (16 : Nat), (13 : Nat))]) ∈ qT := qT_2 (k := 167) rfl rfl
theorem mq_2_168 : (Jvm.Cond.methodLink "OutlookOddsLaw" (55 : Nat) ({ cls := "OutlookOdds", name := "rank", desc := "(II)J" } : Jvm.MethodName)) ∈ qT := qT_2 (k := 168) rfl rfl
theorem mq_2_169 : (Jvm.Cond.instanceMethod ({ cls := "OutlookOdds", name := "rank", desc := "(II)J" } : Jvm.MethodName)) ∈ qT := qT_2 (k := 169) rfl rfl
theorem mq_2_170 : (Jvm.Cond.selects "OutlookOdds" ({ cls := "OutlookOdds", name := "rank", desc := "(II)J" } : Jvm.MethodName) ({ cls := "OutlookOdds", name := "rank", desc := "(II)J" } : Jvm.MethodName)) ∈ qT := qT_2 (k := 170) rfl rfl
theorem mq_2_171 : (Jvm.Cond.code ({ cls := "OutlookOdds", name := "rank", desc := "(II)J" } : Jvm.MethodName) prog_1_method_14_code (4 : Nat) (Option.some Jvm.ClassFile.FieldType.long)) ∈ qT := qT_2 (k := 171) rfl rfl
theorem mq_2_172 : (Jvm.Cond.methodLink "OutlookOdds" (122 : Nat) ({ cls := "OutlookOdds", name := "putInOrder", desc := "(IJ)V" } : Jvm.MethodName)) ∈ qT := qT_2 (k := 172) rfl rfl
theorem mq_2_174 : (Jvm.Cond.instanceMethod ({ cls := "OutlookOdds", name := "putInOrder", desc := "(IJ)V" } : Jvm.MethodName)) ∈ qT := qT_2 (k := 174) rfl rfl
theorem mq_2_175 : (Jvm.Cond.code ({ cls := "OutlookOdds", name := "putInOrder", desc := "(IJ)V" } : Jvm.MethodName) prog_1_method_30_code (5 : Nat) (Option.none : Option Jvm.ClassFile.FieldType)) ∈ qT := qT_2 (k := 175) rfl rfl
theorem mq_2_176 : (Jvm.Cond.methodLink "OutlookOddsLaw" (123 : Nat) ({ cls := "OutlookOddsLaw", name := "mean", desc := "(LOutlookOdds;II[J)I" } : Jvm.MethodName)) ∈ qT := qT_2 (k := 176) rfl rfl
theorem mq_2_177 : (Jvm.Cond.static ({ cls := "OutlookOddsLaw", name := "mean", desc := "(LOutlookOdds;II[J)I" } : Jvm.MethodName)) ∈ qT := qT_2 (k := 177) rfl rfl
theorem mq_2_178 : (Jvm.Cond.codeWith ({ cls := "OutlookOddsLaw", name := "mean", desc := "(LOutlookOdds;II[J)I" } : Jvm.MethodName) method_15_code (5 : Nat) (Option.some Jvm.ClassFile.FieldType.int) [((0 : Nat), (9 : Nat), (12 : Nat), (25 : Nat)), ((0 : Nat), (9 : Nat), (16 : Nat), (13 : Nat))]) ∈ qT := qT_2 (k := 178) rfl rfl
theorem mq_2_179 : (Jvm.Cond.methodLink "OutlookOddsLaw" (59 : Nat) ({ cls := "OutlookOdds", name := "mean", desc := "(II)J" } : Jvm.MethodName)) ∈ qT := qT_2 (k := 179) rfl rfl
theorem mq_2_180 : (Jvm.Cond.instanceMethod ({ cls := "OutlookOdds", name := "mean", desc := "(II)J" } : Jvm.MethodName)) ∈ qT := qT_2 (k := 180) rfl rfl
theorem mq_2_181 : (Jvm.Cond.selects "OutlookOdds" ({ cls := "OutlookOdds", name := "mean", desc := "(II)J" } : Jvm.MethodName) ({ cls := "OutlookOdds", name := "mean", desc := "(II)J" } : Jvm.MethodName)) ∈ qT := qT_2 (k := 181) rfl rfl
theorem mq_2_182 : (Jvm.Cond.code ({ cls := "OutlookOdds", name := "mean", desc := "(II)J" } : Jvm.MethodName) prog_1_method_15_code (3 : Nat) (Option.some Jvm.ClassFile.FieldType.long)) ∈ qT := qT_2 (k := 182) rfl rfl
theorem mq_2_183 : (Jvm.Cond.methodLink "OutlookOdds" (126 : Nat) ({ cls := "OutlookOdds", name := "sumOf", desc := "(LOutlookOdds$Story;II)J" } : Jvm.MethodName)) ∈ qT := qT_2 (k := 183) rfl rfl
theorem mq_2_185 : (Jvm.Cond.instanceMethod ({ cls := "OutlookOdds", name := "sumOf", desc := "(LOutlookOdds$Story;II)J" } : Jvm.MethodName)) ∈ qT := qT_2 (k := 185) rfl rfl
theorem mq_2_186 : (Jvm.Cond.code ({ cls := "OutlookOdds", name := "sumOf", desc := "(LOutlookOdds$Story;II)J" } : Jvm.MethodName) prog_1_method_26_code (8 : Nat) (Option.some Jvm.ClassFile.FieldType.long)) ∈ qT := qT_2 (k := 186) rfl rfl
theorem mq_2_187 : (Jvm.Cond.methodLink "OutlookOddsLaw" (126 : Nat) ({ cls := "OutlookOddsLaw", name := "table", desc := "(LOutlookOdds;I[J)I" } : Jvm.MethodName)) ∈ qT := qT_2 (k := 187) rfl rfl
theorem mq_2_188 : (Jvm.Cond.static ({ cls := "OutlookOddsLaw", name := "table", desc := "(LOutlookOdds;I[J)I" } : Jvm.MethodName)) ∈ qT := qT_2 (k := 188) rfl rfl
theorem mq_2_189 : (Jvm.Cond.codeWith ({ cls := "OutlookOddsLaw", name := "table", desc := "(LOutlookOdds;I[J)I" } : Jvm.MethodName) method_16_code (4 : Nat) (Option.some Jvm.ClassFile.FieldType.int) [((0 : Nat), (8 : Nat), (11 : Nat), (25 : Nat)), ((0 : Nat), (8 : Nat), (14 : Nat), (13 : Nat))]) ∈ qT := qT_2 (k := 189) rfl rfl
theorem mq_2_190 : (Jvm.Cond.methodLink "OutlookOddsLaw" (62 : Nat) ({ cls := "OutlookOdds", name := "table", desc := "(I)J" } : Jvm.MethodName)) ∈ qT := qT_2 (k := 190) rfl rfl
theorem mq_2_191 : (Jvm.Cond.instanceMethod ({ cls := "OutlookOdds", name := "table", desc := "(I)J" } : Jvm.MethodName)) ∈ qT := qT_2 (k := 191) rfl rfl
theorem mq_2_192 : (Jvm.Cond.selects "OutlookOdds" ({ cls := "OutlookOdds", name := "table", desc := "(I)J" } : Jvm.MethodName) ({ cls := "OutlookOdds", name := "table", desc := "(I)J" } : Jvm.MethodName)) ∈ qT := qT_2 (k := 192) rfl rfl
theorem mq_2_193 : (Jvm.Cond.code ({ cls := "OutlookOdds", name := "table", desc := "(I)J" } : Jvm.MethodName) prog_1_method_16_code (2 : Nat) (Option.some Jvm.ClassFile.FieldType.long)) ∈ qT := qT_2 (k := 193) rfl rfl
theorem mq_2_194 : (Jvm.Cond.methodLink "OutlookOdds" (130 : Nat) ({ cls := "OutlookOdds", name := "caughtAtRate", desc := "(I)J" } : Jvm.MethodName)) ∈ qT := qT_2 (k := 194) rfl rfl
theorem mq_2_196 : (Jvm.Cond.instanceMethod ({ cls := "OutlookOdds", name := "caughtAtRate", desc := "(I)J" } : Jvm.MethodName)) ∈ qT := qT_2 (k := 196) rfl rfl
theorem mq_2_197 : (Jvm.Cond.code ({ cls := "OutlookOdds", name := "caughtAtRate", desc := "(I)J" } : Jvm.MethodName) prog_1_method_25_code (2 : Nat) (Option.some Jvm.ClassFile.FieldType.long)) ∈ qT := qT_2 (k := 197) rfl rfl
theorem mq_2_198 : (Jvm.Cond.methodLink "OutlookOddsLaw" (129 : Nat) ({ cls := "OutlookOddsLaw", name := "top", desc := "(LOutlookOdds;[J)I" } : Jvm.MethodName)) ∈ qT := qT_2 (k := 198) rfl rfl
theorem mq_2_199 : (Jvm.Cond.static ({ cls := "OutlookOddsLaw", name := "top", desc := "(LOutlookOdds;[J)I" } : Jvm.MethodName)) ∈ qT := qT_2 (k := 199) rfl rfl
theorem mq_2_200 : (Jvm.Cond.codeWith ({ cls := "OutlookOddsLaw", name := "top", desc := "(LOutlookOdds;[J)I" } : Jvm.MethodName) method_17_code (3 : Nat) (Option.some Jvm.ClassFile.FieldType.int) [((0 : Nat), (8 : Nat), (11 : Nat), (25 : Nat))]) ∈ qT := qT_2 (k := 200) rfl rfl
theorem mq_2_201 : (Jvm.Cond.methodLink "OutlookOddsLaw" (65 : Nat) ({ cls := "OutlookOdds", name := "top", desc := "()I" } : Jvm.MethodName)) ∈ qT := qT_2 (k := 201) rfl rfl
theorem mq_2_202 : (Jvm.Cond.instanceMethod ({ cls := "OutlookOdds", name := "top", desc := "()I" } : Jvm.MethodName)) ∈ qT := qT_2 (k := 202) rfl rfl
theorem mq_2_203 : (Jvm.Cond.selects "OutlookOdds" ({ cls := "OutlookOdds", name := "top", desc := "()I" } : Jvm.MethodName) ({ cls := "OutlookOdds", name := "top", desc := "()I" } : Jvm.MethodName)) ∈ qT := qT_2 (k := 203) rfl rfl
theorem mq_2_204 : (Jvm.Cond.code ({ cls := "OutlookOdds", name := "top", desc := "()I" } : Jvm.MethodName) prog_1_method_17_code (7 : Nat) (Option.some Jvm.ClassFile.FieldType.int)) ∈ qT := qT_2 (k := 204) rfl rfl
theorem mq_2_205 : (Jvm.Cond.classLink "OutlookOddsLaw" (70 : Nat) "OutlookOddsModel") ∈ qT := qT_2 (k := 205) rfl rfl
theorem mq_2_206 : (Jvm.Cond.instantiable "OutlookOddsModel" (23 : Nat)) ∈ qT := qT_2 (k := 206) rfl rfl
theorem mq_2_207 : (Jvm.Cond.methodLink "OutlookOddsLaw" (72 : Nat) ({ cls := "OutlookOddsModel", name := "<init>", desc := "()V" } : Jvm.MethodName)) ∈ qT := qT_2 (k := 207) rfl rfl
theorem mq_2_208 : (Jvm.Cond.instanceMethod ({ cls := "OutlookOddsModel", name := "<init>", desc := "()V" } : Jvm.MethodName)) ∈ qT := qT_2 (k := 208) rfl rfl
theorem mq_2_209 : (Jvm.Cond.code ({ cls := "OutlookOddsModel", name := "<init>", desc := "()V" } : Jvm.MethodName) prog_5_method_1_code (1 : Nat) (Option.none : Option Jvm.ClassFile.FieldType)) ∈ qT := qT_2 (k := 209) rfl rfl
theorem mq_2_210 : (Jvm.Cond.methodLink "OutlookOddsModel" (1 : Nat) ({ cls := "java/lang/Object", name := "<init>", desc := "()V" } : Jvm.MethodName)) ∈ qT := qT_2 (k := 210) rfl rfl
theorem mq_2_211 : (Jvm.Cond.fieldLink "OutlookOddsModel" (51 : Nat) "OutlookOddsModel" "thrown" "I") ∈ qT := qT_2 (k := 211) rfl rfl
theorem mq_2_212 : (Jvm.Cond.fieldLink "OutlookOddsModel" (7 : Nat) "OutlookOddsModel" "numbers" "[J") ∈ qT := qT_2 (k := 212) rfl rfl
theorem mq_2_213 : (Jvm.Cond.fieldLink "OutlookOddsModel" (13 : Nat) "OutlookOddsModel" "weights" "[J") ∈ qT := qT_2 (k := 213) rfl rfl
theorem mq_2_214 : (Jvm.Cond.fieldLink "OutlookOddsModel" (16 : Nat) "OutlookOddsModel" "ripe" "[J") ∈ qT := qT_2 (k := 214) rfl rfl
theorem mq_2_215 : (Jvm.Cond.fieldLink "OutlookOddsModel" (19 : Nat) "OutlookOddsModel" "dies" "[J") ∈ qT := qT_2 (k := 215) rfl rfl
theorem mq_2_216 : (Jvm.Cond.fieldLink "OutlookOddsModel" (59 : Nat) "OutlookOddsModel" "young" "I") ∈ qT := qT_2 (k := 216) rfl rfl
theorem mq_2_217 : (Jvm.Cond.fieldLink "OutlookOddsModel" (63 : Nat) "OutlookOddsModel" "rules" "I") ∈ qT := qT_2 (k := 217) rfl rfl
theorem mq_2_218 : (Jvm.Cond.fieldLink "OutlookOddsModel" (22 : Nat) "OutlookOddsModel" "lows" "[J") ∈ qT := qT_2 (k := 218) rfl rfl
theorem mq_2_219 : (Jvm.Cond.fieldLink "OutlookOddsModel" (25 : Nat) "OutlookOddsModel" "highs" "[J") ∈ qT := qT_2 (k := 219) rfl rfl
theorem mq_2_220 : (Jvm.Cond.fieldLink "OutlookOddsModel" (28 : Nat) "OutlookOddsModel" "rates" "[I") ∈ qT := qT_2 (k := 220) rfl rfl
theorem mq_2_221 : (Jvm.Cond.fieldLink "OutlookOddsModel" (32 : Nat) "OutlookOddsModel" "change" "I") ∈ qT := qT_2 (k := 221) rfl rfl
theorem mq_2_222 : (Jvm.Cond.fieldLink "OutlookOddsModel" (66 : Nat) "OutlookOddsModel" "spread" "I") ∈ qT := qT_2 (k := 222) rfl rfl
theorem mq_2_223 : (Jvm.Cond.fieldLink "OutlookOddsModel" (69 : Nat) "OutlookOddsModel" "delay" "I") ∈ qT := qT_2 (k := 223) rfl rfl
theorem mq_2_224 : (Jvm.Cond.fieldLink "OutlookOddsModel" (72 : Nat) "OutlookOddsModel" "mark" "I") ∈ qT := qT_2 (k := 224) rfl rfl
theorem mq_2_225 : (Jvm.Cond.fieldLink "OutlookOddsModel" (101 : Nat) "OutlookOddsModel" "runs" "I") ∈ qT := qT_2 (k := 225) rfl rfl
theorem mq_2_226 : (Jvm.Cond.fieldLink "OutlookOddsModel" (92 : Nat) "OutlookOddsModel" "ranRule" "I") ∈ qT := qT_2 (k := 226) rfl rfl
theorem mq_2_227 : (Jvm.Cond.fieldLink "OutlookOddsModel" (95 : Nat) "OutlookOddsModel" "ranYears" "I") ∈ qT := qT_2 (k := 227) rfl rfl
theorem mq_2_228 : (Jvm.Cond.fieldLink "OutlookOddsModel" (98 : Nat) "OutlookOddsModel" "ranSeeds" "I") ∈ qT := qT_2 (k := 228) rfl rfl
theorem mq_2_229 : (Jvm.Cond.fieldLink "OutlookOddsModel" (36 : Nat) "OutlookOddsModel" "masses" "[J") ∈ qT := qT_2 (k := 229) rfl rfl
theorem mq_2_230 : (Jvm.Cond.fieldLink "OutlookOddsModel" (39 : Nat) "OutlookOddsModel" "caught" "[J") ∈ qT := qT_2 (k := 230) rfl rfl
theorem mq_2_231 : (Jvm.Cond.fieldLink "OutlookOddsModel" (42 : Nat) "OutlookOddsModel" "catches" "[J") ∈ qT := qT_2 (k := 231) rfl rfl
theorem mq_2_232 : (Jvm.Cond.fieldLink "OutlookOddsModel" (45 : Nat) "OutlookOddsModel" "seen" "[J") ∈ qT := qT_2 (k := 232) rfl rfl
theorem mq_2_233 : (Jvm.Cond.fieldLink "OutlookOddsModel" (48 : Nat) "OutlookOddsModel" "now" "[J") ∈ qT := qT_2 (k := 233) rfl rfl
theorem mq_2_234 : (Jvm.Cond.lays "OutlookOddsModel" "OutlookOddsModel" "thrown" "I") ∈ qT := qT_2 (k := 234) rfl rfl
theorem mq_2_235 : (Jvm.Cond.soleField "OutlookOddsModel" "thrown") ∈ qT := qT_2 (k := 235) rfl rfl
theorem mq_2_236 : (Jvm.Cond.laysFinal "OutlookOddsModel" "OutlookOddsModel" "numbers" "[J") ∈ qT := qT_2 (k := 236) rfl rfl
theorem mq_2_237 : (Jvm.Cond.soleField "OutlookOddsModel" "numbers") ∈ qT := qT_2 (k := 237) rfl rfl
theorem mq_2_238 : (Jvm.Cond.laysFinal "OutlookOddsModel" "OutlookOddsModel" "weights" "[J") ∈ qT := qT_2 (k := 238) rfl rfl
theorem mq_2_239 : (Jvm.Cond.soleField "OutlookOddsModel" "weights") ∈ qT := qT_2 (k := 239) rfl rfl
theorem mq_3_0 : (Jvm.Cond.laysFinal "OutlookOddsModel" "OutlookOddsModel" "ripe" "[J") ∈ qT := qT_3 (k := 0) rfl rfl
theorem mq_3_1 : (Jvm.Cond.soleField "OutlookOddsModel" "ripe") ∈ qT := qT_3 (k := 1) rfl rfl
theorem mq_3_2 : (Jvm.Cond.laysFinal "OutlookOddsModel" "OutlookOddsModel" "dies" "[J") ∈ qT := qT_3 (k := 2) rfl rfl
theorem mq_3_3 : (Jvm.Cond.soleField "OutlookOddsModel" "dies") ∈ qT := qT_3 (k := 3) rfl rfl
theorem mq_3_4 : (Jvm.Cond.lays "OutlookOddsModel" "OutlookOddsModel" "young" "I") ∈ qT := qT_3 (k := 4) rfl rfl
theorem mq_3_5 : (Jvm.Cond.soleField "OutlookOddsModel" "young") ∈ qT := qT_3 (k := 5) rfl rfl
theorem mq_3_6 : (Jvm.Cond.lays "OutlookOddsModel" "OutlookOddsModel" "rules" "I") ∈ qT := qT_3 (k := 6) rfl rfl
theorem mq_3_7 : (Jvm.Cond.soleField "OutlookOddsModel" "rules") ∈ qT := qT_3 (k := 7) rfl rfl
theorem mq_3_8 : (Jvm.Cond.laysFinal "OutlookOddsModel" "OutlookOddsModel" "lows" "[J") ∈ qT := qT_3 (k := 8) rfl rfl
theorem mq_3_9 : (Jvm.Cond.soleField "OutlookOddsModel" "lows") ∈ qT := qT_3 (k := 9) rfl rfl
theorem mq_3_10 : (Jvm.Cond.laysFinal "OutlookOddsModel" "OutlookOddsModel" "highs" "[J") ∈ qT := qT_3 (k := 10) rfl rfl
theorem mq_3_11 : (Jvm.Cond.soleField "OutlookOddsModel" "highs") ∈ qT := qT_3 (k := 11) rfl rfl
theorem mq_3_12 : (Jvm.Cond.laysFinal "OutlookOddsModel" "OutlookOddsModel" "rates" "[I") ∈ qT := qT_3 (k := 12) rfl rfl
theorem mq_3_13 : (Jvm.Cond.soleField "OutlookOddsModel" "rates") ∈ qT := qT_3 (k := 13) rfl rfl
theorem mq_3_14 : (Jvm.Cond.lays "OutlookOddsModel" "OutlookOddsModel" "change" "I") ∈ qT := qT_3 (k := 14) rfl rfl
theorem mq_3_15 : (Jvm.Cond.soleField "OutlookOddsModel" "change") ∈ qT := qT_3 (k := 15) rfl rfl
theorem mq_3_16 : (Jvm.Cond.lays "OutlookOddsModel" "OutlookOddsModel" "spread" "I") ∈ qT := qT_3 (k := 16) rfl rfl
theorem mq_3_17 : (Jvm.Cond.soleField "OutlookOddsModel" "spread") ∈ qT := qT_3 (k := 17) rfl rfl
theorem mq_3_18 : (Jvm.Cond.lays "OutlookOddsModel" "OutlookOddsModel" "delay" "I") ∈ qT := qT_3 (k := 18) rfl rfl
theorem mq_3_19 : (Jvm.Cond.soleField "OutlookOddsModel" "delay") ∈ qT := qT_3 (k := 19) rfl rfl
theorem mq_3_20 : (Jvm.Cond.lays "OutlookOddsModel" "OutlookOddsModel" "mark" "I") ∈ qT := qT_3 (k := 20) rfl rfl
theorem mq_3_21 : (Jvm.Cond.soleField "OutlookOddsModel" "mark") ∈ qT := qT_3 (k := 21) rfl rfl
theorem mq_3_22 : (Jvm.Cond.lays "OutlookOddsModel" "OutlookOddsModel" "runs" "I") ∈ qT := qT_3 (k := 22) rfl rfl
theorem mq_3_23 : (Jvm.Cond.soleField "OutlookOddsModel" "runs") ∈ qT := qT_3 (k := 23) rfl rfl
theorem mq_3_24 : (Jvm.Cond.lays "OutlookOddsModel" "OutlookOddsModel" "ranRule" "I") ∈ qT := qT_3 (k := 24) rfl rfl
theorem mq_3_25 : (Jvm.Cond.soleField "OutlookOddsModel" "ranRule") ∈ qT := qT_3 (k := 25) rfl rfl
theorem mq_3_26 : (Jvm.Cond.lays "OutlookOddsModel" "OutlookOddsModel" "ranYears" "I") ∈ qT := qT_3 (k := 26) rfl rfl
theorem mq_3_27 : (Jvm.Cond.soleField "OutlookOddsModel" "ranYears") ∈ qT := qT_3 (k := 27) rfl rfl
theorem mq_3_28 : (Jvm.Cond.lays "OutlookOddsModel" "OutlookOddsModel" "ranSeeds" "I") ∈ qT := qT_3 (k := 28) rfl rfl
theorem mq_3_29 : (Jvm.Cond.soleField "OutlookOddsModel" "ranSeeds") ∈ qT := qT_3 (k := 29) rfl rfl
theorem mq_3_30 : (Jvm.Cond.laysFinal "OutlookOddsModel" "OutlookOddsModel" "masses" "[J") ∈ qT := qT_3 (k := 30) rfl rfl
theorem mq_3_31 : (Jvm.Cond.soleField "OutlookOddsModel" "masses") ∈ qT := qT_3 (k := 31) rfl rfl
theorem mq_3_32 : (Jvm.Cond.laysFinal "OutlookOddsModel" "OutlookOddsModel" "caught" "[J") ∈ qT := qT_3 (k := 32) rfl rfl
theorem mq_3_33 : (Jvm.Cond.soleField "OutlookOddsModel" "caught") ∈ qT := qT_3 (k := 33) rfl rfl
theorem mq_3_34 : (Jvm.Cond.laysFinal "OutlookOddsModel" "OutlookOddsModel" "catches" "[J") ∈ qT := qT_3 (k := 34) rfl rfl
theorem mq_3_35 : (Jvm.Cond.soleField "OutlookOddsModel" "catches") ∈ qT := qT_3 (k := 35) rfl rfl
theorem mq_3_36 : (Jvm.Cond.laysFinal "OutlookOddsModel" "OutlookOddsModel" "seen" "[J") ∈ qT := qT_3 (k := 36) rfl rfl
theorem mq_3_37 : (Jvm.Cond.soleField "OutlookOddsModel" "seen") ∈ qT := qT_3 (k := 37) rfl rfl
theorem mq_3_38 : (Jvm.Cond.laysFinal "OutlookOddsModel" "OutlookOddsModel" "now" "[J") ∈ qT := qT_3 (k := 38) rfl rfl
theorem mq_3_39 : (Jvm.Cond.soleField "OutlookOddsModel" "now") ∈ qT := qT_3 (k := 39) rfl rfl
theorem mq_3_41 : (Jvm.Cond.methodLink "OutlookOddsLaw" (79 : Nat) ({ cls := "OutlookOddsModel", name := "thrown", desc := "()I" } : Jvm.MethodName)) ∈ qT := qT_3 (k := 41) rfl rfl
theorem mq_3_42 : (Jvm.Cond.instanceMethod ({ cls := "OutlookOddsModel", name := "thrown", desc := "()I" } : Jvm.MethodName)) ∈ qT := qT_3 (k := 42) rfl rfl
theorem mq_3_43 : (Jvm.Cond.selects "OutlookOddsModel" ({ cls := "OutlookOddsModel", name := "thrown", desc := "()I" } : Jvm.MethodName) ({ cls := "OutlookOddsModel", name := "thrown", desc := "()I" } : Jvm.MethodName)) ∈ qT := qT_3 (k := 43) rfl rfl
theorem mq_3_44 : (Jvm.Cond.code ({ cls := "OutlookOddsModel", name := "thrown", desc := "()I" } : Jvm.MethodName) prog_5_method_2_code (1 : Nat) (Option.some Jvm.ClassFile.FieldType.int)) ∈ qT := qT_3 (k := 44) rfl rfl
theorem mq_3_45 : (Jvm.Cond.methodLink "OutlookOddsLaw" (78 : Nat) ({ cls := "OutlookOddsModel", name := "age", desc := "(IIIII)V" } : Jvm.MethodName)) ∈ qT := qT_3 (k := 45) rfl rfl
theorem mq_3_46 : (Jvm.Cond.instanceMethod ({ cls := "OutlookOddsModel", name := "age", desc := "(IIIII)V" } : Jvm.MethodName)) ∈ qT := qT_3 (k := 46) rfl rfl
theorem mq_3_47 : (Jvm.Cond.selects "OutlookOddsModel" ({ cls := "OutlookOddsModel", name := "age", desc := "(IIIII)V" } : Jvm.MethodName) ({ cls := "OutlookOddsModel", name := "age", desc := "(IIIII)V" } : Jvm.MethodName)) ∈ qT := qT_3 (k := 47) rfl rfl
theorem mq_3_48 : (Jvm.Cond.code ({ cls := "OutlookOddsModel", name := "age", desc := "(IIIII)V" } : Jvm.MethodName) prog_5_method_4_code (7 : Nat) (Option.none : Option Jvm.ClassFile.FieldType)) ∈ qT := qT_3 (k := 48) rfl rfl
theorem mq_3_49 : (Jvm.Cond.constant "OutlookOddsModel" (54 : Nat) (100000 : Int32)) ∈ qT := qT_3 (k := 49) rfl rfl
theorem mq_3_50 : (Jvm.Cond.methodLink "OutlookOddsModel" (55 : Nat) ({ cls := "OutlookOddsModel", name := "isIn", desc := "(III)Z" } : Jvm.MethodName)) ∈ qT := qT_3 (k := 50) rfl rfl
theorem mq_3_51 : (Jvm.Cond.static ({ cls := "OutlookOddsModel", name := "isIn", desc := "(III)Z" } : Jvm.MethodName)) ∈ qT := qT_3 (k := 51) rfl rfl
theorem mq_3_52 : (Jvm.Cond.code ({ cls := "OutlookOddsModel", name := "isIn", desc := "(III)Z" } : Jvm.MethodName) prog_5_method_3_code (3 : Nat) (Option.some Jvm.ClassFile.FieldType.boolean)) ∈ qT := qT_3 (k := 52) rfl rfl
theorem mq_3_53 : (Jvm.Cond.methodLink "OutlookOddsLaw" (85 : Nat) ({ cls := "OutlookOddsModel", name := "young", desc := "(I)I" } : Jvm.MethodName)) ∈ qT := qT_3 (k := 53) rfl rfl
theorem mq_3_54 : (Jvm.Cond.instanceMethod ({ cls := "OutlookOddsModel", name := "young", desc := "(I)I" } : Jvm.MethodName)) ∈ qT := qT_3 (k := 54) rfl rfl
theorem mq_3_55 : (Jvm.Cond.selects "OutlookOddsModel" ({ cls := "OutlookOddsModel", name := "young", desc := "(I)I" } : Jvm.MethodName) ({ cls := "OutlookOddsModel", name := "young", desc := "(I)I" } : Jvm.MethodName)) ∈ qT := qT_3 (k := 55) rfl rfl
theorem mq_3_56 : (Jvm.Cond.code ({ cls := "OutlookOddsModel", name := "young", desc := "(I)I" } : Jvm.MethodName) prog_5_method_5_code (3 : Nat) (Option.some Jvm.ClassFile.FieldType.int)) ∈ qT := qT_3 (k := 56) rfl rfl
theorem mq_3_57 : (Jvm.Cond.methodLink "OutlookOddsLaw" (89 : Nat) ({ cls := "OutlookOddsModel", name := "rule", desc := "(III)I" } : Jvm.MethodName)) ∈ qT := qT_3 (k := 57) rfl rfl
theorem mq_3_58 : (Jvm.Cond.instanceMethod ({ cls := "OutlookOddsModel", name := "rule", desc := "(III)I" } : Jvm.MethodName)) ∈ qT := qT_3 (k := 58) rfl rfl
theorem mq_3_59 : (Jvm.Cond.selects "OutlookOddsModel" ({ cls := "OutlookOddsModel", name := "rule", desc := "(III)I" } : Jvm.MethodName) ({ cls := "OutlookOddsModel", name := "rule", desc := "(III)I" } : Jvm.MethodName)) ∈ qT := qT_3 (k := 59) rfl rfl
theorem mq_3_60 : (Jvm.Cond.code ({ cls := "OutlookOddsModel", name := "rule", desc := "(III)I" } : Jvm.MethodName) prog_5_method_6_code (5 : Nat) (Option.some Jvm.ClassFile.FieldType.int)) ∈ qT := qT_3 (k := 60) rfl rfl
theorem mq_3_61 : (Jvm.Cond.constant "OutlookOddsModel" (62 : Nat) (2000000000 : Int32)) ∈ qT := qT_3 (k := 61) rfl rfl
theorem mq_3_62 : (Jvm.Cond.methodLink "OutlookOddsLaw" (92 : Nat) ({ cls := "OutlookOddsModel", name := "change", desc := "(I)I" } : Jvm.MethodName)) ∈ qT := qT_3 (k := 62) rfl rfl
theorem mq_3_63 : (Jvm.Cond.instanceMethod ({ cls := "OutlookOddsModel", name := "change", desc := "(I)I" } : Jvm.MethodName)) ∈ qT := qT_3 (k := 63) rfl rfl
theorem mq_3_64 : (Jvm.Cond.selects "OutlookOddsModel" ({ cls := "OutlookOddsModel", name := "change", desc := "(I)I" } : Jvm.MethodName) ({ cls := "OutlookOddsModel", name := "change", desc := "(I)I" } : Jvm.MethodName)) ∈ qT := qT_3 (k := 64) rfl rfl
theorem mq_3_65 : (Jvm.Cond.code ({ cls := "OutlookOddsModel", name := "change", desc := "(I)I" } : Jvm.MethodName) prog_5_method_7_code (3 : Nat) (Option.some Jvm.ClassFile.FieldType.int)) ∈ qT := qT_3 (k := 65) rfl rfl
theorem mq_3_66 : (Jvm.Cond.methodLink "OutlookOddsLaw" (96 : Nat) ({ cls := "OutlookOddsModel", name := "error", desc := "(II)V" } : Jvm.MethodName)) ∈ qT := qT_3 (k := 66) rfl rfl
theorem mq_3_67 : (Jvm.Cond.instanceMethod ({ cls := "OutlookOddsModel", name := "error", desc := "(II)V" } : Jvm.MethodName)) ∈ qT := qT_3 (k := 67) rfl rfl
theorem mq_3_68 : (Jvm.Cond.selects "OutlookOddsModel" ({ cls := "OutlookOddsModel", name := "error", desc := "(II)V" } : Jvm.MethodName) ({ cls := "OutlookOddsModel", name := "error", desc := "(II)V" } : Jvm.MethodName)) ∈ qT := qT_3 (k := 68) rfl rfl
theorem mq_3_69 : (Jvm.Cond.code ({ cls := "OutlookOddsModel", name := "error", desc := "(II)V" } : Jvm.MethodName) prog_5_method_8_code (3 : Nat) (Option.none : Option Jvm.ClassFile.FieldType)) ∈ qT := qT_3 (k := 69) rfl rfl
theorem mq_3_70 : (Jvm.Cond.methodLink "OutlookOddsLaw" (99 : Nat) ({ cls := "OutlookOddsModel", name := "mark", desc := "(I)I" } : Jvm.MethodName)) ∈ qT := qT_3 (k := 70) rfl rfl
theorem mq_3_71 : (Jvm.Cond.instanceMethod ({ cls := "OutlookOddsModel", name := "mark", desc := "(I)I" } : Jvm.MethodName)) ∈ qT := qT_3 (k := 71) rfl rfl
theorem mq_3_72 : (Jvm.Cond.selects "OutlookOddsModel" ({ cls := "OutlookOddsModel", name := "mark", desc := "(I)I" } : Jvm.MethodName) ({ cls := "OutlookOddsModel", name := "mark", desc := "(I)I" } : Jvm.MethodName)) ∈ qT := qT_3 (k := 72) rfl rfl
theorem mq_3_73 : (Jvm.Cond.code ({ cls := "OutlookOddsModel", name := "mark", desc := "(I)I" } : Jvm.MethodName) prog_5_method_9_code (3 : Nat) (Option.some Jvm.ClassFile.FieldType.int)) ∈ qT := qT_3 (k := 73) rfl rfl
theorem mq_3_74 : (Jvm.Cond.methodLink "OutlookOddsLaw" (103 : Nat) ({ cls := "OutlookOddsModel", name := "draw", desc := "(III)I" } : Jvm.MethodName)) ∈ qT := qT_3 (k := 74) rfl rfl
theorem mq_3_75 : (Jvm.Cond.instanceMethod ({ cls := "OutlookOddsModel", name := "draw", desc := "(III)I" } : Jvm.MethodName)) ∈ qT := qT_3 (k := 75) rfl rfl
theorem mq_3_76 : (Jvm.Cond.selects "OutlookOddsModel" ({ cls := "OutlookOddsModel", name := "draw", desc := "(III)I" } : Jvm.MethodName) ({ cls := "OutlookOddsModel", name := "draw", desc := "(III)I" } : Jvm.MethodName)) ∈ qT := qT_3 (k := 76) rfl rfl
theorem mq_3_77 : (Jvm.Cond.code ({ cls := "OutlookOddsModel", name := "draw", desc := "(III)I" } : Jvm.MethodName) prog_5_method_11_code (4 : Nat) (Option.some Jvm.ClassFile.FieldType.int)) ∈ qT := qT_3 (k := 77) rfl rfl
theorem mq_3_78 : (Jvm.Cond.methodLink "OutlookOddsModel" (76 : Nat) ({ cls := "OutlookOddsModel", name := "drawn", desc := "(III)I" } : Jvm.MethodName)) ∈ qT := qT_3 (k := 78) rfl rfl
theorem mq_3_79 : (Jvm.Cond.static ({ cls := "OutlookOddsModel", name := "drawn", desc := "(III)I" } : Jvm.MethodName)) ∈ qT := qT_3 (k := 79) rfl rfl
theorem mq_3_80 : (Jvm.Cond.code ({ cls := "OutlookOddsModel", name := "drawn", desc := "(III)I" } : Jvm.MethodName) prog_5_method_10_code (5 : Nat) (Option.some Jvm.ClassFile.FieldType.int)) ∈ qT := qT_3 (k := 80) rfl rfl
theorem mq_3_81 : (Jvm.Cond.constant "OutlookOddsModel" (75 : Nat) (1103515245 : Int32)) ∈ qT := qT_3 (k := 81) rfl rfl
theorem mq_3_82 : (Jvm.Cond.methodLink "OutlookOddsLaw" (106 : Nat) ({ cls := "OutlookOddsModel", name := "run", desc := "(III)I" } : Jvm.MethodName)) ∈ qT := qT_3 (k := 82) rfl rfl
theorem mq_3_83 : (Jvm.Cond.instanceMethod ({ cls := "OutlookOddsModel", name := "run", desc := "(III)I" } : Jvm.MethodName)) ∈ qT := qT_3 (k := 83) rfl rfl
theorem mq_3_84 : (Jvm.Cond.selects "OutlookOddsModel" ({ cls := "OutlookOddsModel", name := "run", desc := "(III)I" } : Jvm.MethodName) ({ cls := "OutlookOddsModel", name := "run", desc := "(III)I" } : Jvm.MethodName)) ∈ qT := qT_3 (k := 84) rfl rfl
theorem mq_3_85 : (Jvm.Cond.code ({ cls := "OutlookOddsModel", name := "run", desc := "(III)I" } : Jvm.MethodName) prog_5_method_15_code (8 : Nat) (Option.some Jvm.ClassFile.FieldType.int)) ∈ qT := qT_3 (k := 85) rfl rfl
theorem mq_3_86 : (Jvm.Cond.methodLink "OutlookOddsModel" (104 : Nat) ({ cls := "OutlookOddsModel", name := "go", desc := "(IIIII)V" } : Jvm.MethodName)) ∈ qT := qT_3 (k := 86) rfl rfl
theorem mq_3_88 : (Jvm.Cond.instanceMethod ({ cls := "OutlookOddsModel", name := "go", desc := "(IIIII)V" } : Jvm.MethodName)) ∈ qT := qT_3 (k := 88) rfl rfl
theorem mq_3_89 : (Jvm.Cond.code ({ cls := "OutlookOddsModel", name := "go", desc := "(IIIII)V" } : Jvm.MethodName) prog_5_method_14_code (8 : Nat) (Option.none : Option Jvm.ClassFile.FieldType)) ∈ qT := qT_3 (k := 89) rfl rfl
theorem mq_3_90 : (Jvm.Cond.methodLink "OutlookOddsModel" (88 : Nat) ({ cls := "OutlookOddsModel", name := "year", desc := "(IIIII)V" } : Jvm.MethodName)) ∈ qT := qT_3 (k := 90) rfl rfl
theorem mq_3_92 : (Jvm.Cond.instanceMethod ({ cls := "OutlookOddsModel", name := "year", desc := "(IIIII)V" } : Jvm.MethodName)) ∈ qT := qT_3 (k := 92) rfl rfl
theorem mq_3_93 : (Jvm.Cond.code ({ cls := "OutlookOddsModel", name := "year", desc := "(IIIII)V" } : Jvm.MethodName) prog_5_method_13_code (18 : Nat) (Option.none : Option Jvm.ClassFile.FieldType)) ∈ qT := qT_3 (k := 93) rfl rfl
theorem mq_3_94 : (Jvm.Cond.constantLong "OutlookOddsModel" (80 : Nat) (1000 : Int64)) ∈ qT := qT_3 (k := 94) rfl rfl
theorem mq_3_95 : (Jvm.Cond.constantLong "OutlookOddsModel" (82 : Nat) (100 : Int64)) ∈ qT := qT_3 (k := 95) rfl rfl
theorem mq_3_96 : (Jvm.Cond.methodLink "OutlookOddsModel" (84 : Nat) ({ cls := "OutlookOddsModel", name := "allowed", desc := "(IIJ)J" } : Jvm.MethodName)) ∈ qT := qT_3 (k := 96) rfl rfl
theorem mq_3_98 : (Jvm.Cond.instanceMethod ({ cls := "OutlookOddsModel", name := "allowed", desc := "(IIJ)J" } : Jvm.MethodName)) ∈ qT := qT_3 (k := 98) rfl rfl
theorem mq_3_99 : (Jvm.Cond.code ({ cls := "OutlookOddsModel", name := "allowed", desc := "(IIJ)J" } : Jvm.MethodName) prog_5_method_12_code (5 : Nat) (Option.some Jvm.ClassFile.FieldType.long)) ∈ qT := qT_3 (k := 99) rfl rfl
theorem mq_3_100 : (Jvm.Cond.methodLink "OutlookOddsLaw" (109 : Nat) ({ cls := "OutlookOddsModel", name := "told", desc := "(III)J" } : Jvm.MethodName)) ∈ qT := qT_3 (k := 100) rfl rfl
theorem mq_3_101 : (Jvm.Cond.instanceMethod ({ cls := "OutlookOddsModel", name := "told", desc := "(III)J" } : Jvm.MethodName)) ∈ qT := qT_3 (k := 101) rfl rfl
theorem mq_3_102 : (Jvm.Cond.selects "OutlookOddsModel" ({ cls := "OutlookOddsModel", name := "told", desc := "(III)J" } : Jvm.MethodName) ({ cls := "OutlookOddsModel", name := "told", desc := "(III)J" } : Jvm.MethodName)) ∈ qT := qT_3 (k := 102) rfl rfl
theorem mq_3_103 : (Jvm.Cond.code ({ cls := "OutlookOddsModel", name := "told", desc := "(III)J" } : Jvm.MethodName) prog_5_method_18_code (5 : Nat) (Option.some Jvm.ClassFile.FieldType.long)) ∈ qT := qT_3 (k := 103) rfl rfl
theorem mq_3_104 : (Jvm.Cond.methodLink "OutlookOddsModel" (107 : Nat) ({ cls := "OutlookOddsModel", name := "noSeed", desc := "(I)Z" } : Jvm.MethodName)) ∈ qT := qT_3 (k := 104) rfl rfl
theorem mq_3_106 : (Jvm.Cond.instanceMethod ({ cls := "OutlookOddsModel", name := "noSeed", desc := "(I)Z" } : Jvm.MethodName)) ∈ qT := qT_3 (k := 106) rfl rfl
theorem mq_3_107 : (Jvm.Cond.code ({ cls := "OutlookOddsModel", name := "noSeed", desc := "(I)Z" } : Jvm.MethodName) prog_5_method_17_code (2 : Nat) (Option.some Jvm.ClassFile.FieldType.boolean)) ∈ qT := qT_3 (k := 107) rfl rfl
theorem mq_3_108 : (Jvm.Cond.methodLink "OutlookOddsModel" (111 : Nat) ({ cls := "OutlookOddsModel", name := "noYear", desc := "(I)Z" } : Jvm.MethodName)) ∈ qT := qT_3 (k := 108) rfl rfl
theorem mq_3_110 : (Jvm.Cond.instanceMethod ({ cls := "OutlookOddsModel", name := "noYear", desc := "(I)Z" } : Jvm.MethodName)) ∈ qT := qT_3 (k := 110) rfl rfl
theorem mq_3_111 : (Jvm.Cond.code ({ cls := "OutlookOddsModel", name := "noYear", desc := "(I)Z" } : Jvm.MethodName) prog_5_method_16_code (2 : Nat) (Option.some Jvm.ClassFile.FieldType.boolean)) ∈ qT := qT_3 (k := 111) rfl rfl
theorem mq_3_112 : (Jvm.Cond.methodLink "OutlookOddsLaw" (113 : Nat) ({ cls := "OutlookOddsModel", name := "below", desc := "(II)I" } : Jvm.MethodName)) ∈ qT := qT_3 (k := 112) rfl rfl
theorem mq_3_113 : (Jvm.Cond.instanceMethod ({ cls := "OutlookOddsModel", name := "below", desc := "(II)I" } : Jvm.MethodName)) ∈ qT := qT_3 (k := 113) rfl rfl
theorem mq_3_114 : (Jvm.Cond.selects "OutlookOddsModel" ({ cls := "OutlookOddsModel", name := "below", desc := "(II)I" } : Jvm.MethodName) ({ cls := "OutlookOddsModel", name := "below", desc := "(II)I" } : Jvm.MethodName)) ∈ qT := qT_3 (k := 114) rfl rfl
theorem mq_3_115 : (Jvm.Cond.code ({ cls := "OutlookOddsModel", name := "below", desc := "(II)I" } : Jvm.MethodName) prog_5_method_20_code (5 : Nat) (Option.some Jvm.ClassFile.FieldType.int)) ∈ qT := qT_3 (k := 115) rfl rfl
theorem mq_3_116 : (Jvm.Cond.methodLink "OutlookOddsModel" (114 : Nat) ({ cls := "OutlookOddsModel", name := "part", desc := "(JJI)J" } : Jvm.MethodName)) ∈ qT := qT_3 (k := 116) rfl rfl
theorem mq_3_117 : (Jvm.Cond.static ({ cls := "OutlookOddsModel", name := "part", desc := "(JJI)J" } : Jvm.MethodName)) ∈ qT := qT_3 (k := 117) rfl rfl
theorem mq_3_118 : (Jvm.Cond.code ({ cls := "OutlookOddsModel", name := "part", desc := "(JJI)J" } : Jvm.MethodName) prog_5_method_19_code (11 : Nat) (Option.some Jvm.ClassFile.FieldType.long)) ∈ qT := qT_3 (k := 118) rfl rfl
theorem mq_3_119 : (Jvm.Cond.methodLink "OutlookOddsLaw" (116 : Nat) ({ cls := "OutlookOddsModel", name := "steady", desc := "(I)J" } : Jvm.MethodName)) ∈ qT := qT_3 (k := 119) rfl rfl
theorem mq_3_120 : (Jvm.Cond.instanceMethod ({ cls := "OutlookOddsModel", name := "steady", desc := "(I)J" } : Jvm.MethodName)) ∈ qT := qT_3 (k := 120) rfl rfl
theorem mq_3_121 : (Jvm.Cond.selects "OutlookOddsModel" ({ cls := "OutlookOddsModel", name := "steady", desc := "(I)J" } : Jvm.MethodName) ({ cls := "OutlookOddsModel", name := "steady", desc := "(I)J" } : Jvm.MethodName)) ∈ qT := qT_3 (k := 121) rfl rfl
theorem mq_3_122 : (Jvm.Cond.code ({ cls := "OutlookOddsModel", name := "steady", desc := "(I)J" } : Jvm.MethodName) prog_5_method_21_code (7 : Nat) (Option.some Jvm.ClassFile.FieldType.long)) ∈ qT := qT_3 (k := 122) rfl rfl
theorem mq_3_123 : (Jvm.Cond.methodLink "OutlookOddsLaw" (119 : Nat) ({ cls := "OutlookOddsModel", name := "recovers", desc := "(II)I" } : Jvm.MethodName)) ∈ qT := qT_3 (k := 123) rfl rfl
theorem mq_3_124 : (Jvm.Cond.instanceMethod ({ cls := "OutlookOddsModel", name := "recovers", desc := "(II)I" } : Jvm.MethodName)) ∈ qT := qT_3 (k := 124) rfl rfl
theorem mq_3_125 : (Jvm.Cond.selects "OutlookOddsModel" ({ cls := "OutlookOddsModel", name := "recovers", desc := "(II)I" } : Jvm.MethodName) ({ cls := "OutlookOddsModel", name := "recovers", desc := "(II)I" } : Jvm.MethodName)) ∈ qT := qT_3 (k := 125) rfl rfl
theorem mq_3_126 : (Jvm.Cond.code ({ cls := "OutlookOddsModel", name := "recovers", desc := "(II)I" } : Jvm.MethodName) prog_5_method_22_code (6 : Nat) (Option.some Jvm.ClassFile.FieldType.int)) ∈ qT := qT_3 (k := 126) rfl rfl
theorem mq_3_127 : (Jvm.Cond.methodLink "OutlookOddsLaw" (122 : Nat) ({ cls := "OutlookOddsModel", name := "rank", desc := "(II)J" } : Jvm.MethodName)) ∈ qT := qT_3 (k := 127) rfl rfl
theorem mq_3_128 : (Jvm.Cond.instanceMethod ({ cls := "OutlookOddsModel", name := "rank", desc := "(II)J" } : Jvm.MethodName)) ∈ qT := qT_3 (k := 128) rfl rfl
theorem mq_3_129 : (Jvm.Cond.selects "OutlookOddsModel" ({ cls := "OutlookOddsModel", name := "rank", desc := "(II)J" } : Jvm.MethodName) ({ cls := "OutlookOddsModel", name := "rank", desc := "(II)J" } : Jvm.MethodName)) ∈ qT := qT_3 (k := 129) rfl rfl
theorem mq_3_130 : (Jvm.Cond.code ({ cls := "OutlookOddsModel", name := "rank", desc := "(II)J" } : Jvm.MethodName) prog_5_method_23_code (8 : Nat) (Option.some Jvm.ClassFile.FieldType.long)) ∈ qT := qT_3 (k := 130) rfl rfl
theorem mq_3_131 : (Jvm.Cond.methodLink "OutlookOddsLaw" (125 : Nat) ({ cls := "OutlookOddsModel", name := "mean", desc := "(II)J" } : Jvm.MethodName)) ∈ qT := qT_3 (k := 131) rfl rfl
theorem mq_3_132 : (Jvm.Cond.instanceMethod ({ cls := "OutlookOddsModel", name := "mean", desc := "(II)J" } : Jvm.MethodName)) ∈ qT := qT_3 (k := 132) rfl rfl
theorem mq_3_133 : (Jvm.Cond.selects "OutlookOddsModel" ({ cls := "OutlookOddsModel", name := "mean", desc := "(II)J" } : Jvm.MethodName) ({ cls := "OutlookOddsModel", name := "mean", desc := "(II)J" } : Jvm.MethodName)) ∈ qT := qT_3 (k := 133) rfl rfl
theorem mq_3_134 : (Jvm.Cond.code ({ cls := "OutlookOddsModel", name := "mean", desc := "(II)J" } : Jvm.MethodName) prog_5_method_25_code (6 : Nat) (Option.some Jvm.ClassFile.FieldType.long)) ∈ qT := qT_3 (k := 134) rfl rfl
theorem mq_3_135 : (Jvm.Cond.methodLink "OutlookOddsModel" (118 : Nat) ({ cls := "OutlookOddsModel", name := "allCaught", desc := "(I)J" } : Jvm.MethodName)) ∈ qT := qT_3 (k := 135) rfl rfl
theorem mq_3_137 : (Jvm.Cond.instanceMethod ({ cls := "OutlookOddsModel", name := "allCaught", desc := "(I)J" } : Jvm.MethodName)) ∈ qT := qT_3 (k := 137) rfl rfl
theorem mq_3_138 : (Jvm.Cond.code ({ cls := "OutlookOddsModel", name := "allCaught", desc := "(I)J" } : Jvm.MethodName) prog_5_method_24_code (6 : Nat) (Option.some Jvm.ClassFile.FieldType.long)) ∈ qT := qT_3 (k := 138) rfl rfl
theorem mq_3_139 : (Jvm.Cond.methodLink "OutlookOddsLaw" (128 : Nat) ({ cls := "OutlookOddsModel", name := "table", desc := "(I)J" } : Jvm.MethodName)) ∈ qT := qT_3 (k := 139) rfl rfl
theorem mq_3_140 : (Jvm.Cond.instanceMethod ({ cls := "OutlookOddsModel", name := "table", desc := "(I)J" } : Jvm.MethodName)) ∈ qT := qT_3 (k := 140) rfl rfl
theorem mq_3_141 : (Jvm.Cond.selects "OutlookOddsModel" ({ cls := "OutlookOddsModel", name := "table", desc := "(I)J" } : Jvm.MethodName) ({ cls := "OutlookOddsModel", name := "table", desc := "(I)J" } : Jvm.MethodName)) ∈ qT := qT_3 (k := 141) rfl rfl
theorem mq_3_142 : (Jvm.Cond.code ({ cls := "OutlookOddsModel", name := "table", desc := "(I)J" } : Jvm.MethodName) prog_5_method_27_code (2 : Nat) (Option.some Jvm.ClassFile.FieldType.long)) ∈ qT := qT_3 (k := 142) rfl rfl
theorem mq_3_143 : (Jvm.Cond.methodLink "OutlookOddsModel" (122 : Nat) ({ cls := "OutlookOddsModel", name := "tableOf", desc := "(I)J" } : Jvm.MethodName)) ∈ qT := qT_3 (k := 143) rfl rfl
theorem mq_3_145 : (Jvm.Cond.instanceMethod ({ cls := "OutlookOddsModel", name := "tableOf", desc := "(I)J" } : Jvm.MethodName)) ∈ qT := qT_3 (k := 145) rfl rfl
theorem mq_3_146 : (Jvm.Cond.code ({ cls := "OutlookOddsModel", name := "tableOf", desc := "(I)J" } : Jvm.MethodName) prog_5_method_26_code (2 : Nat) (Option.some Jvm.ClassFile.FieldType.long)) ∈ qT := qT_3 (k := 146) rfl rfl
theorem mq_3_147 : (Jvm.Cond.methodLink "OutlookOddsLaw" (132 : Nat) ({ cls := "OutlookOddsModel", name := "top", desc := "()I" } : Jvm.MethodName)) ∈ qT := qT_3 (k := 147) rfl rfl
theorem mq_3_148 : (Jvm.Cond.instanceMethod ({ cls := "OutlookOddsModel", name := "top", desc := "()I" } : Jvm.MethodName)) ∈ qT := qT_3 (k := 148) rfl rfl
theorem mq_3_149 : (Jvm.Cond.selects "OutlookOddsModel" ({ cls := "OutlookOddsModel", name := "top", desc := "()I" } : Jvm.MethodName) ({ cls := "OutlookOddsModel", name := "top", desc := "()I" } : Jvm.MethodName)) ∈ qT := qT_3 (k := 149) rfl rfl
theorem mq_3_150 : (Jvm.Cond.code ({ cls := "OutlookOddsModel", name := "top", desc := "()I" } : Jvm.MethodName) prog_5_method_28_code (7 : Nat) (Option.some Jvm.ClassFile.FieldType.int)) ∈ qT := qT_3 (k := 150) rfl rfl
theorem mq_3_151 : (Jvm.Cond.constantLong "OutlookOddsModel" (125 : Nat) (-1 : Int64)) ∈ qT := qT_3 (k := 151) rfl rfl
theorem mq_3_152 : (Jvm.Cond.methodLink "OutlookOddsLaw" (136 : Nat) ({ cls := "OutlookOddsModel", name := "count", desc := "(I)I" } : Jvm.MethodName)) ∈ qT := qT_3 (k := 152) rfl rfl
theorem mq_3_153 : (Jvm.Cond.instanceMethod ({ cls := "OutlookOddsModel", name := "count", desc := "(I)I" } : Jvm.MethodName)) ∈ qT := qT_3 (k := 153) rfl rfl
theorem mq_3_154 : (Jvm.Cond.selects "OutlookOddsModel" ({ cls := "OutlookOddsModel", name := "count", desc := "(I)I" } : Jvm.MethodName) ({ cls := "OutlookOddsModel", name := "count", desc := "(I)I" } : Jvm.MethodName)) ∈ qT := qT_3 (k := 154) rfl rfl
theorem mq_3_155 : (Jvm.Cond.code ({ cls := "OutlookOddsModel", name := "count", desc := "(I)I" } : Jvm.MethodName) prog_5_method_29_code (2 : Nat) (Option.some Jvm.ClassFile.FieldType.int)) ∈ qT := qT_3 (k := 155) rfl rfl
theorem mq_p_0 : Cond.selects "java/lang/Throwable" ({ cls := "java/lang/Throwable", name := "fillInStackTrace", desc := "(I)Ljava/lang/Throwable;" } : MethodName) ({ cls := "java/lang/Throwable", name := "fillInStackTrace", desc := "(I)Ljava/lang/Throwable;" } : MethodName) ∈ qT := qT_p (k := 0) rfl rfl
theorem mq_p_1 : Cond.selects "OutlookOdds" ({ cls := "OutlookOdds", name := "runAllSeeds", desc := "(LOutlookOdds$Story;I)V" } : MethodName) ({ cls := "OutlookOdds", name := "runAllSeeds", desc := "(LOutlookOdds$Story;I)V" } : MethodName) ∈ qT := qT_p (k := 1) rfl rfl
theorem mq_p_2 : Cond.selects "OutlookOdds" ({ cls := "OutlookOdds", name := "runYear", desc := "(LOutlookOdds$Story;III)V" } : MethodName) ({ cls := "OutlookOdds", name := "runYear", desc := "(LOutlookOdds$Story;III)V" } : MethodName) ∈ qT := qT_p (k := 2) rfl rfl
theorem mq_p_3 : Cond.selects "OutlookOdds" ({ cls := "OutlookOdds", name := "massSeen", desc := "(LOutlookOdds$Story;II)J" } : MethodName) ({ cls := "OutlookOdds", name := "massSeen", desc := "(LOutlookOdds$Story;II)J" } : MethodName) ∈ qT := qT_p (k := 3) rfl rfl
theorem mq_p_4 : Cond.selects "OutlookOdds" ({ cls := "OutlookOdds", name := "rateAllowed", desc := "(JI)J" } : MethodName) ({ cls := "OutlookOdds", name := "rateAllowed", desc := "(JI)J" } : MethodName) ∈ qT := qT_p (k := 4) rfl rfl
theorem mq_p_5 : Cond.selects "OutlookOdds" ({ cls := "OutlookOdds", name := "limitChange", desc := "(LOutlookOdds$Story;JII)J" } : MethodName) ({ cls := "OutlookOdds", name := "limitChange", desc := "(LOutlookOdds$Story;JII)J" } : MethodName) ∈ qT := qT_p (k := 5) rfl rfl
theorem mq_p_6 : Cond.selects "OutlookOdds" ({ cls := "OutlookOdds", name := "youngBorn", desc := "(II)J" } : MethodName) ({ cls := "OutlookOdds", name := "youngBorn", desc := "(II)J" } : MethodName) ∈ qT := qT_p (k := 6) rfl rfl
theorem mq_p_7 : Cond.selects "OutlookOdds" ({ cls := "OutlookOdds", name := "seedsEverBelowMark", desc := "()I" } : MethodName) ({ cls := "OutlookOdds", name := "seedsEverBelowMark", desc := "()I" } : MethodName) ∈ qT := qT_p (k := 7) rfl rfl
theorem mq_p_8 : Cond.selects "OutlookOdds" ({ cls := "OutlookOdds", name := "isEverBelowMark", desc := "(I)Z" } : MethodName) ({ cls := "OutlookOdds", name := "isEverBelowMark", desc := "(I)Z" } : MethodName) ∈ qT := qT_p (k := 8) rfl rfl
theorem mq_p_9 : Cond.selects "OutlookOdds" ({ cls := "OutlookOdds", name := "isBelowMark", desc := "(II)Z" } : MethodName) ({ cls := "OutlookOdds", name := "isBelowMark", desc := "(II)Z" } : MethodName) ∈ qT := qT_p (k := 9) rfl rfl
theorem mq_p_10 : Cond.selects "OutlookOdds" ({ cls := "OutlookOdds", name := "requireRun", desc := "()V" } : MethodName) ({ cls := "OutlookOdds", name := "requireRun", desc := "()V" } : MethodName) ∈ qT := qT_p (k := 10) rfl rfl
theorem mq_p_11 : Cond.selects "OutlookOdds" ({ cls := "OutlookOdds", name := "putInOrder", desc := "(IJ)V" } : MethodName) ({ cls := "OutlookOdds", name := "putInOrder", desc := "(IJ)V" } : MethodName) ∈ qT := qT_p (k := 11) rfl rfl
theorem mq_p_12 : Cond.selects "OutlookOdds" ({ cls := "OutlookOdds", name := "sumOf", desc := "(LOutlookOdds$Story;II)J" } : MethodName) ({ cls := "OutlookOdds", name := "sumOf", desc := "(LOutlookOdds$Story;II)J" } : MethodName) ∈ qT := qT_p (k := 12) rfl rfl
theorem mq_p_13 : Cond.selects "OutlookOdds" ({ cls := "OutlookOdds", name := "caughtAtRate", desc := "(I)J" } : MethodName) ({ cls := "OutlookOdds", name := "caughtAtRate", desc := "(I)J" } : MethodName) ∈ qT := qT_p (k := 13) rfl rfl
theorem mq_p_14 : Cond.selects "OutlookOddsModel" ({ cls := "OutlookOddsModel", name := "go", desc := "(IIIII)V" } : MethodName) ({ cls := "OutlookOddsModel", name := "go", desc := "(IIIII)V" } : MethodName) ∈ qT := qT_p (k := 14) rfl rfl
theorem mq_p_15 : Cond.selects "OutlookOddsModel" ({ cls := "OutlookOddsModel", name := "year", desc := "(IIIII)V" } : MethodName) ({ cls := "OutlookOddsModel", name := "year", desc := "(IIIII)V" } : MethodName) ∈ qT := qT_p (k := 15) rfl rfl
theorem mq_p_16 : Cond.selects "OutlookOddsModel" ({ cls := "OutlookOddsModel", name := "allowed", desc := "(IIJ)J" } : MethodName) ({ cls := "OutlookOddsModel", name := "allowed", desc := "(IIJ)J" } : MethodName) ∈ qT := qT_p (k := 16) rfl rfl
theorem mq_p_17 : Cond.selects "OutlookOddsModel" ({ cls := "OutlookOddsModel", name := "noSeed", desc := "(I)Z" } : MethodName) ({ cls := "OutlookOddsModel", name := "noSeed", desc := "(I)Z" } : MethodName) ∈ qT := qT_p (k := 17) rfl rfl
theorem mq_p_18 : Cond.selects "OutlookOddsModel" ({ cls := "OutlookOddsModel", name := "noYear", desc := "(I)Z" } : MethodName) ({ cls := "OutlookOddsModel", name := "noYear", desc := "(I)Z" } : MethodName) ∈ qT := qT_p (k := 18) rfl rfl
theorem mq_p_19 : Cond.selects "OutlookOddsModel" ({ cls := "OutlookOddsModel", name := "allCaught", desc := "(I)J" } : MethodName) ({ cls := "OutlookOddsModel", name := "allCaught", desc := "(I)J" } : MethodName) ∈ qT := qT_p (k := 19) rfl rfl
theorem mq_p_20 : Cond.selects "OutlookOddsModel" ({ cls := "OutlookOddsModel", name := "tableOf", desc := "(I)J" } : MethodName) ({ cls := "OutlookOddsModel", name := "tableOf", desc := "(I)J" } : MethodName) ∈ qT := qT_p (k := 20) rfl rfl
theorem qg_V {own C : String} {idx : Nat} {y : MethodName} {cd : Cond} (h1 : Cond.methodLink own idx y ∈ qT) (h2 : Cond.instanceMethod y ∈ qT) (h3 : Cond.selects C y y ∈ qT) (h4 : Cond.initialized C ∈ qT) (h5 : cd ∈ qT) : GoodIn qT (wsV own idx C y (cd :: qT)) := fun w hw => by
  rcases List.mem_append.mp hw with h | h
  · rcases List.mem_cons.mp h with rfl | h
    · exact qT_good _ h1
    · rcases List.mem_cons.mp h with rfl | h
      · exact qT_good _ h2
      · rcases List.mem_cons.mp h with rfl | h
        · exact qT_good _ h3
        · rcases List.mem_cons.mp h with rfl | h
          · exact qT_good _ h4
          · exact absurd h List.not_mem_nil
  · rcases List.mem_cons.mp h with rfl | h
    · exact qT_good _ h5
    · exact qT_good _ h
theorem qg_S {own : String} {idx : Nat} {y : MethodName} {cd : Cond} (h1 : Cond.methodLink own idx y ∈ qT) (h2 : Cond.static y ∈ qT) (h4 : Cond.initialized y.cls ∈ qT) (h5 : cd ∈ qT) : GoodIn qT (va_wsS own idx y (cd :: qT)) := fun w hw => by
  rcases List.mem_append.mp hw with h | h
  · rcases List.mem_cons.mp h with rfl | h
    · exact qT_good _ h1
    · rcases List.mem_cons.mp h with rfl | h
      · exact qT_good _ h2
      · rcases List.mem_cons.mp h with rfl | h
        · exact qT_good _ h4
        · exact absurd h List.not_mem_nil
  · rcases List.mem_cons.mp h with rfl | h
    · exact qT_good _ h5
    · exact qT_good _ h
theorem qg_C {cd : Cond} (h5 : cd ∈ qT) : GoodIn qT (cd :: qT) := fun w hw => by
  rcases List.mem_cons.mp hw with rfl | h
  · exact qT_good _ h5
  · exact qT_good _ h
end QNM
end
section
section QB
/-! what a contract says here: the answer and the world behind a call are given terms of what stood before it -/
def qP (D : va_G) (cl : List vw_C) (tys : List (ClassId × FieldType)) (av : List Value) (sz : Nat) (w : va_W) : Array Value → State → Prop := va_Pc av (fun U => U.heap.size = sz ∧ va_P D cl w U.heap ∧ va_K D cl tys U ∧ va_D (fun _ => True) w)
def qB (D : va_G) (cl : List vw_C) (tys : List (ClassId × FieldType)) (sz : Nat) (w w1 : va_W) : Unit → State → Prop := fun _ t => va_P D cl w1 t.heap ∧ va_K D cl tys t ∧ va_D (va_A w sz) w1
def qMi (l : Launch) (y : MethodName) (ws : List Cond) (rm : Room) (D : va_G) (cl : List vw_C) (tys : List (ClassId × FieldType)) (av : List Value) (w w1 : va_W) (v : Int32) (mc ms : Nat) : Prop :=
  ∀ sz : Nat, Met l y ws rm (qP D cl tys av sz w) (va_Qi (fun (r : Int32) (_ : Unit) => r = v) (qB D cl tys sz w w1) (va_A w sz)) mc ms (va_A w sz)
def qMl (l : Launch) (y : MethodName) (ws : List Cond) (rm : Room) (D : va_G) (cl : List vw_C) (tys : List (ClassId × FieldType)) (av : List Value) (w w1 : va_W) (v : Int64) (mc ms : Nat) : Prop :=
  ∀ sz : Nat, Met l y ws rm (qP D cl tys av sz w) (va_Ql (fun (r : Int64) (_ : Unit) => r = v) (qB D cl tys sz w w1) (va_A w sz)) mc ms (va_A w sz)
def qMv (l : Launch) (y : MethodName) (ws : List Cond) (rm : Room) (D : va_G) (cl : List vw_C) (tys : List (ClassId × FieldType)) (av : List Value) (w w1 : va_W) (mc ms : Nat) : Prop :=
  ∀ sz : Nat, Met l y ws rm (qP D cl tys av sz w) (va_Qv (fun (_ : Unit) => True) (qB D cl tys sz w w1) (va_A w sz)) mc ms (va_A w sz)
theorem qP_blind {D : va_G} {cl : List vw_C} {tys : List (ClassId × FieldType)} {av : List Value} {sz : Nat} {w : va_W} : FrameBlind (qP D cl tys av sz w) := fun a U g mk q => by
  obtain ⟨q0, q1, qP, qK, qD⟩ := q
  exact ⟨q0, q1, qP, va_K.moved (u := U) (U := U.calling g mk a) (Vm.Alike.refl U.vm) qK, qD⟩
section Bodies
variable {l : Launch} {D : va_G} {cl : List vw_C} {tys : List (ClassId × FieldType)} {y : MethodName} {ws ws' : List Cond} {rm : Room} {cc : ByteArray} {maxL mc ms : Nat} {av : List Value} {w w1 : va_W}
theorem qm_v (hy : plainName y.cls = true) (hw : ws = Cond.code y cc maxL none :: ws') (hn : (lg_sl av).length ≤ maxL)
    (body : ∀ (p : Program) (e : Env) (s : State) (m : MethodId) (args : Array Value) (below : List Frame) (meth : Method) (c : Code) (Q : State → Prop) (A : Nat → Prop) (ls : Array Slot),
      p.tables.exec = Jvm.exec → c.code = cc → c.maxLocals = maxL → s.vm.findClass y.cls = some m.cls → meth.name = y.name → (∀ w ∈ ws', w.before args s = true) → (∀ q, s.heap.size ≤ q → A q) → va_K D cl tys s → va_P D cl w s.heap → va_D A w → va_S A s.heap s.heap [] → lv_has ls maxL (lv_args 0 av) →
      (∀ {H : Heap} {locs : List Loc} {cells slots pc : Nat} {ls : Array Slot}, va_P D cl w1 H → va_D A w1 → va_S A s.heap H locs → cells ≤ mc → slots ≤ ms → decode cc pc = .ok (.return_, 1) → W p l e rm s m args below meth c H locs cells slots Q (F0 m pc ls [])) →
      W p l e rm s m args below meth c s.heap [] 0 0 Q (F0 m 0 ls [])) : qMv l y ws rm D cl tys av w w1 mc ms := by
  intro sz
  refine Met.ofW (cc := cc) (maxL := maxL) (ret := none) hy hw ?_
  intro p e s m args below meth c s₁ B hml hv
  obtain ⟨rfl, rfl, hP, hK, hD0⟩ := hv
  have hlocks := B.notSynchronized
  have hr := B.returns
  have hl := lv_entry av (n := maxL) hn
  rw [lg_entry_eq]
  refine body p e s m av.toArray below meth c _ (va_A w s.heap.size) _ B.exec B.bytes hml (findClass_of_methodNamed B.named) (name_of_methodNamed B.named B.method).1 (fun w h => atoms_spec (ws := ws) B.pre w (by rw [hw]; exact List.mem_cons_of_mem _ h)) (fun q h => Or.inr h) hK hP hD0.self va_S.rf hl ?_
  intro H locs cells slots pc ls hP hD hS h1 h2 hd
  refine W.widen (k := mc) (n := ms) h1 h2 ?_
  exact W.vret B.exec B.bytes hr (fun t ht hW => ⟨⟨(), rfl, trivial, by rw [ht]; exact hP, va_K.moved hW.alike hK, hD⟩, hS.F ht⟩) hS.2.2 hd
theorem qm_i {v : Int32} (hy : plainName y.cls = true) (hw : ws = Cond.code y cc maxL (some .int) :: ws') (hn : (lg_sl av).length ≤ maxL)
    (body : ∀ (p : Program) (e : Env) (s : State) (m : MethodId) (args : Array Value) (below : List Frame) (meth : Method) (c : Code) (Q : State → Prop) (A : Nat → Prop) (ls : Array Slot),
      p.tables.exec = Jvm.exec → c.code = cc → c.maxLocals = maxL → s.vm.findClass y.cls = some m.cls → meth.name = y.name → (∀ w ∈ ws', w.before args s = true) → (∀ q, s.heap.size ≤ q → A q) → va_K D cl tys s → va_P D cl w s.heap → va_D A w → va_S A s.heap s.heap [] → lv_has ls maxL (lv_args 0 av) →
      (∀ {H : Heap} {locs : List Loc} {cells slots pc : Nat} {ls : Array Slot} {r : Int32}, va_P D cl w1 H → va_D A w1 → va_S A s.heap H locs → cells ≤ mc → slots ≤ ms → r = v → decode cc pc = .ok (.ireturn, 1) → W p l e rm s m args below meth c H locs cells slots Q (F0 m pc ls [.int r])) →
      W p l e rm s m args below meth c s.heap [] 0 0 Q (F0 m 0 ls [])) : qMi l y ws rm D cl tys av w w1 v mc ms := by
  intro sz
  refine Met.ofW (cc := cc) (maxL := maxL) (ret := some .int) hy hw ?_
  intro p e s m args below meth c s₁ B hml hv
  obtain ⟨rfl, rfl, hP, hK, hD0⟩ := hv
  have hlocks := B.notSynchronized
  have hr := B.returns
  have hl := lv_entry av (n := maxL) hn
  rw [lg_entry_eq]
  refine body p e s m av.toArray below meth c _ (va_A w s.heap.size) _ B.exec B.bytes hml (findClass_of_methodNamed B.named) (name_of_methodNamed B.named B.method).1 (fun w h => atoms_spec (ws := ws) B.pre w (by rw [hw]; exact List.mem_cons_of_mem _ h)) (fun q h => Or.inr h) hK hP hD0.self va_S.rf hl ?_
  intro H locs cells slots pc ls r hP hD hS h1 h2 hrv hd
  refine W.widen (k := mc) (n := ms) h1 h2 ?_
  exact W.iret (v := r) B.exec B.bytes hr (fun t ht hW => ⟨⟨r, (), rfl, hrv, by rw [ht]; exact hP, va_K.moved hW.alike hK, hD⟩, hS.F ht⟩) hS.2.2 hd
theorem qm_z {v : Int32} (hy : plainName y.cls = true) (hw : ws = Cond.code y cc maxL (some .boolean) :: ws') (hn : (lg_sl av).length ≤ maxL)
    (body : ∀ (p : Program) (e : Env) (s : State) (m : MethodId) (args : Array Value) (below : List Frame) (meth : Method) (c : Code) (Q : State → Prop) (A : Nat → Prop) (ls : Array Slot),
      p.tables.exec = Jvm.exec → c.code = cc → c.maxLocals = maxL → s.vm.findClass y.cls = some m.cls → meth.name = y.name → (∀ w ∈ ws', w.before args s = true) → (∀ q, s.heap.size ≤ q → A q) → va_K D cl tys s → va_P D cl w s.heap → va_D A w → va_S A s.heap s.heap [] → lv_has ls maxL (lv_args 0 av) →
      (∀ {H : Heap} {locs : List Loc} {cells slots pc : Nat} {ls : Array Slot} {r : Int32}, va_P D cl w1 H → va_D A w1 → va_S A s.heap H locs → cells ≤ mc → slots ≤ ms → r = v → narrow .boolean (.int r) = .int r → decode cc pc = .ok (.ireturn, 1) → W p l e rm s m args below meth c H locs cells slots Q (F0 m pc ls [.int r])) →
      W p l e rm s m args below meth c s.heap [] 0 0 Q (F0 m 0 ls [])) : qMi l y ws rm D cl tys av w w1 v mc ms := by
  intro sz
  refine Met.ofW (cc := cc) (maxL := maxL) (ret := some .boolean) hy hw ?_
  intro p e s m args below meth c s₁ B hml hv
  obtain ⟨rfl, rfl, hP, hK, hD0⟩ := hv
  have hlocks := B.notSynchronized
  have hr := B.returns
  have hl := lv_entry av (n := maxL) hn
  rw [lg_entry_eq]
  refine body p e s m av.toArray below meth c _ (va_A w s.heap.size) _ B.exec B.bytes hml (findClass_of_methodNamed B.named) (name_of_methodNamed B.named B.method).1 (fun w h => atoms_spec (ws := ws) B.pre w (by rw [hw]; exact List.mem_cons_of_mem _ h)) (fun q h => Or.inr h) hK hP hD0.self va_S.rf hl ?_
  intro H locs cells slots pc ls r hP hD hS h1 h2 hrv hnr hd
  refine W.widen (k := mc) (n := ms) h1 h2 ?_
  exact W.zret (v := r) B.exec B.bytes hr hnr (fun t ht hW => ⟨⟨r, (), rfl, hrv, by rw [ht]; exact hP, va_K.moved hW.alike hK, hD⟩, hS.F ht⟩) hS.2.2 hd
theorem qm_l {v : Int64} (hy : plainName y.cls = true) (hw : ws = Cond.code y cc maxL (some .long) :: ws') (hn : (lg_sl av).length ≤ maxL)
    (body : ∀ (p : Program) (e : Env) (s : State) (m : MethodId) (args : Array Value) (below : List Frame) (meth : Method) (c : Code) (Q : State → Prop) (A : Nat → Prop) (ls : Array Slot),
      p.tables.exec = Jvm.exec → c.code = cc → c.maxLocals = maxL → s.vm.findClass y.cls = some m.cls → meth.name = y.name → (∀ w ∈ ws', w.before args s = true) → (∀ q, s.heap.size ≤ q → A q) → va_K D cl tys s → va_P D cl w s.heap → va_D A w → va_S A s.heap s.heap [] → lv_has ls maxL (lv_args 0 av) →
      (∀ {H : Heap} {locs : List Loc} {cells slots pc : Nat} {ls : Array Slot} {r : Int64}, va_P D cl w1 H → va_D A w1 → va_S A s.heap H locs → cells ≤ mc → slots ≤ ms → r = v → decode cc pc = .ok (.lreturn, 1) → W p l e rm s m args below meth c H locs cells slots Q (F0 m pc ls [.long r])) →
      W p l e rm s m args below meth c s.heap [] 0 0 Q (F0 m 0 ls [])) : qMl l y ws rm D cl tys av w w1 v mc ms := by
  intro sz
  refine Met.ofW (cc := cc) (maxL := maxL) (ret := some .long) hy hw ?_
  intro p e s m args below meth c s₁ B hml hv
  obtain ⟨rfl, rfl, hP, hK, hD0⟩ := hv
  have hlocks := B.notSynchronized
  have hr := B.returns
  have hl := lv_entry av (n := maxL) hn
  rw [lg_entry_eq]
  refine body p e s m av.toArray below meth c _ (va_A w s.heap.size) _ B.exec B.bytes hml (findClass_of_methodNamed B.named) (name_of_methodNamed B.named B.method).1 (fun w h => atoms_spec (ws := ws) B.pre w (by rw [hw]; exact List.mem_cons_of_mem _ h)) (fun q h => Or.inr h) hK hP hD0.self va_S.rf hl ?_
  intro H locs cells slots pc ls r hP hD hS h1 h2 hrv hd
  refine W.widen (k := mc) (n := ms) h1 h2 ?_
  exact W.lret (v := r) B.exec B.bytes hr (fun t ht hW => ⟨⟨r, (), rfl, hrv, by rw [ht]; exact hP, va_K.moved hW.alike hK, hD⟩, hS.F ht⟩) hS.2.2 hd
end Bodies
section Rows
variable {p : Program} {l : Launch} {e : Env} {R : Room} {s : State} {m : MethodId} {args : Array Value} {below : List Frame} {meth : Method} {c : Code} {H : Heap} {locs : List Loc} {cells slots : Nat} {Q : State → Prop}
variable {cc : ByteArray} {pc : Nat} {ls : Array Slot} {rest : List Value} {D : va_G} {cl : List vw_C} {A : Nat → Prop} {a : Nat} {tys : List (ClassId × FieldType)} {ws : va_W} {H0 : Heap}
theorem qr_topi {x y : Int32} (h : x = y) (k : W p l e R s m args below meth c H locs cells slots Q (F0 m pc ls (.int y :: rest))) : W p l e R s m args below meth c H locs cells slots Q (F0 m pc ls (.int x :: rest)) := by rw [h]; exact k
theorem qr_topl {x y : Int64} (h : x = y) (k : W p l e R s m args below meth c H locs cells slots Q (F0 m pc ls (.long y :: rest))) : W p l e R s m args below meth c H locs cells slots Q (F0 m pc ls (.long x :: rest)) := by rw [h]; exact k
theorem qr_iald (hexec : p.tables.exec = Jvm.exec) (hb : c.code = cc) (hK : va_K D cl tys s) (hP : va_P D cl ws H) (q0 t0 : Nat) {cA : ClassId} {n : Nat} {f : Nat → Int32} (ha : ws[q0]? = some (a, .inl (cA, n, .inl f))) (ht : tys[t0]? = some (cA, .int)) {i : Int32} {k : Nat} (hi : i = nI k) (hk : k < n) (hn : n < 2 ^ 31) (hdg : decode cc pc = .ok (.iaload, 1))
    (kk : W p l e R s m args below meth c H locs cells slots Q (F0 m (pc + 1) ls (.int (f k) :: rest))) : W p l e R s m args below meth c H locs cells slots Q (F0 m pc ls (.int i :: .ref a :: rest)) := by
  subst hi
  refine va_iald hexec hb hK hP q0 t0 ha ht (vp_in_nI hk hn) hdg ?_
  rw [nI_clamp (Nat.lt_trans hk hn)]
  exact kk
theorem qr_lald (hexec : p.tables.exec = Jvm.exec) (hb : c.code = cc) (hK : va_K D cl tys s) (hP : va_P D cl ws H) (q0 t0 : Nat) {cA : ClassId} {n : Nat} {f : Nat → Int64} (ha : ws[q0]? = some (a, .inl (cA, n, .inr (.inl f)))) (ht : tys[t0]? = some (cA, .long)) {i : Int32} {k : Nat} (hi : i = nI k) (hk : k < n) (hn : n < 2 ^ 31) (hdg : decode cc pc = .ok (.laload, 1))
    (kk : W p l e R s m args below meth c H locs cells slots Q (F0 m (pc + 1) ls (.long (f k) :: rest))) : W p l e R s m args below meth c H locs cells slots Q (F0 m pc ls (.int i :: .ref a :: rest)) := by
  subst hi
  refine va_lald hexec hb hK hP q0 t0 ha ht (vp_in_nI hk hn) hdg ?_
  rw [nI_clamp (Nat.lt_trans hk hn)]
  exact kk
theorem qr_aaldA (hexec : p.tables.exec = Jvm.exec) (hb : c.code = cc) (hK : va_K D cl tys s) (hP : va_P D cl ws H) (q0 t0 : Nat) {cA : ClassId} {t : FieldType} {n r : Nat} {f : Nat → Option Nat} (ha : ws[q0]? = some (a, .inl (cA, n, .inr (.inr (.inr (.inr f)))))) (ht : tys[t0]? = some (cA, .array t)) {i : Int32} {k : Nat} (hi : i = nI k) (hk : k < n) (hn : n < 2 ^ 31) (hr : f k = some r) (hdg : decode cc pc = .ok (.aaload, 1))
    (kk : W p l e R s m args below meth c H locs cells slots Q (F0 m (pc + 1) ls (.ref r :: rest))) : W p l e R s m args below meth c H locs cells slots Q (F0 m pc ls (.int i :: .ref a :: rest)) := by
  subst hi
  have hin : vp_in (nI k) n := vp_in_nI hk hn
  have hlt : (nI k).toNatClampNeg < n := by rw [nI_clamp (Nat.lt_trans hk hn)]; exact hk
  refine W.aald (v := va_rf (f (nI k).toNatClampNeg)) (ty := .array t) hexec hb (hP q0 _ ha) ((hK.2 t0 _ ht).1 n (fun j => va_rf (f j))) rfl (fun q => by cases q) (by show ¬ (_ < 0 ∨ (arrV _ _ _).slots.size ≤ _); rw [arrV_size]; exact hin) (by show (arrV _ _ _).slots[_]? = _; rw [arrV_read _ _ hlt]) rfl rfl hdg ?_
  rw [nI_clamp (Nat.lt_trans hk hn), hr]
  exact kk
theorem qr_iast (hexec : p.tables.exec = Jvm.exec) (hb : c.code = cc) (hK : va_K D cl tys s) (hP : va_P D cl ws H) (hD : va_D A ws) (hS : va_S A H0 H locs) (q0 t0 : Nat) {cA : ClassId} {n : Nat} {f : Nat → Int32} (ha : ws[q0]? = some (a, .inl (cA, n, .inl f))) (ht : tys[t0]? = some (cA, .int)) {i : Int32} {x : Int32} {k : Nat} (hi : i = nI k) (hk : k < n) (hn : n < 2 ^ 31) {ws2 : va_W} (hw2 : ws.set q0 (a, .inl (cA, n, .inl (upd f k x))) = ws2) (hdg : decode cc pc = .ok (.iastore, 1))
    (kk : ∀ (H1 : Heap) (locs1 : List Loc), va_P D cl ws2 H1 → va_D A ws2 → va_S A H0 H1 locs1 → W p l e R s m args below meth c H1 locs1 cells slots Q (F0 m (pc + 1) ls rest)) : W p l e R s m args below meth c H locs cells slots Q (F0 m pc ls (.int x :: .int i :: .ref a :: rest)) := by
  subst hi
  subst hw2
  refine va_iast hexec hb hK hP hD hS q0 t0 ha ht (vp_in_nI hk hn) hdg ?_
  rw [nI_clamp (Nat.lt_trans hk hn)]
  exact kk
theorem qr_last (hexec : p.tables.exec = Jvm.exec) (hb : c.code = cc) (hK : va_K D cl tys s) (hP : va_P D cl ws H) (hD : va_D A ws) (hS : va_S A H0 H locs) (q0 t0 : Nat) {cA : ClassId} {n : Nat} {f : Nat → Int64} (ha : ws[q0]? = some (a, .inl (cA, n, .inr (.inl f)))) (ht : tys[t0]? = some (cA, .long)) {i : Int32} {x : Int64} {k : Nat} (hi : i = nI k) (hk : k < n) (hn : n < 2 ^ 31) {ws2 : va_W} (hw2 : ws.set q0 (a, .inl (cA, n, .inr (.inl (vp_updL f k x)))) = ws2) (hdg : decode cc pc = .ok (.lastore, 1))
    (kk : ∀ (H1 : Heap) (locs1 : List Loc), va_P D cl ws2 H1 → va_D A ws2 → va_S A H0 H1 locs1 → W p l e R s m args below meth c H1 locs1 cells slots Q (F0 m (pc + 1) ls rest)) : W p l e R s m args below meth c H locs cells slots Q (F0 m pc ls (.long x :: .int i :: .ref a :: rest)) := by
  subst hi
  subst hw2
  refine va_last hexec hb hK hP hD hS q0 t0 ha ht (vp_in_nI hk hn) hdg ?_
  rw [nI_clamp (Nat.lt_trans hk hn)]
  exact kk
theorem qr_put (hexec : p.tables.exec = Jvm.exec) (hb : c.code = cc) {own ref C : String} {T : u_T} {N ci index : Nat} {Ts : List Cond} (hts : ∀ w ∈ Ts, w.before args s = true) (hin : ∀ w ∈ u_ws C T N, w ∈ Ts) (ty0 : Nat → FieldType) (hty : ∀ k, k < N → parseFieldDescriptor (T k).2.2.1 = some (ty0 k)) (hnm : ∀ a, a < N → ∀ b, b < N → a ≠ b → (T a).2.1 ≠ (T b).2.1) (hown : s.vm.findClass own = some m.cls) (hK : va_K D cl tys s) (hP : va_P D cl ws H) (hD : va_D A ws) (hS0 : va_S A H0 H locs) (q0 : Nat) {fs : List Value} (he : ws[q0]? = some (a, .inr (ci, fs))) (hc : cl[ci]? = some (C, T, N)) (k : Nat) (hk : k < N) (hlink : (Cond.fieldLink own index ref (T k).2.1 (T k).2.2.1).before args s = true) (hsame : ∀ x, s.fieldFound? (T k).1 (T k).2.1 (T k).2.2.1 = some x → s.fieldFound? ref (T k).2.1 (T k).2.2.1 = some x) (hfin : (T k).2.2.2 = false) {ty : FieldType} {v : Value} (hd : parseFieldDescriptor (T k).2.2.1 = some ty) (hn : narrow ty v = v) (hfit : fits ty v = true) (hl : k < fs.length) {ws2 : va_W} (hw2 : ws.set q0 (a, .inr (ci, fs.set k v)) = ws2)
    (hdg : decode cc pc = .ok (.putfield index, 3)) (kk : ∀ (H1 : Heap) (locs1 : List Loc), va_P D cl ws2 H1 → va_D A ws2 → va_S A H0 H1 locs1 → W p l e R s m args below meth c H1 locs1 cells slots Q (F0 m (pc + 3) ls rest)) : W p l e R s m args below meth c H locs cells slots Q (F0 m pc ls (v :: .ref a :: rest)) := by
  subst hw2
  exact va_put hexec hb hts hin ty0 hty hnm hown hK hP hD hS0 q0 he hc k hk hlink hsame hfin hd hn hfit hl hdg kk
theorem qr_putF (hexec : p.tables.exec = Jvm.exec) (hb : c.code = cc) {own ref C : String} {T : u_T} {N ci index : Nat} {Ts : List Cond} (hts : ∀ w ∈ Ts, w.before args s = true) (hin : ∀ w ∈ u_ws C T N, w ∈ Ts) (ty0 : Nat → FieldType) (hty : ∀ k, k < N → parseFieldDescriptor (T k).2.2.1 = some (ty0 k)) (hnm : ∀ a, a < N → ∀ b, b < N → a ≠ b → (T a).2.1 ≠ (T b).2.1) (hown : s.vm.findClass own = some m.cls) (hK : va_K D cl tys s) (hP : va_P D cl ws H) (hD : va_D A ws) (hS0 : va_S A H0 H locs) (q0 : Nat) {fs : List Value} (he : ws[q0]? = some (a, .inr (ci, fs))) (hc : cl[ci]? = some (C, T, N)) (k : Nat) (hk : k < N) (hlink : (Cond.fieldLink own index ref (T k).2.1 (T k).2.2.1).before args s = true) (hsame : ∀ x, s.fieldFound? (T k).1 (T k).2.1 (T k).2.2.1 = some x → s.fieldFound? ref (T k).2.1 (T k).2.2.1 = some x) (hfin : (T k).2.2.2 = true) (hin2 : meth.name = "<init>") (hdecl : (T k).1 = own) {ty : FieldType} {v : Value} (hd : parseFieldDescriptor (T k).2.2.1 = some ty) (hn : narrow ty v = v) (hfit : fits ty v = true) (hl : k < fs.length) {ws2 : va_W} (hw2 : ws.set q0 (a, .inr (ci, fs.set k v)) = ws2)
    (hdg : decode cc pc = .ok (.putfield index, 3)) (kk : ∀ (H1 : Heap) (locs1 : List Loc), va_P D cl ws2 H1 → va_D A ws2 → va_S A H0 H1 locs1 → W p l e R s m args below meth c H1 locs1 cells slots Q (F0 m (pc + 3) ls rest)) : W p l e R s m args below meth c H locs cells slots Q (F0 m pc ls (v :: .ref a :: rest)) := by
  subst hw2
  exact va_putF hexec hb hts hin ty0 hty hnm hown hK hP hD hS0 q0 he hc k hk hlink hsame hfin hin2 hdecl hd hn hfit hl hdg kk
theorem qs_out4 {x : Int32} (h0 : ¬ x = 0) (h1 : ¬ x = 1) (h2 : ¬ x = 2) (h3 : ¬ x = 3) : x.toInt < 0 ∨ 3 < x.toInt := by
  have e : ∀ k : Int32, x.toInt = k.toInt → x = k := fun k h => Int32.toInt_inj.mp h
  have a0 : x.toInt ≠ 0 := fun h => h0 (e 0 (by rw [h]; rfl))
  have a1 : x.toInt ≠ 1 := fun h => h1 (e 1 (by rw [h]; rfl))
  have a2 : x.toInt ≠ 2 := fun h => h2 (e 2 (by rw [h]; rfl))
  have a3 : x.toInt ≠ 3 := fun h => h3 (e 3 (by rw [h]; rfl))
  omega
theorem qr_fm {α : Type} {f : Nat → Option α} : ∀ {is : List Nat} {ws : List α}, is.map f = ws.map some → is.filterMap f = ws
  | [], [], _ => rfl
  | [], _ :: _, h => by simp at h
  | _ :: _, [], h => by simp at h
  | i :: is, w :: ws, h => by
    simp only [List.map_cons, List.cons.injEq] at h
    rw [List.filterMap_cons, h.1]
    simp only
    rw [qr_fm h.2]
/-- a call behind whose run the callee's cells are as the contract says, the others as they were -/
theorem qr_back {wc wr w1 ws2 : va_W} {H1 : Heap} (hP : va_P D cl ws H) (hD : va_D A ws) (isC isR isO : List Nat) (hC : isC.map (fun i => ws[i]?) = wc.map some) (hR : isR.map (fun i => ws[i]?) = wr.map some) (hn : va_nd isR = true) (hdis : ∀ i ∈ isR, i ∉ isC)
    (hO : isO.map (fun i => (wr ++ w1)[i]?) = ws2.map some) (hnO : va_nd isO = true)
    (hk : ∀ q : Nat, q < H.size → ¬ va_A wc H.size q → H1[q]? = H[q]?) (hF : ∀ q, va_A wc H.size q → A q) (hP1 : va_P D cl w1 H1) (hD1 : va_D (va_A wc H.size) w1) : va_P D cl ws2 H1 ∧ va_D A ws2 := by
  obtain ⟨h1, h2⟩ := va_join hP hD isC isR hC hR hn hdis hk hF hP1 hD1
  exact ⟨h1.sub isO (qr_fm hO), h2.sub isO hnO hO⟩
theorem qr_pre {wc : va_W} {As : List Value} (hK : va_K D cl tys s) (hP : va_P D cl ws H) (hD : va_D A ws) (isC : List Nat) (hC : isC.map (fun i => ws[i]?) = wc.map some) (hnC : va_nd isC = true) : PreS s H (qP D cl tys As H.size wc) As :=
  ⟨qP_blind, fun U hU hW => ⟨rfl, by rw [hU], by rw [hU]; exact hP.sub isC (qr_fm hC), va_K.moved hW.alike hK, (hD.sub isC hnC hC).weaken (fun _ _ _ _ => trivial)⟩⟩
section Calls
variable {wc wr w1 ws2 : va_W} {y : MethodName} {bytes : ByteArray} {maxL nL mc ms n index ci q0 : Nat} {ret : Option FieldType} {wsy Ts : List Cond} {rm : Room} {own C : String} {b : Nat} {As st0 : List Value} {fs : List Value} {CT : u_T × Nat}
theorem qr_callVv (S : CallFix p m c cc nL s args Ts own) (hM : qMv l y wsy rm D cl tys (.ref b :: As) wc w1 mc ms) (cw : CallW R s args own C index y bytes maxL ret wsy rm mc ms n) (hK : va_K D cl tys s) (hP : va_P D cl ws H) (hD : va_D A ws) (hS : va_S A H0 H locs) (hA : ∀ q, H0.size ≤ q → A q) (hcl : cl[ci]? = some (C, CT)) (he : ws[q0]? = some (b, .inr (ci, fs))) 
    (isC isR isO : List Nat) (hC : isC.map (fun i => ws[i]?) = wc.map some) (hR : isR.map (fun i => ws[i]?) = wr.map some) (hnC : va_nd isC = true) (hn : va_nd isR = true ∧ ∀ i ∈ isR, i ∉ isC) (hO : isO.map (fun i => (wr ++ w1)[i]?) = ws2.map some) (hnO : va_nd isO = true) (hnn : As.length = n) (hsize : ls.size = nL) (hstack : st0 = As.reverse ++ .ref b :: rest) (hW : (rest.map fun v => v.category).sum ≤ 8) (hdg : decode cc pc = .ok (.invokevirtual index, 3)) (hf : cells + mc ≤ R.cells ∧ slots + ms ≤ R.slots)
    (kk : ∀ (H1 : Heap) (locs1 : List Loc), va_P D cl ws2 H1 → va_D A ws2 → va_S A H0 H1 locs1 → W p l e R s m args below meth c H1 locs1 (cells + mc) (slots + ms) Q (F0 m (pc + 3) ls rest)) : W p l e R s m args below meth c H locs cells slots Q (F0 m pc ls st0) := by
  have hFc := va_free (wc := wc) hD hS hA isC hC
  refine va_callv (va_runV (As := As) (rest := rest) S (hM H.size) cw ⟨qP_blind, va_recv hK hP hcl he, (qr_pre hK hP hD isC hC hnC).2⟩ rfl hnn hsize hstack (lv_room hW) hdg hf) hS (fun q _ h => hFc q h) hFc (fun u t H1 locs1 ht hvm hw hB hz1 hk1 hS1 => ?_)
  obtain ⟨hP1, hK1, hD1⟩ := hB
  rw [ht] at hP1
  obtain ⟨h1, h2⟩ := qr_back (ws2 := ws2) hP hD isC isR isO hC hR hn.1 hn.2 hO hnO hk1 hFc hP1 hD1
  exact kk H1 locs1 h1 h2 hS1
theorem qr_callVi {v : Int32} (S : CallFix p m c cc nL s args Ts own) (hM : qMi l y wsy rm D cl tys (.ref b :: As) wc w1 v mc ms) (cw : CallW R s args own C index y bytes maxL ret wsy rm mc ms n) (hK : va_K D cl tys s) (hP : va_P D cl ws H) (hD : va_D A ws) (hS : va_S A H0 H locs) (hA : ∀ q, H0.size ≤ q → A q) (hcl : cl[ci]? = some (C, CT)) (he : ws[q0]? = some (b, .inr (ci, fs))) 
    (isC isR isO : List Nat) (hC : isC.map (fun i => ws[i]?) = wc.map some) (hR : isR.map (fun i => ws[i]?) = wr.map some) (hnC : va_nd isC = true) (hn : va_nd isR = true ∧ ∀ i ∈ isR, i ∉ isC) (hO : isO.map (fun i => (wr ++ w1)[i]?) = ws2.map some) (hnO : va_nd isO = true) (hnn : As.length = n) (hsize : ls.size = nL) (hstack : st0 = As.reverse ++ .ref b :: rest) (hW : (rest.map fun v => v.category).sum ≤ 8) (hdg : decode cc pc = .ok (.invokevirtual index, 3)) (hf : cells + mc ≤ R.cells ∧ slots + ms ≤ R.slots)
    (kk : ∀ (H1 : Heap) (locs1 : List Loc), va_P D cl ws2 H1 → va_D A ws2 → va_S A H0 H1 locs1 → W p l e R s m args below meth c H1 locs1 (cells + mc) (slots + ms) Q (F0 m (pc + 3) ls (.int v :: rest))) : W p l e R s m args below meth c H locs cells slots Q (F0 m pc ls st0) := by
  have hFc := va_free (wc := wc) hD hS hA isC hC
  refine va_calli (va_runV (As := As) (rest := rest) S (hM H.size) cw ⟨qP_blind, va_recv hK hP hcl he, (qr_pre hK hP hD isC hC hnC).2⟩ rfl hnn hsize hstack (lv_room hW) hdg hf) hS (fun q _ h => hFc q h) hFc (fun r u t H1 locs1 ht hvm hw hB hz1 hk1 hS1 => ?_)
  obtain ⟨hP1, hK1, hD1⟩ := hB
  rw [ht] at hP1
  obtain ⟨h1, h2⟩ := qr_back (ws2 := ws2) hP hD isC isR isO hC hR hn.1 hn.2 hO hnO hk1 hFc hP1 hD1
  subst hw
  exact kk H1 locs1 h1 h2 hS1
theorem qr_callVl {v : Int64} (S : CallFix p m c cc nL s args Ts own) (hM : qMl l y wsy rm D cl tys (.ref b :: As) wc w1 v mc ms) (cw : CallW R s args own C index y bytes maxL ret wsy rm mc ms n) (hK : va_K D cl tys s) (hP : va_P D cl ws H) (hD : va_D A ws) (hS : va_S A H0 H locs) (hA : ∀ q, H0.size ≤ q → A q) (hcl : cl[ci]? = some (C, CT)) (he : ws[q0]? = some (b, .inr (ci, fs))) 
    (isC isR isO : List Nat) (hC : isC.map (fun i => ws[i]?) = wc.map some) (hR : isR.map (fun i => ws[i]?) = wr.map some) (hnC : va_nd isC = true) (hn : va_nd isR = true ∧ ∀ i ∈ isR, i ∉ isC) (hO : isO.map (fun i => (wr ++ w1)[i]?) = ws2.map some) (hnO : va_nd isO = true) (hnn : As.length = n) (hsize : ls.size = nL) (hstack : st0 = As.reverse ++ .ref b :: rest) (hW : (rest.map fun v => v.category).sum ≤ 8) (hdg : decode cc pc = .ok (.invokevirtual index, 3)) (hf : cells + mc ≤ R.cells ∧ slots + ms ≤ R.slots)
    (kk : ∀ (H1 : Heap) (locs1 : List Loc), va_P D cl ws2 H1 → va_D A ws2 → va_S A H0 H1 locs1 → W p l e R s m args below meth c H1 locs1 (cells + mc) (slots + ms) Q (F0 m (pc + 3) ls (.long v :: rest))) : W p l e R s m args below meth c H locs cells slots Q (F0 m pc ls st0) := by
  have hFc := va_free (wc := wc) hD hS hA isC hC
  refine va_calll (va_runV (As := As) (rest := rest) S (hM H.size) cw ⟨qP_blind, va_recv hK hP hcl he, (qr_pre hK hP hD isC hC hnC).2⟩ rfl hnn hsize hstack (lv_room hW) hdg hf) hS (fun q _ h => hFc q h) hFc (fun r u t H1 locs1 ht hvm hw hB hz1 hk1 hS1 => ?_)
  obtain ⟨hP1, hK1, hD1⟩ := hB
  rw [ht] at hP1
  obtain ⟨h1, h2⟩ := qr_back (ws2 := ws2) hP hD isC isR isO hC hR hn.1 hn.2 hO hnO hk1 hFc hP1 hD1
  subst hw
  exact kk H1 locs1 h1 h2 hS1
theorem qr_callSv (S : CallFix p m c cc nL s args Ts own) (hM : qMv l y wsy rm D cl tys As wc w1 mc ms) (cw : CallB R s args own index y bytes maxL ret wsy rm mc ms n ∧ (Cond.static y).before args s = true) (hK : va_K D cl tys s) (hP : va_P D cl ws H) (hD : va_D A ws) (hS : va_S A H0 H locs) (hA : ∀ q, H0.size ≤ q → A q) 
    (isC isR isO : List Nat) (hC : isC.map (fun i => ws[i]?) = wc.map some) (hR : isR.map (fun i => ws[i]?) = wr.map some) (hnC : va_nd isC = true) (hn : va_nd isR = true ∧ ∀ i ∈ isR, i ∉ isC) (hO : isO.map (fun i => (wr ++ w1)[i]?) = ws2.map some) (hnO : va_nd isO = true) (hnn : As.length = n) (hsize : ls.size = nL) (hstack : st0 = As.reverse ++ rest) (hW : (rest.map fun v => v.category).sum ≤ 8) (hdg : decode cc pc = .ok (.invokestatic index, 3)) (hf : cells + mc ≤ R.cells ∧ slots + ms ≤ R.slots)
    (kk : ∀ (H1 : Heap) (locs1 : List Loc), va_P D cl ws2 H1 → va_D A ws2 → va_S A H0 H1 locs1 → W p l e R s m args below meth c H1 locs1 (cells + mc) (slots + ms) Q (F0 m (pc + 3) ls rest)) : W p l e R s m args below meth c H locs cells slots Q (F0 m pc ls st0) := by
  have hFc := va_free (wc := wc) hD hS hA isC hC
  refine va_callv (va_runS (As := As) (rest := rest) S (hM H.size) cw (qr_pre hK hP hD isC hC hnC) rfl hnn hsize hstack (lv_room hW) hdg hf) hS (fun q _ h => hFc q h) hFc (fun u t H1 locs1 ht hvm hw hB hz1 hk1 hS1 => ?_)
  obtain ⟨hP1, hK1, hD1⟩ := hB
  rw [ht] at hP1
  obtain ⟨h1, h2⟩ := qr_back (ws2 := ws2) hP hD isC isR isO hC hR hn.1 hn.2 hO hnO hk1 hFc hP1 hD1
  exact kk H1 locs1 h1 h2 hS1
theorem qr_callSi {v : Int32} (S : CallFix p m c cc nL s args Ts own) (hM : qMi l y wsy rm D cl tys As wc w1 v mc ms) (cw : CallB R s args own index y bytes maxL ret wsy rm mc ms n ∧ (Cond.static y).before args s = true) (hK : va_K D cl tys s) (hP : va_P D cl ws H) (hD : va_D A ws) (hS : va_S A H0 H locs) (hA : ∀ q, H0.size ≤ q → A q) 
    (isC isR isO : List Nat) (hC : isC.map (fun i => ws[i]?) = wc.map some) (hR : isR.map (fun i => ws[i]?) = wr.map some) (hnC : va_nd isC = true) (hn : va_nd isR = true ∧ ∀ i ∈ isR, i ∉ isC) (hO : isO.map (fun i => (wr ++ w1)[i]?) = ws2.map some) (hnO : va_nd isO = true) (hnn : As.length = n) (hsize : ls.size = nL) (hstack : st0 = As.reverse ++ rest) (hW : (rest.map fun v => v.category).sum ≤ 8) (hdg : decode cc pc = .ok (.invokestatic index, 3)) (hf : cells + mc ≤ R.cells ∧ slots + ms ≤ R.slots)
    (kk : ∀ (H1 : Heap) (locs1 : List Loc), va_P D cl ws2 H1 → va_D A ws2 → va_S A H0 H1 locs1 → W p l e R s m args below meth c H1 locs1 (cells + mc) (slots + ms) Q (F0 m (pc + 3) ls (.int v :: rest))) : W p l e R s m args below meth c H locs cells slots Q (F0 m pc ls st0) := by
  have hFc := va_free (wc := wc) hD hS hA isC hC
  refine va_calli (va_runS (As := As) (rest := rest) S (hM H.size) cw (qr_pre hK hP hD isC hC hnC) rfl hnn hsize hstack (lv_room hW) hdg hf) hS (fun q _ h => hFc q h) hFc (fun r u t H1 locs1 ht hvm hw hB hz1 hk1 hS1 => ?_)
  obtain ⟨hP1, hK1, hD1⟩ := hB
  rw [ht] at hP1
  obtain ⟨h1, h2⟩ := qr_back (ws2 := ws2) hP hD isC isR isO hC hR hn.1 hn.2 hO hnO hk1 hFc hP1 hD1
  subst hw
  exact kk H1 locs1 h1 h2 hS1
theorem qr_callSl {v : Int64} (S : CallFix p m c cc nL s args Ts own) (hM : qMl l y wsy rm D cl tys As wc w1 v mc ms) (cw : CallB R s args own index y bytes maxL ret wsy rm mc ms n ∧ (Cond.static y).before args s = true) (hK : va_K D cl tys s) (hP : va_P D cl ws H) (hD : va_D A ws) (hS : va_S A H0 H locs) (hA : ∀ q, H0.size ≤ q → A q) 
    (isC isR isO : List Nat) (hC : isC.map (fun i => ws[i]?) = wc.map some) (hR : isR.map (fun i => ws[i]?) = wr.map some) (hnC : va_nd isC = true) (hn : va_nd isR = true ∧ ∀ i ∈ isR, i ∉ isC) (hO : isO.map (fun i => (wr ++ w1)[i]?) = ws2.map some) (hnO : va_nd isO = true) (hnn : As.length = n) (hsize : ls.size = nL) (hstack : st0 = As.reverse ++ rest) (hW : (rest.map fun v => v.category).sum ≤ 8) (hdg : decode cc pc = .ok (.invokestatic index, 3)) (hf : cells + mc ≤ R.cells ∧ slots + ms ≤ R.slots)
    (kk : ∀ (H1 : Heap) (locs1 : List Loc), va_P D cl ws2 H1 → va_D A ws2 → va_S A H0 H1 locs1 → W p l e R s m args below meth c H1 locs1 (cells + mc) (slots + ms) Q (F0 m (pc + 3) ls (.long v :: rest))) : W p l e R s m args below meth c H locs cells slots Q (F0 m pc ls st0) := by
  have hFc := va_free (wc := wc) hD hS hA isC hC
  refine va_calll (va_runS (As := As) (rest := rest) S (hM H.size) cw (qr_pre hK hP hD isC hC hnC) rfl hnn hsize hstack (lv_room hW) hdg hf) hS (fun q _ h => hFc q h) hFc (fun r u t H1 locs1 ht hvm hw hB hz1 hk1 hS1 => ?_)
  obtain ⟨hP1, hK1, hD1⟩ := hB
  rw [ht] at hP1
  obtain ⟨h1, h2⟩ := qr_back (ws2 := ws2) hP hD isC isR isO hC hR hn.1 hn.2 hO hnO hk1 hFc hP1 hD1
  subst hw
  exact kk H1 locs1 h1 h2 hS1
theorem qr_callIv (S : CallFix p m c cc nL s args Ts own) (hM : qMv l y wsy rm D cl tys (.ref b :: As) wc w1 mc ms) (cw : CallB R s args own index y bytes maxL none wsy rm mc ms n ∧ y.name = "<init>" ∧ (Cond.instanceMethod y).before args s = true) (hK : va_K D cl tys s) (hP : va_P D cl ws H) (hD : va_D A ws) (hS : va_S A H0 H locs) (hA : ∀ q, H0.size ≤ q → A q) 
    (isC isR isO : List Nat) (hC : isC.map (fun i => ws[i]?) = wc.map some) (hR : isR.map (fun i => ws[i]?) = wr.map some) (hnC : va_nd isC = true) (hn : va_nd isR = true ∧ ∀ i ∈ isR, i ∉ isC) (hO : isO.map (fun i => (wr ++ w1)[i]?) = ws2.map some) (hnO : va_nd isO = true) (hnn : As.length = n) (hsize : ls.size = nL) (hstack : st0 = As.reverse ++ .ref b :: rest) (hW : (rest.map fun v => v.category).sum ≤ 8) (hdg : decode cc pc = .ok (.invokespecial index, 3)) (hf : cells + mc ≤ R.cells ∧ slots + ms ≤ R.slots)
    (kk : ∀ (H1 : Heap) (locs1 : List Loc), va_P D cl ws2 H1 → va_D A ws2 → va_S A H0 H1 locs1 → W p l e R s m args below meth c H1 locs1 (cells + mc) (slots + ms) Q (F0 m (pc + 3) ls rest)) : W p l e R s m args below meth c H locs cells slots Q (F0 m pc ls st0) := by
  have hFc := va_free (wc := wc) hD hS hA isC hC
  refine va_callv (va_runI (As := As) (rest := rest) S (hM H.size) cw (qr_pre hK hP hD isC hC hnC) rfl hnn hsize hstack (lv_room hW) hdg hf) hS (fun q _ h => hFc q h) hFc (fun u t H1 locs1 ht hvm hw hB hz1 hk1 hS1 => ?_)
  obtain ⟨hP1, hK1, hD1⟩ := hB
  rw [ht] at hP1
  obtain ⟨h1, h2⟩ := qr_back (ws2 := ws2) hP hD isC isR isO hC hR hn.1 hn.2 hO hnO hk1 hFc hP1 hD1
  exact kk H1 locs1 h1 h2 hS1
end Calls
end Rows
end QB
end
section
section QX
/-! contracts of methods that may throw: 'ex' says which exception (none: it returns); a call that throws leaves its cells as they were -/
def qPx (Z : (Nat → Prop) → State → Heap → Prop) (D : va_G) (cl : List vw_C) (tys : List (ClassId × FieldType)) (av : List Value) (sz : Nat) (w : va_W) : Array Value → State → Prop := va_Pc av (fun U => U.heap.size = sz ∧ va_P D cl w U.heap ∧ va_K D cl tys U ∧ va_D (fun _ => True) w ∧ Z (va_A w sz) U U.heap)
def qXc (D : va_G) (cl : List vw_C) (tys : List (ClassId × FieldType)) (sz : Nat) (w : va_W) (ex : Option String) : String → State → State → Prop := vx_X (fun (_ : Unit) => True) (fun E _ t => ex = some E ∧ va_P D cl w t.heap ∧ va_K D cl tys t ∧ va_D (va_A w sz) w) (va_A w sz)
def qXi (Z : (Nat → Prop) → State → Heap → Prop) (l : Launch) (y : MethodName) (ws : List Cond) (rm : Room) (D : va_G) (cl : List vw_C) (tys : List (ClassId × FieldType)) (av : List Value) (w w1 : va_W) (ex : Option String) (v : Int32) (mc ms : Nat) : Prop :=
  ∀ sz : Nat, vx_Met l y ws rm (qPx Z D cl tys av sz w) (va_Qi (fun (r : Int32) (_ : Unit) => ex = none ∧ r = v) (qB D cl tys sz w w1) (va_A w sz)) (qXc D cl tys sz w ex) mc ms (va_A w sz)
def qXl (Z : (Nat → Prop) → State → Heap → Prop) (l : Launch) (y : MethodName) (ws : List Cond) (rm : Room) (D : va_G) (cl : List vw_C) (tys : List (ClassId × FieldType)) (av : List Value) (w w1 : va_W) (ex : Option String) (v : Int64) (mc ms : Nat) : Prop :=
  ∀ sz : Nat, vx_Met l y ws rm (qPx Z D cl tys av sz w) (va_Ql (fun (r : Int64) (_ : Unit) => ex = none ∧ r = v) (qB D cl tys sz w w1) (va_A w sz)) (qXc D cl tys sz w ex) mc ms (va_A w sz)
def qXv (Z : (Nat → Prop) → State → Heap → Prop) (l : Launch) (y : MethodName) (ws : List Cond) (rm : Room) (D : va_G) (cl : List vw_C) (tys : List (ClassId × FieldType)) (av : List Value) (w w1 : va_W) (ex : Option String) (mc ms : Nat) : Prop :=
  ∀ sz : Nat, vx_Met l y ws rm (qPx Z D cl tys av sz w) (va_Qv (fun (_ : Unit) => ex = none) (qB D cl tys sz w w1) (va_A w sz)) (qXc D cl tys sz w ex) mc ms (va_A w sz)
/-- what the premises of a throw must stand: another stack, a warmer machine, other cells, fewer cells to change -/
def qZok (Z : (Nat → Prop) → State → Heap → Prop) : Prop := (∀ (A : Nat → Prop) (u U : State) (H : Heap), u.WarmedH U.vm → Z A u H → Z A U H) ∧ (∀ (A : Nat → Prop) (U : State) (H H1 : Heap), (∀ a : Nat, a < H.size → ¬ A a → H1[a]? = H[a]?) → Z A U H → Z A U H1) ∧ (∀ (A B : Nat → Prop) (U : State) (H : Heap), (∀ q, B q → A q) → Z A U H → Z B U H)
theorem qPx_blind {Z : (Nat → Prop) → State → Heap → Prop} (hZ : qZok Z) {D : va_G} {cl : List vw_C} {tys : List (ClassId × FieldType)} {av : List Value} {sz : Nat} {w : va_W} : FrameBlind (qPx Z D cl tys av sz w) := fun a U g mk q => by
  obtain ⟨q0, q1, qP, qK, qD, qZ⟩ := q
  exact ⟨q0, q1, qP, va_K.moved (u := U) (U := U.calling g mk a) (Vm.Alike.refl U.vm) qK, qD, hZ.1 _ _ _ _ (State.WarmedH.refl U) qZ⟩
section Bodies
variable {Z : (Nat → Prop) → State → Heap → Prop} {l : Launch} {D : va_G} {cl : List vw_C} {tys : List (ClassId × FieldType)} {y : MethodName} {ws ws' : List Cond} {rm : Room} {cc : ByteArray} {maxL mc ms : Nat} {av : List Value} {w w1 : va_W} {ex : Option String}
theorem qx_v (hy : plainName y.cls = true) (hw : ws = Cond.code y cc maxL (none) :: ws') (hn : (lg_sl av).length ≤ maxL)
    (body : ∀ (p : Program) (e : Env) (s : State) (m : MethodId) (args : Array Value) (below : List Frame) (meth : Method) (c : Code) (Q : State → Prop) (A : Nat → Prop) (ls : Array Slot),
      p.tables.exec = Jvm.exec → c.code = cc → c.maxLocals = maxL → s.vm.findClass y.cls = some m.cls → meth.name = y.name → (∀ w ∈ ws', w.before args s = true) → (∀ q, s.heap.size ≤ q → A q) → va_K D cl tys s → va_P D cl w s.heap → va_D A w → va_S A s.heap s.heap [] → lv_has ls maxL (lv_args 0 av) → Z A s s.heap →
      (∀ {H : Heap} {locs : List Loc} {cells slots pc : Nat} {ls : Array Slot}, va_P D cl w1 H → va_D A w1 → va_S A s.heap H locs → cells ≤ mc → slots ≤ ms → ex = none → decode cc pc = .ok (.return_, 1) → W p l e rm s m args below meth c H locs cells slots Q (F0 m pc ls [])) →
      (∀ {H : Heap} {locs : List Loc} {cells slots pc q : Nat} {ls : Array Slot} {rest : List Value} {ce : Cell} {E : String}, va_P D cl w H → va_D A w → va_S A s.heap H locs → cells ≤ mc → slots ≤ ms → ex = some E → H[q]? = some ce → ce.vm = .none → s.vm.findClass E = some ce.cls → vx_W p l e rm s m args below meth c H locs cells slots Q (F0 m pc ls rest) q) →
      (Q = vx_MQ below (va_Qv (fun (_ : Unit) => ex = none) (qB D cl tys s.heap.size w w1) (va_A w s.heap.size)) (qXc D cl tys s.heap.size w ex) args s mc ms (va_A w s.heap.size) ∧ A = va_A w s.heap.size ∧ meth.locks = false ∧ ∀ x ∈ c.exceptionTable.toList, False) →
      W p l e rm s m args below meth c s.heap [] 0 0 Q (F0 m 0 ls [])) : qXv Z l y ws rm D cl tys av w w1 ex mc ms := by
  intro sz
  refine vx_ofW (cc := cc) (maxL := maxL) (ret := none) hy hw ?_
  intro p e s m args below meth c s₁ B hml hEx hv
  obtain ⟨rfl, rfl, hP, hK, hD0, hZ⟩ := hv
  have hlocks := B.notSynchronized
  have hr := B.returns
  have hl := lv_entry av (n := maxL) hn
  rw [lg_entry_eq]
  refine body p e s m av.toArray below meth c _ (va_A w s.heap.size) _ B.exec B.bytes hml (findClass_of_methodNamed B.named) (name_of_methodNamed B.named B.method).1 (fun w h => atoms_spec (ws := ws) B.pre w (by rw [hw]; exact List.mem_cons_of_mem _ h)) (fun q h => Or.inr h) hK hP hD0.self va_S.rf hl hZ ?_ ?_ ⟨rfl, rfl, hlocks, hEx⟩
  · intro H locs cells slots pc ls hP hD hS h1 h2 hex hd
    refine W.widen (k := mc) (n := ms) h1 h2 (vx_ret ?_)
    exact W.vret B.exec B.bytes hr (fun t ht hW => ⟨⟨(), rfl, hex, by rw [ht]; exact hP, va_K.moved hW.alike hK, hD⟩, hS.F ht⟩) hS.2.2 hd
  · intro H locs cells slots pc q ls rest ce E hP hD hS h1 h2 hex hce hcv hcl
    exact vx_out (fun x hx => (hEx x hx).elim) hlocks hce hcv hcl (fun t ht ha => ⟨(), trivial, ⟨hex, by rw [ht]; exact hP, va_K.moved ha hK, hD⟩, hS.F ht⟩) hS.2.2 h1 h2
theorem qx_i {v : Int32} (hy : plainName y.cls = true) (hw : ws = Cond.code y cc maxL (some .int) :: ws') (hn : (lg_sl av).length ≤ maxL)
    (body : ∀ (p : Program) (e : Env) (s : State) (m : MethodId) (args : Array Value) (below : List Frame) (meth : Method) (c : Code) (Q : State → Prop) (A : Nat → Prop) (ls : Array Slot),
      p.tables.exec = Jvm.exec → c.code = cc → c.maxLocals = maxL → s.vm.findClass y.cls = some m.cls → meth.name = y.name → (∀ w ∈ ws', w.before args s = true) → (∀ q, s.heap.size ≤ q → A q) → va_K D cl tys s → va_P D cl w s.heap → va_D A w → va_S A s.heap s.heap [] → lv_has ls maxL (lv_args 0 av) → Z A s s.heap →
      (∀ {H : Heap} {locs : List Loc} {cells slots pc : Nat} {ls : Array Slot} {r : Int32}, va_P D cl w1 H → va_D A w1 → va_S A s.heap H locs → cells ≤ mc → slots ≤ ms → ex = none → r = v → decode cc pc = .ok (.ireturn, 1) → W p l e rm s m args below meth c H locs cells slots Q (F0 m pc ls [.int r])) →
      (∀ {H : Heap} {locs : List Loc} {cells slots pc q : Nat} {ls : Array Slot} {rest : List Value} {ce : Cell} {E : String}, va_P D cl w H → va_D A w → va_S A s.heap H locs → cells ≤ mc → slots ≤ ms → ex = some E → H[q]? = some ce → ce.vm = .none → s.vm.findClass E = some ce.cls → vx_W p l e rm s m args below meth c H locs cells slots Q (F0 m pc ls rest) q) →
      (Q = vx_MQ below (va_Qi (fun (r : Int32) (_ : Unit) => ex = none ∧ r = v) (qB D cl tys s.heap.size w w1) (va_A w s.heap.size)) (qXc D cl tys s.heap.size w ex) args s mc ms (va_A w s.heap.size) ∧ A = va_A w s.heap.size ∧ meth.locks = false ∧ ∀ x ∈ c.exceptionTable.toList, False) →
      W p l e rm s m args below meth c s.heap [] 0 0 Q (F0 m 0 ls [])) : qXi Z l y ws rm D cl tys av w w1 ex v mc ms := by
  intro sz
  refine vx_ofW (cc := cc) (maxL := maxL) (ret := some .int) hy hw ?_
  intro p e s m args below meth c s₁ B hml hEx hv
  obtain ⟨rfl, rfl, hP, hK, hD0, hZ⟩ := hv
  have hlocks := B.notSynchronized
  have hr := B.returns
  have hl := lv_entry av (n := maxL) hn
  rw [lg_entry_eq]
  refine body p e s m av.toArray below meth c _ (va_A w s.heap.size) _ B.exec B.bytes hml (findClass_of_methodNamed B.named) (name_of_methodNamed B.named B.method).1 (fun w h => atoms_spec (ws := ws) B.pre w (by rw [hw]; exact List.mem_cons_of_mem _ h)) (fun q h => Or.inr h) hK hP hD0.self va_S.rf hl hZ ?_ ?_ ⟨rfl, rfl, hlocks, hEx⟩
  · intro H locs cells slots pc ls r hP hD hS h1 h2 hex hrv hd
    refine W.widen (k := mc) (n := ms) h1 h2 (vx_ret ?_)
    exact W.iret (v := r) B.exec B.bytes hr (fun t ht hW => ⟨⟨r, (), rfl, ⟨hex, hrv⟩, by rw [ht]; exact hP, va_K.moved hW.alike hK, hD⟩, hS.F ht⟩) hS.2.2 hd
  · intro H locs cells slots pc q ls rest ce E hP hD hS h1 h2 hex hce hcv hcl
    exact vx_out (fun x hx => (hEx x hx).elim) hlocks hce hcv hcl (fun t ht ha => ⟨(), trivial, ⟨hex, by rw [ht]; exact hP, va_K.moved ha hK, hD⟩, hS.F ht⟩) hS.2.2 h1 h2
theorem qx_l {v : Int64} (hy : plainName y.cls = true) (hw : ws = Cond.code y cc maxL (some .long) :: ws') (hn : (lg_sl av).length ≤ maxL)
    (body : ∀ (p : Program) (e : Env) (s : State) (m : MethodId) (args : Array Value) (below : List Frame) (meth : Method) (c : Code) (Q : State → Prop) (A : Nat → Prop) (ls : Array Slot),
      p.tables.exec = Jvm.exec → c.code = cc → c.maxLocals = maxL → s.vm.findClass y.cls = some m.cls → meth.name = y.name → (∀ w ∈ ws', w.before args s = true) → (∀ q, s.heap.size ≤ q → A q) → va_K D cl tys s → va_P D cl w s.heap → va_D A w → va_S A s.heap s.heap [] → lv_has ls maxL (lv_args 0 av) → Z A s s.heap →
      (∀ {H : Heap} {locs : List Loc} {cells slots pc : Nat} {ls : Array Slot} {r : Int64}, va_P D cl w1 H → va_D A w1 → va_S A s.heap H locs → cells ≤ mc → slots ≤ ms → ex = none → r = v → decode cc pc = .ok (.lreturn, 1) → W p l e rm s m args below meth c H locs cells slots Q (F0 m pc ls [.long r])) →
      (∀ {H : Heap} {locs : List Loc} {cells slots pc q : Nat} {ls : Array Slot} {rest : List Value} {ce : Cell} {E : String}, va_P D cl w H → va_D A w → va_S A s.heap H locs → cells ≤ mc → slots ≤ ms → ex = some E → H[q]? = some ce → ce.vm = .none → s.vm.findClass E = some ce.cls → vx_W p l e rm s m args below meth c H locs cells slots Q (F0 m pc ls rest) q) →
      (Q = vx_MQ below (va_Ql (fun (r : Int64) (_ : Unit) => ex = none ∧ r = v) (qB D cl tys s.heap.size w w1) (va_A w s.heap.size)) (qXc D cl tys s.heap.size w ex) args s mc ms (va_A w s.heap.size) ∧ A = va_A w s.heap.size ∧ meth.locks = false ∧ ∀ x ∈ c.exceptionTable.toList, False) →
      W p l e rm s m args below meth c s.heap [] 0 0 Q (F0 m 0 ls [])) : qXl Z l y ws rm D cl tys av w w1 ex v mc ms := by
  intro sz
  refine vx_ofW (cc := cc) (maxL := maxL) (ret := some .long) hy hw ?_
  intro p e s m args below meth c s₁ B hml hEx hv
  obtain ⟨rfl, rfl, hP, hK, hD0, hZ⟩ := hv
  have hlocks := B.notSynchronized
  have hr := B.returns
  have hl := lv_entry av (n := maxL) hn
  rw [lg_entry_eq]
  refine body p e s m av.toArray below meth c _ (va_A w s.heap.size) _ B.exec B.bytes hml (findClass_of_methodNamed B.named) (name_of_methodNamed B.named B.method).1 (fun w h => atoms_spec (ws := ws) B.pre w (by rw [hw]; exact List.mem_cons_of_mem _ h)) (fun q h => Or.inr h) hK hP hD0.self va_S.rf hl hZ ?_ ?_ ⟨rfl, rfl, hlocks, hEx⟩
  · intro H locs cells slots pc ls r hP hD hS h1 h2 hex hrv hd
    refine W.widen (k := mc) (n := ms) h1 h2 (vx_ret ?_)
    exact W.lret (v := r) B.exec B.bytes hr (fun t ht hW => ⟨⟨r, (), rfl, ⟨hex, hrv⟩, by rw [ht]; exact hP, va_K.moved hW.alike hK, hD⟩, hS.F ht⟩) hS.2.2 hd
  · intro H locs cells slots pc q ls rest ce E hP hD hS h1 h2 hex hce hcv hcl
    exact vx_out (fun x hx => (hEx x hx).elim) hlocks hce hcv hcl (fun t ht ha => ⟨(), trivial, ⟨hex, by rw [ht]; exact hP, va_K.moved ha hK, hD⟩, hS.F ht⟩) hS.2.2 h1 h2
end Bodies
section Calls
variable {p : Program} {l : Launch} {e : Env} {R : Room} {s : State} {m : MethodId} {args : Array Value} {below : List Frame} {meth : Method} {c : Code} {H : Heap} {locs : List Loc} {cells slots : Nat} {Q : State → Prop}
variable {cc : ByteArray} {pc : Nat} {ls : Array Slot} {rest : List Value} {D : va_G} {cl : List vw_C} {A : Nat → Prop} {a : Nat} {tys : List (ClassId × FieldType)} {ws : va_W} {H0 : Heap}
variable {wc wr w1 ws2 : va_W} {y : MethodName} {bytes : ByteArray} {maxL nL mc ms n index ci q0 : Nat} {ret : Option FieldType} {wsy Ts : List Cond} {rm : Room} {own C : String} {b : Nat} {As st0 : List Value} {fs : List Value} {CT : u_T × Nat} {Z : (Nat → Prop) → State → Heap → Prop} {ex : Option String}
theorem qx_pre {As : List Value} (hZ : qZok Z) (hK : va_K D cl tys s) (hP : va_P D cl ws H) (hD : va_D A ws) (hFc : ∀ q, va_A wc H.size q → A q) (hz : Z A s H) (isC : List Nat) (hC : isC.map (fun i => ws[i]?) = wc.map some) (hnC : va_nd isC = true) : PreS s H (qPx Z D cl tys As H.size wc) As :=
  ⟨qPx_blind hZ, fun U hU hW => ⟨rfl, by rw [hU], by rw [hU]; exact hP.sub isC (qr_fm hC), va_K.moved hW.alike hK, (hD.sub isC hnC hC).weaken (fun _ _ _ _ => trivial), by rw [hU]; exact hZ.1 _ _ _ _ hW (hZ.2.2 _ _ _ _ hFc hz)⟩⟩
theorem qx_callVv (hZ : qZok Z) (hz : Z A s H0) (S : CallFix p m c cc nL s args Ts own) (hM : qXv Z l y wsy rm D cl tys (.ref b :: As) wc w1 ex mc ms) (cw : CallW R s args own C index y bytes maxL ret wsy rm mc ms n) (hK : va_K D cl tys s) (hP : va_P D cl ws H) (hD : va_D A ws) (hS : va_S A H0 H locs) (hA : ∀ q, H0.size ≤ q → A q) (hcl : cl[ci]? = some (C, CT)) (he : ws[q0]? = some (b, .inr (ci, fs))) 
    (isC isR isO : List Nat) (hC : isC.map (fun i => ws[i]?) = wc.map some) (hR : isR.map (fun i => ws[i]?) = wr.map some) (hnC : va_nd isC = true) (hn : va_nd isR = true ∧ ∀ i ∈ isR, i ∉ isC) (hO : isO.map (fun i => (wr ++ w1)[i]?) = ws2.map some) (hI : isO.map (fun i => (wr ++ wc)[i]?) = ws.map some) (hnO : va_nd isO = true) (hnn : As.length = n) (hsize : ls.size = nL) (hstack : st0 = As.reverse ++ .ref b :: rest) (hW : (rest.map fun v => v.category).sum ≤ 8) (hdg : decode cc pc = .ok (.invokevirtual index, 3)) (hf : cells + mc ≤ R.cells ∧ slots + ms ≤ R.slots)
    (kx : ∀ (E : String) (ce : Cell) (q9 : Addr) (H1 : Heap) (locs1 : List Loc), ex = some E → va_P D cl ws H1 → va_D A ws → va_S A H0 H1 locs1 → H1[q9]? = some ce → ce.vm = .none → s.vm.findClass E = some ce.cls → vx_W p l e R s m args below meth c H1 locs1 (cells + mc) (slots + ms) Q (F0 m pc ls rest) q9)
    (kk : ∀ (H1 : Heap) (locs1 : List Loc), ex = none → va_P D cl ws2 H1 → va_D A ws2 → va_S A H0 H1 locs1 → W p l e R s m args below meth c H1 locs1 (cells + mc) (slots + ms) Q (F0 m (pc + 3) ls rest)) : W p l e R s m args below meth c H locs cells slots Q (F0 m pc ls st0) := by
  have hFc := va_free (wc := wc) hD hS hA isC hC
  refine vx_callv (vx_runV (As := As) (rest := rest) S (hM H.size) cw ⟨qPx_blind hZ, va_recv hK hP hcl he, (qx_pre hZ hK hP hD hFc (hZ.2.1 _ _ _ _ hS.2.1 hz) isC hC hnC).2⟩ rfl hnn hsize hstack (lv_room hW) hdg hf) hS (fun q _ h => hFc q h) hFc (fun q _ h => hFc q h) (fun E ce q9 u t H1 locs1 ht hvm hw hB hz1 hk1 hS1 hce hcv hcl9 => ?_) (fun u t H1 locs1 ht hvm hw hB hz1 hk1 hS1 => ?_)
  · obtain ⟨hex, hP1, hK1, hD1⟩ := hB
    rw [ht] at hP1
    obtain ⟨h1, h2⟩ := qr_back (ws2 := ws) hP hD isC isR isO hC hR hn.1 hn.2 hI hnO hk1 hFc hP1 hD1
    exact kx E ce q9 H1 locs1 hex h1 h2 hS1 hce hcv hcl9
  · obtain ⟨hP1, hK1, hD1⟩ := hB
    rw [ht] at hP1
    obtain ⟨h1, h2⟩ := qr_back (ws2 := ws2) hP hD isC isR isO hC hR hn.1 hn.2 hO hnO hk1 hFc hP1 hD1
    exact kk H1 locs1 hw h1 h2 hS1
theorem qx_callVi {v : Int32} (hZ : qZok Z) (hz : Z A s H0) (S : CallFix p m c cc nL s args Ts own) (hM : qXi Z l y wsy rm D cl tys (.ref b :: As) wc w1 ex v mc ms) (cw : CallW R s args own C index y bytes maxL ret wsy rm mc ms n) (hK : va_K D cl tys s) (hP : va_P D cl ws H) (hD : va_D A ws) (hS : va_S A H0 H locs) (hA : ∀ q, H0.size ≤ q → A q) (hcl : cl[ci]? = some (C, CT)) (he : ws[q0]? = some (b, .inr (ci, fs))) 
    (isC isR isO : List Nat) (hC : isC.map (fun i => ws[i]?) = wc.map some) (hR : isR.map (fun i => ws[i]?) = wr.map some) (hnC : va_nd isC = true) (hn : va_nd isR = true ∧ ∀ i ∈ isR, i ∉ isC) (hO : isO.map (fun i => (wr ++ w1)[i]?) = ws2.map some) (hI : isO.map (fun i => (wr ++ wc)[i]?) = ws.map some) (hnO : va_nd isO = true) (hnn : As.length = n) (hsize : ls.size = nL) (hstack : st0 = As.reverse ++ .ref b :: rest) (hW : (rest.map fun v => v.category).sum ≤ 8) (hdg : decode cc pc = .ok (.invokevirtual index, 3)) (hf : cells + mc ≤ R.cells ∧ slots + ms ≤ R.slots)
    (kx : ∀ (E : String) (ce : Cell) (q9 : Addr) (H1 : Heap) (locs1 : List Loc), ex = some E → va_P D cl ws H1 → va_D A ws → va_S A H0 H1 locs1 → H1[q9]? = some ce → ce.vm = .none → s.vm.findClass E = some ce.cls → vx_W p l e R s m args below meth c H1 locs1 (cells + mc) (slots + ms) Q (F0 m pc ls rest) q9)
    (kk : ∀ (H1 : Heap) (locs1 : List Loc), ex = none → va_P D cl ws2 H1 → va_D A ws2 → va_S A H0 H1 locs1 → W p l e R s m args below meth c H1 locs1 (cells + mc) (slots + ms) Q (F0 m (pc + 3) ls (.int v :: rest))) : W p l e R s m args below meth c H locs cells slots Q (F0 m pc ls st0) := by
  have hFc := va_free (wc := wc) hD hS hA isC hC
  refine vx_calli (vx_runV (As := As) (rest := rest) S (hM H.size) cw ⟨qPx_blind hZ, va_recv hK hP hcl he, (qx_pre hZ hK hP hD hFc (hZ.2.1 _ _ _ _ hS.2.1 hz) isC hC hnC).2⟩ rfl hnn hsize hstack (lv_room hW) hdg hf) hS (fun q _ h => hFc q h) hFc (fun q _ h => hFc q h) (fun E ce q9 u t H1 locs1 ht hvm hw hB hz1 hk1 hS1 hce hcv hcl9 => ?_) (fun r u t H1 locs1 ht hvm hw hB hz1 hk1 hS1 => ?_)
  · obtain ⟨hex, hP1, hK1, hD1⟩ := hB
    rw [ht] at hP1
    obtain ⟨h1, h2⟩ := qr_back (ws2 := ws) hP hD isC isR isO hC hR hn.1 hn.2 hI hnO hk1 hFc hP1 hD1
    exact kx E ce q9 H1 locs1 hex h1 h2 hS1 hce hcv hcl9
  · obtain ⟨hP1, hK1, hD1⟩ := hB
    rw [ht] at hP1
    obtain ⟨h1, h2⟩ := qr_back (ws2 := ws2) hP hD isC isR isO hC hR hn.1 hn.2 hO hnO hk1 hFc hP1 hD1
    obtain ⟨hex, hw⟩ := hw
    subst hw
    exact kk H1 locs1 hex h1 h2 hS1
theorem qx_callVl {v : Int64} (hZ : qZok Z) (hz : Z A s H0) (S : CallFix p m c cc nL s args Ts own) (hM : qXl Z l y wsy rm D cl tys (.ref b :: As) wc w1 ex v mc ms) (cw : CallW R s args own C index y bytes maxL ret wsy rm mc ms n) (hK : va_K D cl tys s) (hP : va_P D cl ws H) (hD : va_D A ws) (hS : va_S A H0 H locs) (hA : ∀ q, H0.size ≤ q → A q) (hcl : cl[ci]? = some (C, CT)) (he : ws[q0]? = some (b, .inr (ci, fs))) 
    (isC isR isO : List Nat) (hC : isC.map (fun i => ws[i]?) = wc.map some) (hR : isR.map (fun i => ws[i]?) = wr.map some) (hnC : va_nd isC = true) (hn : va_nd isR = true ∧ ∀ i ∈ isR, i ∉ isC) (hO : isO.map (fun i => (wr ++ w1)[i]?) = ws2.map some) (hI : isO.map (fun i => (wr ++ wc)[i]?) = ws.map some) (hnO : va_nd isO = true) (hnn : As.length = n) (hsize : ls.size = nL) (hstack : st0 = As.reverse ++ .ref b :: rest) (hW : (rest.map fun v => v.category).sum ≤ 8) (hdg : decode cc pc = .ok (.invokevirtual index, 3)) (hf : cells + mc ≤ R.cells ∧ slots + ms ≤ R.slots)
    (kx : ∀ (E : String) (ce : Cell) (q9 : Addr) (H1 : Heap) (locs1 : List Loc), ex = some E → va_P D cl ws H1 → va_D A ws → va_S A H0 H1 locs1 → H1[q9]? = some ce → ce.vm = .none → s.vm.findClass E = some ce.cls → vx_W p l e R s m args below meth c H1 locs1 (cells + mc) (slots + ms) Q (F0 m pc ls rest) q9)
    (kk : ∀ (H1 : Heap) (locs1 : List Loc), ex = none → va_P D cl ws2 H1 → va_D A ws2 → va_S A H0 H1 locs1 → W p l e R s m args below meth c H1 locs1 (cells + mc) (slots + ms) Q (F0 m (pc + 3) ls (.long v :: rest))) : W p l e R s m args below meth c H locs cells slots Q (F0 m pc ls st0) := by
  have hFc := va_free (wc := wc) hD hS hA isC hC
  refine vx_calll (vx_runV (As := As) (rest := rest) S (hM H.size) cw ⟨qPx_blind hZ, va_recv hK hP hcl he, (qx_pre hZ hK hP hD hFc (hZ.2.1 _ _ _ _ hS.2.1 hz) isC hC hnC).2⟩ rfl hnn hsize hstack (lv_room hW) hdg hf) hS (fun q _ h => hFc q h) hFc (fun q _ h => hFc q h) (fun E ce q9 u t H1 locs1 ht hvm hw hB hz1 hk1 hS1 hce hcv hcl9 => ?_) (fun r u t H1 locs1 ht hvm hw hB hz1 hk1 hS1 => ?_)
  · obtain ⟨hex, hP1, hK1, hD1⟩ := hB
    rw [ht] at hP1
    obtain ⟨h1, h2⟩ := qr_back (ws2 := ws) hP hD isC isR isO hC hR hn.1 hn.2 hI hnO hk1 hFc hP1 hD1
    exact kx E ce q9 H1 locs1 hex h1 h2 hS1 hce hcv hcl9
  · obtain ⟨hP1, hK1, hD1⟩ := hB
    rw [ht] at hP1
    obtain ⟨h1, h2⟩ := qr_back (ws2 := ws2) hP hD isC isR isO hC hR hn.1 hn.2 hO hnO hk1 hFc hP1 hD1
    obtain ⟨hex, hw⟩ := hw
    subst hw
    exact kk H1 locs1 hex h1 h2 hS1
theorem qx_callSv (hZ : qZok Z) (hz : Z A s H0) (S : CallFix p m c cc nL s args Ts own) (hM : qXv Z l y wsy rm D cl tys As wc w1 ex mc ms) (cw : CallB R s args own index y bytes maxL ret wsy rm mc ms n ∧ (Cond.static y).before args s = true) (hK : va_K D cl tys s) (hP : va_P D cl ws H) (hD : va_D A ws) (hS : va_S A H0 H locs) (hA : ∀ q, H0.size ≤ q → A q) 
    (isC isR isO : List Nat) (hC : isC.map (fun i => ws[i]?) = wc.map some) (hR : isR.map (fun i => ws[i]?) = wr.map some) (hnC : va_nd isC = true) (hn : va_nd isR = true ∧ ∀ i ∈ isR, i ∉ isC) (hO : isO.map (fun i => (wr ++ w1)[i]?) = ws2.map some) (hI : isO.map (fun i => (wr ++ wc)[i]?) = ws.map some) (hnO : va_nd isO = true) (hnn : As.length = n) (hsize : ls.size = nL) (hstack : st0 = As.reverse ++ rest) (hW : (rest.map fun v => v.category).sum ≤ 8) (hdg : decode cc pc = .ok (.invokestatic index, 3)) (hf : cells + mc ≤ R.cells ∧ slots + ms ≤ R.slots)
    (kx : ∀ (E : String) (ce : Cell) (q9 : Addr) (H1 : Heap) (locs1 : List Loc), ex = some E → va_P D cl ws H1 → va_D A ws → va_S A H0 H1 locs1 → H1[q9]? = some ce → ce.vm = .none → s.vm.findClass E = some ce.cls → vx_W p l e R s m args below meth c H1 locs1 (cells + mc) (slots + ms) Q (F0 m pc ls rest) q9)
    (kk : ∀ (H1 : Heap) (locs1 : List Loc), ex = none → va_P D cl ws2 H1 → va_D A ws2 → va_S A H0 H1 locs1 → W p l e R s m args below meth c H1 locs1 (cells + mc) (slots + ms) Q (F0 m (pc + 3) ls rest)) : W p l e R s m args below meth c H locs cells slots Q (F0 m pc ls st0) := by
  have hFc := va_free (wc := wc) hD hS hA isC hC
  refine vx_callv (vx_runS (As := As) (rest := rest) S (hM H.size) cw (qx_pre hZ hK hP hD hFc (hZ.2.1 _ _ _ _ hS.2.1 hz) isC hC hnC) rfl hnn hsize hstack (lv_room hW) hdg hf) hS (fun q _ h => hFc q h) hFc (fun q _ h => hFc q h) (fun E ce q9 u t H1 locs1 ht hvm hw hB hz1 hk1 hS1 hce hcv hcl9 => ?_) (fun u t H1 locs1 ht hvm hw hB hz1 hk1 hS1 => ?_)
  · obtain ⟨hex, hP1, hK1, hD1⟩ := hB
    rw [ht] at hP1
    obtain ⟨h1, h2⟩ := qr_back (ws2 := ws) hP hD isC isR isO hC hR hn.1 hn.2 hI hnO hk1 hFc hP1 hD1
    exact kx E ce q9 H1 locs1 hex h1 h2 hS1 hce hcv hcl9
  · obtain ⟨hP1, hK1, hD1⟩ := hB
    rw [ht] at hP1
    obtain ⟨h1, h2⟩ := qr_back (ws2 := ws2) hP hD isC isR isO hC hR hn.1 hn.2 hO hnO hk1 hFc hP1 hD1
    exact kk H1 locs1 hw h1 h2 hS1
end Calls
end QX
end
section
section QN
theorem qn_ge {i b : Nat} (h : nI b ≤ nI i) (hi : i ≤ b) (hb : b < 2 ^ 31) : i = b := by
  have := (nI_leI (by omega) (by omega)).mp h
  omega
theorem qn_nge {i b : Nat} (h : ¬ nI b ≤ nI i) (hb : b < 2 ^ 31 ∧ i < 2 ^ 31) : i < b := by
  have : ¬ b ≤ i := fun q => h ((nI_leI hb.1 hb.2).mpr q)
  omega
theorem qn_le0 {a : Nat} (h : nI a ≤ 0) (ha : a < 2 ^ 31) : a = 0 := by
  have := (nI_leI (b := 0) ha (by decide)).mp h
  omega
theorem qn_nle0 {a : Nat} (h : ¬ nI a ≤ 0) (ha : a < 2 ^ 31) : 0 < a := by
  rcases Nat.eq_zero_or_pos a with z | z
  · subst z; exact absurd (by decide) h
  · exact z
theorem qn_gtN {b n : Nat} (h : nI b < nI n) (hb : b < 2 ^ 31 ∧ n < 2 ^ 31) : b < n := (nI_ltI hb.1 hb.2).mp h
theorem qn_ngtN {b n : Nat} (h : ¬ nI b < nI n) (hb : b < 2 ^ 31 ∧ n < 2 ^ 31) : n ≤ b := by
  have : ¬ b < n := fun q => h ((nI_ltI hb.1 hb.2).mpr q)
  omega
theorem qn_gt {b k : Nat} (h : nI b < nI (k + 1)) (hb : b < 2 ^ 31 ∧ k + 1 < 2 ^ 31) (hk : k ≤ b) : k = b := by
  have := qn_gtN h hb
  omega
theorem qn_ngt {b k : Nat} (h : ¬ nI b < nI (k + 1)) (hb : b < 2 ^ 31 ∧ k + 1 < 2 ^ 31) : k < b := by
  have := qn_ngtN h hb
  omega
theorem qn_nlt2 {y : Nat} (h : ¬ nI y < 2) (hy : y < 2 ^ 31) : 2 ≤ y := by
  have : ¬ y < 2 := fun q => h ((nI_ltI (b := 2) hy (by decide)).mpr q)
  omega
theorem qn_odd {sp : Nat} (h : sp ≤ 50) : ¬ 2 * nI sp + 1 = 0 := by
  rw [show (2 : Int32) = nI 2 from rfl, pk_mul, show (1 : Int32) = nI 1 from rfl, nI_add]
  exact nI_ne0 (by omega) (by omega)
theorem qn_dz {lo hi x : Int64} (h1 : lo ≤ x) (h2 : x < hi) : ¬ hi - lo = 0 := by
  intro h
  have e : hi = lo := by
    have e1 : hi - lo + lo = 0 + lo := by rw [h]
    rwa [Int64.sub_add_cancel, Int64.zero_add] at e1
  subst e
  have a := Int64.le_iff_toInt_le.mp h1
  have b := Int64.lt_iff_toInt_lt.mp h2
  omega
end QN
section QF
/-! the arithmetic of the component, as its loops do it -/
theorem qn_sub1 {a : Nat} (h : 0 < a) : nI a - 1 = nI (a - 1) := by
  have e := pk_sub (a := a) (b := 1) h
  rw [← e]
  rfl
def pf_begin (nu : Nat → Int32) (lv : Nat → Int64) : Nat → (Nat → Int64)
  | 0 => lv
  | k + 1 => vp_updL (pf_begin nu lv k) k (nu k).toInt64
def pf_ripe (lv : Nat → Int64) (wt rp : Nat → Int32) : Nat → Int64
  | 0 => 0
  | k + 1 => pf_ripe lv wt rp k + lv k * (wt k).toInt64 * (rp k).toInt64 / 1000
def pf_total (lv : Nat → Int64) (wt : Nat → Int32) : Nat → Int64
  | 0 => 0
  | k + 1 => pf_total lv wt k + lv k * (wt k).toInt64
def pf_tk (lv : Nat → Int64) (al tt : Int64) : Nat → (Nat → Int64)
  | 0 => lv
  | k + 1 => vp_updL (pf_tk lv al tt k) k (pf_tk lv al tt k k - pf_tk lv al tt k k * al / tt)
def pf_ct (lv : Nat → Int64) (wt : Nat → Int32) (al tt : Int64) : Nat → Int64
  | 0 => 0
  | k + 1 => pf_ct lv wt al tt k + pf_tk lv al tt k k * al / tt * (wt k).toInt64
def pf_take (lv : Nat → Int64) (al tt : Int64) : Nat → Int64 := if 0 < tt then pf_tk lv al tt 6 else lv
def pf_caught (lv : Nat → Int64) (wt : Nat → Int32) (al tt : Int64) : Int64 := if 0 < tt then pf_ct lv wt al tt 6 else 0
def pf_dead (lv : Nat → Int64) (di : Nat → Int32) : Nat → (Nat → Int64)
  | 0 => lv
  | k + 1 => vp_updL (pf_dead lv di k) k (pf_dead lv di k k - pf_dead lv di k k * (di k).toInt64 / 1000)
/-- ages 4 .. a + 1 have moved up -/
def pf_sh (lv : Nat → Int64) : Nat → (Nat → Int64)
  | 0 => lv
  | k + 1 => vp_updL (pf_sh lv k) (4 - k) (pf_sh lv k (4 - k - 1))
def pf_grow (lv : Nat → Int64) (born : Int64) : Nat → Int64 := vp_updL (pf_sh (vp_updL lv 5 (lv 5 + lv 4)) 4) 0 born
end QF
section QG
/-- a story's rows: row what, place ix -/
def pf_put (M : Nat → Nat → Int64) (w ix : Nat) (x : Int64) : Nat → Nat → Int64 := fun j => if j = w then vp_updL (M w) ix x else M j
def pf_gf (r : Nat → Nat) : Nat → Option Nat := fun i => if i < 4 then some (r i) else none
theorem qn_gf {r : Nat → Nat} {w : Nat} (h : w < 4) : pf_gf r w = some (r w) := if_pos h
theorem qn_lt4 {w : Nat} (h : w < 4) : w = 0 ∨ w = 1 ∨ w = 2 ∨ w = 3 := by omega
def pf_ix (se y : Nat) : Nat := se * 20 + y - 1
theorem pf_ix_lt {se y : Nat} (h1 : se < 16) (h2 : 1 ≤ y) (h3 : y ≤ 20) : pf_ix se y < 320 := by unfold pf_ix; omega
theorem qn_ix {se y : Nat} (h2 : 1 ≤ y) : nI se * 20 + nI y - 1 = nI (pf_ix se y) := by
  unfold pf_ix
  rw [show (20 : Int32) = nI 20 from rfl, pk_mul, nI_add, qn_sub1 (by omega)]
def pf_draw (a b c : Int32) : Int32 := (((((31 * a) + (7 * b) + c) * 1103515245 + 12345) * 1103515245 + 12345).toUInt32 >>> ((16 : Int32).toUInt32 &&& Int32.toUInt32 31)).toInt32
def pf_ys (y dl : Nat) : Nat := if y - dl ≤ 1 then 1 else y - dl
theorem pf_ys_in {y dl : Nat} (h : 1 ≤ y) : 1 ≤ pf_ys y dl ∧ pf_ys y dl ≤ y := by unfold pf_ys; split <;> omega
theorem qn_ys {y dl : Nat} (hy : y ≤ 20) (hd : dl ≤ 3) : (if (1 : Int32) < nI y - nI dl then nI y - nI dl else 1) = nI (pf_ys y dl) := by
  unfold pf_ys
  by_cases h : dl ≤ y
  · rw [pk_sub h]
    by_cases h1 : y - dl ≤ 1
    · rw [if_neg (show ¬ (1 : Int32) < nI (y - dl) from nI_nlt (b := y - dl) (a := 1) h1 (by decide)), if_pos h1]
      rfl
    · rw [if_pos (show (1 : Int32) < nI (y - dl) from nI_lt (a := 1) (by omega) (by omega)), if_neg h1]
  · have hneg : ¬ (1 : Int32) < nI y - nI dl := fun q => by
      have h3 := pk_sneg (a := y) (b := dl) (by omega) (by omega)
      exact absurd (Int32.lt_trans q h3) (by decide)
    rw [if_neg hneg, if_pos (show y - dl ≤ 1 by omega)]
    rfl
def pf_rem (x y : Int32) : Int32 := x - x / y * y
def pf_pct (se y sp : Nat) : Int32 := 100 - nI sp + pf_rem (pf_draw (nI se) (nI y) 1) (2 * nI sp + 1)
def pf_seen (M0 : Nat → Int64) (se y sp dl : Nat) : Int64 := M0 (pf_ix se (pf_ys y dl)) * (pf_pct se y sp).toInt64 / 100
def pf_rate (lo hi x : Int64) (ra : Int32) : Int64 := if lo ≤ x then (if x < hi then ra.toInt64 * (x - lo) / (hi - lo) else ra.toInt64) else 0
def pf_min (x y : Int64) : Int64 := if y < x then y else x
def pf_abs (x : Int64) : Int64 := if 0 < x then x else -x
def pf_max (x y : Int64) : Int64 := if y < x then x else y
def pf_cap (b wa : Int64) (ch : Int32) : Int64 := pf_max (b - b * ch.toInt64 / 1000) (pf_min (b + b * ch.toInt64 / 1000) wa)
def pf_lim (M2 : Nat → Int64) (wa : Int64) (se y : Nat) (ch : Int32) : Int64 := if nI y < 2 then wa else if ch < 1000 then pf_cap (M2 (pf_ix se (y - 1))) wa ch else wa
def pf_born (se y : Nat) (yg : Int32) : Int64 := yg.toInt64 * (50 + pf_rem (pf_draw (nI se) (nI y) 0) 101).toInt64 / 100
end QG
section QY
def pf_Ma (wt rp : Nat → Int32) (se y : Nat) (lv : Nat → Int64) (M : Nat → Nat → Int64) : Nat → Nat → Int64 := pf_put M 0 (pf_ix se y) (pf_ripe lv wt rp 6)
def pf_sn (wt rp : Nat → Int32) (sp dl se y : Nat) (lv : Nat → Int64) (M : Nat → Nat → Int64) : Int64 := pf_seen (pf_Ma wt rp se y lv M 0) se y sp dl
def pf_Mb (wt rp : Nat → Int32) (sp dl se y : Nat) (lv : Nat → Int64) (M : Nat → Nat → Int64) : Nat → Nat → Int64 := pf_put (pf_Ma wt rp se y lv M) 3 (pf_ix se y) (pf_sn wt rp sp dl se y lv M)
def pf_wa (wt rp : Nat → Int32) (lo hi : Int64) (rt : Int32) (sp dl se y : Nat) (lv : Nat → Int64) (M : Nat → Nat → Int64) : Int64 := pf_total lv wt 6 * pf_rate lo hi (pf_sn wt rp sp dl se y lv M) rt / 1000
def pf_al (wt rp : Nat → Int32) (lo hi : Int64) (rt : Int32) (sp dl : Nat) (ch : Int32) (se y : Nat) (lv : Nat → Int64) (M : Nat → Nat → Int64) : Int64 := pf_min (pf_lim (pf_Mb wt rp sp dl se y lv M 2) (pf_wa wt rp lo hi rt sp dl se y lv M) se y ch) (pf_total lv wt 6)
def pf_Mc (wt rp : Nat → Int32) (lo hi : Int64) (rt : Int32) (sp dl : Nat) (ch : Int32) (se y : Nat) (lv : Nat → Int64) (M : Nat → Nat → Int64) : Nat → Nat → Int64 := pf_put (pf_Mb wt rp sp dl se y lv M) 2 (pf_ix se y) (pf_al wt rp lo hi rt sp dl ch se y lv M)
/-- the rows behind a year -/
def pf_yM (wt rp : Nat → Int32) (lo hi : Int64) (rt : Int32) (sp dl : Nat) (ch : Int32) (se y : Nat) (lv : Nat → Int64) (M : Nat → Nat → Int64) : Nat → Nat → Int64 := pf_put (pf_Mc wt rp lo hi rt sp dl ch se y lv M) 1 (pf_ix se y) (pf_caught lv wt (pf_al wt rp lo hi rt sp dl ch se y lv M) (pf_total lv wt 6))
/-- the fish behind a year -/
def pf_yl (wt rp di : Nat → Int32) (lo hi : Int64) (rt : Int32) (sp dl : Nat) (yg ch : Int32) (se y : Nat) (lv : Nat → Int64) (M : Nat → Nat → Int64) : Nat → Int64 := pf_grow (pf_dead (pf_take lv (pf_al wt rp lo hi rt sp dl ch se y lv M) (pf_total lv wt 6)) di 6) (pf_born se y yg)
/-- k years of a seed -/
def pf_yrs (wt rp di : Nat → Int32) (lo hi : Int64) (rt : Int32) (sp dl : Nat) (yg ch : Int32) (se : Nat) (lv : Nat → Int64) (M : Nat → Nat → Int64) : Nat → (Nat → Int64) × (Nat → Nat → Int64)
  | 0 => (lv, M)
  | k + 1 => (pf_yl wt rp di lo hi rt sp dl yg ch se (k + 1) (pf_yrs wt rp di lo hi rt sp dl yg ch se lv M k).1 (pf_yrs wt rp di lo hi rt sp dl yg ch se lv M k).2, pf_yM wt rp lo hi rt sp dl ch se (k + 1) (pf_yrs wt rp di lo hi rt sp dl yg ch se lv M k).1 (pf_yrs wt rp di lo hi rt sp dl yg ch se lv M k).2)
/-- j seeds -/
def pf_all (nu wt rp di : Nat → Int32) (lo hi : Int64) (rt : Int32) (sp dl : Nat) (yg ch : Int32) (yr : Nat) (lv : Nat → Int64) (M : Nat → Nat → Int64) : Nat → (Nat → Int64) × (Nat → Nat → Int64)
  | 0 => (lv, M)
  | j + 1 => pf_yrs wt rp di lo hi rt sp dl yg ch j (pf_begin nu (pf_all nu wt rp di lo hi rt sp dl yg ch yr lv M j).1 6) (pf_all nu wt rp di lo hi rt sp dl yg ch yr lv M j).2 yr
def pf_sumY (R : Nat → Int64) (se f : Nat) (a : Int64) : Nat → Int64
  | 0 => a
  | k + 1 => pf_sumY R se f a k + R (pf_ix se (f + k))
def pf_sumA (R : Nat → Int64) (f yr : Nat) : Nat → Int64
  | 0 => 0
  | j + 1 => pf_sumY R j f (pf_sumA R f yr j) (yr + 1 - f)
def pf_bm (R : Nat → Int64) (mk : Int32) (ix : Nat) : Int32 := if mk.toInt64 ≤ R ix then 0 else 1
def pf_ev (R : Nat → Int64) (mk : Int32) (se : Nat) : Nat → Int32
  | 0 => 0
  | k + 1 => if pf_ev R mk se k = 0 then pf_bm R mk (pf_ix se (k + 1)) else 1
theorem pf_bm_01 (R : Nat → Int64) (mk : Int32) (ix : Nat) : pf_bm R mk ix = 0 ∨ pf_bm R mk ix = 1 := by unfold pf_bm; split <;> simp
theorem pf_ev_01 (R : Nat → Int64) (mk : Int32) (se : Nat) : ∀ k, pf_ev R mk se k = 0 ∨ pf_ev R mk se k = 1
  | 0 => Or.inl rfl
  | k + 1 => by
    unfold pf_ev
    split
    · exact pf_bm_01 _ _ _
    · exact Or.inr rfl
theorem pf_ev_up {R : Nat → Int64} {mk : Int32} {se : Nat} : ∀ {k n : Nat}, k ≤ n → ¬ pf_ev R mk se k = 0 → pf_ev R mk se n = 1
  | k, 0, h, q => by
    have e : k = 0 := by omega
    subst e
    exact absurd rfl q
  | k, n + 1, h, q => by
    rcases Nat.lt_or_ge k (n + 1) with z | z
    · unfold pf_ev
      rw [if_neg]
      rw [pf_ev_up (k := k) (n := n) (by omega) q]
      decide
    · have e : k = n + 1 := by omega
      subst e
      rcases pf_ev_01 R mk se (n + 1) with z2 | z2
      · exact absurd z2 q
      · exact z2
def pf_cnt (R : Nat → Int64) (mk : Int32) (yr : Nat) : Nat → Int32
  | 0 => 0
  | j + 1 => if pf_ev R mk j yr = 0 then pf_cnt R mk yr j else pf_cnt R mk yr j + 1
def pf_ins (x : Int64) : Nat → (Nat → Int64) → (Nat → Int64)
  | 0, f => vp_updL f 0 x
  | p + 1, f => if x < f p then pf_ins x p (vp_updL f (p + 1) (f p)) else vp_updL f (p + 1) x
def pf_gcd : Nat → Int64 → Int64 → Int64
  | 0, a, _ => a
  | n + 1, a, b => if b = 0 then a else pf_gcd n b (a - a / b * b)
def pf_div (a b : Int64) : Int64 := pf_max 1 (pf_gcd 200 a b)
def pf_part (a b : Int64) (pt : Int32) : Int64 := (if pt = 0 then a else b) / pf_div a b
theorem pf_div_ne (a b : Int64) : ¬ pf_div a b = 0 := by
  unfold pf_div pf_max
  intro h
  split at h
  · exact absurd h (by decide)
  · next q => rw [h] at q; exact absurd (by decide) q
theorem qn_ins {f : Nat → Int64} {x : Int64} {i : Nat} (h0 : 0 < i) (h : ¬ f (i - 1) ≤ x) : pf_ins x i f = pf_ins x (i - 1) (vp_updL f i (f (i - 1))) := by
  obtain ⟨k, rfl⟩ : ∃ k, i = k + 1 := ⟨i - 1, by omega⟩
  have h2 : x < f k := Int64.not_le.mp h
  show (if x < f k then _ else _) = _
  rw [if_pos h2]
  rfl
theorem qn_ins1 {f : Nat → Int64} {x : Int64} {i : Nat} (h0 : 0 < i) (h : f (i - 1) ≤ x) : pf_ins x i f = vp_updL f i x := by
  obtain ⟨k, rfl⟩ : ∃ k, i = k + 1 := ⟨i - 1, by omega⟩
  have h2 : ¬ x < f k := Int64.not_lt.mpr h
  show (if x < f k then _ else _) = _
  rw [if_neg h2]
theorem qn_gcd {k : Nat} {u v : Int64} (hk : k < 200) (h : ¬ v = 0) : pf_gcd (200 - k) u v = pf_gcd (200 - (k + 1)) v (u - u / v * v) := by
  rw [show 200 - k = (200 - (k + 1)) + 1 by omega]
  show (if v = 0 then _ else _) = _
  rw [if_neg h]
theorem qn_gcd0 {k : Nat} {u : Int64} (hk : k < 200) : pf_gcd (200 - k) u 0 = u := by
  rw [show 200 - k = (200 - (k + 1)) + 1 by omega]
  rfl
end QY
end
section
theorem dS_init_0 : decode prog_2_method_1_code 0 = .ok (.aload_n 0, 1) := by decide +kernel
theorem dS_init_1 : decode prog_2_method_1_code 1 = .ok (.invokespecial 3, 3) := by decide +kernel
theorem dS_init_4 : decode prog_2_method_1_code 4 = .ok (.aload_n 0, 1) := by decide +kernel
theorem dS_init_5 : decode prog_2_method_1_code 5 = .ok (.bipush 6, 2) := by decide +kernel
theorem dS_init_7 : decode prog_2_method_1_code 7 = .ok (.newarray .int, 2) := by decide +kernel
theorem dS_init_9 : decode prog_2_method_1_code 9 = .ok (.putfield 9, 3) := by decide +kernel
theorem dS_init_12 : decode prog_2_method_1_code 12 = .ok (.aload_n 0, 1) := by decide +kernel
theorem dS_init_13 : decode prog_2_method_1_code 13 = .ok (.bipush 6, 2) := by decide +kernel
theorem dS_init_15 : decode prog_2_method_1_code 15 = .ok (.newarray .int, 2) := by decide +kernel
theorem dS_init_17 : decode prog_2_method_1_code 17 = .ok (.putfield 15, 3) := by decide +kernel
theorem dS_init_20 : decode prog_2_method_1_code 20 = .ok (.aload_n 0, 1) := by decide +kernel
theorem dS_init_21 : decode prog_2_method_1_code 21 = .ok (.bipush 6, 2) := by decide +kernel
theorem dS_init_23 : decode prog_2_method_1_code 23 = .ok (.newarray .int, 2) := by decide +kernel
theorem dS_init_25 : decode prog_2_method_1_code 25 = .ok (.putfield 18, 3) := by decide +kernel
theorem dS_init_28 : decode prog_2_method_1_code 28 = .ok (.aload_n 0, 1) := by decide +kernel
theorem dS_init_29 : decode prog_2_method_1_code 29 = .ok (.bipush 6, 2) := by decide +kernel
theorem dS_init_31 : decode prog_2_method_1_code 31 = .ok (.newarray .int, 2) := by decide +kernel
theorem dS_init_33 : decode prog_2_method_1_code 33 = .ok (.putfield 21, 3) := by decide +kernel
theorem dS_init_36 : decode prog_2_method_1_code 36 = .ok (.aload_n 0, 1) := by decide +kernel
theorem dS_init_37 : decode prog_2_method_1_code 37 = .ok (.bipush 6, 2) := by decide +kernel
theorem dS_init_39 : decode prog_2_method_1_code 39 = .ok (.newarray .long, 2) := by decide +kernel
theorem dS_init_41 : decode prog_2_method_1_code 41 = .ok (.putfield 24, 3) := by decide +kernel
theorem dS_init_44 : decode prog_2_method_1_code 44 = .ok (.return_, 1) := by decide +kernel
theorem dS_setAge_0 : decode prog_2_method_2_code 0 = .ok (.aload_n 0, 1) := by decide +kernel
theorem dS_setAge_1 : decode prog_2_method_2_code 1 = .ok (.getfield 9, 3) := by decide +kernel
theorem dS_setAge_4 : decode prog_2_method_2_code 4 = .ok (.iload_n 1, 1) := by decide +kernel
theorem dS_setAge_5 : decode prog_2_method_2_code 5 = .ok (.iload_n 2, 1) := by decide +kernel
theorem dS_setAge_6 : decode prog_2_method_2_code 6 = .ok (.iastore, 1) := by decide +kernel
theorem dS_setAge_7 : decode prog_2_method_2_code 7 = .ok (.aload_n 0, 1) := by decide +kernel
theorem dS_setAge_8 : decode prog_2_method_2_code 8 = .ok (.getfield 15, 3) := by decide +kernel
theorem dS_setAge_11 : decode prog_2_method_2_code 11 = .ok (.iload_n 1, 1) := by decide +kernel
theorem dS_setAge_12 : decode prog_2_method_2_code 12 = .ok (.iload_n 3, 1) := by decide +kernel
theorem dS_setAge_13 : decode prog_2_method_2_code 13 = .ok (.iastore, 1) := by decide +kernel
theorem dS_setAge_14 : decode prog_2_method_2_code 14 = .ok (.aload_n 0, 1) := by decide +kernel
theorem dS_setAge_15 : decode prog_2_method_2_code 15 = .ok (.getfield 18, 3) := by decide +kernel
theorem dS_setAge_18 : decode prog_2_method_2_code 18 = .ok (.iload_n 1, 1) := by decide +kernel
theorem dS_setAge_19 : decode prog_2_method_2_code 19 = .ok (.iload 4, 2) := by decide +kernel
theorem dS_setAge_21 : decode prog_2_method_2_code 21 = .ok (.iastore, 1) := by decide +kernel
theorem dS_setAge_22 : decode prog_2_method_2_code 22 = .ok (.aload_n 0, 1) := by decide +kernel
theorem dS_setAge_23 : decode prog_2_method_2_code 23 = .ok (.getfield 21, 3) := by decide +kernel
theorem dS_setAge_26 : decode prog_2_method_2_code 26 = .ok (.iload_n 1, 1) := by decide +kernel
theorem dS_setAge_27 : decode prog_2_method_2_code 27 = .ok (.iload 5, 2) := by decide +kernel
theorem dS_setAge_29 : decode prog_2_method_2_code 29 = .ok (.iastore, 1) := by decide +kernel
theorem dS_setAge_30 : decode prog_2_method_2_code 30 = .ok (.return_, 1) := by decide +kernel
theorem dS_begin_0 : decode prog_2_method_3_code 0 = .ok (.iconst 0, 1) := by decide +kernel
theorem dS_begin_1 : decode prog_2_method_3_code 1 = .ok (.istore_n 1, 1) := by decide +kernel
theorem dS_begin_2 : decode prog_2_method_3_code 2 = .ok (.iload_n 1, 1) := by decide +kernel
theorem dS_begin_3 : decode prog_2_method_3_code 3 = .ok (.bipush 6, 2) := by decide +kernel
theorem dS_begin_5 : decode prog_2_method_3_code 5 = .ok (.if_icmp .ge 22, 3) := by decide +kernel
theorem dS_begin_8 : decode prog_2_method_3_code 8 = .ok (.aload_n 0, 1) := by decide +kernel
theorem dS_begin_9 : decode prog_2_method_3_code 9 = .ok (.getfield 24, 3) := by decide +kernel
theorem dS_begin_12 : decode prog_2_method_3_code 12 = .ok (.iload_n 1, 1) := by decide +kernel
theorem dS_begin_13 : decode prog_2_method_3_code 13 = .ok (.aload_n 0, 1) := by decide +kernel
theorem dS_begin_14 : decode prog_2_method_3_code 14 = .ok (.getfield 9, 3) := by decide +kernel
theorem dS_begin_17 : decode prog_2_method_3_code 17 = .ok (.iload_n 1, 1) := by decide +kernel
theorem dS_begin_18 : decode prog_2_method_3_code 18 = .ok (.iaload, 1) := by decide +kernel
theorem dS_begin_19 : decode prog_2_method_3_code 19 = .ok (.i2l, 1) := by decide +kernel
theorem dS_begin_20 : decode prog_2_method_3_code 20 = .ok (.lastore, 1) := by decide +kernel
theorem dS_begin_21 : decode prog_2_method_3_code 21 = .ok (.iinc 1 1, 3) := by decide +kernel
theorem dS_begin_24 : decode prog_2_method_3_code 24 = .ok (.goto (-22), 3) := by decide +kernel
theorem dS_begin_27 : decode prog_2_method_3_code 27 = .ok (.return_, 1) := by decide +kernel
theorem dS_ripeMass_0 : decode prog_2_method_4_code 0 = .ok (.lconst 0, 1) := by decide +kernel
theorem dS_ripeMass_1 : decode prog_2_method_4_code 1 = .ok (.lstore_n 1, 1) := by decide +kernel
theorem dS_ripeMass_2 : decode prog_2_method_4_code 2 = .ok (.iconst 0, 1) := by decide +kernel
theorem dS_ripeMass_3 : decode prog_2_method_4_code 3 = .ok (.istore_n 3, 1) := by decide +kernel
theorem dS_ripeMass_4 : decode prog_2_method_4_code 4 = .ok (.iload_n 3, 1) := by decide +kernel
theorem dS_ripeMass_5 : decode prog_2_method_4_code 5 = .ok (.bipush 6, 2) := by decide +kernel
theorem dS_ripeMass_7 : decode prog_2_method_4_code 7 = .ok (.if_icmp .ge 38, 3) := by decide +kernel
theorem dS_ripeMass_10 : decode prog_2_method_4_code 10 = .ok (.lload_n 1, 1) := by decide +kernel
theorem dS_ripeMass_11 : decode prog_2_method_4_code 11 = .ok (.aload_n 0, 1) := by decide +kernel
theorem dS_ripeMass_12 : decode prog_2_method_4_code 12 = .ok (.getfield 24, 3) := by decide +kernel
theorem dS_ripeMass_15 : decode prog_2_method_4_code 15 = .ok (.iload_n 3, 1) := by decide +kernel
theorem dS_ripeMass_16 : decode prog_2_method_4_code 16 = .ok (.laload, 1) := by decide +kernel
theorem dS_ripeMass_17 : decode prog_2_method_4_code 17 = .ok (.aload_n 0, 1) := by decide +kernel
theorem dS_ripeMass_18 : decode prog_2_method_4_code 18 = .ok (.getfield 15, 3) := by decide +kernel
theorem dS_ripeMass_21 : decode prog_2_method_4_code 21 = .ok (.iload_n 3, 1) := by decide +kernel
theorem dS_ripeMass_22 : decode prog_2_method_4_code 22 = .ok (.iaload, 1) := by decide +kernel
theorem dS_ripeMass_23 : decode prog_2_method_4_code 23 = .ok (.i2l, 1) := by decide +kernel
theorem dS_ripeMass_24 : decode prog_2_method_4_code 24 = .ok (.lmul, 1) := by decide +kernel
theorem dS_ripeMass_25 : decode prog_2_method_4_code 25 = .ok (.aload_n 0, 1) := by decide +kernel
theorem dS_ripeMass_26 : decode prog_2_method_4_code 26 = .ok (.getfield 18, 3) := by decide +kernel
theorem dS_ripeMass_29 : decode prog_2_method_4_code 29 = .ok (.iload_n 3, 1) := by decide +kernel
theorem dS_ripeMass_30 : decode prog_2_method_4_code 30 = .ok (.iaload, 1) := by decide +kernel
theorem dS_ripeMass_31 : decode prog_2_method_4_code 31 = .ok (.i2l, 1) := by decide +kernel
theorem dS_ripeMass_32 : decode prog_2_method_4_code 32 = .ok (.lmul, 1) := by decide +kernel
theorem dS_ripeMass_33 : decode prog_2_method_4_code 33 = .ok (.ldc2_w 28, 3) := by decide +kernel
theorem dS_ripeMass_36 : decode prog_2_method_4_code 36 = .ok (.ldiv, 1) := by decide +kernel
theorem dS_ripeMass_37 : decode prog_2_method_4_code 37 = .ok (.ladd, 1) := by decide +kernel
theorem dS_ripeMass_38 : decode prog_2_method_4_code 38 = .ok (.lstore_n 1, 1) := by decide +kernel
theorem dS_ripeMass_39 : decode prog_2_method_4_code 39 = .ok (.iinc 3 1, 3) := by decide +kernel
theorem dS_ripeMass_42 : decode prog_2_method_4_code 42 = .ok (.goto (-38), 3) := by decide +kernel
theorem dS_ripeMass_45 : decode prog_2_method_4_code 45 = .ok (.lload_n 1, 1) := by decide +kernel
theorem dS_ripeMass_46 : decode prog_2_method_4_code 46 = .ok (.lreturn, 1) := by decide +kernel
theorem dS_totalMass_0 : decode prog_2_method_5_code 0 = .ok (.lconst 0, 1) := by decide +kernel
theorem dS_totalMass_1 : decode prog_2_method_5_code 1 = .ok (.lstore_n 1, 1) := by decide +kernel
theorem dS_totalMass_2 : decode prog_2_method_5_code 2 = .ok (.iconst 0, 1) := by decide +kernel
theorem dS_totalMass_3 : decode prog_2_method_5_code 3 = .ok (.istore_n 3, 1) := by decide +kernel
theorem dS_totalMass_4 : decode prog_2_method_5_code 4 = .ok (.iload_n 3, 1) := by decide +kernel
theorem dS_totalMass_5 : decode prog_2_method_5_code 5 = .ok (.bipush 6, 2) := by decide +kernel
theorem dS_totalMass_7 : decode prog_2_method_5_code 7 = .ok (.if_icmp .ge 26, 3) := by decide +kernel
theorem dS_totalMass_10 : decode prog_2_method_5_code 10 = .ok (.lload_n 1, 1) := by decide +kernel
theorem dS_totalMass_11 : decode prog_2_method_5_code 11 = .ok (.aload_n 0, 1) := by decide +kernel
theorem dS_totalMass_12 : decode prog_2_method_5_code 12 = .ok (.getfield 24, 3) := by decide +kernel
theorem dS_totalMass_15 : decode prog_2_method_5_code 15 = .ok (.iload_n 3, 1) := by decide +kernel
theorem dS_totalMass_16 : decode prog_2_method_5_code 16 = .ok (.laload, 1) := by decide +kernel
theorem dS_totalMass_17 : decode prog_2_method_5_code 17 = .ok (.aload_n 0, 1) := by decide +kernel
theorem dS_totalMass_18 : decode prog_2_method_5_code 18 = .ok (.getfield 15, 3) := by decide +kernel
theorem dS_totalMass_21 : decode prog_2_method_5_code 21 = .ok (.iload_n 3, 1) := by decide +kernel
theorem dS_totalMass_22 : decode prog_2_method_5_code 22 = .ok (.iaload, 1) := by decide +kernel
theorem dS_totalMass_23 : decode prog_2_method_5_code 23 = .ok (.i2l, 1) := by decide +kernel
theorem dS_totalMass_24 : decode prog_2_method_5_code 24 = .ok (.lmul, 1) := by decide +kernel
theorem dS_totalMass_25 : decode prog_2_method_5_code 25 = .ok (.ladd, 1) := by decide +kernel
theorem dS_totalMass_26 : decode prog_2_method_5_code 26 = .ok (.lstore_n 1, 1) := by decide +kernel
theorem dS_totalMass_27 : decode prog_2_method_5_code 27 = .ok (.iinc 3 1, 3) := by decide +kernel
theorem dS_totalMass_30 : decode prog_2_method_5_code 30 = .ok (.goto (-26), 3) := by decide +kernel
theorem dS_totalMass_33 : decode prog_2_method_5_code 33 = .ok (.lload_n 1, 1) := by decide +kernel
theorem dS_totalMass_34 : decode prog_2_method_5_code 34 = .ok (.lreturn, 1) := by decide +kernel
theorem dS_takeOut_0 : decode prog_2_method_6_code 0 = .ok (.lload_n 3, 1) := by decide +kernel
theorem dS_takeOut_1 : decode prog_2_method_6_code 1 = .ok (.lconst 0, 1) := by decide +kernel
theorem dS_takeOut_2 : decode prog_2_method_6_code 2 = .ok (.lcmp, 1) := by decide +kernel
theorem dS_takeOut_3 : decode prog_2_method_6_code 3 = .ok (.ifCond .gt 5, 3) := by decide +kernel
theorem dS_takeOut_6 : decode prog_2_method_6_code 6 = .ok (.lconst 0, 1) := by decide +kernel
theorem dS_takeOut_7 : decode prog_2_method_6_code 7 = .ok (.lreturn, 1) := by decide +kernel
theorem dS_takeOut_8 : decode prog_2_method_6_code 8 = .ok (.lconst 0, 1) := by decide +kernel
theorem dS_takeOut_9 : decode prog_2_method_6_code 9 = .ok (.lstore 5, 2) := by decide +kernel
theorem dS_takeOut_11 : decode prog_2_method_6_code 11 = .ok (.iconst 0, 1) := by decide +kernel
theorem dS_takeOut_12 : decode prog_2_method_6_code 12 = .ok (.istore 7, 2) := by decide +kernel
theorem dS_takeOut_14 : decode prog_2_method_6_code 14 = .ok (.iload 7, 2) := by decide +kernel
theorem dS_takeOut_16 : decode prog_2_method_6_code 16 = .ok (.bipush 6, 2) := by decide +kernel
theorem dS_takeOut_18 : decode prog_2_method_6_code 18 = .ok (.if_icmp .ge 50, 3) := by decide +kernel
theorem dS_takeOut_21 : decode prog_2_method_6_code 21 = .ok (.aload_n 0, 1) := by decide +kernel
theorem dS_takeOut_22 : decode prog_2_method_6_code 22 = .ok (.getfield 24, 3) := by decide +kernel
theorem dS_takeOut_25 : decode prog_2_method_6_code 25 = .ok (.iload 7, 2) := by decide +kernel
theorem dS_takeOut_27 : decode prog_2_method_6_code 27 = .ok (.laload, 1) := by decide +kernel
theorem dS_takeOut_28 : decode prog_2_method_6_code 28 = .ok (.lload_n 1, 1) := by decide +kernel
theorem dS_takeOut_29 : decode prog_2_method_6_code 29 = .ok (.lmul, 1) := by decide +kernel
theorem dS_takeOut_30 : decode prog_2_method_6_code 30 = .ok (.lload_n 3, 1) := by decide +kernel
theorem dS_takeOut_31 : decode prog_2_method_6_code 31 = .ok (.ldiv, 1) := by decide +kernel
theorem dS_takeOut_32 : decode prog_2_method_6_code 32 = .ok (.lstore 8, 2) := by decide +kernel
theorem dS_takeOut_34 : decode prog_2_method_6_code 34 = .ok (.aload_n 0, 1) := by decide +kernel
theorem dS_takeOut_35 : decode prog_2_method_6_code 35 = .ok (.getfield 24, 3) := by decide +kernel
theorem dS_takeOut_38 : decode prog_2_method_6_code 38 = .ok (.iload 7, 2) := by decide +kernel
theorem dS_takeOut_40 : decode prog_2_method_6_code 40 = .ok (.dup2, 1) := by decide +kernel
theorem dS_takeOut_41 : decode prog_2_method_6_code 41 = .ok (.laload, 1) := by decide +kernel
theorem dS_takeOut_42 : decode prog_2_method_6_code 42 = .ok (.lload 8, 2) := by decide +kernel
theorem dS_takeOut_44 : decode prog_2_method_6_code 44 = .ok (.lsub, 1) := by decide +kernel
theorem dS_takeOut_45 : decode prog_2_method_6_code 45 = .ok (.lastore, 1) := by decide +kernel
theorem dS_takeOut_46 : decode prog_2_method_6_code 46 = .ok (.lload 5, 2) := by decide +kernel
theorem dS_takeOut_48 : decode prog_2_method_6_code 48 = .ok (.lload 8, 2) := by decide +kernel
theorem dS_takeOut_50 : decode prog_2_method_6_code 50 = .ok (.aload_n 0, 1) := by decide +kernel
theorem dS_takeOut_51 : decode prog_2_method_6_code 51 = .ok (.getfield 15, 3) := by decide +kernel
theorem dS_takeOut_54 : decode prog_2_method_6_code 54 = .ok (.iload 7, 2) := by decide +kernel
theorem dS_takeOut_56 : decode prog_2_method_6_code 56 = .ok (.iaload, 1) := by decide +kernel
theorem dS_takeOut_57 : decode prog_2_method_6_code 57 = .ok (.i2l, 1) := by decide +kernel
theorem dS_takeOut_58 : decode prog_2_method_6_code 58 = .ok (.lmul, 1) := by decide +kernel
theorem dS_takeOut_59 : decode prog_2_method_6_code 59 = .ok (.ladd, 1) := by decide +kernel
theorem dS_takeOut_60 : decode prog_2_method_6_code 60 = .ok (.lstore 5, 2) := by decide +kernel
theorem dS_takeOut_62 : decode prog_2_method_6_code 62 = .ok (.iinc 7 1, 3) := by decide +kernel
theorem dS_takeOut_65 : decode prog_2_method_6_code 65 = .ok (.goto (-51), 3) := by decide +kernel
theorem dS_takeOut_68 : decode prog_2_method_6_code 68 = .ok (.lload 5, 2) := by decide +kernel
theorem dS_takeOut_70 : decode prog_2_method_6_code 70 = .ok (.lreturn, 1) := by decide +kernel
theorem dS_loseDead_0 : decode prog_2_method_7_code 0 = .ok (.iconst 0, 1) := by decide +kernel
theorem dS_loseDead_1 : decode prog_2_method_7_code 1 = .ok (.istore_n 1, 1) := by decide +kernel
theorem dS_loseDead_2 : decode prog_2_method_7_code 2 = .ok (.iload_n 1, 1) := by decide +kernel
theorem dS_loseDead_3 : decode prog_2_method_7_code 3 = .ok (.bipush 6, 2) := by decide +kernel
theorem dS_loseDead_5 : decode prog_2_method_7_code 5 = .ok (.if_icmp .ge 36, 3) := by decide +kernel
theorem dS_loseDead_8 : decode prog_2_method_7_code 8 = .ok (.aload_n 0, 1) := by decide +kernel
theorem dS_loseDead_9 : decode prog_2_method_7_code 9 = .ok (.getfield 24, 3) := by decide +kernel
theorem dS_loseDead_12 : decode prog_2_method_7_code 12 = .ok (.iload_n 1, 1) := by decide +kernel
theorem dS_loseDead_13 : decode prog_2_method_7_code 13 = .ok (.dup2, 1) := by decide +kernel
theorem dS_loseDead_14 : decode prog_2_method_7_code 14 = .ok (.laload, 1) := by decide +kernel
theorem dS_loseDead_15 : decode prog_2_method_7_code 15 = .ok (.aload_n 0, 1) := by decide +kernel
theorem dS_loseDead_16 : decode prog_2_method_7_code 16 = .ok (.getfield 24, 3) := by decide +kernel
theorem dS_loseDead_19 : decode prog_2_method_7_code 19 = .ok (.iload_n 1, 1) := by decide +kernel
theorem dS_loseDead_20 : decode prog_2_method_7_code 20 = .ok (.laload, 1) := by decide +kernel
theorem dS_loseDead_21 : decode prog_2_method_7_code 21 = .ok (.aload_n 0, 1) := by decide +kernel
theorem dS_loseDead_22 : decode prog_2_method_7_code 22 = .ok (.getfield 21, 3) := by decide +kernel
theorem dS_loseDead_25 : decode prog_2_method_7_code 25 = .ok (.iload_n 1, 1) := by decide +kernel
theorem dS_loseDead_26 : decode prog_2_method_7_code 26 = .ok (.iaload, 1) := by decide +kernel
theorem dS_loseDead_27 : decode prog_2_method_7_code 27 = .ok (.i2l, 1) := by decide +kernel
theorem dS_loseDead_28 : decode prog_2_method_7_code 28 = .ok (.lmul, 1) := by decide +kernel
theorem dS_loseDead_29 : decode prog_2_method_7_code 29 = .ok (.ldc2_w 28, 3) := by decide +kernel
theorem dS_loseDead_32 : decode prog_2_method_7_code 32 = .ok (.ldiv, 1) := by decide +kernel
theorem dS_loseDead_33 : decode prog_2_method_7_code 33 = .ok (.lsub, 1) := by decide +kernel
theorem dS_loseDead_34 : decode prog_2_method_7_code 34 = .ok (.lastore, 1) := by decide +kernel
theorem dS_loseDead_35 : decode prog_2_method_7_code 35 = .ok (.iinc 1 1, 3) := by decide +kernel
theorem dS_loseDead_38 : decode prog_2_method_7_code 38 = .ok (.goto (-36), 3) := by decide +kernel
theorem dS_loseDead_41 : decode prog_2_method_7_code 41 = .ok (.return_, 1) := by decide +kernel
theorem dS_growOlder_0 : decode prog_2_method_8_code 0 = .ok (.iconst 5, 1) := by decide +kernel
theorem dS_growOlder_1 : decode prog_2_method_8_code 1 = .ok (.istore_n 3, 1) := by decide +kernel
theorem dS_growOlder_2 : decode prog_2_method_8_code 2 = .ok (.aload_n 0, 1) := by decide +kernel
theorem dS_growOlder_3 : decode prog_2_method_8_code 3 = .ok (.getfield 24, 3) := by decide +kernel
theorem dS_growOlder_6 : decode prog_2_method_8_code 6 = .ok (.iload_n 3, 1) := by decide +kernel
theorem dS_growOlder_7 : decode prog_2_method_8_code 7 = .ok (.dup2, 1) := by decide +kernel
theorem dS_growOlder_8 : decode prog_2_method_8_code 8 = .ok (.laload, 1) := by decide +kernel
theorem dS_growOlder_9 : decode prog_2_method_8_code 9 = .ok (.aload_n 0, 1) := by decide +kernel
theorem dS_growOlder_10 : decode prog_2_method_8_code 10 = .ok (.getfield 24, 3) := by decide +kernel
theorem dS_growOlder_13 : decode prog_2_method_8_code 13 = .ok (.iload_n 3, 1) := by decide +kernel
theorem dS_growOlder_14 : decode prog_2_method_8_code 14 = .ok (.iconst 1, 1) := by decide +kernel
theorem dS_growOlder_15 : decode prog_2_method_8_code 15 = .ok (.isub, 1) := by decide +kernel
theorem dS_growOlder_16 : decode prog_2_method_8_code 16 = .ok (.laload, 1) := by decide +kernel
theorem dS_growOlder_17 : decode prog_2_method_8_code 17 = .ok (.ladd, 1) := by decide +kernel
theorem dS_growOlder_18 : decode prog_2_method_8_code 18 = .ok (.lastore, 1) := by decide +kernel
theorem dS_growOlder_19 : decode prog_2_method_8_code 19 = .ok (.iload_n 3, 1) := by decide +kernel
theorem dS_growOlder_20 : decode prog_2_method_8_code 20 = .ok (.iconst 1, 1) := by decide +kernel
theorem dS_growOlder_21 : decode prog_2_method_8_code 21 = .ok (.isub, 1) := by decide +kernel
theorem dS_growOlder_22 : decode prog_2_method_8_code 22 = .ok (.istore 4, 2) := by decide +kernel
theorem dS_growOlder_24 : decode prog_2_method_8_code 24 = .ok (.iload 4, 2) := by decide +kernel
theorem dS_growOlder_26 : decode prog_2_method_8_code 26 = .ok (.ifCond .le 25, 3) := by decide +kernel
theorem dS_growOlder_29 : decode prog_2_method_8_code 29 = .ok (.aload_n 0, 1) := by decide +kernel
theorem dS_growOlder_30 : decode prog_2_method_8_code 30 = .ok (.getfield 24, 3) := by decide +kernel
theorem dS_growOlder_33 : decode prog_2_method_8_code 33 = .ok (.iload 4, 2) := by decide +kernel
theorem dS_growOlder_35 : decode prog_2_method_8_code 35 = .ok (.aload_n 0, 1) := by decide +kernel
theorem dS_growOlder_36 : decode prog_2_method_8_code 36 = .ok (.getfield 24, 3) := by decide +kernel
theorem dS_growOlder_39 : decode prog_2_method_8_code 39 = .ok (.iload 4, 2) := by decide +kernel
theorem dS_growOlder_41 : decode prog_2_method_8_code 41 = .ok (.iconst 1, 1) := by decide +kernel
theorem dS_growOlder_42 : decode prog_2_method_8_code 42 = .ok (.isub, 1) := by decide +kernel
theorem dS_growOlder_43 : decode prog_2_method_8_code 43 = .ok (.laload, 1) := by decide +kernel
theorem dS_growOlder_44 : decode prog_2_method_8_code 44 = .ok (.lastore, 1) := by decide +kernel
theorem dS_growOlder_45 : decode prog_2_method_8_code 45 = .ok (.iinc 4 (-1), 3) := by decide +kernel
theorem dS_growOlder_48 : decode prog_2_method_8_code 48 = .ok (.goto (-24), 3) := by decide +kernel
theorem dS_growOlder_51 : decode prog_2_method_8_code 51 = .ok (.aload_n 0, 1) := by decide +kernel
theorem dS_growOlder_52 : decode prog_2_method_8_code 52 = .ok (.getfield 24, 3) := by decide +kernel
theorem dS_growOlder_55 : decode prog_2_method_8_code 55 = .ok (.iconst 0, 1) := by decide +kernel
theorem dS_growOlder_56 : decode prog_2_method_8_code 56 = .ok (.lload_n 1, 1) := by decide +kernel
theorem dS_growOlder_57 : decode prog_2_method_8_code 57 = .ok (.lastore, 1) := by decide +kernel
theorem dS_growOlder_58 : decode prog_2_method_8_code 58 = .ok (.return_, 1) := by decide +kernel
theorem dY_init_0 : decode prog_3_method_1_code 0 = .ok (.aload_n 0, 1) := by decide +kernel
theorem dY_init_1 : decode prog_3_method_1_code 1 = .ok (.invokespecial 3, 3) := by decide +kernel
theorem dY_init_4 : decode prog_3_method_1_code 4 = .ok (.aload_n 0, 1) := by decide +kernel
theorem dY_init_5 : decode prog_3_method_1_code 5 = .ok (.iconst 4, 1) := by decide +kernel
theorem dY_init_6 : decode prog_3_method_1_code 6 = .ok (.sipush 320, 3) := by decide +kernel
theorem dY_init_9 : decode prog_3_method_1_code 9 = .ok (.multianewarray 9 2, 4) := by decide +kernel
theorem dY_init_13 : decode prog_3_method_1_code 13 = .ok (.putfield 11, 3) := by decide +kernel
theorem dY_init_16 : decode prog_3_method_1_code 16 = .ok (.return_, 1) := by decide +kernel
theorem dY_get_0 : decode prog_3_method_2_code 0 = .ok (.aload_n 0, 1) := by decide +kernel
theorem dY_get_1 : decode prog_3_method_2_code 1 = .ok (.getfield 11, 3) := by decide +kernel
theorem dY_get_4 : decode prog_3_method_2_code 4 = .ok (.iload_n 1, 1) := by decide +kernel
theorem dY_get_5 : decode prog_3_method_2_code 5 = .ok (.aaload, 1) := by decide +kernel
theorem dY_get_6 : decode prog_3_method_2_code 6 = .ok (.iload_n 2, 1) := by decide +kernel
theorem dY_get_7 : decode prog_3_method_2_code 7 = .ok (.bipush 20, 2) := by decide +kernel
theorem dY_get_9 : decode prog_3_method_2_code 9 = .ok (.imul, 1) := by decide +kernel
theorem dY_get_10 : decode prog_3_method_2_code 10 = .ok (.iload_n 3, 1) := by decide +kernel
theorem dY_get_11 : decode prog_3_method_2_code 11 = .ok (.iadd, 1) := by decide +kernel
theorem dY_get_12 : decode prog_3_method_2_code 12 = .ok (.iconst 1, 1) := by decide +kernel
theorem dY_get_13 : decode prog_3_method_2_code 13 = .ok (.isub, 1) := by decide +kernel
theorem dY_get_14 : decode prog_3_method_2_code 14 = .ok (.laload, 1) := by decide +kernel
theorem dY_get_15 : decode prog_3_method_2_code 15 = .ok (.lreturn, 1) := by decide +kernel
theorem dY_put_0 : decode prog_3_method_3_code 0 = .ok (.aload_n 0, 1) := by decide +kernel
theorem dY_put_1 : decode prog_3_method_3_code 1 = .ok (.getfield 11, 3) := by decide +kernel
theorem dY_put_4 : decode prog_3_method_3_code 4 = .ok (.iload_n 1, 1) := by decide +kernel
theorem dY_put_5 : decode prog_3_method_3_code 5 = .ok (.aaload, 1) := by decide +kernel
theorem dY_put_6 : decode prog_3_method_3_code 6 = .ok (.iload_n 2, 1) := by decide +kernel
theorem dY_put_7 : decode prog_3_method_3_code 7 = .ok (.bipush 20, 2) := by decide +kernel
theorem dY_put_9 : decode prog_3_method_3_code 9 = .ok (.imul, 1) := by decide +kernel
theorem dY_put_10 : decode prog_3_method_3_code 10 = .ok (.iload_n 3, 1) := by decide +kernel
theorem dY_put_11 : decode prog_3_method_3_code 11 = .ok (.iadd, 1) := by decide +kernel
theorem dY_put_12 : decode prog_3_method_3_code 12 = .ok (.iconst 1, 1) := by decide +kernel
theorem dY_put_13 : decode prog_3_method_3_code 13 = .ok (.isub, 1) := by decide +kernel
theorem dY_put_14 : decode prog_3_method_3_code 14 = .ok (.lload 4, 2) := by decide +kernel
theorem dY_put_16 : decode prog_3_method_3_code 16 = .ok (.lastore, 1) := by decide +kernel
theorem dY_put_17 : decode prog_3_method_3_code 17 = .ok (.return_, 1) := by decide +kernel
end
section
section QST
variable (l : Launch) (dC : Nat → ClassId) (dI : Nat → Nat → Nat) (cI cJ cG : ClassId)
set_option maxHeartbeats 4000000 in
set_option maxRecDepth 100000 in
theorem c_Stock_setAge (z0 z1 z2 z3 z4 z5 : Nat) (nu wt rp di : Nat → Int32) (ag : Nat) (a1 a2 a3 a4 : Int32) (hag : ag < 6) : qMv l yS_setAge (wS_setAge) ({ frames := 0, cells := 0, slots := 0, locals := 0 } : Room) (dC, dI) qCl [(cI, .int), (cJ, .long), (cG, .array .long)] [.ref z0, .int (nI ag), .int a1, .int a2, .int a3, .int a4] [(z0, .inr (1, [.ref z1, .ref z2, .ref z3, .ref z4, .ref z5])), (z1, .inl (cI, 6, .inl nu)), (z2, .inl (cI, 6, .inl wt)), (z3, .inl (cI, 6, .inl rp)), (z4, .inl (cI, 6, .inl di))] [(z0, .inr (1, [.ref z1, .ref z2, .ref z3, .ref z4, .ref z5])), (z1, .inl (cI, 6, .inl (upd nu ag a1))), (z2, .inl (cI, 6, .inl (upd wt ag a2))), (z3, .inl (cI, 6, .inl (upd rp ag a3))), (z4, .inl (cI, 6, .inl (upd di ag a4)))] 0 0 := by
  refine qm_v (cc := prog_2_method_2_code) (maxL := 6) (by decide) rfl (Nat.le_of_ble_eq_true rfl) ?_
  intro p e s m args below meth c Q A ls hx hb hml hown hnm hts hA hK hP hD hS hl hret
  have hl : lv_has ls 6 [(0, .ref z0), (1, .int (nI ag)), (2, .int a1), (3, .int a2), (4, .int a3), (5, .int a4)] := hl
  refine lv_aload_n hx hb dS_setAge_0 rfl (lv_at hl 0 rfl) ?_
  refine va_get (D := (dC, dI)) (ci := 1) (v := .ref z1) (C := "OutlookOdds$Stock") (T := TS) (N := 5) hx hb hts inS hown hK hP 0 rfl rfl 0 (by decide) (hts _ mq_1_26) (fun _ h9 => h9) rfl dS_setAge_1 ?_
  refine lv_iload_n hx hb dS_setAge_4 rfl (lv_at hl 1 rfl) ?_
  refine lv_iload_n hx hb dS_setAge_5 rfl (lv_at hl 2 rfl) ?_
  refine qr_iast (k := ag) (ws2 := [(z0, .inr (1, [.ref z1, .ref z2, .ref z3, .ref z4, .ref z5])), (z1, .inl (cI, 6, .inl (upd nu ag a1))), (z2, .inl (cI, 6, .inl wt)), (z3, .inl (cI, 6, .inl rp)), (z4, .inl (cI, 6, .inl di))]) hx hb hK hP hD hS 1 0 rfl rfl (rfl) (by omega) (by decide) rfl dS_setAge_6 (fun H locs hP hD hS => ?_)
  refine lv_aload_n hx hb dS_setAge_7 rfl (lv_at hl 0 rfl) ?_
  refine va_get (D := (dC, dI)) (ci := 1) (v := .ref z2) (C := "OutlookOdds$Stock") (T := TS) (N := 5) hx hb hts inS hown hK hP 0 rfl rfl 1 (by decide) (hts _ mq_1_27) (fun _ h9 => h9) rfl dS_setAge_8 ?_
  refine lv_iload_n hx hb dS_setAge_11 rfl (lv_at hl 1 rfl) ?_
  refine lv_iload_n hx hb dS_setAge_12 rfl (lv_at hl 3 rfl) ?_
  refine qr_iast (k := ag) (ws2 := [(z0, .inr (1, [.ref z1, .ref z2, .ref z3, .ref z4, .ref z5])), (z1, .inl (cI, 6, .inl (upd nu ag a1))), (z2, .inl (cI, 6, .inl (upd wt ag a2))), (z3, .inl (cI, 6, .inl rp)), (z4, .inl (cI, 6, .inl di))]) hx hb hK hP hD hS 2 0 rfl rfl (rfl) (by omega) (by decide) rfl dS_setAge_13 (fun H locs hP hD hS => ?_)
  refine lv_aload_n hx hb dS_setAge_14 rfl (lv_at hl 0 rfl) ?_
  refine va_get (D := (dC, dI)) (ci := 1) (v := .ref z3) (C := "OutlookOdds$Stock") (T := TS) (N := 5) hx hb hts inS hown hK hP 0 rfl rfl 2 (by decide) (hts _ mq_1_28) (fun _ h9 => h9) rfl dS_setAge_15 ?_
  refine lv_iload_n hx hb dS_setAge_18 rfl (lv_at hl 1 rfl) ?_
  refine lv_iload hx hb dS_setAge_19 (lv_at hl 4 rfl) ?_
  refine qr_iast (k := ag) (ws2 := [(z0, .inr (1, [.ref z1, .ref z2, .ref z3, .ref z4, .ref z5])), (z1, .inl (cI, 6, .inl (upd nu ag a1))), (z2, .inl (cI, 6, .inl (upd wt ag a2))), (z3, .inl (cI, 6, .inl (upd rp ag a3))), (z4, .inl (cI, 6, .inl di))]) hx hb hK hP hD hS 3 0 rfl rfl (rfl) (by omega) (by decide) rfl dS_setAge_21 (fun H locs hP hD hS => ?_)
  refine lv_aload_n hx hb dS_setAge_22 rfl (lv_at hl 0 rfl) ?_
  refine va_get (D := (dC, dI)) (ci := 1) (v := .ref z4) (C := "OutlookOdds$Stock") (T := TS) (N := 5) hx hb hts inS hown hK hP 0 rfl rfl 3 (by decide) (hts _ mq_1_29) (fun _ h9 => h9) rfl dS_setAge_23 ?_
  refine lv_iload_n hx hb dS_setAge_26 rfl (lv_at hl 1 rfl) ?_
  refine lv_iload hx hb dS_setAge_27 (lv_at hl 5 rfl) ?_
  refine qr_iast (k := ag) (ws2 := [(z0, .inr (1, [.ref z1, .ref z2, .ref z3, .ref z4, .ref z5])), (z1, .inl (cI, 6, .inl (upd nu ag a1))), (z2, .inl (cI, 6, .inl (upd wt ag a2))), (z3, .inl (cI, 6, .inl (upd rp ag a3))), (z4, .inl (cI, 6, .inl (upd di ag a4)))]) hx hb hK hP hD hS 4 0 rfl rfl (rfl) (by omega) (by decide) rfl dS_setAge_29 (fun H locs hP hD hS => ?_)
  exact hret hP hD hS (Nat.le_of_ble_eq_true rfl) (Nat.le_of_ble_eq_true rfl) dS_setAge_30

set_option maxHeartbeats 4000000 in
set_option maxRecDepth 100000 in
theorem c_Stock_begin (z0 z1 z2 z3 z4 z5 : Nat) (nu : Nat → Int32) (lv : Nat → Int64) : qMv l yS_begin (wS_begin) ({ frames := 0, cells := 0, slots := 0, locals := 0 } : Room) (dC, dI) qCl [(cI, .int), (cJ, .long), (cG, .array .long)] [.ref z0] [(z0, .inr (1, [.ref z1, .ref z2, .ref z3, .ref z4, .ref z5])), (z1, .inl (cI, 6, .inl nu)), (z5, .inl (cJ, 6, .inr (.inl lv)))] [(z0, .inr (1, [.ref z1, .ref z2, .ref z3, .ref z4, .ref z5])), (z1, .inl (cI, 6, .inl nu)), (z5, .inl (cJ, 6, .inr (.inl (pf_begin nu lv 6))))] 0 0 := by
  refine qm_v (cc := prog_2_method_3_code) (maxL := 2) (by decide) rfl (Nat.le_of_ble_eq_true rfl) ?_
  intro p e s m args below meth c Q A ls hx hb hml hown hnm hts hA hK hP hD hS hl hret
  have hl : lv_has ls 2 [(0, .ref z0)] := hl
  refine lv_iconst (v := 0) hx hb dS_begin_0 (by decide) ?_
  refine lv_istore_n (lv' := [(1, .int 0), (0, .ref z0)]) hx hb dS_begin_1 rfl hl (by decide) rfl (fun ls hl => ?_)
  have lp_2 : ∀ (n : Nat) (i : Nat), 6 - i < n → i ≤ 6 → ∀ (H : Heap) (locs : List Loc), va_P (dC, dI) qCl [(z0, .inr (1, [.ref z1, .ref z2, .ref z3, .ref z4, .ref z5])), (z1, .inl (cI, 6, .inl nu)), (z5, .inl (cJ, 6, .inr (.inl (pf_begin nu lv i))))] H → va_D A [(z0, .inr (1, [.ref z1, .ref z2, .ref z3, .ref z4, .ref z5])), (z1, .inl (cI, 6, .inl nu)), (z5, .inl (cJ, 6, .inr (.inl (pf_begin nu lv i))))] → va_S A s.heap H locs → ∀ (ls : Array Slot), lv_has ls 2 [(0, .ref z0), (1, .int (nI i))] → W p l e ({ frames := 0, cells := 0, slots := 0, locals := 0 } : Room) s m args below meth c H locs 0 0 Q (F0 m 2 ls []) := by
    intro n_2
    induction n_2 with
    | zero => intro i hm; exact absurd hm (Nat.not_lt_zero _)
    | succ n_2 ih_2 =>
      intro i hm_2 hi H locs hP hD hS ls hl
      refine lv_iload_n hx hb dS_begin_2 rfl (lv_at hl 1 rfl) ?_
      refine lv_bipush (v := 6) hx hb dS_begin_3 (by decide) ?_
      refine lv_icmp_ge (tgt := 27) hx hb dS_begin_5 (by decide) (fun h5 => ?_) (fun h5 => ?_)
      · have e_i : i = 6 := qn_ge (b := 6) h5 hi (by decide)
        have hP : va_P (dC, dI) qCl [(z0, .inr (1, [.ref z1, .ref z2, .ref z3, .ref z4, .ref z5])), (z1, .inl (cI, 6, .inl nu)), (z5, .inl (cJ, 6, .inr (.inl (pf_begin nu lv 6))))] H := by first | exact hP | (rw [e_i] at hP; exact hP)
        have hD : va_D A [(z0, .inr (1, [.ref z1, .ref z2, .ref z3, .ref z4, .ref z5])), (z1, .inl (cI, 6, .inl nu)), (z5, .inl (cJ, 6, .inr (.inl (pf_begin nu lv 6))))] := by first | exact hD | (rw [e_i] at hD; exact hD)
        have hl : lv_has ls 2 [(0, .ref z0), (1, .int (nI 6))] := by first | exact hl | (rw [e_i] at hl; exact hl)
        exact hret hP hD hS (Nat.le_of_ble_eq_true rfl) (Nat.le_of_ble_eq_true rfl) dS_begin_27
      · have hlt : i < 6 := qn_nge (b := 6) h5 (by omega)
        refine lv_aload_n hx hb dS_begin_8 rfl (lv_at hl 0 rfl) ?_
        refine va_get (D := (dC, dI)) (ci := 1) (v := .ref z5) (C := "OutlookOdds$Stock") (T := TS) (N := 5) hx hb hts inS hown hK hP 0 rfl rfl 4 (by decide) (hts _ mq_1_30) (fun _ h9 => h9) rfl dS_begin_9 ?_
        refine lv_iload_n hx hb dS_begin_12 rfl (lv_at hl 1 rfl) ?_
        refine lv_aload_n hx hb dS_begin_13 rfl (lv_at hl 0 rfl) ?_
        refine va_get (D := (dC, dI)) (ci := 1) (v := .ref z1) (C := "OutlookOdds$Stock") (T := TS) (N := 5) hx hb hts inS hown hK hP 0 rfl rfl 0 (by decide) (hts _ mq_1_26) (fun _ h9 => h9) rfl dS_begin_14 ?_
        refine lv_iload_n hx hb dS_begin_17 rfl (lv_at hl 1 rfl) ?_
        refine qr_iald (k := i) hx hb hK hP 1 0 rfl rfl (rfl) (by omega) (by decide) dS_begin_18 ?_
        refine lv_i2l hx hb dS_begin_19 rfl ?_
        refine qr_last (k := i) (ws2 := [(z0, .inr (1, [.ref z1, .ref z2, .ref z3, .ref z4, .ref z5])), (z1, .inl (cI, 6, .inl nu)), (z5, .inl (cJ, 6, .inr (.inl (vp_updL (pf_begin nu lv i) i ((nu i).toInt64)))))]) hx hb hK hP hD hS 2 1 rfl rfl (rfl) (by omega) (by decide) rfl dS_begin_20 (fun H locs hP hD hS => ?_)
        refine lv_iinc (v := nI (i + 1)) (lv' := [(1, .int (nI (i + 1))), (0, .ref z0)]) hx hb dS_begin_21 hl (k := 1) rfl (nI_1 _) (by decide) rfl (fun ls hl => ?_)
        refine lv_goto (tgt := 2) hx hb dS_begin_24 (by decide) ?_
        exact ih_2 (i + 1) (by omega) (by omega) _ _ hP hD hS ls (lv_sub hl [1, 0] rfl)
  exact lp_2 ((6 - 0) + 1) 0 (by omega) (by omega) _ _ hP hD hS ls (lv_sub hl [1, 0] rfl)

set_option maxHeartbeats 4000000 in
set_option maxRecDepth 100000 in
theorem c_Stock_ripeMass (z0 z1 z2 z3 z4 z5 : Nat) (wt rp : Nat → Int32) (lv : Nat → Int64) : qMl l yS_ripeMass (wS_ripeMass) ({ frames := 0, cells := 0, slots := 0, locals := 0 } : Room) (dC, dI) qCl [(cI, .int), (cJ, .long), (cG, .array .long)] [.ref z0] [(z0, .inr (1, [.ref z1, .ref z2, .ref z3, .ref z4, .ref z5])), (z2, .inl (cI, 6, .inl wt)), (z3, .inl (cI, 6, .inl rp)), (z5, .inl (cJ, 6, .inr (.inl lv)))] [(z0, .inr (1, [.ref z1, .ref z2, .ref z3, .ref z4, .ref z5])), (z2, .inl (cI, 6, .inl wt)), (z3, .inl (cI, 6, .inl rp)), (z5, .inl (cJ, 6, .inr (.inl lv)))] (pf_ripe lv wt rp 6) 0 0 := by
  refine qm_l (cc := prog_2_method_4_code) (maxL := 4) (by decide) rfl (Nat.le_of_ble_eq_true rfl) ?_
  intro p e s m args below meth c Q A ls hx hb hml hown hnm hts hA hK hP hD hS hl hret
  have hl : lv_has ls 4 [(0, .ref z0)] := hl
  refine lv_lconst (v := 0) hx hb dS_ripeMass_0 (by decide) ?_
  refine lv_lstore_n (lv' := [(1, .long 0), (0, .ref z0)]) hx hb dS_ripeMass_1 rfl hl (by decide) rfl (fun ls hl => ?_)
  refine lv_iconst (v := 0) hx hb dS_ripeMass_2 (by decide) ?_
  refine lv_istore_n (lv' := [(3, .int 0), (1, .long 0), (0, .ref z0)]) hx hb dS_ripeMass_3 rfl hl (by decide) rfl (fun ls hl => ?_)
  have lp_4 : ∀ (n : Nat) (i : Nat), 6 - i < n → i ≤ 6 → ∀ (H : Heap) (locs : List Loc), va_P (dC, dI) qCl [(z0, .inr (1, [.ref z1, .ref z2, .ref z3, .ref z4, .ref z5])), (z2, .inl (cI, 6, .inl wt)), (z3, .inl (cI, 6, .inl rp)), (z5, .inl (cJ, 6, .inr (.inl lv)))] H → va_D A [(z0, .inr (1, [.ref z1, .ref z2, .ref z3, .ref z4, .ref z5])), (z2, .inl (cI, 6, .inl wt)), (z3, .inl (cI, 6, .inl rp)), (z5, .inl (cJ, 6, .inr (.inl lv)))] → va_S A s.heap H locs → ∀ (ls : Array Slot), lv_has ls 4 [(0, .ref z0), (1, .long (pf_ripe lv wt rp i)), (3, .int (nI i))] → W p l e ({ frames := 0, cells := 0, slots := 0, locals := 0 } : Room) s m args below meth c H locs 0 0 Q (F0 m 4 ls []) := by
    intro n_4
    induction n_4 with
    | zero => intro i hm; exact absurd hm (Nat.not_lt_zero _)
    | succ n_4 ih_4 =>
      intro i hm_4 hi H locs hP hD hS ls hl
      refine lv_iload_n hx hb dS_ripeMass_4 rfl (lv_at hl 2 rfl) ?_
      refine lv_bipush (v := 6) hx hb dS_ripeMass_5 (by decide) ?_
      refine lv_icmp_ge (tgt := 45) hx hb dS_ripeMass_7 (by decide) (fun h7 => ?_) (fun h7 => ?_)
      · have e_i : i = 6 := qn_ge (b := 6) h7 hi (by decide)
        have hP : va_P (dC, dI) qCl [(z0, .inr (1, [.ref z1, .ref z2, .ref z3, .ref z4, .ref z5])), (z2, .inl (cI, 6, .inl wt)), (z3, .inl (cI, 6, .inl rp)), (z5, .inl (cJ, 6, .inr (.inl lv)))] H := by first | exact hP | (rw [e_i] at hP; exact hP)
        have hD : va_D A [(z0, .inr (1, [.ref z1, .ref z2, .ref z3, .ref z4, .ref z5])), (z2, .inl (cI, 6, .inl wt)), (z3, .inl (cI, 6, .inl rp)), (z5, .inl (cJ, 6, .inr (.inl lv)))] := by first | exact hD | (rw [e_i] at hD; exact hD)
        have hl : lv_has ls 4 [(0, .ref z0), (1, .long (pf_ripe lv wt rp 6)), (3, .int (nI 6))] := by first | exact hl | (rw [e_i] at hl; exact hl)
        refine lv_lload_n hx hb dS_ripeMass_45 rfl (lv_at hl 1 rfl) ?_
        exact hret hP hD hS (Nat.le_of_ble_eq_true rfl) (Nat.le_of_ble_eq_true rfl) (rfl) dS_ripeMass_46
      · have hlt : i < 6 := qn_nge (b := 6) h7 (by omega)
        refine lv_lload_n hx hb dS_ripeMass_10 rfl (lv_at hl 1 rfl) ?_
        refine lv_aload_n hx hb dS_ripeMass_11 rfl (lv_at hl 0 rfl) ?_
        refine va_get (D := (dC, dI)) (ci := 1) (v := .ref z5) (C := "OutlookOdds$Stock") (T := TS) (N := 5) hx hb hts inS hown hK hP 0 rfl rfl 4 (by decide) (hts _ mq_1_30) (fun _ h9 => h9) rfl dS_ripeMass_12 ?_
        refine lv_iload_n hx hb dS_ripeMass_15 rfl (lv_at hl 2 rfl) ?_
        refine qr_lald (k := i) hx hb hK hP 3 1 rfl rfl (rfl) (by omega) (by decide) dS_ripeMass_16 ?_
        refine lv_aload_n hx hb dS_ripeMass_17 rfl (lv_at hl 0 rfl) ?_
        refine va_get (D := (dC, dI)) (ci := 1) (v := .ref z2) (C := "OutlookOdds$Stock") (T := TS) (N := 5) hx hb hts inS hown hK hP 0 rfl rfl 1 (by decide) (hts _ mq_1_27) (fun _ h9 => h9) rfl dS_ripeMass_18 ?_
        refine lv_iload_n hx hb dS_ripeMass_21 rfl (lv_at hl 2 rfl) ?_
        refine qr_iald (k := i) hx hb hK hP 1 0 rfl rfl (rfl) (by omega) (by decide) dS_ripeMass_22 ?_
        refine lv_i2l hx hb dS_ripeMass_23 rfl ?_
        refine lv_lmul hx hb dS_ripeMass_24 ?_
        refine lv_aload_n hx hb dS_ripeMass_25 rfl (lv_at hl 0 rfl) ?_
        refine va_get (D := (dC, dI)) (ci := 1) (v := .ref z3) (C := "OutlookOdds$Stock") (T := TS) (N := 5) hx hb hts inS hown hK hP 0 rfl rfl 2 (by decide) (hts _ mq_1_28) (fun _ h9 => h9) rfl dS_ripeMass_26 ?_
        refine lv_iload_n hx hb dS_ripeMass_29 rfl (lv_at hl 2 rfl) ?_
        refine qr_iald (k := i) hx hb hK hP 2 0 rfl rfl (rfl) (by omega) (by decide) dS_ripeMass_30 ?_
        refine lv_i2l hx hb dS_ripeMass_31 rfl ?_
        refine lv_lmul hx hb dS_ripeMass_32 ?_
        refine lv_ldc2 (v := 1000) hx hb hown (hts _ mq_2_58) dS_ripeMass_33 ?_
        refine lv_ldiv hx hb dS_ripeMass_36 (by decide) ?_
        refine lv_ladd hx hb dS_ripeMass_37 ?_
        refine lv_lstore_n (lv' := [(1, .long ((pf_ripe lv wt rp i) + ((((lv i) * ((wt i).toInt64)) * ((rp i).toInt64)) / 1000))), (0, .ref z0), (3, .int (nI i))]) hx hb dS_ripeMass_38 rfl hl (by decide) rfl (fun ls hl => ?_)
        refine lv_iinc (v := nI (i + 1)) (lv' := [(3, .int (nI (i + 1))), (1, .long ((pf_ripe lv wt rp i) + ((((lv i) * ((wt i).toInt64)) * ((rp i).toInt64)) / 1000))), (0, .ref z0)]) hx hb dS_ripeMass_39 hl (k := 2) rfl (nI_1 _) (by decide) rfl (fun ls hl => ?_)
        refine lv_goto (tgt := 4) hx hb dS_ripeMass_42 (by decide) ?_
        exact ih_4 (i + 1) (by omega) (by omega) _ _ hP hD hS ls (lv_sub hl [2, 1, 0] rfl)
  exact lp_4 ((6 - 0) + 1) 0 (by omega) (by omega) _ _ hP hD hS ls (lv_sub hl [2, 1, 0] rfl)

set_option maxHeartbeats 4000000 in
set_option maxRecDepth 100000 in
theorem c_Stock_totalMass (z0 z1 z2 z3 z4 z5 : Nat) (wt : Nat → Int32) (lv : Nat → Int64) : qMl l yS_totalMass (wS_totalMass) ({ frames := 0, cells := 0, slots := 0, locals := 0 } : Room) (dC, dI) qCl [(cI, .int), (cJ, .long), (cG, .array .long)] [.ref z0] [(z0, .inr (1, [.ref z1, .ref z2, .ref z3, .ref z4, .ref z5])), (z2, .inl (cI, 6, .inl wt)), (z5, .inl (cJ, 6, .inr (.inl lv)))] [(z0, .inr (1, [.ref z1, .ref z2, .ref z3, .ref z4, .ref z5])), (z2, .inl (cI, 6, .inl wt)), (z5, .inl (cJ, 6, .inr (.inl lv)))] (pf_total lv wt 6) 0 0 := by
  refine qm_l (cc := prog_2_method_5_code) (maxL := 4) (by decide) rfl (Nat.le_of_ble_eq_true rfl) ?_
  intro p e s m args below meth c Q A ls hx hb hml hown hnm hts hA hK hP hD hS hl hret
  have hl : lv_has ls 4 [(0, .ref z0)] := hl
  refine lv_lconst (v := 0) hx hb dS_totalMass_0 (by decide) ?_
  refine lv_lstore_n (lv' := [(1, .long 0), (0, .ref z0)]) hx hb dS_totalMass_1 rfl hl (by decide) rfl (fun ls hl => ?_)
  refine lv_iconst (v := 0) hx hb dS_totalMass_2 (by decide) ?_
  refine lv_istore_n (lv' := [(3, .int 0), (1, .long 0), (0, .ref z0)]) hx hb dS_totalMass_3 rfl hl (by decide) rfl (fun ls hl => ?_)
  have lp_4 : ∀ (n : Nat) (i : Nat), 6 - i < n → i ≤ 6 → ∀ (H : Heap) (locs : List Loc), va_P (dC, dI) qCl [(z0, .inr (1, [.ref z1, .ref z2, .ref z3, .ref z4, .ref z5])), (z2, .inl (cI, 6, .inl wt)), (z5, .inl (cJ, 6, .inr (.inl lv)))] H → va_D A [(z0, .inr (1, [.ref z1, .ref z2, .ref z3, .ref z4, .ref z5])), (z2, .inl (cI, 6, .inl wt)), (z5, .inl (cJ, 6, .inr (.inl lv)))] → va_S A s.heap H locs → ∀ (ls : Array Slot), lv_has ls 4 [(0, .ref z0), (1, .long (pf_total lv wt i)), (3, .int (nI i))] → W p l e ({ frames := 0, cells := 0, slots := 0, locals := 0 } : Room) s m args below meth c H locs 0 0 Q (F0 m 4 ls []) := by
    intro n_4
    induction n_4 with
    | zero => intro i hm; exact absurd hm (Nat.not_lt_zero _)
    | succ n_4 ih_4 =>
      intro i hm_4 hi H locs hP hD hS ls hl
      refine lv_iload_n hx hb dS_totalMass_4 rfl (lv_at hl 2 rfl) ?_
      refine lv_bipush (v := 6) hx hb dS_totalMass_5 (by decide) ?_
      refine lv_icmp_ge (tgt := 33) hx hb dS_totalMass_7 (by decide) (fun h7 => ?_) (fun h7 => ?_)
      · have e_i : i = 6 := qn_ge (b := 6) h7 hi (by decide)
        have hP : va_P (dC, dI) qCl [(z0, .inr (1, [.ref z1, .ref z2, .ref z3, .ref z4, .ref z5])), (z2, .inl (cI, 6, .inl wt)), (z5, .inl (cJ, 6, .inr (.inl lv)))] H := by first | exact hP | (rw [e_i] at hP; exact hP)
        have hD : va_D A [(z0, .inr (1, [.ref z1, .ref z2, .ref z3, .ref z4, .ref z5])), (z2, .inl (cI, 6, .inl wt)), (z5, .inl (cJ, 6, .inr (.inl lv)))] := by first | exact hD | (rw [e_i] at hD; exact hD)
        have hl : lv_has ls 4 [(0, .ref z0), (1, .long (pf_total lv wt 6)), (3, .int (nI 6))] := by first | exact hl | (rw [e_i] at hl; exact hl)
        refine lv_lload_n hx hb dS_totalMass_33 rfl (lv_at hl 1 rfl) ?_
        exact hret hP hD hS (Nat.le_of_ble_eq_true rfl) (Nat.le_of_ble_eq_true rfl) (rfl) dS_totalMass_34
      · have hlt : i < 6 := qn_nge (b := 6) h7 (by omega)
        refine lv_lload_n hx hb dS_totalMass_10 rfl (lv_at hl 1 rfl) ?_
        refine lv_aload_n hx hb dS_totalMass_11 rfl (lv_at hl 0 rfl) ?_
        refine va_get (D := (dC, dI)) (ci := 1) (v := .ref z5) (C := "OutlookOdds$Stock") (T := TS) (N := 5) hx hb hts inS hown hK hP 0 rfl rfl 4 (by decide) (hts _ mq_1_30) (fun _ h9 => h9) rfl dS_totalMass_12 ?_
        refine lv_iload_n hx hb dS_totalMass_15 rfl (lv_at hl 2 rfl) ?_
        refine qr_lald (k := i) hx hb hK hP 2 1 rfl rfl (rfl) (by omega) (by decide) dS_totalMass_16 ?_
        refine lv_aload_n hx hb dS_totalMass_17 rfl (lv_at hl 0 rfl) ?_
        refine va_get (D := (dC, dI)) (ci := 1) (v := .ref z2) (C := "OutlookOdds$Stock") (T := TS) (N := 5) hx hb hts inS hown hK hP 0 rfl rfl 1 (by decide) (hts _ mq_1_27) (fun _ h9 => h9) rfl dS_totalMass_18 ?_
        refine lv_iload_n hx hb dS_totalMass_21 rfl (lv_at hl 2 rfl) ?_
        refine qr_iald (k := i) hx hb hK hP 1 0 rfl rfl (rfl) (by omega) (by decide) dS_totalMass_22 ?_
        refine lv_i2l hx hb dS_totalMass_23 rfl ?_
        refine lv_lmul hx hb dS_totalMass_24 ?_
        refine lv_ladd hx hb dS_totalMass_25 ?_
        refine lv_lstore_n (lv' := [(1, .long ((pf_total lv wt i) + ((lv i) * ((wt i).toInt64)))), (0, .ref z0), (3, .int (nI i))]) hx hb dS_totalMass_26 rfl hl (by decide) rfl (fun ls hl => ?_)
        refine lv_iinc (v := nI (i + 1)) (lv' := [(3, .int (nI (i + 1))), (1, .long ((pf_total lv wt i) + ((lv i) * ((wt i).toInt64)))), (0, .ref z0)]) hx hb dS_totalMass_27 hl (k := 2) rfl (nI_1 _) (by decide) rfl (fun ls hl => ?_)
        refine lv_goto (tgt := 4) hx hb dS_totalMass_30 (by decide) ?_
        exact ih_4 (i + 1) (by omega) (by omega) _ _ hP hD hS ls (lv_sub hl [2, 1, 0] rfl)
  exact lp_4 ((6 - 0) + 1) 0 (by omega) (by omega) _ _ hP hD hS ls (lv_sub hl [2, 1, 0] rfl)

set_option maxHeartbeats 4000000 in
set_option maxRecDepth 100000 in
theorem c_Stock_takeOut (z0 z1 z2 z3 z4 z5 : Nat) (wt : Nat → Int32) (lv : Nat → Int64) (al tt : Int64) : qMl l yS_takeOut (wS_takeOut) ({ frames := 0, cells := 0, slots := 0, locals := 0 } : Room) (dC, dI) qCl [(cI, .int), (cJ, .long), (cG, .array .long)] [.ref z0, .long al, .long tt] [(z0, .inr (1, [.ref z1, .ref z2, .ref z3, .ref z4, .ref z5])), (z2, .inl (cI, 6, .inl wt)), (z5, .inl (cJ, 6, .inr (.inl lv)))] [(z0, .inr (1, [.ref z1, .ref z2, .ref z3, .ref z4, .ref z5])), (z2, .inl (cI, 6, .inl wt)), (z5, .inl (cJ, 6, .inr (.inl (pf_take lv al tt))))] (pf_caught lv wt al tt) 0 0 := by
  refine qm_l (cc := prog_2_method_6_code) (maxL := 10) (by decide) rfl (Nat.le_of_ble_eq_true rfl) ?_
  intro p e s m args below meth c Q A ls hx hb hml hown hnm hts hA hK hP hD hS hl hret
  have hl : lv_has ls 10 [(0, .ref z0), (1, .long al), (3, .long tt)] := hl
  refine lv_lload_n hx hb dS_takeOut_0 rfl (lv_at hl 2 rfl) ?_
  refine lv_lconst (v := 0) hx hb dS_takeOut_1 (by decide) ?_
  refine W.lcmp hx hb dS_takeOut_2 ?_
  refine lv_if_gt (tgt := 8) hx hb dS_takeOut_3 (by decide) (fun h3 => ?_) (fun h3 => ?_)
  · have h3 := (lg_cmp_gt _ _).mp h3
    refine lv_lconst (v := 0) hx hb dS_takeOut_8 (by decide) ?_
    refine lv_lstore (lv' := [(5, .long 0), (0, .ref z0), (1, .long al), (3, .long tt)]) hx hb dS_takeOut_9 hl (by decide) rfl (fun ls hl => ?_)
    refine lv_iconst (v := 0) hx hb dS_takeOut_11 (by decide) ?_
    refine lv_istore (lv' := [(7, .int 0), (5, .long 0), (0, .ref z0), (1, .long al), (3, .long tt)]) hx hb dS_takeOut_12 hl (by decide) rfl (fun ls hl => ?_)
    have lp_14 : ∀ (n : Nat) (i : Nat), 6 - i < n → i ≤ 6 → ∀ (H : Heap) (locs : List Loc), va_P (dC, dI) qCl [(z0, .inr (1, [.ref z1, .ref z2, .ref z3, .ref z4, .ref z5])), (z2, .inl (cI, 6, .inl wt)), (z5, .inl (cJ, 6, .inr (.inl (pf_tk lv al tt i))))] H → va_D A [(z0, .inr (1, [.ref z1, .ref z2, .ref z3, .ref z4, .ref z5])), (z2, .inl (cI, 6, .inl wt)), (z5, .inl (cJ, 6, .inr (.inl (pf_tk lv al tt i))))] → va_S A s.heap H locs → ∀ (ls : Array Slot), lv_has ls 10 [(0, .ref z0), (1, .long al), (3, .long tt), (5, .long (pf_ct lv wt al tt i)), (7, .int (nI i))] → W p l e ({ frames := 0, cells := 0, slots := 0, locals := 0 } : Room) s m args below meth c H locs 0 0 Q (F0 m 14 ls []) := by
      intro n_14
      induction n_14 with
      | zero => intro i hm; exact absurd hm (Nat.not_lt_zero _)
      | succ n_14 ih_14 =>
        intro i hm_14 hi H locs hP hD hS ls hl
        refine lv_iload hx hb dS_takeOut_14 (lv_at hl 4 rfl) ?_
        refine lv_bipush (v := 6) hx hb dS_takeOut_16 (by decide) ?_
        refine lv_icmp_ge (tgt := 68) hx hb dS_takeOut_18 (by decide) (fun h18 => ?_) (fun h18 => ?_)
        · have e_i : i = 6 := qn_ge (b := 6) h18 hi (by decide)
          have hP : va_P (dC, dI) qCl [(z0, .inr (1, [.ref z1, .ref z2, .ref z3, .ref z4, .ref z5])), (z2, .inl (cI, 6, .inl wt)), (z5, .inl (cJ, 6, .inr (.inl (pf_tk lv al tt 6))))] H := by first | exact hP | (rw [e_i] at hP; exact hP)
          have hD : va_D A [(z0, .inr (1, [.ref z1, .ref z2, .ref z3, .ref z4, .ref z5])), (z2, .inl (cI, 6, .inl wt)), (z5, .inl (cJ, 6, .inr (.inl (pf_tk lv al tt 6))))] := by first | exact hD | (rw [e_i] at hD; exact hD)
          have hl : lv_has ls 10 [(0, .ref z0), (1, .long al), (3, .long tt), (5, .long (pf_ct lv wt al tt 6)), (7, .int (nI 6))] := by first | exact hl | (rw [e_i] at hl; exact hl)
          refine lv_lload hx hb dS_takeOut_68 (lv_at hl 3 rfl) ?_
          rw [show pf_tk lv al tt 6 = pf_take lv al tt from (if_pos h3).symm] at hP hD
          exact hret hP hD hS (Nat.le_of_ble_eq_true rfl) (Nat.le_of_ble_eq_true rfl) ((if_pos h3).symm) dS_takeOut_70
        · have hlt : i < 6 := qn_nge (b := 6) h18 (by omega)
          refine lv_aload_n hx hb dS_takeOut_21 rfl (lv_at hl 0 rfl) ?_
          refine va_get (D := (dC, dI)) (ci := 1) (v := .ref z5) (C := "OutlookOdds$Stock") (T := TS) (N := 5) hx hb hts inS hown hK hP 0 rfl rfl 4 (by decide) (hts _ mq_1_30) (fun _ h9 => h9) rfl dS_takeOut_22 ?_
          refine lv_iload hx hb dS_takeOut_25 (lv_at hl 4 rfl) ?_
          refine qr_lald (k := i) hx hb hK hP 2 1 rfl rfl (rfl) (by omega) (by decide) dS_takeOut_27 ?_
          refine lv_lload_n hx hb dS_takeOut_28 rfl (lv_at hl 1 rfl) ?_
          refine lv_lmul hx hb dS_takeOut_29 ?_
          refine lv_lload_n hx hb dS_takeOut_30 rfl (lv_at hl 2 rfl) ?_
          refine lv_ldiv hx hb dS_takeOut_31 (fun z => by rw [z] at h3; exact absurd h3 (by decide)) ?_
          refine lv_lstore (lv' := [(8, .long ((((pf_tk lv al tt i) i) * al) / tt)), (0, .ref z0), (1, .long al), (3, .long tt), (5, .long (pf_ct lv wt al tt i)), (7, .int (nI i))]) hx hb dS_takeOut_32 hl (by decide) rfl (fun ls hl => ?_)
          refine lv_aload_n hx hb dS_takeOut_34 rfl (lv_at hl 1 rfl) ?_
          refine va_get (D := (dC, dI)) (ci := 1) (v := .ref z5) (C := "OutlookOdds$Stock") (T := TS) (N := 5) hx hb hts inS hown hK hP 0 rfl rfl 4 (by decide) (hts _ mq_1_30) (fun _ h9 => h9) rfl dS_takeOut_35 ?_
          refine lv_iload hx hb dS_takeOut_38 (lv_at hl 5 rfl) ?_
          refine lv_dup2_11 hx hb dS_takeOut_40 rfl rfl ?_
          refine qr_lald (k := i) hx hb hK hP 2 1 rfl rfl (rfl) (by omega) (by decide) dS_takeOut_41 ?_
          refine lv_lload hx hb dS_takeOut_42 (lv_at hl 0 rfl) ?_
          refine lv_lsub hx hb dS_takeOut_44 ?_
          refine qr_last (k := i) (ws2 := [(z0, .inr (1, [.ref z1, .ref z2, .ref z3, .ref z4, .ref z5])), (z2, .inl (cI, 6, .inl wt)), (z5, .inl (cJ, 6, .inr (.inl (vp_updL (pf_tk lv al tt i) i (((pf_tk lv al tt i) i) - ((((pf_tk lv al tt i) i) * al) / tt))))))]) hx hb hK hP hD hS 2 1 rfl rfl (rfl) (by omega) (by decide) rfl dS_takeOut_45 (fun H locs hP hD hS => ?_)
          refine lv_lload hx hb dS_takeOut_46 (lv_at hl 4 rfl) ?_
          refine lv_lload hx hb dS_takeOut_48 (lv_at hl 0 rfl) ?_
          refine lv_aload_n hx hb dS_takeOut_50 rfl (lv_at hl 1 rfl) ?_
          refine va_get (D := (dC, dI)) (ci := 1) (v := .ref z2) (C := "OutlookOdds$Stock") (T := TS) (N := 5) hx hb hts inS hown hK hP 0 rfl rfl 1 (by decide) (hts _ mq_1_27) (fun _ h9 => h9) rfl dS_takeOut_51 ?_
          refine lv_iload hx hb dS_takeOut_54 (lv_at hl 5 rfl) ?_
          refine qr_iald (k := i) hx hb hK hP 1 0 rfl rfl (rfl) (by omega) (by decide) dS_takeOut_56 ?_
          refine lv_i2l hx hb dS_takeOut_57 rfl ?_
          refine lv_lmul hx hb dS_takeOut_58 ?_
          refine lv_ladd hx hb dS_takeOut_59 ?_
          refine lv_lstore (lv' := [(5, .long ((pf_ct lv wt al tt i) + (((((pf_tk lv al tt i) i) * al) / tt) * ((wt i).toInt64)))), (8, .long ((((pf_tk lv al tt i) i) * al) / tt)), (0, .ref z0), (1, .long al), (3, .long tt), (7, .int (nI i))]) hx hb dS_takeOut_60 hl (by decide) rfl (fun ls hl => ?_)
          refine lv_iinc (v := nI (i + 1)) (lv' := [(7, .int (nI (i + 1))), (5, .long ((pf_ct lv wt al tt i) + (((((pf_tk lv al tt i) i) * al) / tt) * ((wt i).toInt64)))), (8, .long ((((pf_tk lv al tt i) i) * al) / tt)), (0, .ref z0), (1, .long al), (3, .long tt)]) hx hb dS_takeOut_62 hl (k := 5) rfl (nI_1 _) (by decide) rfl (fun ls hl => ?_)
          refine lv_goto (tgt := 14) hx hb dS_takeOut_65 (by decide) ?_
          exact ih_14 (i + 1) (by omega) (by omega) _ _ hP hD hS ls (lv_sub hl [3, 4, 5, 1, 0] rfl)
    exact lp_14 ((6 - 0) + 1) 0 (by omega) (by omega) _ _ hP hD hS ls (lv_sub hl [2, 3, 4, 1, 0] rfl)
  · have h3 := mt (lg_cmp_gt _ _).mpr h3
    refine lv_lconst (v := 0) hx hb dS_takeOut_6 (by decide) ?_
    rw [show lv = pf_take lv al tt from (if_neg h3).symm] at hP hD
    exact hret hP hD hS (Nat.le_of_ble_eq_true rfl) (Nat.le_of_ble_eq_true rfl) ((if_neg h3).symm) dS_takeOut_7

set_option maxHeartbeats 4000000 in
set_option maxRecDepth 100000 in
theorem c_Stock_loseDead (z0 z1 z2 z3 z4 z5 : Nat) (di : Nat → Int32) (lv : Nat → Int64) : qMv l yS_loseDead (wS_loseDead) ({ frames := 0, cells := 0, slots := 0, locals := 0 } : Room) (dC, dI) qCl [(cI, .int), (cJ, .long), (cG, .array .long)] [.ref z0] [(z0, .inr (1, [.ref z1, .ref z2, .ref z3, .ref z4, .ref z5])), (z4, .inl (cI, 6, .inl di)), (z5, .inl (cJ, 6, .inr (.inl lv)))] [(z0, .inr (1, [.ref z1, .ref z2, .ref z3, .ref z4, .ref z5])), (z4, .inl (cI, 6, .inl di)), (z5, .inl (cJ, 6, .inr (.inl (pf_dead lv di 6))))] 0 0 := by
  refine qm_v (cc := prog_2_method_7_code) (maxL := 2) (by decide) rfl (Nat.le_of_ble_eq_true rfl) ?_
  intro p e s m args below meth c Q A ls hx hb hml hown hnm hts hA hK hP hD hS hl hret
  have hl : lv_has ls 2 [(0, .ref z0)] := hl
  refine lv_iconst (v := 0) hx hb dS_loseDead_0 (by decide) ?_
  refine lv_istore_n (lv' := [(1, .int 0), (0, .ref z0)]) hx hb dS_loseDead_1 rfl hl (by decide) rfl (fun ls hl => ?_)
  have lp_2 : ∀ (n : Nat) (i : Nat), 6 - i < n → i ≤ 6 → ∀ (H : Heap) (locs : List Loc), va_P (dC, dI) qCl [(z0, .inr (1, [.ref z1, .ref z2, .ref z3, .ref z4, .ref z5])), (z4, .inl (cI, 6, .inl di)), (z5, .inl (cJ, 6, .inr (.inl (pf_dead lv di i))))] H → va_D A [(z0, .inr (1, [.ref z1, .ref z2, .ref z3, .ref z4, .ref z5])), (z4, .inl (cI, 6, .inl di)), (z5, .inl (cJ, 6, .inr (.inl (pf_dead lv di i))))] → va_S A s.heap H locs → ∀ (ls : Array Slot), lv_has ls 2 [(0, .ref z0), (1, .int (nI i))] → W p l e ({ frames := 0, cells := 0, slots := 0, locals := 0 } : Room) s m args below meth c H locs 0 0 Q (F0 m 2 ls []) := by
    intro n_2
    induction n_2 with
    | zero => intro i hm; exact absurd hm (Nat.not_lt_zero _)
    | succ n_2 ih_2 =>
      intro i hm_2 hi H locs hP hD hS ls hl
      refine lv_iload_n hx hb dS_loseDead_2 rfl (lv_at hl 1 rfl) ?_
      refine lv_bipush (v := 6) hx hb dS_loseDead_3 (by decide) ?_
      refine lv_icmp_ge (tgt := 41) hx hb dS_loseDead_5 (by decide) (fun h5 => ?_) (fun h5 => ?_)
      · have e_i : i = 6 := qn_ge (b := 6) h5 hi (by decide)
        have hP : va_P (dC, dI) qCl [(z0, .inr (1, [.ref z1, .ref z2, .ref z3, .ref z4, .ref z5])), (z4, .inl (cI, 6, .inl di)), (z5, .inl (cJ, 6, .inr (.inl (pf_dead lv di 6))))] H := by first | exact hP | (rw [e_i] at hP; exact hP)
        have hD : va_D A [(z0, .inr (1, [.ref z1, .ref z2, .ref z3, .ref z4, .ref z5])), (z4, .inl (cI, 6, .inl di)), (z5, .inl (cJ, 6, .inr (.inl (pf_dead lv di 6))))] := by first | exact hD | (rw [e_i] at hD; exact hD)
        have hl : lv_has ls 2 [(0, .ref z0), (1, .int (nI 6))] := by first | exact hl | (rw [e_i] at hl; exact hl)
        exact hret hP hD hS (Nat.le_of_ble_eq_true rfl) (Nat.le_of_ble_eq_true rfl) dS_loseDead_41
      · have hlt : i < 6 := qn_nge (b := 6) h5 (by omega)
        refine lv_aload_n hx hb dS_loseDead_8 rfl (lv_at hl 0 rfl) ?_
        refine va_get (D := (dC, dI)) (ci := 1) (v := .ref z5) (C := "OutlookOdds$Stock") (T := TS) (N := 5) hx hb hts inS hown hK hP 0 rfl rfl 4 (by decide) (hts _ mq_1_30) (fun _ h9 => h9) rfl dS_loseDead_9 ?_
        refine lv_iload_n hx hb dS_loseDead_12 rfl (lv_at hl 1 rfl) ?_
        refine lv_dup2_11 hx hb dS_loseDead_13 rfl rfl ?_
        refine qr_lald (k := i) hx hb hK hP 2 1 rfl rfl (rfl) (by omega) (by decide) dS_loseDead_14 ?_
        refine lv_aload_n hx hb dS_loseDead_15 rfl (lv_at hl 0 rfl) ?_
        refine va_get (D := (dC, dI)) (ci := 1) (v := .ref z5) (C := "OutlookOdds$Stock") (T := TS) (N := 5) hx hb hts inS hown hK hP 0 rfl rfl 4 (by decide) (hts _ mq_1_30) (fun _ h9 => h9) rfl dS_loseDead_16 ?_
        refine lv_iload_n hx hb dS_loseDead_19 rfl (lv_at hl 1 rfl) ?_
        refine qr_lald (k := i) hx hb hK hP 2 1 rfl rfl (rfl) (by omega) (by decide) dS_loseDead_20 ?_
        refine lv_aload_n hx hb dS_loseDead_21 rfl (lv_at hl 0 rfl) ?_
        refine va_get (D := (dC, dI)) (ci := 1) (v := .ref z4) (C := "OutlookOdds$Stock") (T := TS) (N := 5) hx hb hts inS hown hK hP 0 rfl rfl 3 (by decide) (hts _ mq_1_29) (fun _ h9 => h9) rfl dS_loseDead_22 ?_
        refine lv_iload_n hx hb dS_loseDead_25 rfl (lv_at hl 1 rfl) ?_
        refine qr_iald (k := i) hx hb hK hP 1 0 rfl rfl (rfl) (by omega) (by decide) dS_loseDead_26 ?_
        refine lv_i2l hx hb dS_loseDead_27 rfl ?_
        refine lv_lmul hx hb dS_loseDead_28 ?_
        refine lv_ldc2 (v := 1000) hx hb hown (hts _ mq_2_58) dS_loseDead_29 ?_
        refine lv_ldiv hx hb dS_loseDead_32 (by decide) ?_
        refine lv_lsub hx hb dS_loseDead_33 ?_
        refine qr_last (k := i) (ws2 := [(z0, .inr (1, [.ref z1, .ref z2, .ref z3, .ref z4, .ref z5])), (z4, .inl (cI, 6, .inl di)), (z5, .inl (cJ, 6, .inr (.inl (vp_updL (pf_dead lv di i) i (((pf_dead lv di i) i) - ((((pf_dead lv di i) i) * ((di i).toInt64)) / 1000))))))]) hx hb hK hP hD hS 2 1 rfl rfl (rfl) (by omega) (by decide) rfl dS_loseDead_34 (fun H locs hP hD hS => ?_)
        refine lv_iinc (v := nI (i + 1)) (lv' := [(1, .int (nI (i + 1))), (0, .ref z0)]) hx hb dS_loseDead_35 hl (k := 1) rfl (nI_1 _) (by decide) rfl (fun ls hl => ?_)
        refine lv_goto (tgt := 2) hx hb dS_loseDead_38 (by decide) ?_
        exact ih_2 (i + 1) (by omega) (by omega) _ _ hP hD hS ls (lv_sub hl [1, 0] rfl)
  exact lp_2 ((6 - 0) + 1) 0 (by omega) (by omega) _ _ hP hD hS ls (lv_sub hl [1, 0] rfl)

set_option maxHeartbeats 4000000 in
set_option maxRecDepth 100000 in
theorem c_Stock_growOlder (z0 z1 z2 z3 z4 z5 : Nat) (lv : Nat → Int64) (bo : Int64) : qMv l yS_growOlder (wS_growOlder) ({ frames := 0, cells := 0, slots := 0, locals := 0 } : Room) (dC, dI) qCl [(cI, .int), (cJ, .long), (cG, .array .long)] [.ref z0, .long bo] [(z0, .inr (1, [.ref z1, .ref z2, .ref z3, .ref z4, .ref z5])), (z5, .inl (cJ, 6, .inr (.inl lv)))] [(z0, .inr (1, [.ref z1, .ref z2, .ref z3, .ref z4, .ref z5])), (z5, .inl (cJ, 6, .inr (.inl (pf_grow lv bo))))] 0 0 := by
  refine qm_v (cc := prog_2_method_8_code) (maxL := 5) (by decide) rfl (Nat.le_of_ble_eq_true rfl) ?_
  intro p e s m args below meth c Q A ls hx hb hml hown hnm hts hA hK hP hD hS hl hret
  have hl : lv_has ls 5 [(0, .ref z0), (1, .long bo)] := hl
  refine lv_iconst (v := 5) hx hb dS_growOlder_0 (by decide) ?_
  refine lv_istore_n (lv' := [(3, .int 5), (0, .ref z0), (1, .long bo)]) hx hb dS_growOlder_1 rfl hl (by decide) rfl (fun ls hl => ?_)
  refine lv_aload_n hx hb dS_growOlder_2 rfl (lv_at hl 1 rfl) ?_
  refine va_get (D := (dC, dI)) (ci := 1) (v := .ref z5) (C := "OutlookOdds$Stock") (T := TS) (N := 5) hx hb hts inS hown hK hP 0 rfl rfl 4 (by decide) (hts _ mq_1_30) (fun _ h9 => h9) rfl dS_growOlder_3 ?_
  refine lv_iload_n hx hb dS_growOlder_6 rfl (lv_at hl 0 rfl) ?_
  refine lv_dup2_11 hx hb dS_growOlder_7 rfl rfl ?_
  refine qr_lald (k := 5) hx hb hK hP 1 1 rfl rfl (rfl) (by decide) (by decide) dS_growOlder_8 ?_
  refine lv_aload_n hx hb dS_growOlder_9 rfl (lv_at hl 1 rfl) ?_
  refine va_get (D := (dC, dI)) (ci := 1) (v := .ref z5) (C := "OutlookOdds$Stock") (T := TS) (N := 5) hx hb hts inS hown hK hP 0 rfl rfl 4 (by decide) (hts _ mq_1_30) (fun _ h9 => h9) rfl dS_growOlder_10 ?_
  refine lv_iload_n hx hb dS_growOlder_13 rfl (lv_at hl 0 rfl) ?_
  refine lv_iconst (v := 1) hx hb dS_growOlder_14 (by decide) ?_
  refine lv_isub hx hb dS_growOlder_15 ?_
  refine qr_lald (k := 4) hx hb hK hP 1 1 rfl rfl (rfl) (by decide) (by decide) dS_growOlder_16 ?_
  refine lv_ladd hx hb dS_growOlder_17 ?_
  refine qr_last (k := 5) (ws2 := [(z0, .inr (1, [.ref z1, .ref z2, .ref z3, .ref z4, .ref z5])), (z5, .inl (cJ, 6, .inr (.inl (vp_updL lv 5 ((lv 5) + (lv 4))))))]) hx hb hK hP hD hS 1 1 rfl rfl (rfl) (by decide) (by decide) rfl dS_growOlder_18 (fun H locs hP hD hS => ?_)
  refine lv_iload_n hx hb dS_growOlder_19 rfl (lv_at hl 0 rfl) ?_
  refine lv_iconst (v := 1) hx hb dS_growOlder_20 (by decide) ?_
  refine lv_isub hx hb dS_growOlder_21 ?_
  refine lv_istore (lv' := [(4, .int (5 - 1)), (3, .int 5), (0, .ref z0), (1, .long bo)]) hx hb dS_growOlder_22 hl (by decide) rfl (fun ls hl => ?_)
  have lp_24 : ∀ (n : Nat) (i : Nat), 4 - i < n → i ≤ 4 → ∀ (H : Heap) (locs : List Loc), va_P (dC, dI) qCl [(z0, .inr (1, [.ref z1, .ref z2, .ref z3, .ref z4, .ref z5])), (z5, .inl (cJ, 6, .inr (.inl (pf_sh (vp_updL lv 5 (lv 5 + lv 4)) i))))] H → va_D A [(z0, .inr (1, [.ref z1, .ref z2, .ref z3, .ref z4, .ref z5])), (z5, .inl (cJ, 6, .inr (.inl (pf_sh (vp_updL lv 5 (lv 5 + lv 4)) i))))] → va_S A s.heap H locs → ∀ (ls : Array Slot), lv_has ls 5 [(0, .ref z0), (1, .long bo), (3, .int 5), (4, .int (nI (4 - i)))] → W p l e ({ frames := 0, cells := 0, slots := 0, locals := 0 } : Room) s m args below meth c H locs 0 0 Q (F0 m 24 ls []) := by
    intro n_24
    induction n_24 with
    | zero => intro i hm; exact absurd hm (Nat.not_lt_zero _)
    | succ n_24 ih_24 =>
      intro i hm_24 hi H locs hP hD hS ls hl
      refine lv_iload hx hb dS_growOlder_24 (lv_at hl 3 rfl) ?_
      refine lv_if_le (tgt := 51) hx hb dS_growOlder_26 (by decide) (fun h26 => ?_) (fun h26 => ?_)
      · have e_i : i = 4 := by have := qn_le0 (a := 4 - i) h26 (by omega); omega
        have hP : va_P (dC, dI) qCl [(z0, .inr (1, [.ref z1, .ref z2, .ref z3, .ref z4, .ref z5])), (z5, .inl (cJ, 6, .inr (.inl (pf_sh (vp_updL lv 5 (lv 5 + lv 4)) 4))))] H := by first | exact hP | (rw [e_i] at hP; exact hP)
        have hD : va_D A [(z0, .inr (1, [.ref z1, .ref z2, .ref z3, .ref z4, .ref z5])), (z5, .inl (cJ, 6, .inr (.inl (pf_sh (vp_updL lv 5 (lv 5 + lv 4)) 4))))] := by first | exact hD | (rw [e_i] at hD; exact hD)
        have hl : lv_has ls 5 [(0, .ref z0), (1, .long bo), (3, .int 5), (4, .int (nI (4 - 4)))] := by first | exact hl | (rw [e_i] at hl; exact hl)
        refine lv_aload_n hx hb dS_growOlder_51 rfl (lv_at hl 0 rfl) ?_
        refine va_get (D := (dC, dI)) (ci := 1) (v := .ref z5) (C := "OutlookOdds$Stock") (T := TS) (N := 5) hx hb hts inS hown hK hP 0 rfl rfl 4 (by decide) (hts _ mq_1_30) (fun _ h9 => h9) rfl dS_growOlder_52 ?_
        refine lv_iconst (v := 0) hx hb dS_growOlder_55 (by decide) ?_
        refine lv_lload_n hx hb dS_growOlder_56 rfl (lv_at hl 1 rfl) ?_
        refine qr_last (k := 0) (ws2 := [(z0, .inr (1, [.ref z1, .ref z2, .ref z3, .ref z4, .ref z5])), (z5, .inl (cJ, 6, .inr (.inl (vp_updL (pf_sh (vp_updL lv 5 (lv 5 + lv 4)) 4) 0 bo))))]) hx hb hK hP hD hS 1 1 rfl rfl (rfl) (by decide) (by decide) rfl dS_growOlder_57 (fun H locs hP hD hS => ?_)
        exact hret hP hD hS (Nat.le_of_ble_eq_true rfl) (Nat.le_of_ble_eq_true rfl) dS_growOlder_58
      · have hlt : i < 4 := by have := qn_nle0 (a := 4 - i) h26 (by omega); omega
        refine lv_aload_n hx hb dS_growOlder_29 rfl (lv_at hl 0 rfl) ?_
        refine va_get (D := (dC, dI)) (ci := 1) (v := .ref z5) (C := "OutlookOdds$Stock") (T := TS) (N := 5) hx hb hts inS hown hK hP 0 rfl rfl 4 (by decide) (hts _ mq_1_30) (fun _ h9 => h9) rfl dS_growOlder_30 ?_
        refine lv_iload hx hb dS_growOlder_33 (lv_at hl 3 rfl) ?_
        refine lv_aload_n hx hb dS_growOlder_35 rfl (lv_at hl 0 rfl) ?_
        refine va_get (D := (dC, dI)) (ci := 1) (v := .ref z5) (C := "OutlookOdds$Stock") (T := TS) (N := 5) hx hb hts inS hown hK hP 0 rfl rfl 4 (by decide) (hts _ mq_1_30) (fun _ h9 => h9) rfl dS_growOlder_36 ?_
        refine lv_iload hx hb dS_growOlder_39 (lv_at hl 3 rfl) ?_
        refine lv_iconst (v := 1) hx hb dS_growOlder_41 (by decide) ?_
        refine lv_isub hx hb dS_growOlder_42 ?_
        refine qr_lald (k := 4 - i - 1) hx hb hK hP 1 1 rfl rfl (qn_sub1 (by omega)) (by omega) (by decide) dS_growOlder_43 ?_
        refine qr_last (k := 4 - i) (ws2 := [(z0, .inr (1, [.ref z1, .ref z2, .ref z3, .ref z4, .ref z5])), (z5, .inl (cJ, 6, .inr (.inl (vp_updL (pf_sh (vp_updL lv 5 (lv 5 + lv 4)) i) (4 - i) ((pf_sh (vp_updL lv 5 (lv 5 + lv 4)) i) (4 - i - 1))))))]) hx hb hK hP hD hS 1 1 rfl rfl (rfl) (by omega) (by decide) rfl dS_growOlder_44 (fun H locs hP hD hS => ?_)
        refine lv_iinc (v := nI (4 - (i + 1))) (lv' := [(4, .int (nI (4 - (i + 1)))), (0, .ref z0), (1, .long bo), (3, .int 5)]) hx hb dS_growOlder_45 hl (k := 3) rfl ((sb_m1 (by omega)).trans (by rw [show 4 - i - 1 = 4 - (i + 1) by omega])) (by decide) rfl (fun ls hl => ?_)
        refine lv_goto (tgt := 24) hx hb dS_growOlder_48 (by decide) ?_
        exact ih_24 (i + 1) (by omega) (by omega) _ _ hP hD hS ls (lv_sub hl [1, 2, 3, 0] rfl)
  exact lp_24 ((4 - 0) + 1) 0 (by omega) (by omega) _ _ hP hD hS ls (lv_sub hl [2, 3, 1, 0] rfl)

end QST
end
section
section QSY
variable (l : Launch) (dC : Nat → ClassId) (dI : Nat → Nat → Nat) (cI cJ cG : ClassId)
set_option maxHeartbeats 4000000 in
set_option maxRecDepth 100000 in
theorem c_Story_get (q0 qg : Nat) (qr : Nat → Nat) (M : Nat → Nat → Int64) (w se y : Nat) (hw : w < 4) (hse : se < 16) (hy1 : 1 ≤ y) (hy2 : y ≤ 20) : qMl l yY_get (wY_get) ({ frames := 0, cells := 0, slots := 0, locals := 0 } : Room) (dC, dI) qCl [(cI, .int), (cJ, .long), (cG, .array .long)] [.ref q0, .int (nI w), .int (nI se), .int (nI y)] [(q0, .inr (2, [.ref qg])), (qg, .inl (cG, 4, .inr (.inr (.inr (.inr (pf_gf qr)))))), (qr 0, .inl (cJ, 320, .inr (.inl (M 0)))), (qr 1, .inl (cJ, 320, .inr (.inl (M 1)))), (qr 2, .inl (cJ, 320, .inr (.inl (M 2)))), (qr 3, .inl (cJ, 320, .inr (.inl (M 3))))] [(q0, .inr (2, [.ref qg])), (qg, .inl (cG, 4, .inr (.inr (.inr (.inr (pf_gf qr)))))), (qr 0, .inl (cJ, 320, .inr (.inl (M 0)))), (qr 1, .inl (cJ, 320, .inr (.inl (M 1)))), (qr 2, .inl (cJ, 320, .inr (.inl (M 2)))), (qr 3, .inl (cJ, 320, .inr (.inl (M 3))))] (M w (pf_ix se y)) 0 0 := by
  refine qm_l (cc := prog_3_method_2_code) (maxL := 4) (by decide) rfl (Nat.le_of_ble_eq_true rfl) ?_
  intro p e s m args below meth c Q A ls hx hb hml hown hnm hts hA hK hP hD hS hl hret
  have hl : lv_has ls 4 [(0, .ref q0), (1, .int (nI w)), (2, .int (nI se)), (3, .int (nI y))] := hl
  refine lv_aload_n hx hb dY_get_0 rfl (lv_at hl 0 rfl) ?_
  refine va_get (D := (dC, dI)) (ci := 2) (v := .ref qg) (C := "OutlookOdds$Story") (T := TY) (N := 1) hx hb hts inY hown hK hP 0 rfl rfl 0 (by decide) (hts _ mq_1_52) (fun _ h9 => h9) rfl dY_get_1 ?_
  refine lv_iload_n hx hb dY_get_4 rfl (lv_at hl 1 rfl) ?_
  refine qr_aaldA (k := w) (r := qr w) hx hb hK hP 1 2 rfl rfl (rfl) (by omega) (by decide) (qn_gf hw) dY_get_5 ?_
  refine lv_iload_n hx hb dY_get_6 rfl (lv_at hl 2 rfl) ?_
  refine lv_bipush (v := 20) hx hb dY_get_7 (by decide) ?_
  refine lv_imul hx hb dY_get_9 ?_
  refine lv_iload_n hx hb dY_get_10 rfl (lv_at hl 3 rfl) ?_
  refine lv_iadd hx hb dY_get_11 ?_
  refine lv_iconst (v := 1) hx hb dY_get_12 (by decide) ?_
  refine lv_isub hx hb dY_get_13 ?_
  refine qr_topi (y := nI (pf_ix se y)) (qn_ix hy1) ?_
  refine qr_lald (k := pf_ix se y) (f := M w) hx hb hK hP (2 + w) 1 (by rcases qn_lt4 hw with rfl | rfl | rfl | rfl <;> rfl) rfl (rfl) (pf_ix_lt hse hy1 hy2) (by decide) dY_get_14 ?_
  exact hret hP hD hS (Nat.le_of_ble_eq_true rfl) (Nat.le_of_ble_eq_true rfl) (rfl) dY_get_15

set_option maxHeartbeats 4000000 in
set_option maxRecDepth 100000 in
theorem c_Story_put (q0 qg : Nat) (qr : Nat → Nat) (M : Nat → Nat → Int64) (w se y : Nat) (x : Int64) (hw : w < 4) (hse : se < 16) (hy1 : 1 ≤ y) (hy2 : y ≤ 20) : qMv l yY_put (wY_put) ({ frames := 0, cells := 0, slots := 0, locals := 0 } : Room) (dC, dI) qCl [(cI, .int), (cJ, .long), (cG, .array .long)] [.ref q0, .int (nI w), .int (nI se), .int (nI y), .long x] [(q0, .inr (2, [.ref qg])), (qg, .inl (cG, 4, .inr (.inr (.inr (.inr (pf_gf qr)))))), (qr 0, .inl (cJ, 320, .inr (.inl (M 0)))), (qr 1, .inl (cJ, 320, .inr (.inl (M 1)))), (qr 2, .inl (cJ, 320, .inr (.inl (M 2)))), (qr 3, .inl (cJ, 320, .inr (.inl (M 3))))] [(q0, .inr (2, [.ref qg])), (qg, .inl (cG, 4, .inr (.inr (.inr (.inr (pf_gf qr)))))), (qr 0, .inl (cJ, 320, .inr (.inl (pf_put M w (pf_ix se y) x 0)))), (qr 1, .inl (cJ, 320, .inr (.inl (pf_put M w (pf_ix se y) x 1)))), (qr 2, .inl (cJ, 320, .inr (.inl (pf_put M w (pf_ix se y) x 2)))), (qr 3, .inl (cJ, 320, .inr (.inl (pf_put M w (pf_ix se y) x 3))))] 0 0 := by
  refine qm_v (cc := prog_3_method_3_code) (maxL := 6) (by decide) rfl (Nat.le_of_ble_eq_true rfl) ?_
  intro p e s m args below meth c Q A ls hx hb hml hown hnm hts hA hK hP hD hS hl hret
  have hl : lv_has ls 6 [(0, .ref q0), (1, .int (nI w)), (2, .int (nI se)), (3, .int (nI y)), (4, .long x)] := hl
  refine lv_aload_n hx hb dY_put_0 rfl (lv_at hl 0 rfl) ?_
  refine va_get (D := (dC, dI)) (ci := 2) (v := .ref qg) (C := "OutlookOdds$Story") (T := TY) (N := 1) hx hb hts inY hown hK hP 0 rfl rfl 0 (by decide) (hts _ mq_1_52) (fun _ h9 => h9) rfl dY_put_1 ?_
  refine lv_iload_n hx hb dY_put_4 rfl (lv_at hl 1 rfl) ?_
  refine qr_aaldA (k := w) (r := qr w) hx hb hK hP 1 2 rfl rfl (rfl) (by omega) (by decide) (qn_gf hw) dY_put_5 ?_
  refine lv_iload_n hx hb dY_put_6 rfl (lv_at hl 2 rfl) ?_
  refine lv_bipush (v := 20) hx hb dY_put_7 (by decide) ?_
  refine lv_imul hx hb dY_put_9 ?_
  refine lv_iload_n hx hb dY_put_10 rfl (lv_at hl 3 rfl) ?_
  refine lv_iadd hx hb dY_put_11 ?_
  refine lv_iconst (v := 1) hx hb dY_put_12 (by decide) ?_
  refine lv_isub hx hb dY_put_13 ?_
  refine qr_topi (y := nI (pf_ix se y)) (qn_ix hy1) ?_
  refine lv_lload hx hb dY_put_14 (lv_at hl 4 rfl) ?_
  refine qr_last (k := pf_ix se y) (f := M w) (ws2 := [(q0, .inr (2, [.ref qg])), (qg, .inl (cG, 4, .inr (.inr (.inr (.inr (pf_gf qr)))))), (qr 0, .inl (cJ, 320, .inr (.inl (pf_put M w (pf_ix se y) x 0)))), (qr 1, .inl (cJ, 320, .inr (.inl (pf_put M w (pf_ix se y) x 1)))), (qr 2, .inl (cJ, 320, .inr (.inl (pf_put M w (pf_ix se y) x 2)))), (qr 3, .inl (cJ, 320, .inr (.inl (pf_put M w (pf_ix se y) x 3))))]) hx hb hK hP hD hS (2 + w) 1 (by rcases qn_lt4 hw with rfl | rfl | rfl | rfl <;> rfl) rfl (rfl) (pf_ix_lt hse hy1 hy2) (by decide) (by rcases qn_lt4 hw with rfl | rfl | rfl | rfl <;> rfl) dY_put_16 (fun H locs hP hD hS => ?_)
  exact hret hP hD hS (Nat.le_of_ble_eq_true rfl) (Nat.le_of_ble_eq_true rfl) dY_put_17

end QSY
end
section
theorem dO_draw_0 : decode prog_1_method_8_code 0 = .ok (.bipush 31, 2) := by decide +kernel
theorem dO_draw_2 : decode prog_1_method_8_code 2 = .ok (.iload_n 1, 1) := by decide +kernel
theorem dO_draw_3 : decode prog_1_method_8_code 3 = .ok (.imul, 1) := by decide +kernel
theorem dO_draw_4 : decode prog_1_method_8_code 4 = .ok (.bipush 7, 2) := by decide +kernel
theorem dO_draw_6 : decode prog_1_method_8_code 6 = .ok (.iload_n 2, 1) := by decide +kernel
theorem dO_draw_7 : decode prog_1_method_8_code 7 = .ok (.imul, 1) := by decide +kernel
theorem dO_draw_8 : decode prog_1_method_8_code 8 = .ok (.iadd, 1) := by decide +kernel
theorem dO_draw_9 : decode prog_1_method_8_code 9 = .ok (.iload_n 3, 1) := by decide +kernel
theorem dO_draw_10 : decode prog_1_method_8_code 10 = .ok (.iadd, 1) := by decide +kernel
theorem dO_draw_11 : decode prog_1_method_8_code 11 = .ok (.istore 4, 2) := by decide +kernel
theorem dO_draw_13 : decode prog_1_method_8_code 13 = .ok (.iload 4, 2) := by decide +kernel
theorem dO_draw_15 : decode prog_1_method_8_code 15 = .ok (.ldc 80, 2) := by decide +kernel
theorem dO_draw_17 : decode prog_1_method_8_code 17 = .ok (.imul, 1) := by decide +kernel
theorem dO_draw_18 : decode prog_1_method_8_code 18 = .ok (.sipush 12345, 3) := by decide +kernel
theorem dO_draw_21 : decode prog_1_method_8_code 21 = .ok (.iadd, 1) := by decide +kernel
theorem dO_draw_22 : decode prog_1_method_8_code 22 = .ok (.istore 4, 2) := by decide +kernel
theorem dO_draw_24 : decode prog_1_method_8_code 24 = .ok (.iload 4, 2) := by decide +kernel
theorem dO_draw_26 : decode prog_1_method_8_code 26 = .ok (.ldc 80, 2) := by decide +kernel
theorem dO_draw_28 : decode prog_1_method_8_code 28 = .ok (.imul, 1) := by decide +kernel
theorem dO_draw_29 : decode prog_1_method_8_code 29 = .ok (.sipush 12345, 3) := by decide +kernel
theorem dO_draw_32 : decode prog_1_method_8_code 32 = .ok (.iadd, 1) := by decide +kernel
theorem dO_draw_33 : decode prog_1_method_8_code 33 = .ok (.istore 4, 2) := by decide +kernel
theorem dO_draw_35 : decode prog_1_method_8_code 35 = .ok (.iload 4, 2) := by decide +kernel
theorem dO_draw_37 : decode prog_1_method_8_code 37 = .ok (.bipush 16, 2) := by decide +kernel
theorem dO_draw_39 : decode prog_1_method_8_code 39 = .ok (.iushr, 1) := by decide +kernel
theorem dO_draw_40 : decode prog_1_method_8_code 40 = .ok (.ireturn, 1) := by decide +kernel
theorem dO_runAllSeeds_0 : decode prog_1_method_19_code 0 = .ok (.iconst 0, 1) := by decide +kernel
theorem dO_runAllSeeds_1 : decode prog_1_method_19_code 1 = .ok (.istore_n 3, 1) := by decide +kernel
theorem dO_runAllSeeds_2 : decode prog_1_method_19_code 2 = .ok (.iload_n 3, 1) := by decide +kernel
theorem dO_runAllSeeds_3 : decode prog_1_method_19_code 3 = .ok (.aload_n 0, 1) := by decide +kernel
theorem dO_runAllSeeds_4 : decode prog_1_method_19_code 4 = .ok (.getfield 87, 3) := by decide +kernel
theorem dO_runAllSeeds_7 : decode prog_1_method_19_code 7 = .ok (.if_icmp .ge 43, 3) := by decide +kernel
theorem dO_runAllSeeds_10 : decode prog_1_method_19_code 10 = .ok (.aload_n 0, 1) := by decide +kernel
theorem dO_runAllSeeds_11 : decode prog_1_method_19_code 11 = .ok (.getfield 10, 3) := by decide +kernel
theorem dO_runAllSeeds_14 : decode prog_1_method_19_code 14 = .ok (.invokevirtual 134, 3) := by decide +kernel
theorem dO_runAllSeeds_17 : decode prog_1_method_19_code 17 = .ok (.iconst 1, 1) := by decide +kernel
theorem dO_runAllSeeds_18 : decode prog_1_method_19_code 18 = .ok (.istore 4, 2) := by decide +kernel
theorem dO_runAllSeeds_20 : decode prog_1_method_19_code 20 = .ok (.iload 4, 2) := by decide +kernel
theorem dO_runAllSeeds_22 : decode prog_1_method_19_code 22 = .ok (.aload_n 0, 1) := by decide +kernel
theorem dO_runAllSeeds_23 : decode prog_1_method_19_code 23 = .ok (.getfield 84, 3) := by decide +kernel
theorem dO_runAllSeeds_26 : decode prog_1_method_19_code 26 = .ok (.if_icmp .gt 18, 3) := by decide +kernel
theorem dO_runAllSeeds_29 : decode prog_1_method_19_code 29 = .ok (.aload_n 0, 1) := by decide +kernel
theorem dO_runAllSeeds_30 : decode prog_1_method_19_code 30 = .ok (.aload_n 1, 1) := by decide +kernel
theorem dO_runAllSeeds_31 : decode prog_1_method_19_code 31 = .ok (.iload_n 2, 1) := by decide +kernel
theorem dO_runAllSeeds_32 : decode prog_1_method_19_code 32 = .ok (.iload_n 3, 1) := by decide +kernel
theorem dO_runAllSeeds_33 : decode prog_1_method_19_code 33 = .ok (.iload 4, 2) := by decide +kernel
theorem dO_runAllSeeds_35 : decode prog_1_method_19_code 35 = .ok (.invokevirtual 137, 3) := by decide +kernel
theorem dO_runAllSeeds_38 : decode prog_1_method_19_code 38 = .ok (.iinc 4 1, 3) := by decide +kernel
theorem dO_runAllSeeds_41 : decode prog_1_method_19_code 41 = .ok (.goto (-21), 3) := by decide +kernel
theorem dO_runAllSeeds_44 : decode prog_1_method_19_code 44 = .ok (.iinc 3 1, 3) := by decide +kernel
theorem dO_runAllSeeds_47 : decode prog_1_method_19_code 47 = .ok (.goto (-45), 3) := by decide +kernel
theorem dO_runAllSeeds_50 : decode prog_1_method_19_code 50 = .ok (.return_, 1) := by decide +kernel
theorem dO_runYear_0 : decode prog_1_method_20_code 0 = .ok (.aload_n 1, 1) := by decide +kernel
theorem dO_runYear_1 : decode prog_1_method_20_code 1 = .ok (.iconst 0, 1) := by decide +kernel
theorem dO_runYear_2 : decode prog_1_method_20_code 2 = .ok (.iload_n 3, 1) := by decide +kernel
theorem dO_runYear_3 : decode prog_1_method_20_code 3 = .ok (.iload 4, 2) := by decide +kernel
theorem dO_runYear_5 : decode prog_1_method_20_code 5 = .ok (.aload_n 0, 1) := by decide +kernel
theorem dO_runYear_6 : decode prog_1_method_20_code 6 = .ok (.getfield 10, 3) := by decide +kernel
theorem dO_runYear_9 : decode prog_1_method_20_code 9 = .ok (.invokevirtual 141, 3) := by decide +kernel
theorem dO_runYear_12 : decode prog_1_method_20_code 12 = .ok (.invokevirtual 145, 3) := by decide +kernel
theorem dO_runYear_15 : decode prog_1_method_20_code 15 = .ok (.aload_n 0, 1) := by decide +kernel
theorem dO_runYear_16 : decode prog_1_method_20_code 16 = .ok (.aload_n 1, 1) := by decide +kernel
theorem dO_runYear_17 : decode prog_1_method_20_code 17 = .ok (.iload_n 3, 1) := by decide +kernel
theorem dO_runYear_18 : decode prog_1_method_20_code 18 = .ok (.iload 4, 2) := by decide +kernel
theorem dO_runYear_20 : decode prog_1_method_20_code 20 = .ok (.invokevirtual 149, 3) := by decide +kernel
theorem dO_runYear_23 : decode prog_1_method_20_code 23 = .ok (.lstore 5, 2) := by decide +kernel
theorem dO_runYear_25 : decode prog_1_method_20_code 25 = .ok (.aload_n 1, 1) := by decide +kernel
theorem dO_runYear_26 : decode prog_1_method_20_code 26 = .ok (.iconst 3, 1) := by decide +kernel
theorem dO_runYear_27 : decode prog_1_method_20_code 27 = .ok (.iload_n 3, 1) := by decide +kernel
theorem dO_runYear_28 : decode prog_1_method_20_code 28 = .ok (.iload 4, 2) := by decide +kernel
theorem dO_runYear_30 : decode prog_1_method_20_code 30 = .ok (.lload 5, 2) := by decide +kernel
theorem dO_runYear_32 : decode prog_1_method_20_code 32 = .ok (.invokevirtual 145, 3) := by decide +kernel
theorem dO_runYear_35 : decode prog_1_method_20_code 35 = .ok (.aload_n 0, 1) := by decide +kernel
theorem dO_runYear_36 : decode prog_1_method_20_code 36 = .ok (.getfield 10, 3) := by decide +kernel
theorem dO_runYear_39 : decode prog_1_method_20_code 39 = .ok (.invokevirtual 152, 3) := by decide +kernel
theorem dO_runYear_42 : decode prog_1_method_20_code 42 = .ok (.lstore 7, 2) := by decide +kernel
theorem dO_runYear_44 : decode prog_1_method_20_code 44 = .ok (.lload 7, 2) := by decide +kernel
theorem dO_runYear_46 : decode prog_1_method_20_code 46 = .ok (.aload_n 0, 1) := by decide +kernel
theorem dO_runYear_47 : decode prog_1_method_20_code 47 = .ok (.lload 5, 2) := by decide +kernel
theorem dO_runYear_49 : decode prog_1_method_20_code 49 = .ok (.iload_n 2, 1) := by decide +kernel
theorem dO_runYear_50 : decode prog_1_method_20_code 50 = .ok (.invokevirtual 155, 3) := by decide +kernel
theorem dO_runYear_53 : decode prog_1_method_20_code 53 = .ok (.lmul, 1) := by decide +kernel
theorem dO_runYear_54 : decode prog_1_method_20_code 54 = .ok (.ldc2_w 159, 3) := by decide +kernel
theorem dO_runYear_57 : decode prog_1_method_20_code 57 = .ok (.ldiv, 1) := by decide +kernel
theorem dO_runYear_58 : decode prog_1_method_20_code 58 = .ok (.lstore 9, 2) := by decide +kernel
theorem dO_runYear_60 : decode prog_1_method_20_code 60 = .ok (.aload_n 0, 1) := by decide +kernel
theorem dO_runYear_61 : decode prog_1_method_20_code 61 = .ok (.aload_n 1, 1) := by decide +kernel
theorem dO_runYear_62 : decode prog_1_method_20_code 62 = .ok (.lload 9, 2) := by decide +kernel
theorem dO_runYear_64 : decode prog_1_method_20_code 64 = .ok (.iload_n 3, 1) := by decide +kernel
theorem dO_runYear_65 : decode prog_1_method_20_code 65 = .ok (.iload 4, 2) := by decide +kernel
theorem dO_runYear_67 : decode prog_1_method_20_code 67 = .ok (.invokevirtual 161, 3) := by decide +kernel
theorem dO_runYear_70 : decode prog_1_method_20_code 70 = .ok (.lload 7, 2) := by decide +kernel
theorem dO_runYear_72 : decode prog_1_method_20_code 72 = .ok (.invokestatic 165, 3) := by decide +kernel
theorem dO_runYear_75 : decode prog_1_method_20_code 75 = .ok (.lstore 11, 2) := by decide +kernel
theorem dO_runYear_77 : decode prog_1_method_20_code 77 = .ok (.aload_n 1, 1) := by decide +kernel
theorem dO_runYear_78 : decode prog_1_method_20_code 78 = .ok (.iconst 2, 1) := by decide +kernel
theorem dO_runYear_79 : decode prog_1_method_20_code 79 = .ok (.iload_n 3, 1) := by decide +kernel
theorem dO_runYear_80 : decode prog_1_method_20_code 80 = .ok (.iload 4, 2) := by decide +kernel
theorem dO_runYear_82 : decode prog_1_method_20_code 82 = .ok (.lload 11, 2) := by decide +kernel
theorem dO_runYear_84 : decode prog_1_method_20_code 84 = .ok (.invokevirtual 145, 3) := by decide +kernel
theorem dO_runYear_87 : decode prog_1_method_20_code 87 = .ok (.aload_n 1, 1) := by decide +kernel
theorem dO_runYear_88 : decode prog_1_method_20_code 88 = .ok (.iconst 1, 1) := by decide +kernel
theorem dO_runYear_89 : decode prog_1_method_20_code 89 = .ok (.iload_n 3, 1) := by decide +kernel
theorem dO_runYear_90 : decode prog_1_method_20_code 90 = .ok (.iload 4, 2) := by decide +kernel
theorem dO_runYear_92 : decode prog_1_method_20_code 92 = .ok (.aload_n 0, 1) := by decide +kernel
theorem dO_runYear_93 : decode prog_1_method_20_code 93 = .ok (.getfield 10, 3) := by decide +kernel
theorem dO_runYear_96 : decode prog_1_method_20_code 96 = .ok (.lload 11, 2) := by decide +kernel
theorem dO_runYear_98 : decode prog_1_method_20_code 98 = .ok (.lload 7, 2) := by decide +kernel
theorem dO_runYear_100 : decode prog_1_method_20_code 100 = .ok (.invokevirtual 169, 3) := by decide +kernel
theorem dO_runYear_103 : decode prog_1_method_20_code 103 = .ok (.invokevirtual 145, 3) := by decide +kernel
theorem dO_runYear_106 : decode prog_1_method_20_code 106 = .ok (.aload_n 0, 1) := by decide +kernel
theorem dO_runYear_107 : decode prog_1_method_20_code 107 = .ok (.getfield 10, 3) := by decide +kernel
theorem dO_runYear_110 : decode prog_1_method_20_code 110 = .ok (.invokevirtual 172, 3) := by decide +kernel
theorem dO_runYear_113 : decode prog_1_method_20_code 113 = .ok (.aload_n 0, 1) := by decide +kernel
theorem dO_runYear_114 : decode prog_1_method_20_code 114 = .ok (.getfield 10, 3) := by decide +kernel
theorem dO_runYear_117 : decode prog_1_method_20_code 117 = .ok (.aload_n 0, 1) := by decide +kernel
theorem dO_runYear_118 : decode prog_1_method_20_code 118 = .ok (.iload_n 3, 1) := by decide +kernel
theorem dO_runYear_119 : decode prog_1_method_20_code 119 = .ok (.iload 4, 2) := by decide +kernel
theorem dO_runYear_121 : decode prog_1_method_20_code 121 = .ok (.invokevirtual 175, 3) := by decide +kernel
theorem dO_runYear_124 : decode prog_1_method_20_code 124 = .ok (.invokevirtual 179, 3) := by decide +kernel
theorem dO_runYear_127 : decode prog_1_method_20_code 127 = .ok (.return_, 1) := by decide +kernel
theorem dO_massSeen_0 : decode prog_1_method_21_code 0 = .ok (.iconst 1, 1) := by decide +kernel
theorem dO_massSeen_1 : decode prog_1_method_21_code 1 = .ok (.iload_n 3, 1) := by decide +kernel
theorem dO_massSeen_2 : decode prog_1_method_21_code 2 = .ok (.aload_n 0, 1) := by decide +kernel
theorem dO_massSeen_3 : decode prog_1_method_21_code 3 = .ok (.getfield 73, 3) := by decide +kernel
theorem dO_massSeen_6 : decode prog_1_method_21_code 6 = .ok (.isub, 1) := by decide +kernel
theorem dO_massSeen_7 : decode prog_1_method_21_code 7 = .ok (.invokestatic 183, 3) := by decide +kernel
theorem dO_massSeen_10 : decode prog_1_method_21_code 10 = .ok (.istore 4, 2) := by decide +kernel
theorem dO_massSeen_12 : decode prog_1_method_21_code 12 = .ok (.bipush 100, 2) := by decide +kernel
theorem dO_massSeen_14 : decode prog_1_method_21_code 14 = .ok (.aload_n 0, 1) := by decide +kernel
theorem dO_massSeen_15 : decode prog_1_method_21_code 15 = .ok (.getfield 70, 3) := by decide +kernel
theorem dO_massSeen_18 : decode prog_1_method_21_code 18 = .ok (.isub, 1) := by decide +kernel
theorem dO_massSeen_19 : decode prog_1_method_21_code 19 = .ok (.aload_n 0, 1) := by decide +kernel
theorem dO_massSeen_20 : decode prog_1_method_21_code 20 = .ok (.iload_n 2, 1) := by decide +kernel
theorem dO_massSeen_21 : decode prog_1_method_21_code 21 = .ok (.iload_n 3, 1) := by decide +kernel
theorem dO_massSeen_22 : decode prog_1_method_21_code 22 = .ok (.iconst 1, 1) := by decide +kernel
theorem dO_massSeen_23 : decode prog_1_method_21_code 23 = .ok (.invokevirtual 187, 3) := by decide +kernel
theorem dO_massSeen_26 : decode prog_1_method_21_code 26 = .ok (.iconst 2, 1) := by decide +kernel
theorem dO_massSeen_27 : decode prog_1_method_21_code 27 = .ok (.aload_n 0, 1) := by decide +kernel
theorem dO_massSeen_28 : decode prog_1_method_21_code 28 = .ok (.getfield 70, 3) := by decide +kernel
theorem dO_massSeen_31 : decode prog_1_method_21_code 31 = .ok (.imul, 1) := by decide +kernel
theorem dO_massSeen_32 : decode prog_1_method_21_code 32 = .ok (.iconst 1, 1) := by decide +kernel
theorem dO_massSeen_33 : decode prog_1_method_21_code 33 = .ok (.iadd, 1) := by decide +kernel
theorem dO_massSeen_34 : decode prog_1_method_21_code 34 = .ok (.irem, 1) := by decide +kernel
theorem dO_massSeen_35 : decode prog_1_method_21_code 35 = .ok (.iadd, 1) := by decide +kernel
theorem dO_massSeen_36 : decode prog_1_method_21_code 36 = .ok (.istore 5, 2) := by decide +kernel
theorem dO_massSeen_38 : decode prog_1_method_21_code 38 = .ok (.aload_n 1, 1) := by decide +kernel
theorem dO_massSeen_39 : decode prog_1_method_21_code 39 = .ok (.iconst 0, 1) := by decide +kernel
theorem dO_massSeen_40 : decode prog_1_method_21_code 40 = .ok (.iload_n 2, 1) := by decide +kernel
theorem dO_massSeen_41 : decode prog_1_method_21_code 41 = .ok (.iload 4, 2) := by decide +kernel
theorem dO_massSeen_43 : decode prog_1_method_21_code 43 = .ok (.invokevirtual 104, 3) := by decide +kernel
theorem dO_massSeen_46 : decode prog_1_method_21_code 46 = .ok (.iload 5, 2) := by decide +kernel
theorem dO_massSeen_48 : decode prog_1_method_21_code 48 = .ok (.i2l, 1) := by decide +kernel
theorem dO_massSeen_49 : decode prog_1_method_21_code 49 = .ok (.lmul, 1) := by decide +kernel
theorem dO_massSeen_50 : decode prog_1_method_21_code 50 = .ok (.ldc2_w 191, 3) := by decide +kernel
theorem dO_massSeen_53 : decode prog_1_method_21_code 53 = .ok (.ldiv, 1) := by decide +kernel
theorem dO_massSeen_54 : decode prog_1_method_21_code 54 = .ok (.lreturn, 1) := by decide +kernel
theorem dO_rateAllowed_0 : decode prog_1_method_22_code 0 = .ok (.aload_n 0, 1) := by decide +kernel
theorem dO_rateAllowed_1 : decode prog_1_method_22_code 1 = .ok (.getfield 16, 3) := by decide +kernel
theorem dO_rateAllowed_4 : decode prog_1_method_22_code 4 = .ok (.aload_n 0, 1) := by decide +kernel
theorem dO_rateAllowed_5 : decode prog_1_method_22_code 5 = .ok (.getfield 81, 3) := by decide +kernel
theorem dO_rateAllowed_8 : decode prog_1_method_22_code 8 = .ok (.iaload, 1) := by decide +kernel
theorem dO_rateAllowed_9 : decode prog_1_method_22_code 9 = .ok (.i2l, 1) := by decide +kernel
theorem dO_rateAllowed_10 : decode prog_1_method_22_code 10 = .ok (.lstore 4, 2) := by decide +kernel
theorem dO_rateAllowed_12 : decode prog_1_method_22_code 12 = .ok (.aload_n 0, 1) := by decide +kernel
theorem dO_rateAllowed_13 : decode prog_1_method_22_code 13 = .ok (.getfield 20, 3) := by decide +kernel
theorem dO_rateAllowed_16 : decode prog_1_method_22_code 16 = .ok (.aload_n 0, 1) := by decide +kernel
theorem dO_rateAllowed_17 : decode prog_1_method_22_code 17 = .ok (.getfield 81, 3) := by decide +kernel
theorem dO_rateAllowed_20 : decode prog_1_method_22_code 20 = .ok (.iaload, 1) := by decide +kernel
theorem dO_rateAllowed_21 : decode prog_1_method_22_code 21 = .ok (.i2l, 1) := by decide +kernel
theorem dO_rateAllowed_22 : decode prog_1_method_22_code 22 = .ok (.lstore 6, 2) := by decide +kernel
theorem dO_rateAllowed_24 : decode prog_1_method_22_code 24 = .ok (.lload_n 1, 1) := by decide +kernel
theorem dO_rateAllowed_25 : decode prog_1_method_22_code 25 = .ok (.lload 4, 2) := by decide +kernel
theorem dO_rateAllowed_27 : decode prog_1_method_22_code 27 = .ok (.lcmp, 1) := by decide +kernel
theorem dO_rateAllowed_28 : decode prog_1_method_22_code 28 = .ok (.ifCond .ge 5, 3) := by decide +kernel
theorem dO_rateAllowed_31 : decode prog_1_method_22_code 31 = .ok (.lconst 0, 1) := by decide +kernel
theorem dO_rateAllowed_32 : decode prog_1_method_22_code 32 = .ok (.lreturn, 1) := by decide +kernel
theorem dO_rateAllowed_33 : decode prog_1_method_22_code 33 = .ok (.lload_n 1, 1) := by decide +kernel
theorem dO_rateAllowed_34 : decode prog_1_method_22_code 34 = .ok (.lload 6, 2) := by decide +kernel
theorem dO_rateAllowed_36 : decode prog_1_method_22_code 36 = .ok (.lcmp, 1) := by decide +kernel
theorem dO_rateAllowed_37 : decode prog_1_method_22_code 37 = .ok (.ifCond .lt 6, 3) := by decide +kernel
theorem dO_rateAllowed_40 : decode prog_1_method_22_code 40 = .ok (.iload_n 3, 1) := by decide +kernel
theorem dO_rateAllowed_41 : decode prog_1_method_22_code 41 = .ok (.i2l, 1) := by decide +kernel
theorem dO_rateAllowed_42 : decode prog_1_method_22_code 42 = .ok (.lreturn, 1) := by decide +kernel
theorem dO_rateAllowed_43 : decode prog_1_method_22_code 43 = .ok (.iload_n 3, 1) := by decide +kernel
theorem dO_rateAllowed_44 : decode prog_1_method_22_code 44 = .ok (.i2l, 1) := by decide +kernel
theorem dO_rateAllowed_45 : decode prog_1_method_22_code 45 = .ok (.lload_n 1, 1) := by decide +kernel
theorem dO_rateAllowed_46 : decode prog_1_method_22_code 46 = .ok (.lload 4, 2) := by decide +kernel
theorem dO_rateAllowed_48 : decode prog_1_method_22_code 48 = .ok (.lsub, 1) := by decide +kernel
theorem dO_rateAllowed_49 : decode prog_1_method_22_code 49 = .ok (.lmul, 1) := by decide +kernel
theorem dO_rateAllowed_50 : decode prog_1_method_22_code 50 = .ok (.lload 6, 2) := by decide +kernel
theorem dO_rateAllowed_52 : decode prog_1_method_22_code 52 = .ok (.lload 4, 2) := by decide +kernel
theorem dO_rateAllowed_54 : decode prog_1_method_22_code 54 = .ok (.lsub, 1) := by decide +kernel
theorem dO_rateAllowed_55 : decode prog_1_method_22_code 55 = .ok (.ldiv, 1) := by decide +kernel
theorem dO_rateAllowed_56 : decode prog_1_method_22_code 56 = .ok (.lreturn, 1) := by decide +kernel
theorem dO_limitChange_0 : decode prog_1_method_23_code 0 = .ok (.iload 5, 2) := by decide +kernel
theorem dO_limitChange_2 : decode prog_1_method_23_code 2 = .ok (.iconst 2, 1) := by decide +kernel
theorem dO_limitChange_3 : decode prog_1_method_23_code 3 = .ok (.if_icmp .lt 13, 3) := by decide +kernel
theorem dO_limitChange_6 : decode prog_1_method_23_code 6 = .ok (.aload_n 0, 1) := by decide +kernel
theorem dO_limitChange_7 : decode prog_1_method_23_code 7 = .ok (.getfield 26, 3) := by decide +kernel
theorem dO_limitChange_10 : decode prog_1_method_23_code 10 = .ok (.sipush 1000, 3) := by decide +kernel
theorem dO_limitChange_13 : decode prog_1_method_23_code 13 = .ok (.if_icmp .lt 5, 3) := by decide +kernel
theorem dO_limitChange_16 : decode prog_1_method_23_code 16 = .ok (.lload_n 2, 1) := by decide +kernel
theorem dO_limitChange_17 : decode prog_1_method_23_code 17 = .ok (.lreturn, 1) := by decide +kernel
theorem dO_limitChange_18 : decode prog_1_method_23_code 18 = .ok (.aload_n 1, 1) := by decide +kernel
theorem dO_limitChange_19 : decode prog_1_method_23_code 19 = .ok (.iconst 2, 1) := by decide +kernel
theorem dO_limitChange_20 : decode prog_1_method_23_code 20 = .ok (.iload 4, 2) := by decide +kernel
theorem dO_limitChange_22 : decode prog_1_method_23_code 22 = .ok (.iload 5, 2) := by decide +kernel
theorem dO_limitChange_24 : decode prog_1_method_23_code 24 = .ok (.iconst 1, 1) := by decide +kernel
theorem dO_limitChange_25 : decode prog_1_method_23_code 25 = .ok (.isub, 1) := by decide +kernel
theorem dO_limitChange_26 : decode prog_1_method_23_code 26 = .ok (.invokevirtual 104, 3) := by decide +kernel
theorem dO_limitChange_29 : decode prog_1_method_23_code 29 = .ok (.lstore 6, 2) := by decide +kernel
theorem dO_limitChange_31 : decode prog_1_method_23_code 31 = .ok (.lload 6, 2) := by decide +kernel
theorem dO_limitChange_33 : decode prog_1_method_23_code 33 = .ok (.aload_n 0, 1) := by decide +kernel
theorem dO_limitChange_34 : decode prog_1_method_23_code 34 = .ok (.getfield 26, 3) := by decide +kernel
theorem dO_limitChange_37 : decode prog_1_method_23_code 37 = .ok (.i2l, 1) := by decide +kernel
theorem dO_limitChange_38 : decode prog_1_method_23_code 38 = .ok (.lmul, 1) := by decide +kernel
theorem dO_limitChange_39 : decode prog_1_method_23_code 39 = .ok (.ldc2_w 159, 3) := by decide +kernel
theorem dO_limitChange_42 : decode prog_1_method_23_code 42 = .ok (.ldiv, 1) := by decide +kernel
theorem dO_limitChange_43 : decode prog_1_method_23_code 43 = .ok (.lstore 8, 2) := by decide +kernel
theorem dO_limitChange_45 : decode prog_1_method_23_code 45 = .ok (.lload 6, 2) := by decide +kernel
theorem dO_limitChange_47 : decode prog_1_method_23_code 47 = .ok (.lload 8, 2) := by decide +kernel
theorem dO_limitChange_49 : decode prog_1_method_23_code 49 = .ok (.lsub, 1) := by decide +kernel
theorem dO_limitChange_50 : decode prog_1_method_23_code 50 = .ok (.lload 6, 2) := by decide +kernel
theorem dO_limitChange_52 : decode prog_1_method_23_code 52 = .ok (.lload 8, 2) := by decide +kernel
theorem dO_limitChange_54 : decode prog_1_method_23_code 54 = .ok (.ladd, 1) := by decide +kernel
theorem dO_limitChange_55 : decode prog_1_method_23_code 55 = .ok (.lload_n 2, 1) := by decide +kernel
theorem dO_limitChange_56 : decode prog_1_method_23_code 56 = .ok (.invokestatic 165, 3) := by decide +kernel
theorem dO_limitChange_59 : decode prog_1_method_23_code 59 = .ok (.invokestatic 193, 3) := by decide +kernel
theorem dO_limitChange_62 : decode prog_1_method_23_code 62 = .ok (.lreturn, 1) := by decide +kernel
theorem dO_youngBorn_0 : decode prog_1_method_24_code 0 = .ok (.aload_n 0, 1) := by decide +kernel
theorem dO_youngBorn_1 : decode prog_1_method_24_code 1 = .ok (.getfield 56, 3) := by decide +kernel
theorem dO_youngBorn_4 : decode prog_1_method_24_code 4 = .ok (.i2l, 1) := by decide +kernel
theorem dO_youngBorn_5 : decode prog_1_method_24_code 5 = .ok (.bipush 50, 2) := by decide +kernel
theorem dO_youngBorn_7 : decode prog_1_method_24_code 7 = .ok (.aload_n 0, 1) := by decide +kernel
theorem dO_youngBorn_8 : decode prog_1_method_24_code 8 = .ok (.iload_n 1, 1) := by decide +kernel
theorem dO_youngBorn_9 : decode prog_1_method_24_code 9 = .ok (.iload_n 2, 1) := by decide +kernel
theorem dO_youngBorn_10 : decode prog_1_method_24_code 10 = .ok (.iconst 0, 1) := by decide +kernel
theorem dO_youngBorn_11 : decode prog_1_method_24_code 11 = .ok (.invokevirtual 187, 3) := by decide +kernel
theorem dO_youngBorn_14 : decode prog_1_method_24_code 14 = .ok (.bipush 101, 2) := by decide +kernel
theorem dO_youngBorn_16 : decode prog_1_method_24_code 16 = .ok (.irem, 1) := by decide +kernel
theorem dO_youngBorn_17 : decode prog_1_method_24_code 17 = .ok (.iadd, 1) := by decide +kernel
theorem dO_youngBorn_18 : decode prog_1_method_24_code 18 = .ok (.i2l, 1) := by decide +kernel
theorem dO_youngBorn_19 : decode prog_1_method_24_code 19 = .ok (.lmul, 1) := by decide +kernel
theorem dO_youngBorn_20 : decode prog_1_method_24_code 20 = .ok (.ldc2_w 191, 3) := by decide +kernel
theorem dO_youngBorn_23 : decode prog_1_method_24_code 23 = .ok (.ldiv, 1) := by decide +kernel
theorem dO_youngBorn_24 : decode prog_1_method_24_code 24 = .ok (.lreturn, 1) := by decide +kernel
theorem dO_caughtAtRate_0 : decode prog_1_method_25_code 0 = .ok (.aload_n 0, 1) := by decide +kernel
theorem dO_caughtAtRate_1 : decode prog_1_method_25_code 1 = .ok (.aload_n 0, 1) := by decide +kernel
theorem dO_caughtAtRate_2 : decode prog_1_method_25_code 2 = .ok (.getfield 37, 3) := by decide +kernel
theorem dO_caughtAtRate_5 : decode prog_1_method_25_code 5 = .ok (.iload_n 1, 1) := by decide +kernel
theorem dO_caughtAtRate_6 : decode prog_1_method_25_code 6 = .ok (.invokevirtual 93, 3) := by decide +kernel
theorem dO_caughtAtRate_9 : decode prog_1_method_25_code 9 = .ok (.aload_n 0, 1) := by decide +kernel
theorem dO_caughtAtRate_10 : decode prog_1_method_25_code 10 = .ok (.aload_n 0, 1) := by decide +kernel
theorem dO_caughtAtRate_11 : decode prog_1_method_25_code 11 = .ok (.getfield 37, 3) := by decide +kernel
theorem dO_caughtAtRate_14 : decode prog_1_method_25_code 14 = .ok (.iconst 1, 1) := by decide +kernel
theorem dO_caughtAtRate_15 : decode prog_1_method_25_code 15 = .ok (.iconst 1, 1) := by decide +kernel
theorem dO_caughtAtRate_16 : decode prog_1_method_25_code 16 = .ok (.invokevirtual 126, 3) := by decide +kernel
theorem dO_caughtAtRate_19 : decode prog_1_method_25_code 19 = .ok (.lreturn, 1) := by decide +kernel
theorem dO_sumOf_0 : decode prog_1_method_26_code 0 = .ok (.lconst 0, 1) := by decide +kernel
theorem dO_sumOf_1 : decode prog_1_method_26_code 1 = .ok (.lstore 4, 2) := by decide +kernel
theorem dO_sumOf_3 : decode prog_1_method_26_code 3 = .ok (.iconst 0, 1) := by decide +kernel
theorem dO_sumOf_4 : decode prog_1_method_26_code 4 = .ok (.istore 6, 2) := by decide +kernel
theorem dO_sumOf_6 : decode prog_1_method_26_code 6 = .ok (.iload 6, 2) := by decide +kernel
theorem dO_sumOf_8 : decode prog_1_method_26_code 8 = .ok (.aload_n 0, 1) := by decide +kernel
theorem dO_sumOf_9 : decode prog_1_method_26_code 9 = .ok (.getfield 87, 3) := by decide +kernel
theorem dO_sumOf_12 : decode prog_1_method_26_code 12 = .ok (.if_icmp .ge 41, 3) := by decide +kernel
theorem dO_sumOf_15 : decode prog_1_method_26_code 15 = .ok (.iload_n 3, 1) := by decide +kernel
theorem dO_sumOf_16 : decode prog_1_method_26_code 16 = .ok (.istore 7, 2) := by decide +kernel
theorem dO_sumOf_18 : decode prog_1_method_26_code 18 = .ok (.iload 7, 2) := by decide +kernel
theorem dO_sumOf_20 : decode prog_1_method_26_code 20 = .ok (.aload_n 0, 1) := by decide +kernel
theorem dO_sumOf_21 : decode prog_1_method_26_code 21 = .ok (.getfield 84, 3) := by decide +kernel
theorem dO_sumOf_24 : decode prog_1_method_26_code 24 = .ok (.if_icmp .gt 23, 3) := by decide +kernel
theorem dO_sumOf_27 : decode prog_1_method_26_code 27 = .ok (.lload 4, 2) := by decide +kernel
theorem dO_sumOf_29 : decode prog_1_method_26_code 29 = .ok (.aload_n 1, 1) := by decide +kernel
theorem dO_sumOf_30 : decode prog_1_method_26_code 30 = .ok (.iload_n 2, 1) := by decide +kernel
theorem dO_sumOf_31 : decode prog_1_method_26_code 31 = .ok (.iload 6, 2) := by decide +kernel
theorem dO_sumOf_33 : decode prog_1_method_26_code 33 = .ok (.iload 7, 2) := by decide +kernel
theorem dO_sumOf_35 : decode prog_1_method_26_code 35 = .ok (.invokevirtual 104, 3) := by decide +kernel
theorem dO_sumOf_38 : decode prog_1_method_26_code 38 = .ok (.ladd, 1) := by decide +kernel
theorem dO_sumOf_39 : decode prog_1_method_26_code 39 = .ok (.lstore 4, 2) := by decide +kernel
theorem dO_sumOf_41 : decode prog_1_method_26_code 41 = .ok (.iinc 7 1, 3) := by decide +kernel
theorem dO_sumOf_44 : decode prog_1_method_26_code 44 = .ok (.goto (-26), 3) := by decide +kernel
theorem dO_sumOf_47 : decode prog_1_method_26_code 47 = .ok (.iinc 6 1, 3) := by decide +kernel
theorem dO_sumOf_50 : decode prog_1_method_26_code 50 = .ok (.goto (-44), 3) := by decide +kernel
theorem dO_sumOf_53 : decode prog_1_method_26_code 53 = .ok (.lload 4, 2) := by decide +kernel
theorem dO_sumOf_55 : decode prog_1_method_26_code 55 = .ok (.lreturn, 1) := by decide +kernel
theorem dO_isBelowMark_0 : decode prog_1_method_27_code 0 = .ok (.aload_n 0, 1) := by decide +kernel
theorem dO_isBelowMark_1 : decode prog_1_method_27_code 1 = .ok (.getfield 33, 3) := by decide +kernel
theorem dO_isBelowMark_4 : decode prog_1_method_27_code 4 = .ok (.iconst 0, 1) := by decide +kernel
theorem dO_isBelowMark_5 : decode prog_1_method_27_code 5 = .ok (.iload_n 1, 1) := by decide +kernel
theorem dO_isBelowMark_6 : decode prog_1_method_27_code 6 = .ok (.iload_n 2, 1) := by decide +kernel
theorem dO_isBelowMark_7 : decode prog_1_method_27_code 7 = .ok (.invokevirtual 104, 3) := by decide +kernel
theorem dO_isBelowMark_10 : decode prog_1_method_27_code 10 = .ok (.aload_n 0, 1) := by decide +kernel
theorem dO_isBelowMark_11 : decode prog_1_method_27_code 11 = .ok (.getfield 77, 3) := by decide +kernel
theorem dO_isBelowMark_14 : decode prog_1_method_27_code 14 = .ok (.i2l, 1) := by decide +kernel
theorem dO_isBelowMark_15 : decode prog_1_method_27_code 15 = .ok (.lcmp, 1) := by decide +kernel
theorem dO_isBelowMark_16 : decode prog_1_method_27_code 16 = .ok (.ifCond .ge 7, 3) := by decide +kernel
theorem dO_isBelowMark_19 : decode prog_1_method_27_code 19 = .ok (.iconst 1, 1) := by decide +kernel
theorem dO_isBelowMark_20 : decode prog_1_method_27_code 20 = .ok (.goto 4, 3) := by decide +kernel
theorem dO_isBelowMark_23 : decode prog_1_method_27_code 23 = .ok (.iconst 0, 1) := by decide +kernel
theorem dO_isBelowMark_24 : decode prog_1_method_27_code 24 = .ok (.ireturn, 1) := by decide +kernel
theorem dO_seedsEverBelowMark_0 : decode prog_1_method_28_code 0 = .ok (.iconst 0, 1) := by decide +kernel
theorem dO_seedsEverBelowMark_1 : decode prog_1_method_28_code 1 = .ok (.istore_n 1, 1) := by decide +kernel
theorem dO_seedsEverBelowMark_2 : decode prog_1_method_28_code 2 = .ok (.iconst 0, 1) := by decide +kernel
theorem dO_seedsEverBelowMark_3 : decode prog_1_method_28_code 3 = .ok (.istore_n 2, 1) := by decide +kernel
theorem dO_seedsEverBelowMark_4 : decode prog_1_method_28_code 4 = .ok (.iload_n 2, 1) := by decide +kernel
theorem dO_seedsEverBelowMark_5 : decode prog_1_method_28_code 5 = .ok (.aload_n 0, 1) := by decide +kernel
theorem dO_seedsEverBelowMark_6 : decode prog_1_method_28_code 6 = .ok (.getfield 87, 3) := by decide +kernel
theorem dO_seedsEverBelowMark_9 : decode prog_1_method_28_code 9 = .ok (.if_icmp .ge 20, 3) := by decide +kernel
theorem dO_seedsEverBelowMark_12 : decode prog_1_method_28_code 12 = .ok (.aload_n 0, 1) := by decide +kernel
theorem dO_seedsEverBelowMark_13 : decode prog_1_method_28_code 13 = .ok (.iload_n 2, 1) := by decide +kernel
theorem dO_seedsEverBelowMark_14 : decode prog_1_method_28_code 14 = .ok (.invokevirtual 195, 3) := by decide +kernel
theorem dO_seedsEverBelowMark_17 : decode prog_1_method_28_code 17 = .ok (.ifCond .eq 6, 3) := by decide +kernel
theorem dO_seedsEverBelowMark_20 : decode prog_1_method_28_code 20 = .ok (.iinc 1 1, 3) := by decide +kernel
theorem dO_seedsEverBelowMark_23 : decode prog_1_method_28_code 23 = .ok (.iinc 2 1, 3) := by decide +kernel
theorem dO_seedsEverBelowMark_26 : decode prog_1_method_28_code 26 = .ok (.goto (-22), 3) := by decide +kernel
theorem dO_seedsEverBelowMark_29 : decode prog_1_method_28_code 29 = .ok (.iload_n 1, 1) := by decide +kernel
theorem dO_seedsEverBelowMark_30 : decode prog_1_method_28_code 30 = .ok (.ireturn, 1) := by decide +kernel
theorem dO_isEverBelowMark_0 : decode prog_1_method_29_code 0 = .ok (.iconst 1, 1) := by decide +kernel
theorem dO_isEverBelowMark_1 : decode prog_1_method_29_code 1 = .ok (.istore_n 2, 1) := by decide +kernel
theorem dO_isEverBelowMark_2 : decode prog_1_method_29_code 2 = .ok (.iload_n 2, 1) := by decide +kernel
theorem dO_isEverBelowMark_3 : decode prog_1_method_29_code 3 = .ok (.aload_n 0, 1) := by decide +kernel
theorem dO_isEverBelowMark_4 : decode prog_1_method_29_code 4 = .ok (.getfield 84, 3) := by decide +kernel
theorem dO_isEverBelowMark_7 : decode prog_1_method_29_code 7 = .ok (.if_icmp .gt 20, 3) := by decide +kernel
theorem dO_isEverBelowMark_10 : decode prog_1_method_29_code 10 = .ok (.aload_n 0, 1) := by decide +kernel
theorem dO_isEverBelowMark_11 : decode prog_1_method_29_code 11 = .ok (.iload_n 1, 1) := by decide +kernel
theorem dO_isEverBelowMark_12 : decode prog_1_method_29_code 12 = .ok (.iload_n 2, 1) := by decide +kernel
theorem dO_isEverBelowMark_13 : decode prog_1_method_29_code 13 = .ok (.invokevirtual 108, 3) := by decide +kernel
theorem dO_isEverBelowMark_16 : decode prog_1_method_29_code 16 = .ok (.ifCond .eq 5, 3) := by decide +kernel
theorem dO_isEverBelowMark_19 : decode prog_1_method_29_code 19 = .ok (.iconst 1, 1) := by decide +kernel
theorem dO_isEverBelowMark_20 : decode prog_1_method_29_code 20 = .ok (.ireturn, 1) := by decide +kernel
theorem dO_isEverBelowMark_21 : decode prog_1_method_29_code 21 = .ok (.iinc 2 1, 3) := by decide +kernel
theorem dO_isEverBelowMark_24 : decode prog_1_method_29_code 24 = .ok (.goto (-22), 3) := by decide +kernel
theorem dO_isEverBelowMark_27 : decode prog_1_method_29_code 27 = .ok (.iconst 0, 1) := by decide +kernel
theorem dO_isEverBelowMark_28 : decode prog_1_method_29_code 28 = .ok (.ireturn, 1) := by decide +kernel
theorem dO_putInOrder_0 : decode prog_1_method_30_code 0 = .ok (.iload_n 1, 1) := by decide +kernel
theorem dO_putInOrder_1 : decode prog_1_method_30_code 1 = .ok (.istore 4, 2) := by decide +kernel
theorem dO_putInOrder_3 : decode prog_1_method_30_code 3 = .ok (.iload 4, 2) := by decide +kernel
theorem dO_putInOrder_5 : decode prog_1_method_30_code 5 = .ok (.ifCond .le 39, 3) := by decide +kernel
theorem dO_putInOrder_8 : decode prog_1_method_30_code 8 = .ok (.aload_n 0, 1) := by decide +kernel
theorem dO_putInOrder_9 : decode prog_1_method_30_code 9 = .ok (.getfield 40, 3) := by decide +kernel
theorem dO_putInOrder_12 : decode prog_1_method_30_code 12 = .ok (.iload 4, 2) := by decide +kernel
theorem dO_putInOrder_14 : decode prog_1_method_30_code 14 = .ok (.iconst 1, 1) := by decide +kernel
theorem dO_putInOrder_15 : decode prog_1_method_30_code 15 = .ok (.isub, 1) := by decide +kernel
theorem dO_putInOrder_16 : decode prog_1_method_30_code 16 = .ok (.laload, 1) := by decide +kernel
theorem dO_putInOrder_17 : decode prog_1_method_30_code 17 = .ok (.lload_n 2, 1) := by decide +kernel
theorem dO_putInOrder_18 : decode prog_1_method_30_code 18 = .ok (.lcmp, 1) := by decide +kernel
theorem dO_putInOrder_19 : decode prog_1_method_30_code 19 = .ok (.ifCond .le 25, 3) := by decide +kernel
theorem dO_putInOrder_22 : decode prog_1_method_30_code 22 = .ok (.aload_n 0, 1) := by decide +kernel
theorem dO_putInOrder_23 : decode prog_1_method_30_code 23 = .ok (.getfield 40, 3) := by decide +kernel
theorem dO_putInOrder_26 : decode prog_1_method_30_code 26 = .ok (.iload 4, 2) := by decide +kernel
theorem dO_putInOrder_28 : decode prog_1_method_30_code 28 = .ok (.aload_n 0, 1) := by decide +kernel
theorem dO_putInOrder_29 : decode prog_1_method_30_code 29 = .ok (.getfield 40, 3) := by decide +kernel
theorem dO_putInOrder_32 : decode prog_1_method_30_code 32 = .ok (.iload 4, 2) := by decide +kernel
theorem dO_putInOrder_34 : decode prog_1_method_30_code 34 = .ok (.iconst 1, 1) := by decide +kernel
theorem dO_putInOrder_35 : decode prog_1_method_30_code 35 = .ok (.isub, 1) := by decide +kernel
theorem dO_putInOrder_36 : decode prog_1_method_30_code 36 = .ok (.laload, 1) := by decide +kernel
theorem dO_putInOrder_37 : decode prog_1_method_30_code 37 = .ok (.lastore, 1) := by decide +kernel
theorem dO_putInOrder_38 : decode prog_1_method_30_code 38 = .ok (.iinc 4 (-1), 3) := by decide +kernel
theorem dO_putInOrder_41 : decode prog_1_method_30_code 41 = .ok (.goto (-38), 3) := by decide +kernel
theorem dO_putInOrder_44 : decode prog_1_method_30_code 44 = .ok (.aload_n 0, 1) := by decide +kernel
theorem dO_putInOrder_45 : decode prog_1_method_30_code 45 = .ok (.getfield 40, 3) := by decide +kernel
theorem dO_putInOrder_48 : decode prog_1_method_30_code 48 = .ok (.iload 4, 2) := by decide +kernel
theorem dO_putInOrder_50 : decode prog_1_method_30_code 50 = .ok (.lload_n 2, 1) := by decide +kernel
theorem dO_putInOrder_51 : decode prog_1_method_30_code 51 = .ok (.lastore, 1) := by decide +kernel
theorem dO_putInOrder_52 : decode prog_1_method_30_code 52 = .ok (.return_, 1) := by decide +kernel
theorem dO_partOfFraction_0 : decode prog_1_method_31_code 0 = .ok (.lconst 1, 1) := by decide +kernel
theorem dO_partOfFraction_1 : decode prog_1_method_31_code 1 = .ok (.lload_n 0, 1) := by decide +kernel
theorem dO_partOfFraction_2 : decode prog_1_method_31_code 2 = .ok (.lload_n 2, 1) := by decide +kernel
theorem dO_partOfFraction_3 : decode prog_1_method_31_code 3 = .ok (.invokestatic 199, 3) := by decide +kernel
theorem dO_partOfFraction_6 : decode prog_1_method_31_code 6 = .ok (.invokestatic 193, 3) := by decide +kernel
theorem dO_partOfFraction_9 : decode prog_1_method_31_code 9 = .ok (.lstore 5, 2) := by decide +kernel
theorem dO_partOfFraction_11 : decode prog_1_method_31_code 11 = .ok (.iload 4, 2) := by decide +kernel
theorem dO_partOfFraction_13 : decode prog_1_method_31_code 13 = .ok (.ifCond .ne 7, 3) := by decide +kernel
theorem dO_partOfFraction_16 : decode prog_1_method_31_code 16 = .ok (.lload_n 0, 1) := by decide +kernel
theorem dO_partOfFraction_17 : decode prog_1_method_31_code 17 = .ok (.goto 4, 3) := by decide +kernel
theorem dO_partOfFraction_20 : decode prog_1_method_31_code 20 = .ok (.lload_n 2, 1) := by decide +kernel
theorem dO_partOfFraction_21 : decode prog_1_method_31_code 21 = .ok (.lload 5, 2) := by decide +kernel
theorem dO_partOfFraction_23 : decode prog_1_method_31_code 23 = .ok (.ldiv, 1) := by decide +kernel
theorem dO_partOfFraction_24 : decode prog_1_method_31_code 24 = .ok (.lreturn, 1) := by decide +kernel
theorem dO_commonDivisor_0 : decode prog_1_method_32_code 0 = .ok (.lload_n 0, 1) := by decide +kernel
theorem dO_commonDivisor_1 : decode prog_1_method_32_code 1 = .ok (.lstore 4, 2) := by decide +kernel
theorem dO_commonDivisor_3 : decode prog_1_method_32_code 3 = .ok (.lload_n 2, 1) := by decide +kernel
theorem dO_commonDivisor_4 : decode prog_1_method_32_code 4 = .ok (.lstore 6, 2) := by decide +kernel
theorem dO_commonDivisor_6 : decode prog_1_method_32_code 6 = .ok (.iconst 0, 1) := by decide +kernel
theorem dO_commonDivisor_7 : decode prog_1_method_32_code 7 = .ok (.istore 8, 2) := by decide +kernel
theorem dO_commonDivisor_9 : decode prog_1_method_32_code 9 = .ok (.iload 8, 2) := by decide +kernel
theorem dO_commonDivisor_11 : decode prog_1_method_32_code 11 = .ok (.sipush 200, 3) := by decide +kernel
theorem dO_commonDivisor_14 : decode prog_1_method_32_code 14 = .ok (.if_icmp .ge 31, 3) := by decide +kernel
theorem dO_commonDivisor_17 : decode prog_1_method_32_code 17 = .ok (.lload 6, 2) := by decide +kernel
theorem dO_commonDivisor_19 : decode prog_1_method_32_code 19 = .ok (.lconst 0, 1) := by decide +kernel
theorem dO_commonDivisor_20 : decode prog_1_method_32_code 20 = .ok (.lcmp, 1) := by decide +kernel
theorem dO_commonDivisor_21 : decode prog_1_method_32_code 21 = .ok (.ifCond .eq 24, 3) := by decide +kernel
theorem dO_commonDivisor_24 : decode prog_1_method_32_code 24 = .ok (.lload 4, 2) := by decide +kernel
theorem dO_commonDivisor_26 : decode prog_1_method_32_code 26 = .ok (.lload 6, 2) := by decide +kernel
theorem dO_commonDivisor_28 : decode prog_1_method_32_code 28 = .ok (.lrem, 1) := by decide +kernel
theorem dO_commonDivisor_29 : decode prog_1_method_32_code 29 = .ok (.lstore 9, 2) := by decide +kernel
theorem dO_commonDivisor_31 : decode prog_1_method_32_code 31 = .ok (.lload 6, 2) := by decide +kernel
theorem dO_commonDivisor_33 : decode prog_1_method_32_code 33 = .ok (.lstore 4, 2) := by decide +kernel
theorem dO_commonDivisor_35 : decode prog_1_method_32_code 35 = .ok (.lload 9, 2) := by decide +kernel
theorem dO_commonDivisor_37 : decode prog_1_method_32_code 37 = .ok (.lstore 6, 2) := by decide +kernel
theorem dO_commonDivisor_39 : decode prog_1_method_32_code 39 = .ok (.iinc 8 1, 3) := by decide +kernel
theorem dO_commonDivisor_42 : decode prog_1_method_32_code 42 = .ok (.goto (-33), 3) := by decide +kernel
theorem dO_commonDivisor_45 : decode prog_1_method_32_code 45 = .ok (.lload 4, 2) := by decide +kernel
theorem dO_commonDivisor_47 : decode prog_1_method_32_code 47 = .ok (.lreturn, 1) := by decide +kernel
end
section
section QOP
variable (l : Launch) (dC : Nat → ClassId) (dI : Nat → Nat → Nat) (cI cJ cG : ClassId)
set_option maxHeartbeats 4000000 in
set_option maxRecDepth 100000 in
theorem c_draw (o0 : Nat) (a b c0 : Int32) : qMi l yO_draw (wO_draw) ({ frames := 0, cells := 0, slots := 0, locals := 0 } : Room) (dC, dI) qCl [(cI, .int), (cJ, .long), (cG, .array .long)] [.ref o0, .int a, .int b, .int c0] [] [] (pf_draw a b c0) 0 0 := by
  refine qm_i (cc := prog_1_method_8_code) (maxL := 5) (by decide) rfl (Nat.le_of_ble_eq_true rfl) ?_
  intro p e s m args below meth c Q A ls hx hb hml hown hnm hts hA hK hP hD hS hl hret
  have hl : lv_has ls 5 [(0, .ref o0), (1, .int a), (2, .int b), (3, .int c0)] := hl
  refine lv_bipush (v := 31) hx hb dO_draw_0 (by decide) ?_
  refine lv_iload_n hx hb dO_draw_2 rfl (lv_at hl 1 rfl) ?_
  refine lv_imul hx hb dO_draw_3 ?_
  refine lv_bipush (v := 7) hx hb dO_draw_4 (by decide) ?_
  refine lv_iload_n hx hb dO_draw_6 rfl (lv_at hl 2 rfl) ?_
  refine lv_imul hx hb dO_draw_7 ?_
  refine lv_iadd hx hb dO_draw_8 ?_
  refine lv_iload_n hx hb dO_draw_9 rfl (lv_at hl 3 rfl) ?_
  refine lv_iadd hx hb dO_draw_10 ?_
  refine lv_istore (lv' := [(4, .int (((31 * a) + (7 * b)) + c0)), (0, .ref o0), (1, .int a), (2, .int b), (3, .int c0)]) hx hb dO_draw_11 hl (by decide) rfl (fun ls hl => ?_)
  refine lv_iload hx hb dO_draw_13 (lv_at hl 0 rfl) ?_
  refine lv_ldc (v := 1103515245) hx hb hown (hts _ mq_1_112) dO_draw_15 ?_
  refine lv_imul hx hb dO_draw_17 ?_
  refine lv_sipush (v := 12345) hx hb dO_draw_18 (by decide) ?_
  refine lv_iadd hx hb dO_draw_21 ?_
  refine lv_istore (lv' := [(4, .int (((((31 * a) + (7 * b)) + c0) * 1103515245) + 12345)), (0, .ref o0), (1, .int a), (2, .int b), (3, .int c0)]) hx hb dO_draw_22 hl (by decide) rfl (fun ls hl => ?_)
  refine lv_iload hx hb dO_draw_24 (lv_at hl 0 rfl) ?_
  refine lv_ldc (v := 1103515245) hx hb hown (hts _ mq_1_112) dO_draw_26 ?_
  refine lv_imul hx hb dO_draw_28 ?_
  refine lv_sipush (v := 12345) hx hb dO_draw_29 (by decide) ?_
  refine lv_iadd hx hb dO_draw_32 ?_
  refine lv_istore (lv' := [(4, .int (((((((31 * a) + (7 * b)) + c0) * 1103515245) + 12345) * 1103515245) + 12345)), (0, .ref o0), (1, .int a), (2, .int b), (3, .int c0)]) hx hb dO_draw_33 hl (by decide) rfl (fun ls hl => ?_)
  refine lv_iload hx hb dO_draw_35 (lv_at hl 0 rfl) ?_
  refine lv_bipush (v := 16) hx hb dO_draw_37 (by decide) ?_
  refine lv_iushr hx hb dO_draw_39 rfl ?_
  exact hret hP hD hS (Nat.le_of_ble_eq_true rfl) (Nat.le_of_ble_eq_true rfl) (rfl) dO_draw_40

set_option maxHeartbeats 4000000 in
set_option maxRecDepth 100000 in
theorem c_massSeen (o0 o1 o2 o3 o4 o5 o6 o7 ru sp dl rr yr sd rn : Nat) (yg ch mk : Int32) (q0 qg : Nat) (qr : Nat → Nat) (M : Nat → Nat → Int64) (se y : Nat) (hse : se < 16) (hy1 : 1 ≤ y) (hy2 : y ≤ 20) (hsp : sp ≤ 50) (hdl : dl ≤ 3) : qMl l yO_massSeen (wO_massSeen) ({ frames := 1, cells := 0, slots := 0, locals := 24 } : Room) (dC, dI) qCl [(cI, .int), (cJ, .long), (cG, .array .long)] [.ref o0, .ref q0, .int (nI se), .int (nI y)] [(o0, .inr (0, [.ref o1, .ref o2, .ref o3, .ref o4, .int (nI ru), .int yg, .int ch, .int (nI sp), .int (nI dl), .int mk, .ref o5, .ref o6, .ref o7, .int (nI rr), .int (nI yr), .int (nI sd), .int (nI rn)])), (q0, .inr (2, [.ref qg])), (qg, .inl (cG, 4, .inr (.inr (.inr (.inr (pf_gf qr)))))), (qr 0, .inl (cJ, 320, .inr (.inl (M 0)))), (qr 1, .inl (cJ, 320, .inr (.inl (M 1)))), (qr 2, .inl (cJ, 320, .inr (.inl (M 2)))), (qr 3, .inl (cJ, 320, .inr (.inl (M 3))))] [(o0, .inr (0, [.ref o1, .ref o2, .ref o3, .ref o4, .int (nI ru), .int yg, .int ch, .int (nI sp), .int (nI dl), .int mk, .ref o5, .ref o6, .ref o7, .int (nI rr), .int (nI yr), .int (nI sd), .int (nI rn)])), (q0, .inr (2, [.ref qg])), (qg, .inl (cG, 4, .inr (.inr (.inr (.inr (pf_gf qr)))))), (qr 0, .inl (cJ, 320, .inr (.inl (M 0)))), (qr 1, .inl (cJ, 320, .inr (.inl (M 1)))), (qr 2, .inl (cJ, 320, .inr (.inl (M 2)))), (qr 3, .inl (cJ, 320, .inr (.inl (M 3))))] (pf_seen (M 0) se y sp dl) 0 0 := by
  refine qm_l (cc := prog_1_method_21_code) (maxL := 6) (by decide) rfl (Nat.le_of_ble_eq_true rfl) ?_
  intro p e s m args below meth c Q A ls hx hb hml hown hnm hts hA hK hP hD hS hl hret
  have hl : lv_has ls 6 [(0, .ref o0), (1, .ref q0), (2, .int (nI se)), (3, .int (nI y))] := hl
  refine lv_iconst (v := 1) hx hb dO_massSeen_0 (by decide) ?_
  refine lv_iload_n hx hb dO_massSeen_1 rfl (lv_at hl 3 rfl) ?_
  refine lv_aload_n hx hb dO_massSeen_2 rfl (lv_at hl 0 rfl) ?_
  refine va_get (D := (dC, dI)) (ci := 0) (v := .int (nI dl)) (C := "OutlookOdds") (T := TO) (N := 17) hx hb hts inO hown hK hP 0 rfl rfl 8 (by decide) (hts _ mq_1_64) (fun _ h9 => h9) rfl dO_massSeen_3 ?_
  refine lv_isub hx hb dO_massSeen_6 ?_
  refine va_mmax hx hb (by rw [hml]; exact hl.1.symm) hown (hts _ mq_2_67) (hts _ mq_2_68) (hts _ mq_1_11) (hts _ mq_2_69) (Nat.le_of_ble_eq_true rfl) (by exact Nat.le_of_ble_eq_true rfl) (by exact Nat.le_of_ble_eq_true rfl) (by exact Nat.le_of_ble_eq_true rfl) dO_massSeen_7 ?_
  refine qr_topi (y := nI (pf_ys y dl)) (qn_ys hy2 hdl) ?_
  refine lv_istore (lv' := [(4, .int (nI (pf_ys y dl))), (0, .ref o0), (1, .ref q0), (2, .int (nI se)), (3, .int (nI y))]) hx hb dO_massSeen_10 hl (by decide) rfl (fun ls hl => ?_)
  refine lv_bipush (v := 100) hx hb dO_massSeen_12 (by decide) ?_
  refine lv_aload_n hx hb dO_massSeen_14 rfl (lv_at hl 1 rfl) ?_
  refine va_get (D := (dC, dI)) (ci := 0) (v := .int (nI sp)) (C := "OutlookOdds") (T := TO) (N := 17) hx hb hts inO hown hK hP 0 rfl rfl 7 (by decide) (hts _ mq_1_63) (fun _ h9 => h9) rfl dO_massSeen_15 ?_
  refine lv_isub hx hb dO_massSeen_18 ?_
  refine lv_aload_n hx hb dO_massSeen_19 rfl (lv_at hl 1 rfl) ?_
  refine lv_iload_n hx hb dO_massSeen_20 rfl (lv_at hl 3 rfl) ?_
  refine lv_iload_n hx hb dO_massSeen_21 rfl (lv_at hl 4 rfl) ?_
  refine lv_iconst (v := 1) hx hb dO_massSeen_22 (by decide) ?_
  refine qr_callVi (As := [.int (nI se), .int (nI y), .int 1]) (rest := [.int (100 - (nI sp))]) (wr := [(o0, .inr (0, [.ref o1, .ref o2, .ref o3, .ref o4, .int (nI ru), .int yg, .int ch, .int (nI sp), .int (nI dl), .int mk, .ref o5, .ref o6, .ref o7, .int (nI rr), .int (nI yr), .int (nI sd), .int (nI rn)])), (q0, .inr (2, [.ref qg])), (qg, .inl (cG, 4, .inr (.inr (.inr (.inr (pf_gf qr)))))), (qr 0, .inl (cJ, 320, .inr (.inl (M 0)))), (qr 1, .inl (cJ, 320, .inr (.inl (M 1)))), (qr 2, .inl (cJ, 320, .inr (.inl (M 2)))), (qr 3, .inl (cJ, 320, .inr (.inl (M 3))))]) (ws2 := [(o0, .inr (0, [.ref o1, .ref o2, .ref o3, .ref o4, .int (nI ru), .int yg, .int ch, .int (nI sp), .int (nI dl), .int mk, .ref o5, .ref o6, .ref o7, .int (nI rr), .int (nI yr), .int (nI sd), .int (nI rn)])), (q0, .inr (2, [.ref qg])), (qg, .inl (cG, 4, .inr (.inr (.inr (.inr (pf_gf qr)))))), (qr 0, .inl (cJ, 320, .inr (.inl (M 0)))), (qr 1, .inl (cJ, 320, .inr (.inl (M 1)))), (qr 2, .inl (cJ, 320, .inr (.inl (M 2)))), (qr 3, .inl (cJ, 320, .inr (.inl (M 3))))]) ⟨hx, hb, hml, hown, hts⟩ (c_draw l dC dI cI cJ cG o0 (nI se) (nI y) 1 ) (cwV 3 hts (qg_V mq_2_70 mq_1_109 mq_1_110 mq_1_1 mq_1_111) rfl rfl rfl (by decide +kernel) ⟨Nat.le_of_ble_eq_true rfl, Nat.le_of_ble_eq_true rfl⟩) hK hP hD hS hA (ci := 0) (q0 := 0) rfl rfl [] [0, 1, 2, 3, 4, 5, 6] [0, 1, 2, 3, 4, 5, 6] rfl rfl (by decide) (by decide) rfl (by decide) rfl hl.1 rfl (Nat.le_of_ble_eq_true rfl) dO_massSeen_23 ⟨Nat.le_of_ble_eq_true rfl, Nat.le_of_ble_eq_true rfl⟩ (fun H locs hP hD hS => ?_)
  refine lv_iconst (v := 2) hx hb dO_massSeen_26 (by decide) ?_
  refine lv_aload_n hx hb dO_massSeen_27 rfl (lv_at hl 1 rfl) ?_
  refine va_get (D := (dC, dI)) (ci := 0) (v := .int (nI sp)) (C := "OutlookOdds") (T := TO) (N := 17) hx hb hts inO hown hK hP 0 rfl rfl 7 (by decide) (hts _ mq_1_63) (fun _ h9 => h9) rfl dO_massSeen_28 ?_
  refine lv_imul hx hb dO_massSeen_31 ?_
  refine lv_iconst (v := 1) hx hb dO_massSeen_32 (by decide) ?_
  refine lv_iadd hx hb dO_massSeen_33 ?_
  refine lv_irem hx hb dO_massSeen_34 (qn_odd hsp) ?_
  refine lv_iadd hx hb dO_massSeen_35 ?_
  refine lv_istore (lv' := [(5, .int ((100 - (nI sp)) + ((pf_draw (nI se) (nI y) 1) - (pf_draw (nI se) (nI y) 1) / ((2 * (nI sp)) + 1) * ((2 * (nI sp)) + 1)))), (4, .int (nI (pf_ys y dl))), (0, .ref o0), (1, .ref q0), (2, .int (nI se)), (3, .int (nI y))]) hx hb dO_massSeen_36 hl (by decide) rfl (fun ls hl => ?_)
  refine lv_aload_n hx hb dO_massSeen_38 rfl (lv_at hl 3 rfl) ?_
  refine lv_iconst (v := 0) hx hb dO_massSeen_39 (by decide) ?_
  refine lv_iload_n hx hb dO_massSeen_40 rfl (lv_at hl 4 rfl) ?_
  refine lv_iload hx hb dO_massSeen_41 (lv_at hl 1 rfl) ?_
  refine qr_callVl (As := [.int 0, .int (nI se), .int (nI (pf_ys y dl))]) (rest := []) (wr := [(o0, .inr (0, [.ref o1, .ref o2, .ref o3, .ref o4, .int (nI ru), .int yg, .int ch, .int (nI sp), .int (nI dl), .int mk, .ref o5, .ref o6, .ref o7, .int (nI rr), .int (nI yr), .int (nI sd), .int (nI rn)]))]) (ws2 := [(o0, .inr (0, [.ref o1, .ref o2, .ref o3, .ref o4, .int (nI ru), .int yg, .int ch, .int (nI sp), .int (nI dl), .int mk, .ref o5, .ref o6, .ref o7, .int (nI rr), .int (nI yr), .int (nI sd), .int (nI rn)])), (q0, .inr (2, [.ref qg])), (qg, .inl (cG, 4, .inr (.inr (.inr (.inr (pf_gf qr)))))), (qr 0, .inl (cJ, 320, .inr (.inl (M 0)))), (qr 1, .inl (cJ, 320, .inr (.inl (M 1)))), (qr 2, .inl (cJ, 320, .inr (.inl (M 2)))), (qr 3, .inl (cJ, 320, .inr (.inl (M 3))))]) ⟨hx, hb, hml, hown, hts⟩ (c_Story_get l dC dI cI cJ cG q0 qg qr M 0 se (pf_ys y dl) (by omega) (by omega) ((pf_ys_in hy1).1) (Nat.le_trans (pf_ys_in hy1).2 hy2)) (cwV 3 hts (qg_V mq_2_71 mq_2_72 mq_2_73 mq_1_3 mq_2_74) rfl rfl rfl (by decide +kernel) ⟨Nat.le_of_ble_eq_true rfl, Nat.le_of_ble_eq_true rfl⟩) hK hP hD hS hA (ci := 2) (q0 := 1) rfl rfl [1, 2, 3, 4, 5, 6] [0] [0, 1, 2, 3, 4, 5, 6] rfl rfl (by decide) (by decide) rfl (by decide) rfl hl.1 rfl (Nat.le_of_ble_eq_true rfl) dO_massSeen_43 ⟨Nat.le_of_ble_eq_true rfl, Nat.le_of_ble_eq_true rfl⟩ (fun H locs hP hD hS => ?_)
  refine lv_iload hx hb dO_massSeen_46 (lv_at hl 0 rfl) ?_
  refine lv_i2l hx hb dO_massSeen_48 rfl ?_
  refine lv_lmul hx hb dO_massSeen_49 ?_
  refine lv_ldc2 (v := 100) hx hb hown (hts _ mq_2_75) dO_massSeen_50 ?_
  refine lv_ldiv hx hb dO_massSeen_53 (by decide) ?_
  exact hret hP hD hS (Nat.le_of_ble_eq_true rfl) (Nat.le_of_ble_eq_true rfl) (rfl) dO_massSeen_54

set_option maxHeartbeats 4000000 in
set_option maxRecDepth 100000 in
theorem c_rateAllowed (o0 o1 o2 o3 o4 o5 o6 o7 ru sp dl rr yr sd rn : Nat) (yg ch mk : Int32) (lo hi : Nat → Int32) (x : Int64) (rt : Int32) (hrr : rr < 6) : qMl l yO_rateAllowed (wO_rateAllowed) ({ frames := 0, cells := 0, slots := 0, locals := 0 } : Room) (dC, dI) qCl [(cI, .int), (cJ, .long), (cG, .array .long)] [.ref o0, .long x, .int rt] [(o0, .inr (0, [.ref o1, .ref o2, .ref o3, .ref o4, .int (nI ru), .int yg, .int ch, .int (nI sp), .int (nI dl), .int mk, .ref o5, .ref o6, .ref o7, .int (nI rr), .int (nI yr), .int (nI sd), .int (nI rn)])), (o2, .inl (cI, 6, .inl lo)), (o3, .inl (cI, 6, .inl hi))] [(o0, .inr (0, [.ref o1, .ref o2, .ref o3, .ref o4, .int (nI ru), .int yg, .int ch, .int (nI sp), .int (nI dl), .int mk, .ref o5, .ref o6, .ref o7, .int (nI rr), .int (nI yr), .int (nI sd), .int (nI rn)])), (o2, .inl (cI, 6, .inl lo)), (o3, .inl (cI, 6, .inl hi))] (pf_rate (lo rr).toInt64 (hi rr).toInt64 x rt) 0 0 := by
  refine qm_l (cc := prog_1_method_22_code) (maxL := 8) (by decide) rfl (Nat.le_of_ble_eq_true rfl) ?_
  intro p e s m args below meth c Q A ls hx hb hml hown hnm hts hA hK hP hD hS hl hret
  have hl : lv_has ls 8 [(0, .ref o0), (1, .long x), (3, .int rt)] := hl
  refine lv_aload_n hx hb dO_rateAllowed_0 rfl (lv_at hl 0 rfl) ?_
  refine va_get (D := (dC, dI)) (ci := 0) (v := .ref o2) (C := "OutlookOdds") (T := TO) (N := 17) hx hb hts inO hown hK hP 0 rfl rfl 1 (by decide) (hts _ mq_1_57) (fun _ h9 => h9) rfl dO_rateAllowed_1 ?_
  refine lv_aload_n hx hb dO_rateAllowed_4 rfl (lv_at hl 0 rfl) ?_
  refine va_get (D := (dC, dI)) (ci := 0) (v := .int (nI rr)) (C := "OutlookOdds") (T := TO) (N := 17) hx hb hts inO hown hK hP 0 rfl rfl 13 (by decide) (hts _ mq_1_69) (fun _ h9 => h9) rfl dO_rateAllowed_5 ?_
  refine qr_iald (k := rr) hx hb hK hP 1 0 rfl rfl (rfl) (by omega) (by decide) dO_rateAllowed_8 ?_
  refine lv_i2l hx hb dO_rateAllowed_9 rfl ?_
  refine lv_lstore (lv' := [(4, .long ((lo rr).toInt64)), (0, .ref o0), (1, .long x), (3, .int rt)]) hx hb dO_rateAllowed_10 hl (by decide) rfl (fun ls hl => ?_)
  refine lv_aload_n hx hb dO_rateAllowed_12 rfl (lv_at hl 1 rfl) ?_
  refine va_get (D := (dC, dI)) (ci := 0) (v := .ref o3) (C := "OutlookOdds") (T := TO) (N := 17) hx hb hts inO hown hK hP 0 rfl rfl 2 (by decide) (hts _ mq_1_58) (fun _ h9 => h9) rfl dO_rateAllowed_13 ?_
  refine lv_aload_n hx hb dO_rateAllowed_16 rfl (lv_at hl 1 rfl) ?_
  refine va_get (D := (dC, dI)) (ci := 0) (v := .int (nI rr)) (C := "OutlookOdds") (T := TO) (N := 17) hx hb hts inO hown hK hP 0 rfl rfl 13 (by decide) (hts _ mq_1_69) (fun _ h9 => h9) rfl dO_rateAllowed_17 ?_
  refine qr_iald (k := rr) hx hb hK hP 2 0 rfl rfl (rfl) (by omega) (by decide) dO_rateAllowed_20 ?_
  refine lv_i2l hx hb dO_rateAllowed_21 rfl ?_
  refine lv_lstore (lv' := [(6, .long ((hi rr).toInt64)), (4, .long ((lo rr).toInt64)), (0, .ref o0), (1, .long x), (3, .int rt)]) hx hb dO_rateAllowed_22 hl (by decide) rfl (fun ls hl => ?_)
  refine lv_lload_n hx hb dO_rateAllowed_24 rfl (lv_at hl 3 rfl) ?_
  refine lv_lload hx hb dO_rateAllowed_25 (lv_at hl 1 rfl) ?_
  refine W.lcmp hx hb dO_rateAllowed_27 ?_
  refine lv_if_ge (tgt := 33) hx hb dO_rateAllowed_28 (by decide) (fun h28 => ?_) (fun h28 => ?_)
  · have h28 := (lg_cmp_ge _ _).mp h28
    refine lv_lload_n hx hb dO_rateAllowed_33 rfl (lv_at hl 3 rfl) ?_
    refine lv_lload hx hb dO_rateAllowed_34 (lv_at hl 0 rfl) ?_
    refine W.lcmp hx hb dO_rateAllowed_36 ?_
    refine lv_if_lt (tgt := 43) hx hb dO_rateAllowed_37 (by decide) (fun h37 => ?_) (fun h37 => ?_)
    · have h37 := (lg_cmp_lt _ _).mp h37
      refine lv_iload_n hx hb dO_rateAllowed_43 rfl (lv_at hl 4 rfl) ?_
      refine lv_i2l hx hb dO_rateAllowed_44 rfl ?_
      refine lv_lload_n hx hb dO_rateAllowed_45 rfl (lv_at hl 3 rfl) ?_
      refine lv_lload hx hb dO_rateAllowed_46 (lv_at hl 1 rfl) ?_
      refine lv_lsub hx hb dO_rateAllowed_48 ?_
      refine lv_lmul hx hb dO_rateAllowed_49 ?_
      refine lv_lload hx hb dO_rateAllowed_50 (lv_at hl 0 rfl) ?_
      refine lv_lload hx hb dO_rateAllowed_52 (lv_at hl 1 rfl) ?_
      refine lv_lsub hx hb dO_rateAllowed_54 ?_
      refine lv_ldiv hx hb dO_rateAllowed_55 (qn_dz h28 h37) ?_
      exact hret hP hD hS (Nat.le_of_ble_eq_true rfl) (Nat.le_of_ble_eq_true rfl) (by unfold pf_rate; rw [if_pos h28, if_pos h37]) dO_rateAllowed_56
    · have h37 := mt (lg_cmp_lt _ _).mpr h37
      refine lv_iload_n hx hb dO_rateAllowed_40 rfl (lv_at hl 4 rfl) ?_
      refine lv_i2l hx hb dO_rateAllowed_41 rfl ?_
      exact hret hP hD hS (Nat.le_of_ble_eq_true rfl) (Nat.le_of_ble_eq_true rfl) (by unfold pf_rate; rw [if_pos h28, if_neg h37]) dO_rateAllowed_42
  · have h28 := mt (lg_cmp_ge _ _).mpr h28
    refine lv_lconst (v := 0) hx hb dO_rateAllowed_31 (by decide) ?_
    exact hret hP hD hS (Nat.le_of_ble_eq_true rfl) (Nat.le_of_ble_eq_true rfl) (by unfold pf_rate; rw [if_neg h28]) dO_rateAllowed_32

set_option maxHeartbeats 4000000 in
set_option maxRecDepth 100000 in
theorem c_limitChange (o0 o1 o2 o3 o4 o5 o6 o7 ru sp dl rr yr sd rn : Nat) (yg ch mk : Int32) (q0 qg : Nat) (qr : Nat → Nat) (M : Nat → Nat → Int64) (wa : Int64) (se y : Nat) (hse : se < 16) (hy2 : y ≤ 20) : qMl l yO_limitChange (wO_limitChange) ({ frames := 1, cells := 0, slots := 0, locals := 23 } : Room) (dC, dI) qCl [(cI, .int), (cJ, .long), (cG, .array .long)] [.ref o0, .ref q0, .long wa, .int (nI se), .int (nI y)] [(o0, .inr (0, [.ref o1, .ref o2, .ref o3, .ref o4, .int (nI ru), .int yg, .int ch, .int (nI sp), .int (nI dl), .int mk, .ref o5, .ref o6, .ref o7, .int (nI rr), .int (nI yr), .int (nI sd), .int (nI rn)])), (q0, .inr (2, [.ref qg])), (qg, .inl (cG, 4, .inr (.inr (.inr (.inr (pf_gf qr)))))), (qr 0, .inl (cJ, 320, .inr (.inl (M 0)))), (qr 1, .inl (cJ, 320, .inr (.inl (M 1)))), (qr 2, .inl (cJ, 320, .inr (.inl (M 2)))), (qr 3, .inl (cJ, 320, .inr (.inl (M 3))))] [(o0, .inr (0, [.ref o1, .ref o2, .ref o3, .ref o4, .int (nI ru), .int yg, .int ch, .int (nI sp), .int (nI dl), .int mk, .ref o5, .ref o6, .ref o7, .int (nI rr), .int (nI yr), .int (nI sd), .int (nI rn)])), (q0, .inr (2, [.ref qg])), (qg, .inl (cG, 4, .inr (.inr (.inr (.inr (pf_gf qr)))))), (qr 0, .inl (cJ, 320, .inr (.inl (M 0)))), (qr 1, .inl (cJ, 320, .inr (.inl (M 1)))), (qr 2, .inl (cJ, 320, .inr (.inl (M 2)))), (qr 3, .inl (cJ, 320, .inr (.inl (M 3))))] (pf_lim (M 2) wa se y ch) 0 0 := by
  refine qm_l (cc := prog_1_method_23_code) (maxL := 10) (by decide) rfl (Nat.le_of_ble_eq_true rfl) ?_
  intro p e s m args below meth c Q A ls hx hb hml hown hnm hts hA hK hP hD hS hl hret
  have hl : lv_has ls 10 [(0, .ref o0), (1, .ref q0), (2, .long wa), (4, .int (nI se)), (5, .int (nI y))] := hl
  refine lv_iload hx hb dO_limitChange_0 (lv_at hl 4 rfl) ?_
  refine lv_iconst (v := 2) hx hb dO_limitChange_2 (by decide) ?_
  refine lv_icmp_lt (tgt := 16) hx hb dO_limitChange_3 (by decide) (fun h3 => ?_) (fun h3 => ?_)
  · refine lv_lload_n hx hb dO_limitChange_16 rfl (lv_at hl 2 rfl) ?_
    exact hret hP hD hS (Nat.le_of_ble_eq_true rfl) (Nat.le_of_ble_eq_true rfl) (by unfold pf_lim; first | rw [if_pos h3] | rw [if_neg h3, if_neg h13]) dO_limitChange_17
  · have hy : 2 ≤ y := qn_nlt2 h3 (by omega)
    refine lv_aload_n hx hb dO_limitChange_6 rfl (lv_at hl 0 rfl) ?_
    refine va_get (D := (dC, dI)) (ci := 0) (v := .int ch) (C := "OutlookOdds") (T := TO) (N := 17) hx hb hts inO hown hK hP 0 rfl rfl 6 (by decide) (hts _ mq_1_62) (fun _ h9 => h9) rfl dO_limitChange_7 ?_
    refine lv_sipush (v := 1000) hx hb dO_limitChange_10 (by decide) ?_
    refine lv_icmp_lt (tgt := 18) hx hb dO_limitChange_13 (by decide) (fun h13 => ?_) (fun h13 => ?_)
    · refine lv_aload_n hx hb dO_limitChange_18 rfl (lv_at hl 1 rfl) ?_
      refine lv_iconst (v := 2) hx hb dO_limitChange_19 (by decide) ?_
      refine lv_iload hx hb dO_limitChange_20 (lv_at hl 3 rfl) ?_
      refine lv_iload hx hb dO_limitChange_22 (lv_at hl 4 rfl) ?_
      refine lv_iconst (v := 1) hx hb dO_limitChange_24 (by decide) ?_
      refine lv_isub hx hb dO_limitChange_25 ?_
      refine qr_topi (y := nI (y - 1)) (qn_sub1 (by omega)) ?_
      refine qr_callVl (As := [.int 2, .int (nI se), .int (nI (y - 1))]) (rest := []) (wr := [(o0, .inr (0, [.ref o1, .ref o2, .ref o3, .ref o4, .int (nI ru), .int yg, .int ch, .int (nI sp), .int (nI dl), .int mk, .ref o5, .ref o6, .ref o7, .int (nI rr), .int (nI yr), .int (nI sd), .int (nI rn)]))]) (ws2 := [(o0, .inr (0, [.ref o1, .ref o2, .ref o3, .ref o4, .int (nI ru), .int yg, .int ch, .int (nI sp), .int (nI dl), .int mk, .ref o5, .ref o6, .ref o7, .int (nI rr), .int (nI yr), .int (nI sd), .int (nI rn)])), (q0, .inr (2, [.ref qg])), (qg, .inl (cG, 4, .inr (.inr (.inr (.inr (pf_gf qr)))))), (qr 0, .inl (cJ, 320, .inr (.inl (M 0)))), (qr 1, .inl (cJ, 320, .inr (.inl (M 1)))), (qr 2, .inl (cJ, 320, .inr (.inl (M 2)))), (qr 3, .inl (cJ, 320, .inr (.inl (M 3))))]) ⟨hx, hb, hml, hown, hts⟩ (c_Story_get l dC dI cI cJ cG q0 qg qr M 2 se (y - 1) (by omega) (by omega) (by omega) (by omega)) (cwV 3 hts (qg_V mq_2_71 mq_2_72 mq_2_73 mq_1_3 mq_2_74) rfl rfl rfl (by decide +kernel) ⟨Nat.le_of_ble_eq_true rfl, Nat.le_of_ble_eq_true rfl⟩) hK hP hD hS hA (ci := 2) (q0 := 1) rfl rfl [1, 2, 3, 4, 5, 6] [0] [0, 1, 2, 3, 4, 5, 6] rfl rfl (by decide) (by decide) rfl (by decide) rfl hl.1 rfl (Nat.le_of_ble_eq_true rfl) dO_limitChange_26 ⟨Nat.le_of_ble_eq_true rfl, Nat.le_of_ble_eq_true rfl⟩ (fun H locs hP hD hS => ?_)
      refine lv_lstore (lv' := [(6, .long (M 2 (pf_ix se (y - 1)))), (0, .ref o0), (1, .ref q0), (2, .long wa), (4, .int (nI se)), (5, .int (nI y))]) hx hb dO_limitChange_29 hl (by decide) rfl (fun ls hl => ?_)
      refine lv_lload hx hb dO_limitChange_31 (lv_at hl 0 rfl) ?_
      refine lv_aload_n hx hb dO_limitChange_33 rfl (lv_at hl 1 rfl) ?_
      refine va_get (D := (dC, dI)) (ci := 0) (v := .int ch) (C := "OutlookOdds") (T := TO) (N := 17) hx hb hts inO hown hK hP 0 rfl rfl 6 (by decide) (hts _ mq_1_62) (fun _ h9 => h9) rfl dO_limitChange_34 ?_
      refine lv_i2l hx hb dO_limitChange_37 rfl ?_
      refine lv_lmul hx hb dO_limitChange_38 ?_
      refine lv_ldc2 (v := 1000) hx hb hown (hts _ mq_2_84) dO_limitChange_39 ?_
      refine lv_ldiv hx hb dO_limitChange_42 (by decide) ?_
      refine lv_lstore (lv' := [(8, .long (((M 2 (pf_ix se (y - 1))) * ch.toInt64) / 1000)), (6, .long (M 2 (pf_ix se (y - 1)))), (0, .ref o0), (1, .ref q0), (2, .long wa), (4, .int (nI se)), (5, .int (nI y))]) hx hb dO_limitChange_43 hl (by decide) rfl (fun ls hl => ?_)
      refine lv_lload hx hb dO_limitChange_45 (lv_at hl 1 rfl) ?_
      refine lv_lload hx hb dO_limitChange_47 (lv_at hl 0 rfl) ?_
      refine lv_lsub hx hb dO_limitChange_49 ?_
      refine lv_lload hx hb dO_limitChange_50 (lv_at hl 1 rfl) ?_
      refine lv_lload hx hb dO_limitChange_52 (lv_at hl 0 rfl) ?_
      refine lv_ladd hx hb dO_limitChange_54 ?_
      refine lv_lload_n hx hb dO_limitChange_55 rfl (lv_at hl 4 rfl) ?_
      refine va_mmin_long hx hb (by rw [hml]; exact hl.1.symm) hown (hts _ mq_2_89) (hts _ mq_2_90) (hts _ mq_1_11) (hts _ mq_2_91) (Nat.le_of_ble_eq_true rfl) (by exact Nat.le_of_ble_eq_true rfl) (by exact Nat.le_of_ble_eq_true rfl) (by exact Nat.le_of_ble_eq_true rfl) dO_limitChange_56 ?_
      refine va_mmax_long hx hb (by rw [hml]; exact hl.1.symm) hown (hts _ mq_2_92) (hts _ mq_2_93) (hts _ mq_1_11) (hts _ mq_2_94) (Nat.le_of_ble_eq_true rfl) (by exact Nat.le_of_ble_eq_true rfl) (by exact Nat.le_of_ble_eq_true rfl) (by exact Nat.le_of_ble_eq_true rfl) dO_limitChange_59 ?_
      exact hret hP hD hS (Nat.le_of_ble_eq_true rfl) (Nat.le_of_ble_eq_true rfl) (by unfold pf_lim; rw [if_neg h3, if_pos h13]; rfl) dO_limitChange_62
    · refine lv_lload_n hx hb dO_limitChange_16 rfl (lv_at hl 2 rfl) ?_
      exact hret hP hD hS (Nat.le_of_ble_eq_true rfl) (Nat.le_of_ble_eq_true rfl) (by unfold pf_lim; first | rw [if_pos h3] | rw [if_neg h3, if_neg h13]) dO_limitChange_17

set_option maxHeartbeats 4000000 in
set_option maxRecDepth 100000 in
theorem c_youngBorn (o0 o1 o2 o3 o4 o5 o6 o7 ru sp dl rr yr sd rn : Nat) (yg ch mk : Int32) (se y : Nat) : qMl l yO_youngBorn (wO_youngBorn) ({ frames := 1, cells := 0, slots := 0, locals := 24 } : Room) (dC, dI) qCl [(cI, .int), (cJ, .long), (cG, .array .long)] [.ref o0, .int (nI se), .int (nI y)] [(o0, .inr (0, [.ref o1, .ref o2, .ref o3, .ref o4, .int (nI ru), .int yg, .int ch, .int (nI sp), .int (nI dl), .int mk, .ref o5, .ref o6, .ref o7, .int (nI rr), .int (nI yr), .int (nI sd), .int (nI rn)]))] [(o0, .inr (0, [.ref o1, .ref o2, .ref o3, .ref o4, .int (nI ru), .int yg, .int ch, .int (nI sp), .int (nI dl), .int mk, .ref o5, .ref o6, .ref o7, .int (nI rr), .int (nI yr), .int (nI sd), .int (nI rn)]))] (pf_born se y yg) 0 0 := by
  refine qm_l (cc := prog_1_method_24_code) (maxL := 3) (by decide) rfl (Nat.le_of_ble_eq_true rfl) ?_
  intro p e s m args below meth c Q A ls hx hb hml hown hnm hts hA hK hP hD hS hl hret
  have hl : lv_has ls 3 [(0, .ref o0), (1, .int (nI se)), (2, .int (nI y))] := hl
  refine lv_aload_n hx hb dO_youngBorn_0 rfl (lv_at hl 0 rfl) ?_
  refine va_get (D := (dC, dI)) (ci := 0) (v := .int yg) (C := "OutlookOdds") (T := TO) (N := 17) hx hb hts inO hown hK hP 0 rfl rfl 5 (by decide) (hts _ mq_1_61) (fun _ h9 => h9) rfl dO_youngBorn_1 ?_
  refine lv_i2l hx hb dO_youngBorn_4 rfl ?_
  refine lv_bipush (v := 50) hx hb dO_youngBorn_5 (by decide) ?_
  refine lv_aload_n hx hb dO_youngBorn_7 rfl (lv_at hl 0 rfl) ?_
  refine lv_iload_n hx hb dO_youngBorn_8 rfl (lv_at hl 1 rfl) ?_
  refine lv_iload_n hx hb dO_youngBorn_9 rfl (lv_at hl 2 rfl) ?_
  refine lv_iconst (v := 0) hx hb dO_youngBorn_10 (by decide) ?_
  refine qr_callVi (As := [.int (nI se), .int (nI y), .int 0]) (rest := [.int 50, .long yg.toInt64]) (wr := [(o0, .inr (0, [.ref o1, .ref o2, .ref o3, .ref o4, .int (nI ru), .int yg, .int ch, .int (nI sp), .int (nI dl), .int mk, .ref o5, .ref o6, .ref o7, .int (nI rr), .int (nI yr), .int (nI sd), .int (nI rn)]))]) (ws2 := [(o0, .inr (0, [.ref o1, .ref o2, .ref o3, .ref o4, .int (nI ru), .int yg, .int ch, .int (nI sp), .int (nI dl), .int mk, .ref o5, .ref o6, .ref o7, .int (nI rr), .int (nI yr), .int (nI sd), .int (nI rn)]))]) ⟨hx, hb, hml, hown, hts⟩ (c_draw l dC dI cI cJ cG o0 (nI se) (nI y) 0 ) (cwV 3 hts (qg_V mq_2_70 mq_1_109 mq_1_110 mq_1_1 mq_1_111) rfl rfl rfl (by decide +kernel) ⟨Nat.le_of_ble_eq_true rfl, Nat.le_of_ble_eq_true rfl⟩) hK hP hD hS hA (ci := 0) (q0 := 0) rfl rfl [] [0] [0] rfl rfl (by decide) (by decide) rfl (by decide) rfl hl.1 rfl (Nat.le_of_ble_eq_true rfl) dO_youngBorn_11 ⟨Nat.le_of_ble_eq_true rfl, Nat.le_of_ble_eq_true rfl⟩ (fun H locs hP hD hS => ?_)
  refine lv_bipush (v := 101) hx hb dO_youngBorn_14 (by decide) ?_
  refine lv_irem hx hb dO_youngBorn_16 (by decide) ?_
  refine lv_iadd hx hb dO_youngBorn_17 ?_
  refine lv_i2l hx hb dO_youngBorn_18 rfl ?_
  refine lv_lmul hx hb dO_youngBorn_19 ?_
  refine lv_ldc2 (v := 100) hx hb hown (hts _ mq_2_75) dO_youngBorn_20 ?_
  refine lv_ldiv hx hb dO_youngBorn_23 (by decide) ?_
  exact hret hP hD hS (Nat.le_of_ble_eq_true rfl) (Nat.le_of_ble_eq_true rfl) (rfl) dO_youngBorn_24

set_option maxHeartbeats 4000000 in
set_option maxRecDepth 100000 in
theorem c_isBelowMark (o0 o1 o2 o3 o4 o5 o6 o7 ru sp dl rr yr sd rn : Nat) (yg ch mk : Int32) (qg : Nat) (qr : Nat → Nat) (M : Nat → Nat → Int64) (se y : Nat) (hse : se < 16) (hy1 : 1 ≤ y) (hy2 : y ≤ 20) : qMi l yO_isBelowMark (wO_isBelowMark) ({ frames := 1, cells := 0, slots := 0, locals := 23 } : Room) (dC, dI) qCl [(cI, .int), (cJ, .long), (cG, .array .long)] [.ref o0, .int (nI se), .int (nI y)] [(o0, .inr (0, [.ref o1, .ref o2, .ref o3, .ref o4, .int (nI ru), .int yg, .int ch, .int (nI sp), .int (nI dl), .int mk, .ref o5, .ref o6, .ref o7, .int (nI rr), .int (nI yr), .int (nI sd), .int (nI rn)])), (o5, .inr (2, [.ref qg])), (qg, .inl (cG, 4, .inr (.inr (.inr (.inr (pf_gf qr)))))), (qr 0, .inl (cJ, 320, .inr (.inl (M 0)))), (qr 1, .inl (cJ, 320, .inr (.inl (M 1)))), (qr 2, .inl (cJ, 320, .inr (.inl (M 2)))), (qr 3, .inl (cJ, 320, .inr (.inl (M 3))))] [(o0, .inr (0, [.ref o1, .ref o2, .ref o3, .ref o4, .int (nI ru), .int yg, .int ch, .int (nI sp), .int (nI dl), .int mk, .ref o5, .ref o6, .ref o7, .int (nI rr), .int (nI yr), .int (nI sd), .int (nI rn)])), (o5, .inr (2, [.ref qg])), (qg, .inl (cG, 4, .inr (.inr (.inr (.inr (pf_gf qr)))))), (qr 0, .inl (cJ, 320, .inr (.inl (M 0)))), (qr 1, .inl (cJ, 320, .inr (.inl (M 1)))), (qr 2, .inl (cJ, 320, .inr (.inl (M 2)))), (qr 3, .inl (cJ, 320, .inr (.inl (M 3))))] (pf_bm (M 0) mk (pf_ix se y)) 0 0 := by
  refine qm_z (cc := prog_1_method_27_code) (maxL := 3) (by decide) rfl (Nat.le_of_ble_eq_true rfl) ?_
  intro p e s m args below meth c Q A ls hx hb hml hown hnm hts hA hK hP hD hS hl hret
  have hl : lv_has ls 3 [(0, .ref o0), (1, .int (nI se)), (2, .int (nI y))] := hl
  refine lv_aload_n hx hb dO_isBelowMark_0 rfl (lv_at hl 0 rfl) ?_
  refine va_get (D := (dC, dI)) (ci := 0) (v := .ref o5) (C := "OutlookOdds") (T := TO) (N := 17) hx hb hts inO hown hK hP 0 rfl rfl 10 (by decide) (hts _ mq_1_66) (fun _ h9 => h9) rfl dO_isBelowMark_1 ?_
  refine lv_iconst (v := 0) hx hb dO_isBelowMark_4 (by decide) ?_
  refine lv_iload_n hx hb dO_isBelowMark_5 rfl (lv_at hl 1 rfl) ?_
  refine lv_iload_n hx hb dO_isBelowMark_6 rfl (lv_at hl 2 rfl) ?_
  refine qr_callVl (As := [.int 0, .int (nI se), .int (nI y)]) (rest := []) (wr := [(o0, .inr (0, [.ref o1, .ref o2, .ref o3, .ref o4, .int (nI ru), .int yg, .int ch, .int (nI sp), .int (nI dl), .int mk, .ref o5, .ref o6, .ref o7, .int (nI rr), .int (nI yr), .int (nI sd), .int (nI rn)]))]) (ws2 := [(o0, .inr (0, [.ref o1, .ref o2, .ref o3, .ref o4, .int (nI ru), .int yg, .int ch, .int (nI sp), .int (nI dl), .int mk, .ref o5, .ref o6, .ref o7, .int (nI rr), .int (nI yr), .int (nI sd), .int (nI rn)])), (o5, .inr (2, [.ref qg])), (qg, .inl (cG, 4, .inr (.inr (.inr (.inr (pf_gf qr)))))), (qr 0, .inl (cJ, 320, .inr (.inl (M 0)))), (qr 1, .inl (cJ, 320, .inr (.inl (M 1)))), (qr 2, .inl (cJ, 320, .inr (.inl (M 2)))), (qr 3, .inl (cJ, 320, .inr (.inl (M 3))))]) ⟨hx, hb, hml, hown, hts⟩ (c_Story_get l dC dI cI cJ cG o5 qg qr M 0 se y (by omega) (by omega) (by omega) (by omega)) (cwV 3 hts (qg_V mq_2_71 mq_2_72 mq_2_73 mq_1_3 mq_2_74) rfl rfl rfl (by decide +kernel) ⟨Nat.le_of_ble_eq_true rfl, Nat.le_of_ble_eq_true rfl⟩) hK hP hD hS hA (ci := 2) (q0 := 1) rfl rfl [1, 2, 3, 4, 5, 6] [0] [0, 1, 2, 3, 4, 5, 6] rfl rfl (by decide) (by decide) rfl (by decide) rfl hl.1 rfl (Nat.le_of_ble_eq_true rfl) dO_isBelowMark_7 ⟨Nat.le_of_ble_eq_true rfl, Nat.le_of_ble_eq_true rfl⟩ (fun H locs hP hD hS => ?_)
  refine lv_aload_n hx hb dO_isBelowMark_10 rfl (lv_at hl 0 rfl) ?_
  refine va_get (D := (dC, dI)) (ci := 0) (v := .int mk) (C := "OutlookOdds") (T := TO) (N := 17) hx hb hts inO hown hK hP 0 rfl rfl 9 (by decide) (hts _ mq_1_65) (fun _ h9 => h9) rfl dO_isBelowMark_11 ?_
  refine lv_i2l hx hb dO_isBelowMark_14 rfl ?_
  refine W.lcmp hx hb dO_isBelowMark_15 ?_
  refine lv_if_ge (tgt := 23) hx hb dO_isBelowMark_16 (by decide) (fun h16 => ?_) (fun h16 => ?_)
  · have h16 := (lg_cmp_ge _ _).mp h16
    refine lv_iconst (v := 0) hx hb dO_isBelowMark_23 (by decide) ?_
    exact hret hP hD hS (Nat.le_of_ble_eq_true rfl) (Nat.le_of_ble_eq_true rfl) (by unfold pf_bm; first | rw [if_pos h16] | rw [if_neg h16]) (by decide) dO_isBelowMark_24
  · have h16 := mt (lg_cmp_ge _ _).mpr h16
    refine lv_iconst (v := 1) hx hb dO_isBelowMark_19 (by decide) ?_
    refine lv_goto (tgt := 24) hx hb dO_isBelowMark_20 (by decide) ?_
    exact hret hP hD hS (Nat.le_of_ble_eq_true rfl) (Nat.le_of_ble_eq_true rfl) (by unfold pf_bm; first | rw [if_pos h16] | rw [if_neg h16]) (by decide) dO_isBelowMark_24

set_option maxHeartbeats 4000000 in
set_option maxRecDepth 100000 in
theorem c_isEverBelowMark (o0 o1 o2 o3 o4 o5 o6 o7 ru sp dl rr yr sd rn : Nat) (yg ch mk : Int32) (qg : Nat) (qr : Nat → Nat) (M : Nat → Nat → Int64) (se : Nat) (hse : se < 16) (hyr : yr ≤ 20) : qMi l yO_isEverBelowMark (wO_isEverBelowMark) ({ frames := 2, cells := 0, slots := 0, locals := 45 } : Room) (dC, dI) qCl [(cI, .int), (cJ, .long), (cG, .array .long)] [.ref o0, .int (nI se)] [(o0, .inr (0, [.ref o1, .ref o2, .ref o3, .ref o4, .int (nI ru), .int yg, .int ch, .int (nI sp), .int (nI dl), .int mk, .ref o5, .ref o6, .ref o7, .int (nI rr), .int (nI yr), .int (nI sd), .int (nI rn)])), (o5, .inr (2, [.ref qg])), (qg, .inl (cG, 4, .inr (.inr (.inr (.inr (pf_gf qr)))))), (qr 0, .inl (cJ, 320, .inr (.inl (M 0)))), (qr 1, .inl (cJ, 320, .inr (.inl (M 1)))), (qr 2, .inl (cJ, 320, .inr (.inl (M 2)))), (qr 3, .inl (cJ, 320, .inr (.inl (M 3))))] [(o0, .inr (0, [.ref o1, .ref o2, .ref o3, .ref o4, .int (nI ru), .int yg, .int ch, .int (nI sp), .int (nI dl), .int mk, .ref o5, .ref o6, .ref o7, .int (nI rr), .int (nI yr), .int (nI sd), .int (nI rn)])), (o5, .inr (2, [.ref qg])), (qg, .inl (cG, 4, .inr (.inr (.inr (.inr (pf_gf qr)))))), (qr 0, .inl (cJ, 320, .inr (.inl (M 0)))), (qr 1, .inl (cJ, 320, .inr (.inl (M 1)))), (qr 2, .inl (cJ, 320, .inr (.inl (M 2)))), (qr 3, .inl (cJ, 320, .inr (.inl (M 3))))] (pf_ev (M 0) mk se yr) 0 0 := by
  refine qm_z (cc := prog_1_method_29_code) (maxL := 3) (by decide) rfl (Nat.le_of_ble_eq_true rfl) ?_
  intro p e s m args below meth c Q A ls hx hb hml hown hnm hts hA hK hP hD hS hl hret
  have hl : lv_has ls 3 [(0, .ref o0), (1, .int (nI se))] := hl
  refine lv_iconst (v := 1) hx hb dO_isEverBelowMark_0 (by decide) ?_
  refine lv_istore_n (lv' := [(2, .int 1), (0, .ref o0), (1, .int (nI se))]) hx hb dO_isEverBelowMark_1 rfl hl (by decide) rfl (fun ls hl => ?_)
  have lp_2 : ∀ (n : Nat) (k : Nat), yr - k < n → k ≤ yr → pf_ev (M 0) mk se k = 0 → ∀ (H : Heap) (locs : List Loc), va_P (dC, dI) qCl [(o0, .inr (0, [.ref o1, .ref o2, .ref o3, .ref o4, .int (nI ru), .int yg, .int ch, .int (nI sp), .int (nI dl), .int mk, .ref o5, .ref o6, .ref o7, .int (nI rr), .int (nI yr), .int (nI sd), .int (nI rn)])), (o5, .inr (2, [.ref qg])), (qg, .inl (cG, 4, .inr (.inr (.inr (.inr (pf_gf qr)))))), (qr 0, .inl (cJ, 320, .inr (.inl (M 0)))), (qr 1, .inl (cJ, 320, .inr (.inl (M 1)))), (qr 2, .inl (cJ, 320, .inr (.inl (M 2)))), (qr 3, .inl (cJ, 320, .inr (.inl (M 3))))] H → va_D A [(o0, .inr (0, [.ref o1, .ref o2, .ref o3, .ref o4, .int (nI ru), .int yg, .int ch, .int (nI sp), .int (nI dl), .int mk, .ref o5, .ref o6, .ref o7, .int (nI rr), .int (nI yr), .int (nI sd), .int (nI rn)])), (o5, .inr (2, [.ref qg])), (qg, .inl (cG, 4, .inr (.inr (.inr (.inr (pf_gf qr)))))), (qr 0, .inl (cJ, 320, .inr (.inl (M 0)))), (qr 1, .inl (cJ, 320, .inr (.inl (M 1)))), (qr 2, .inl (cJ, 320, .inr (.inl (M 2)))), (qr 3, .inl (cJ, 320, .inr (.inl (M 3))))] → va_S A s.heap H locs → ∀ (ls : Array Slot), lv_has ls 3 [(0, .ref o0), (1, .int (nI se)), (2, .int (nI (k + 1)))] → W p l e ({ frames := 2, cells := 0, slots := 0, locals := 45 } : Room) s m args below meth c H locs 0 0 Q (F0 m 2 ls []) := by
    intro n_2
    induction n_2 with
    | zero => intro k hm; exact absurd hm (Nat.not_lt_zero _)
    | succ n_2 ih_2 =>
      intro k hm_2 hk hv H locs hP hD hS ls hl
      refine lv_iload_n hx hb dO_isEverBelowMark_2 rfl (lv_at hl 2 rfl) ?_
      refine lv_aload_n hx hb dO_isEverBelowMark_3 rfl (lv_at hl 0 rfl) ?_
      refine va_get (D := (dC, dI)) (ci := 0) (v := .int (nI yr)) (C := "OutlookOdds") (T := TO) (N := 17) hx hb hts inO hown hK hP 0 rfl rfl 14 (by decide) (hts _ mq_1_70) (fun _ h9 => h9) rfl dO_isEverBelowMark_4 ?_
      refine lv_icmp_gt (tgt := 27) hx hb dO_isEverBelowMark_7 (by decide) (fun h7 => ?_) (fun h7 => ?_)
      · have e_k : k = yr := qn_gt h7 (by omega) hk
        have hP : va_P (dC, dI) qCl [(o0, .inr (0, [.ref o1, .ref o2, .ref o3, .ref o4, .int (nI ru), .int yg, .int ch, .int (nI sp), .int (nI dl), .int mk, .ref o5, .ref o6, .ref o7, .int (nI rr), .int (nI yr), .int (nI sd), .int (nI rn)])), (o5, .inr (2, [.ref qg])), (qg, .inl (cG, 4, .inr (.inr (.inr (.inr (pf_gf qr)))))), (qr 0, .inl (cJ, 320, .inr (.inl (M 0)))), (qr 1, .inl (cJ, 320, .inr (.inl (M 1)))), (qr 2, .inl (cJ, 320, .inr (.inl (M 2)))), (qr 3, .inl (cJ, 320, .inr (.inl (M 3))))] H := by first | exact hP | (rw [e_k] at hP; exact hP)
        have hD : va_D A [(o0, .inr (0, [.ref o1, .ref o2, .ref o3, .ref o4, .int (nI ru), .int yg, .int ch, .int (nI sp), .int (nI dl), .int mk, .ref o5, .ref o6, .ref o7, .int (nI rr), .int (nI yr), .int (nI sd), .int (nI rn)])), (o5, .inr (2, [.ref qg])), (qg, .inl (cG, 4, .inr (.inr (.inr (.inr (pf_gf qr)))))), (qr 0, .inl (cJ, 320, .inr (.inl (M 0)))), (qr 1, .inl (cJ, 320, .inr (.inl (M 1)))), (qr 2, .inl (cJ, 320, .inr (.inl (M 2)))), (qr 3, .inl (cJ, 320, .inr (.inl (M 3))))] := by first | exact hD | (rw [e_k] at hD; exact hD)
        have hl : lv_has ls 3 [(0, .ref o0), (1, .int (nI se)), (2, .int (nI (yr + 1)))] := by first | exact hl | (rw [e_k] at hl; exact hl)
        refine lv_iconst (v := 0) hx hb dO_isEverBelowMark_27 (by decide) ?_
        exact hret hP hD hS (Nat.le_of_ble_eq_true rfl) (Nat.le_of_ble_eq_true rfl) (by rw [← e_k]; exact hv.symm) (by decide) dO_isEverBelowMark_28
      · have hlk : k < yr := qn_ngt h7 (by omega)
        refine lv_aload_n hx hb dO_isEverBelowMark_10 rfl (lv_at hl 0 rfl) ?_
        refine lv_iload_n hx hb dO_isEverBelowMark_11 rfl (lv_at hl 1 rfl) ?_
        refine lv_iload_n hx hb dO_isEverBelowMark_12 rfl (lv_at hl 2 rfl) ?_
        refine qr_callVi (As := [.int (nI se), .int (nI (k + 1))]) (rest := []) (wr := []) (ws2 := [(o0, .inr (0, [.ref o1, .ref o2, .ref o3, .ref o4, .int (nI ru), .int yg, .int ch, .int (nI sp), .int (nI dl), .int mk, .ref o5, .ref o6, .ref o7, .int (nI rr), .int (nI yr), .int (nI sd), .int (nI rn)])), (o5, .inr (2, [.ref qg])), (qg, .inl (cG, 4, .inr (.inr (.inr (.inr (pf_gf qr)))))), (qr 0, .inl (cJ, 320, .inr (.inl (M 0)))), (qr 1, .inl (cJ, 320, .inr (.inl (M 1)))), (qr 2, .inl (cJ, 320, .inr (.inl (M 2)))), (qr 3, .inl (cJ, 320, .inr (.inl (M 3))))]) ⟨hx, hb, hml, hown, hts⟩ (c_isBelowMark l dC dI cI cJ cG o0 o1 o2 o3 o4 o5 o6 o7 ru sp dl rr yr sd rn yg ch mk qg qr M se (k + 1) (by omega) (by omega) (by omega)) (cwV 2 hts (qg_V mq_2_119 mq_2_121 mq_p_9 mq_1_1 mq_2_122) rfl rfl rfl (by decide +kernel) ⟨Nat.le_of_ble_eq_true rfl, Nat.le_of_ble_eq_true rfl⟩) hK hP hD hS hA (ci := 0) (q0 := 0) rfl rfl [0, 1, 2, 3, 4, 5, 6] [] [0, 1, 2, 3, 4, 5, 6] rfl rfl (by decide) (by decide) rfl (by decide) rfl hl.1 rfl (Nat.le_of_ble_eq_true rfl) dO_isEverBelowMark_13 ⟨Nat.le_of_ble_eq_true rfl, Nat.le_of_ble_eq_true rfl⟩ (fun H locs hP hD hS => ?_)
        refine lv_if_eq (tgt := 21) hx hb dO_isEverBelowMark_16 (by decide) (fun h16 => ?_) (fun h16 => ?_)
        · refine lv_iinc (v := nI ((k + 1) + 1)) (lv' := [(2, .int (nI ((k + 1) + 1))), (0, .ref o0), (1, .int (nI se))]) hx hb dO_isEverBelowMark_21 hl (k := 2) rfl (nI_1 _) (by decide) rfl (fun ls hl => ?_)
          refine lv_goto (tgt := 2) hx hb dO_isEverBelowMark_24 (by decide) ?_
          exact ih_2 (k + 1) (by omega) (by omega) (show (if pf_ev (M 0) mk se k = 0 then pf_bm (M 0) mk (pf_ix se (k + 1)) else 1) = 0 by rw [if_pos hv]; exact h16) _ _ hP hD hS ls (lv_sub hl [1, 2, 0] rfl)
        · refine lv_iconst (v := 1) hx hb dO_isEverBelowMark_19 (by decide) ?_
          exact hret hP hD hS (Nat.le_of_ble_eq_true rfl) (Nat.le_of_ble_eq_true rfl) ((pf_ev_up (k := k + 1) hlk (fun q => h16 (by have q : (if pf_ev (M 0) mk se k = 0 then pf_bm (M 0) mk (pf_ix se (k + 1)) else 1) = 0 := q; rw [if_pos hv] at q; exact q))).symm) (by decide) dO_isEverBelowMark_20
  exact lp_2 ((yr - 0) + 1) 0 (by omega) (by omega) rfl _ _ hP hD hS ls (lv_sub hl [1, 2, 0] rfl)

set_option maxHeartbeats 4000000 in
set_option maxRecDepth 100000 in
theorem c_seedsEverBelowMark (o0 o1 o2 o3 o4 o5 o6 o7 ru sp dl rr yr sd rn : Nat) (yg ch mk : Int32) (qg : Nat) (qr : Nat → Nat) (M : Nat → Nat → Int64) (hsd : sd ≤ 16) (hyr : yr ≤ 20) : qMi l yO_seedsEverBelowMark (wO_seedsEverBelowMark) ({ frames := 3, cells := 0, slots := 0, locals := 67 } : Room) (dC, dI) qCl [(cI, .int), (cJ, .long), (cG, .array .long)] [.ref o0] [(o0, .inr (0, [.ref o1, .ref o2, .ref o3, .ref o4, .int (nI ru), .int yg, .int ch, .int (nI sp), .int (nI dl), .int mk, .ref o5, .ref o6, .ref o7, .int (nI rr), .int (nI yr), .int (nI sd), .int (nI rn)])), (o5, .inr (2, [.ref qg])), (qg, .inl (cG, 4, .inr (.inr (.inr (.inr (pf_gf qr)))))), (qr 0, .inl (cJ, 320, .inr (.inl (M 0)))), (qr 1, .inl (cJ, 320, .inr (.inl (M 1)))), (qr 2, .inl (cJ, 320, .inr (.inl (M 2)))), (qr 3, .inl (cJ, 320, .inr (.inl (M 3))))] [(o0, .inr (0, [.ref o1, .ref o2, .ref o3, .ref o4, .int (nI ru), .int yg, .int ch, .int (nI sp), .int (nI dl), .int mk, .ref o5, .ref o6, .ref o7, .int (nI rr), .int (nI yr), .int (nI sd), .int (nI rn)])), (o5, .inr (2, [.ref qg])), (qg, .inl (cG, 4, .inr (.inr (.inr (.inr (pf_gf qr)))))), (qr 0, .inl (cJ, 320, .inr (.inl (M 0)))), (qr 1, .inl (cJ, 320, .inr (.inl (M 1)))), (qr 2, .inl (cJ, 320, .inr (.inl (M 2)))), (qr 3, .inl (cJ, 320, .inr (.inl (M 3))))] (pf_cnt (M 0) mk yr sd) 0 0 := by
  refine qm_i (cc := prog_1_method_28_code) (maxL := 3) (by decide) rfl (Nat.le_of_ble_eq_true rfl) ?_
  intro p e s m args below meth c Q A ls hx hb hml hown hnm hts hA hK hP hD hS hl hret
  have hl : lv_has ls 3 [(0, .ref o0)] := hl
  refine lv_iconst (v := 0) hx hb dO_seedsEverBelowMark_0 (by decide) ?_
  refine lv_istore_n (lv' := [(1, .int 0), (0, .ref o0)]) hx hb dO_seedsEverBelowMark_1 rfl hl (by decide) rfl (fun ls hl => ?_)
  refine lv_iconst (v := 0) hx hb dO_seedsEverBelowMark_2 (by decide) ?_
  refine lv_istore_n (lv' := [(2, .int 0), (1, .int 0), (0, .ref o0)]) hx hb dO_seedsEverBelowMark_3 rfl hl (by decide) rfl (fun ls hl => ?_)
  have lp_4 : ∀ (n : Nat) (j : Nat), sd - j < n → j ≤ sd → ∀ (H : Heap) (locs : List Loc), va_P (dC, dI) qCl [(o0, .inr (0, [.ref o1, .ref o2, .ref o3, .ref o4, .int (nI ru), .int yg, .int ch, .int (nI sp), .int (nI dl), .int mk, .ref o5, .ref o6, .ref o7, .int (nI rr), .int (nI yr), .int (nI sd), .int (nI rn)])), (o5, .inr (2, [.ref qg])), (qg, .inl (cG, 4, .inr (.inr (.inr (.inr (pf_gf qr)))))), (qr 0, .inl (cJ, 320, .inr (.inl (M 0)))), (qr 1, .inl (cJ, 320, .inr (.inl (M 1)))), (qr 2, .inl (cJ, 320, .inr (.inl (M 2)))), (qr 3, .inl (cJ, 320, .inr (.inl (M 3))))] H → va_D A [(o0, .inr (0, [.ref o1, .ref o2, .ref o3, .ref o4, .int (nI ru), .int yg, .int ch, .int (nI sp), .int (nI dl), .int mk, .ref o5, .ref o6, .ref o7, .int (nI rr), .int (nI yr), .int (nI sd), .int (nI rn)])), (o5, .inr (2, [.ref qg])), (qg, .inl (cG, 4, .inr (.inr (.inr (.inr (pf_gf qr)))))), (qr 0, .inl (cJ, 320, .inr (.inl (M 0)))), (qr 1, .inl (cJ, 320, .inr (.inl (M 1)))), (qr 2, .inl (cJ, 320, .inr (.inl (M 2)))), (qr 3, .inl (cJ, 320, .inr (.inl (M 3))))] → va_S A s.heap H locs → ∀ (ls : Array Slot), lv_has ls 3 [(0, .ref o0), (1, .int (pf_cnt (M 0) mk yr j)), (2, .int (nI j))] → W p l e ({ frames := 3, cells := 0, slots := 0, locals := 67 } : Room) s m args below meth c H locs 0 0 Q (F0 m 4 ls []) := by
    intro n_4
    induction n_4 with
    | zero => intro j hm; exact absurd hm (Nat.not_lt_zero _)
    | succ n_4 ih_4 =>
      intro j hm_4 hj H locs hP hD hS ls hl
      refine lv_iload_n hx hb dO_seedsEverBelowMark_4 rfl (lv_at hl 2 rfl) ?_
      refine lv_aload_n hx hb dO_seedsEverBelowMark_5 rfl (lv_at hl 0 rfl) ?_
      refine va_get (D := (dC, dI)) (ci := 0) (v := .int (nI sd)) (C := "OutlookOdds") (T := TO) (N := 17) hx hb hts inO hown hK hP 0 rfl rfl 15 (by decide) (hts _ mq_1_71) (fun _ h9 => h9) rfl dO_seedsEverBelowMark_6 ?_
      refine lv_icmp_ge (tgt := 29) hx hb dO_seedsEverBelowMark_9 (by decide) (fun h9 => ?_) (fun h9 => ?_)
      · have e_j : j = sd := qn_ge h9 hj (by omega)
        have hP : va_P (dC, dI) qCl [(o0, .inr (0, [.ref o1, .ref o2, .ref o3, .ref o4, .int (nI ru), .int yg, .int ch, .int (nI sp), .int (nI dl), .int mk, .ref o5, .ref o6, .ref o7, .int (nI rr), .int (nI yr), .int (nI sd), .int (nI rn)])), (o5, .inr (2, [.ref qg])), (qg, .inl (cG, 4, .inr (.inr (.inr (.inr (pf_gf qr)))))), (qr 0, .inl (cJ, 320, .inr (.inl (M 0)))), (qr 1, .inl (cJ, 320, .inr (.inl (M 1)))), (qr 2, .inl (cJ, 320, .inr (.inl (M 2)))), (qr 3, .inl (cJ, 320, .inr (.inl (M 3))))] H := by first | exact hP | (rw [e_j] at hP; exact hP)
        have hD : va_D A [(o0, .inr (0, [.ref o1, .ref o2, .ref o3, .ref o4, .int (nI ru), .int yg, .int ch, .int (nI sp), .int (nI dl), .int mk, .ref o5, .ref o6, .ref o7, .int (nI rr), .int (nI yr), .int (nI sd), .int (nI rn)])), (o5, .inr (2, [.ref qg])), (qg, .inl (cG, 4, .inr (.inr (.inr (.inr (pf_gf qr)))))), (qr 0, .inl (cJ, 320, .inr (.inl (M 0)))), (qr 1, .inl (cJ, 320, .inr (.inl (M 1)))), (qr 2, .inl (cJ, 320, .inr (.inl (M 2)))), (qr 3, .inl (cJ, 320, .inr (.inl (M 3))))] := by first | exact hD | (rw [e_j] at hD; exact hD)
        have hl : lv_has ls 3 [(0, .ref o0), (1, .int (pf_cnt (M 0) mk yr sd)), (2, .int (nI sd))] := by first | exact hl | (rw [e_j] at hl; exact hl)
        refine lv_iload_n hx hb dO_seedsEverBelowMark_29 rfl (lv_at hl 1 rfl) ?_
        exact hret hP hD hS (Nat.le_of_ble_eq_true rfl) (Nat.le_of_ble_eq_true rfl) (rfl) dO_seedsEverBelowMark_30
      · have hlt : j < sd := qn_nge h9 (by omega)
        refine lv_aload_n hx hb dO_seedsEverBelowMark_12 rfl (lv_at hl 0 rfl) ?_
        refine lv_iload_n hx hb dO_seedsEverBelowMark_13 rfl (lv_at hl 2 rfl) ?_
        refine qr_callVi (As := [.int (nI j)]) (rest := []) (wr := []) (ws2 := [(o0, .inr (0, [.ref o1, .ref o2, .ref o3, .ref o4, .int (nI ru), .int yg, .int ch, .int (nI sp), .int (nI dl), .int mk, .ref o5, .ref o6, .ref o7, .int (nI rr), .int (nI yr), .int (nI sd), .int (nI rn)])), (o5, .inr (2, [.ref qg])), (qg, .inl (cG, 4, .inr (.inr (.inr (.inr (pf_gf qr)))))), (qr 0, .inl (cJ, 320, .inr (.inl (M 0)))), (qr 1, .inl (cJ, 320, .inr (.inl (M 1)))), (qr 2, .inl (cJ, 320, .inr (.inl (M 2)))), (qr 3, .inl (cJ, 320, .inr (.inl (M 3))))]) ⟨hx, hb, hml, hown, hts⟩ (c_isEverBelowMark l dC dI cI cJ cG o0 o1 o2 o3 o4 o5 o6 o7 ru sp dl rr yr sd rn yg ch mk qg qr M j (by omega) (by omega)) (cwV 1 hts (qg_V mq_2_115 mq_2_117 mq_p_8 mq_1_1 mq_2_118) rfl rfl rfl (by decide +kernel) ⟨Nat.le_of_ble_eq_true rfl, Nat.le_of_ble_eq_true rfl⟩) hK hP hD hS hA (ci := 0) (q0 := 0) rfl rfl [0, 1, 2, 3, 4, 5, 6] [] [0, 1, 2, 3, 4, 5, 6] rfl rfl (by decide) (by decide) rfl (by decide) rfl hl.1 rfl (Nat.le_of_ble_eq_true rfl) dO_seedsEverBelowMark_14 ⟨Nat.le_of_ble_eq_true rfl, Nat.le_of_ble_eq_true rfl⟩ (fun H locs hP hD hS => ?_)
        refine lv_if_eq (tgt := 23) hx hb dO_seedsEverBelowMark_17 (by decide) (fun h17 => ?_) (fun h17 => ?_)
        · have hl : lv_has ls 3 [(0, .ref o0), (1, .int (pf_cnt (M 0) mk yr (j + 1))), (2, .int (nI j))] := by have e9 : pf_cnt (M 0) mk yr j = pf_cnt (M 0) mk yr (j + 1) := ((show pf_cnt (M 0) mk yr j = pf_cnt (M 0) mk yr (j + 1) from (if_pos h17).symm)); first | (rw [← e9]; exact hl) | (rw [e9] at hl; exact hl)
          refine lv_iinc (v := nI (j + 1)) (lv' := [(2, .int (nI (j + 1))), (0, .ref o0), (1, .int (pf_cnt (M 0) mk yr (j + 1)))]) hx hb dO_seedsEverBelowMark_23 hl (k := 2) rfl (nI_1 _) (by decide) rfl (fun ls hl => ?_)
          refine lv_goto (tgt := 4) hx hb dO_seedsEverBelowMark_26 (by decide) ?_
          exact ih_4 (j + 1) (by omega) (by omega) _ _ hP hD hS ls (lv_sub hl [1, 2, 0] rfl)
        · refine lv_iinc (v := pf_cnt (M 0) mk yr (j + 1)) (lv' := [(1, .int (pf_cnt (M 0) mk yr (j + 1))), (0, .ref o0), (2, .int (nI j))]) hx hb dO_seedsEverBelowMark_20 hl (k := 1) rfl ((if_neg h17).symm) (by decide) rfl (fun ls hl => ?_)
          refine lv_iinc (v := nI (j + 1)) (lv' := [(2, .int (nI (j + 1))), (1, .int (pf_cnt (M 0) mk yr (j + 1))), (0, .ref o0)]) hx hb dO_seedsEverBelowMark_23 hl (k := 2) rfl (nI_1 _) (by decide) rfl (fun ls hl => ?_)
          refine lv_goto (tgt := 4) hx hb dO_seedsEverBelowMark_26 (by decide) ?_
          exact ih_4 (j + 1) (by omega) (by omega) _ _ hP hD hS ls (lv_sub hl [2, 1, 0] rfl)
  exact lp_4 ((sd - 0) + 1) 0 (by omega) (by omega) _ _ hP hD hS ls (lv_sub hl [2, 1, 0] rfl)

set_option maxHeartbeats 4000000 in
set_option maxRecDepth 100000 in
theorem c_sumOf (o0 o1 o2 o3 o4 o5 o6 o7 ru sp dl rr yr sd rn : Nat) (yg ch mk : Int32) (q0 qg : Nat) (qr : Nat → Nat) (M : Nat → Nat → Int64) (w f : Nat) (hsd : sd ≤ 16) (hyr : yr ≤ 20) (hw : w < 4) (hf1 : 1 ≤ f) (hf2 : f ≤ yr) : qMl l yO_sumOf (wO_sumOf) ({ frames := 1, cells := 0, slots := 0, locals := 23 } : Room) (dC, dI) qCl [(cI, .int), (cJ, .long), (cG, .array .long)] [.ref o0, .ref q0, .int (nI w), .int (nI f)] [(o0, .inr (0, [.ref o1, .ref o2, .ref o3, .ref o4, .int (nI ru), .int yg, .int ch, .int (nI sp), .int (nI dl), .int mk, .ref o5, .ref o6, .ref o7, .int (nI rr), .int (nI yr), .int (nI sd), .int (nI rn)])), (q0, .inr (2, [.ref qg])), (qg, .inl (cG, 4, .inr (.inr (.inr (.inr (pf_gf qr)))))), (qr 0, .inl (cJ, 320, .inr (.inl (M 0)))), (qr 1, .inl (cJ, 320, .inr (.inl (M 1)))), (qr 2, .inl (cJ, 320, .inr (.inl (M 2)))), (qr 3, .inl (cJ, 320, .inr (.inl (M 3))))] [(o0, .inr (0, [.ref o1, .ref o2, .ref o3, .ref o4, .int (nI ru), .int yg, .int ch, .int (nI sp), .int (nI dl), .int mk, .ref o5, .ref o6, .ref o7, .int (nI rr), .int (nI yr), .int (nI sd), .int (nI rn)])), (q0, .inr (2, [.ref qg])), (qg, .inl (cG, 4, .inr (.inr (.inr (.inr (pf_gf qr)))))), (qr 0, .inl (cJ, 320, .inr (.inl (M 0)))), (qr 1, .inl (cJ, 320, .inr (.inl (M 1)))), (qr 2, .inl (cJ, 320, .inr (.inl (M 2)))), (qr 3, .inl (cJ, 320, .inr (.inl (M 3))))] (pf_sumA (M w) f yr sd) 0 0 := by
  refine qm_l (cc := prog_1_method_26_code) (maxL := 8) (by decide) rfl (Nat.le_of_ble_eq_true rfl) ?_
  intro p e s m args below meth c Q A ls hx hb hml hown hnm hts hA hK hP hD hS hl hret
  have hl : lv_has ls 8 [(0, .ref o0), (1, .ref q0), (2, .int (nI w)), (3, .int (nI f))] := hl
  refine lv_lconst (v := 0) hx hb dO_sumOf_0 (by decide) ?_
  refine lv_lstore (lv' := [(4, .long 0), (0, .ref o0), (1, .ref q0), (2, .int (nI w)), (3, .int (nI f))]) hx hb dO_sumOf_1 hl (by decide) rfl (fun ls hl => ?_)
  refine lv_iconst (v := 0) hx hb dO_sumOf_3 (by decide) ?_
  refine lv_istore (lv' := [(6, .int 0), (4, .long 0), (0, .ref o0), (1, .ref q0), (2, .int (nI w)), (3, .int (nI f))]) hx hb dO_sumOf_4 hl (by decide) rfl (fun ls hl => ?_)
  have lp_6 : ∀ (n : Nat) (j : Nat), sd - j < n → j ≤ sd → ∀ (H : Heap) (locs : List Loc), va_P (dC, dI) qCl [(o0, .inr (0, [.ref o1, .ref o2, .ref o3, .ref o4, .int (nI ru), .int yg, .int ch, .int (nI sp), .int (nI dl), .int mk, .ref o5, .ref o6, .ref o7, .int (nI rr), .int (nI yr), .int (nI sd), .int (nI rn)])), (q0, .inr (2, [.ref qg])), (qg, .inl (cG, 4, .inr (.inr (.inr (.inr (pf_gf qr)))))), (qr 0, .inl (cJ, 320, .inr (.inl (M 0)))), (qr 1, .inl (cJ, 320, .inr (.inl (M 1)))), (qr 2, .inl (cJ, 320, .inr (.inl (M 2)))), (qr 3, .inl (cJ, 320, .inr (.inl (M 3))))] H → va_D A [(o0, .inr (0, [.ref o1, .ref o2, .ref o3, .ref o4, .int (nI ru), .int yg, .int ch, .int (nI sp), .int (nI dl), .int mk, .ref o5, .ref o6, .ref o7, .int (nI rr), .int (nI yr), .int (nI sd), .int (nI rn)])), (q0, .inr (2, [.ref qg])), (qg, .inl (cG, 4, .inr (.inr (.inr (.inr (pf_gf qr)))))), (qr 0, .inl (cJ, 320, .inr (.inl (M 0)))), (qr 1, .inl (cJ, 320, .inr (.inl (M 1)))), (qr 2, .inl (cJ, 320, .inr (.inl (M 2)))), (qr 3, .inl (cJ, 320, .inr (.inl (M 3))))] → va_S A s.heap H locs → ∀ (ls : Array Slot), lv_has ls 8 [(0, .ref o0), (1, .ref q0), (2, .int (nI w)), (3, .int (nI f)), (4, .long (pf_sumA (M w) f yr j)), (6, .int (nI j))] → W p l e ({ frames := 1, cells := 0, slots := 0, locals := 23 } : Room) s m args below meth c H locs 0 0 Q (F0 m 6 ls []) := by
    intro n_6
    induction n_6 with
    | zero => intro j hm; exact absurd hm (Nat.not_lt_zero _)
    | succ n_6 ih_6 =>
      intro j hm_6 hj H locs hP hD hS ls hl
      refine lv_iload hx hb dO_sumOf_6 (lv_at hl 5 rfl) ?_
      refine lv_aload_n hx hb dO_sumOf_8 rfl (lv_at hl 0 rfl) ?_
      refine va_get (D := (dC, dI)) (ci := 0) (v := .int (nI sd)) (C := "OutlookOdds") (T := TO) (N := 17) hx hb hts inO hown hK hP 0 rfl rfl 15 (by decide) (hts _ mq_1_71) (fun _ h9 => h9) rfl dO_sumOf_9 ?_
      refine lv_icmp_ge (tgt := 53) hx hb dO_sumOf_12 (by decide) (fun h12 => ?_) (fun h12 => ?_)
      · have e_j : j = sd := qn_ge h12 hj (by omega)
        have hP : va_P (dC, dI) qCl [(o0, .inr (0, [.ref o1, .ref o2, .ref o3, .ref o4, .int (nI ru), .int yg, .int ch, .int (nI sp), .int (nI dl), .int mk, .ref o5, .ref o6, .ref o7, .int (nI rr), .int (nI yr), .int (nI sd), .int (nI rn)])), (q0, .inr (2, [.ref qg])), (qg, .inl (cG, 4, .inr (.inr (.inr (.inr (pf_gf qr)))))), (qr 0, .inl (cJ, 320, .inr (.inl (M 0)))), (qr 1, .inl (cJ, 320, .inr (.inl (M 1)))), (qr 2, .inl (cJ, 320, .inr (.inl (M 2)))), (qr 3, .inl (cJ, 320, .inr (.inl (M 3))))] H := by first | exact hP | (rw [e_j] at hP; exact hP)
        have hD : va_D A [(o0, .inr (0, [.ref o1, .ref o2, .ref o3, .ref o4, .int (nI ru), .int yg, .int ch, .int (nI sp), .int (nI dl), .int mk, .ref o5, .ref o6, .ref o7, .int (nI rr), .int (nI yr), .int (nI sd), .int (nI rn)])), (q0, .inr (2, [.ref qg])), (qg, .inl (cG, 4, .inr (.inr (.inr (.inr (pf_gf qr)))))), (qr 0, .inl (cJ, 320, .inr (.inl (M 0)))), (qr 1, .inl (cJ, 320, .inr (.inl (M 1)))), (qr 2, .inl (cJ, 320, .inr (.inl (M 2)))), (qr 3, .inl (cJ, 320, .inr (.inl (M 3))))] := by first | exact hD | (rw [e_j] at hD; exact hD)
        have hl : lv_has ls 8 [(0, .ref o0), (1, .ref q0), (2, .int (nI w)), (3, .int (nI f)), (4, .long (pf_sumA (M w) f yr sd)), (6, .int (nI sd))] := by first | exact hl | (rw [e_j] at hl; exact hl)
        refine lv_lload hx hb dO_sumOf_53 (lv_at hl 4 rfl) ?_
        exact hret hP hD hS (Nat.le_of_ble_eq_true rfl) (Nat.le_of_ble_eq_true rfl) (rfl) dO_sumOf_55
      · have hlt : j < sd := qn_nge h12 (by omega)
        refine lv_iload_n hx hb dO_sumOf_15 rfl (lv_at hl 3 rfl) ?_
        refine lv_istore (lv' := [(7, .int (nI f)), (0, .ref o0), (1, .ref q0), (2, .int (nI w)), (3, .int (nI f)), (4, .long (pf_sumA (M w) f yr j)), (6, .int (nI j))]) hx hb dO_sumOf_16 hl (by decide) rfl (fun ls hl => ?_)
        have lp_18 : ∀ (n : Nat) (k : Nat), yr + 1 - f - k < n → k ≤ yr + 1 - f → ∀ (H : Heap) (locs : List Loc), va_P (dC, dI) qCl [(o0, .inr (0, [.ref o1, .ref o2, .ref o3, .ref o4, .int (nI ru), .int yg, .int ch, .int (nI sp), .int (nI dl), .int mk, .ref o5, .ref o6, .ref o7, .int (nI rr), .int (nI yr), .int (nI sd), .int (nI rn)])), (q0, .inr (2, [.ref qg])), (qg, .inl (cG, 4, .inr (.inr (.inr (.inr (pf_gf qr)))))), (qr 0, .inl (cJ, 320, .inr (.inl (M 0)))), (qr 1, .inl (cJ, 320, .inr (.inl (M 1)))), (qr 2, .inl (cJ, 320, .inr (.inl (M 2)))), (qr 3, .inl (cJ, 320, .inr (.inl (M 3))))] H → va_D A [(o0, .inr (0, [.ref o1, .ref o2, .ref o3, .ref o4, .int (nI ru), .int yg, .int ch, .int (nI sp), .int (nI dl), .int mk, .ref o5, .ref o6, .ref o7, .int (nI rr), .int (nI yr), .int (nI sd), .int (nI rn)])), (q0, .inr (2, [.ref qg])), (qg, .inl (cG, 4, .inr (.inr (.inr (.inr (pf_gf qr)))))), (qr 0, .inl (cJ, 320, .inr (.inl (M 0)))), (qr 1, .inl (cJ, 320, .inr (.inl (M 1)))), (qr 2, .inl (cJ, 320, .inr (.inl (M 2)))), (qr 3, .inl (cJ, 320, .inr (.inl (M 3))))] → va_S A s.heap H locs → ∀ (ls : Array Slot), lv_has ls 8 [(0, .ref o0), (1, .ref q0), (2, .int (nI w)), (3, .int (nI f)), (4, .long (pf_sumY (M w) j f (pf_sumA (M w) f yr j) k)), (6, .int (nI j)), (7, .int (nI (f + k)))] → W p l e ({ frames := 1, cells := 0, slots := 0, locals := 23 } : Room) s m args below meth c H locs 0 0 Q (F0 m 18 ls []) := by
          intro n_18
          induction n_18 with
          | zero => intro k hm; exact absurd hm (Nat.not_lt_zero _)
          | succ n_18 ih_18 =>
            intro k hm_18 hk H locs hP hD hS ls hl
            refine lv_iload hx hb dO_sumOf_18 (lv_at hl 6 rfl) ?_
            refine lv_aload_n hx hb dO_sumOf_20 rfl (lv_at hl 0 rfl) ?_
            refine va_get (D := (dC, dI)) (ci := 0) (v := .int (nI yr)) (C := "OutlookOdds") (T := TO) (N := 17) hx hb hts inO hown hK hP 0 rfl rfl 14 (by decide) (hts _ mq_1_70) (fun _ h9 => h9) rfl dO_sumOf_21 ?_
            refine lv_icmp_gt (tgt := 47) hx hb dO_sumOf_24 (by decide) (fun h24 => ?_) (fun h24 => ?_)
            · have e_k : k = yr + 1 - f := by have := qn_gtN h24 (by omega); omega
              have hP : va_P (dC, dI) qCl [(o0, .inr (0, [.ref o1, .ref o2, .ref o3, .ref o4, .int (nI ru), .int yg, .int ch, .int (nI sp), .int (nI dl), .int mk, .ref o5, .ref o6, .ref o7, .int (nI rr), .int (nI yr), .int (nI sd), .int (nI rn)])), (q0, .inr (2, [.ref qg])), (qg, .inl (cG, 4, .inr (.inr (.inr (.inr (pf_gf qr)))))), (qr 0, .inl (cJ, 320, .inr (.inl (M 0)))), (qr 1, .inl (cJ, 320, .inr (.inl (M 1)))), (qr 2, .inl (cJ, 320, .inr (.inl (M 2)))), (qr 3, .inl (cJ, 320, .inr (.inl (M 3))))] H := by first | exact hP | (rw [e_k] at hP; exact hP)
              have hD : va_D A [(o0, .inr (0, [.ref o1, .ref o2, .ref o3, .ref o4, .int (nI ru), .int yg, .int ch, .int (nI sp), .int (nI dl), .int mk, .ref o5, .ref o6, .ref o7, .int (nI rr), .int (nI yr), .int (nI sd), .int (nI rn)])), (q0, .inr (2, [.ref qg])), (qg, .inl (cG, 4, .inr (.inr (.inr (.inr (pf_gf qr)))))), (qr 0, .inl (cJ, 320, .inr (.inl (M 0)))), (qr 1, .inl (cJ, 320, .inr (.inl (M 1)))), (qr 2, .inl (cJ, 320, .inr (.inl (M 2)))), (qr 3, .inl (cJ, 320, .inr (.inl (M 3))))] := by first | exact hD | (rw [e_k] at hD; exact hD)
              have hl : lv_has ls 8 [(0, .ref o0), (1, .ref q0), (2, .int (nI w)), (3, .int (nI f)), (4, .long (pf_sumY (M w) j f (pf_sumA (M w) f yr j) (yr + 1 - f))), (6, .int (nI j)), (7, .int (nI (f + (yr + 1 - f))))] := by first | exact hl | (rw [e_k] at hl; exact hl)
              refine lv_iinc (v := nI (j + 1)) (lv' := [(6, .int (nI (j + 1))), (0, .ref o0), (1, .ref q0), (2, .int (nI w)), (3, .int (nI f)), (4, .long (pf_sumY (M w) j f (pf_sumA (M w) f yr j) (yr + 1 - f))), (7, .int (nI (f + (yr + 1 - f))))]) hx hb dO_sumOf_47 hl (k := 5) rfl (nI_1 _) (by decide) rfl (fun ls hl => ?_)
              refine lv_goto (tgt := 6) hx hb dO_sumOf_50 (by decide) ?_
              exact ih_6 (j + 1) (by omega) (by omega) _ _ hP hD hS ls (lv_sub hl [1, 2, 3, 4, 5, 0] rfl)
            · have hlk : f + k ≤ yr := qn_ngtN h24 (by omega)
              refine lv_lload hx hb dO_sumOf_27 (lv_at hl 4 rfl) ?_
              refine lv_aload_n hx hb dO_sumOf_29 rfl (lv_at hl 1 rfl) ?_
              refine lv_iload_n hx hb dO_sumOf_30 rfl (lv_at hl 2 rfl) ?_
              refine lv_iload hx hb dO_sumOf_31 (lv_at hl 5 rfl) ?_
              refine lv_iload hx hb dO_sumOf_33 (lv_at hl 6 rfl) ?_
              refine qr_callVl (As := [.int (nI w), .int (nI j), .int (nI (f + k))]) (rest := [.long (pf_sumY (M w) j f (pf_sumA (M w) f yr j) k)]) (wr := [(o0, .inr (0, [.ref o1, .ref o2, .ref o3, .ref o4, .int (nI ru), .int yg, .int ch, .int (nI sp), .int (nI dl), .int mk, .ref o5, .ref o6, .ref o7, .int (nI rr), .int (nI yr), .int (nI sd), .int (nI rn)]))]) (ws2 := [(o0, .inr (0, [.ref o1, .ref o2, .ref o3, .ref o4, .int (nI ru), .int yg, .int ch, .int (nI sp), .int (nI dl), .int mk, .ref o5, .ref o6, .ref o7, .int (nI rr), .int (nI yr), .int (nI sd), .int (nI rn)])), (q0, .inr (2, [.ref qg])), (qg, .inl (cG, 4, .inr (.inr (.inr (.inr (pf_gf qr)))))), (qr 0, .inl (cJ, 320, .inr (.inl (M 0)))), (qr 1, .inl (cJ, 320, .inr (.inl (M 1)))), (qr 2, .inl (cJ, 320, .inr (.inl (M 2)))), (qr 3, .inl (cJ, 320, .inr (.inl (M 3))))]) ⟨hx, hb, hml, hown, hts⟩ (c_Story_get l dC dI cI cJ cG q0 qg qr M w j (f + k) (by omega) (by omega) (by omega) (by omega)) (cwV 3 hts (qg_V mq_2_71 mq_2_72 mq_2_73 mq_1_3 mq_2_74) rfl rfl rfl (by decide +kernel) ⟨Nat.le_of_ble_eq_true rfl, Nat.le_of_ble_eq_true rfl⟩) hK hP hD hS hA (ci := 2) (q0 := 1) rfl rfl [1, 2, 3, 4, 5, 6] [0] [0, 1, 2, 3, 4, 5, 6] rfl rfl (by decide) (by decide) rfl (by decide) rfl hl.1 rfl (Nat.le_of_ble_eq_true rfl) dO_sumOf_35 ⟨Nat.le_of_ble_eq_true rfl, Nat.le_of_ble_eq_true rfl⟩ (fun H locs hP hD hS => ?_)
              refine lv_ladd hx hb dO_sumOf_38 ?_
              refine lv_lstore (lv' := [(4, .long ((pf_sumY (M w) j f (pf_sumA (M w) f yr j) k) + (M w (pf_ix j (f + k))))), (0, .ref o0), (1, .ref q0), (2, .int (nI w)), (3, .int (nI f)), (6, .int (nI j)), (7, .int (nI (f + k)))]) hx hb dO_sumOf_39 hl (by decide) rfl (fun ls hl => ?_)
              refine lv_iinc (v := nI (f + (k + 1))) (lv' := [(7, .int (nI (f + (k + 1)))), (4, .long ((pf_sumY (M w) j f (pf_sumA (M w) f yr j) k) + (M w (pf_ix j (f + k))))), (0, .ref o0), (1, .ref q0), (2, .int (nI w)), (3, .int (nI f)), (6, .int (nI j))]) hx hb dO_sumOf_41 hl (k := 6) rfl ((nI_1 _).trans (by rw [Nat.add_assoc])) (by decide) rfl (fun ls hl => ?_)
              refine lv_goto (tgt := 18) hx hb dO_sumOf_44 (by decide) ?_
              exact ih_18 (k + 1) (by omega) (by omega) _ _ hP hD hS ls (lv_sub hl [2, 3, 4, 5, 1, 6, 0] rfl)
        exact lp_18 ((yr + 1 - f - 0) + 1) 0 (by omega) (by omega) _ _ hP hD hS ls (lv_sub hl [1, 2, 3, 4, 5, 6, 0] rfl)
  exact lp_6 ((sd - 0) + 1) 0 (by omega) (by omega) _ _ hP hD hS ls (lv_sub hl [2, 3, 4, 5, 1, 0] rfl)

set_option maxHeartbeats 4000000 in
set_option maxRecDepth 100000 in
theorem c_putInOrder (o0 o1 o2 o3 o4 o5 o6 o7 ru sp dl rr yr sd rn : Nat) (yg ch mk : Int32) (od : Nat → Int64) (b : Nat) (x : Int64) (hb16 : b < 16) : qMv l yO_putInOrder (wO_putInOrder) ({ frames := 0, cells := 0, slots := 0, locals := 0 } : Room) (dC, dI) qCl [(cI, .int), (cJ, .long), (cG, .array .long)] [.ref o0, .int (nI b), .long x] [(o0, .inr (0, [.ref o1, .ref o2, .ref o3, .ref o4, .int (nI ru), .int yg, .int ch, .int (nI sp), .int (nI dl), .int mk, .ref o5, .ref o6, .ref o7, .int (nI rr), .int (nI yr), .int (nI sd), .int (nI rn)])), (o7, .inl (cJ, 16, .inr (.inl od)))] [(o0, .inr (0, [.ref o1, .ref o2, .ref o3, .ref o4, .int (nI ru), .int yg, .int ch, .int (nI sp), .int (nI dl), .int mk, .ref o5, .ref o6, .ref o7, .int (nI rr), .int (nI yr), .int (nI sd), .int (nI rn)])), (o7, .inl (cJ, 16, .inr (.inl (pf_ins x b od))))] 0 0 := by
  refine qm_v (cc := prog_1_method_30_code) (maxL := 5) (by decide) rfl (Nat.le_of_ble_eq_true rfl) ?_
  intro p e s m args below meth c Q A ls hx hb hml hown hnm hts hA hK hP hD hS hl hret
  have hl : lv_has ls 5 [(0, .ref o0), (1, .int (nI b)), (2, .long x)] := hl
  refine lv_iload_n hx hb dO_putInOrder_0 rfl (lv_at hl 1 rfl) ?_
  refine lv_istore (lv' := [(4, .int (nI b)), (0, .ref o0), (1, .int (nI b)), (2, .long x)]) hx hb dO_putInOrder_1 hl (by decide) rfl (fun ls hl => ?_)
  have lp_3 : ∀ (n : Nat) (f : Nat → Int64) (i : Nat), i < n → i ≤ b → pf_ins x i f = pf_ins x b od → ∀ (H : Heap) (locs : List Loc), va_P (dC, dI) qCl [(o0, .inr (0, [.ref o1, .ref o2, .ref o3, .ref o4, .int (nI ru), .int yg, .int ch, .int (nI sp), .int (nI dl), .int mk, .ref o5, .ref o6, .ref o7, .int (nI rr), .int (nI yr), .int (nI sd), .int (nI rn)])), (o7, .inl (cJ, 16, .inr (.inl f)))] H → va_D A [(o0, .inr (0, [.ref o1, .ref o2, .ref o3, .ref o4, .int (nI ru), .int yg, .int ch, .int (nI sp), .int (nI dl), .int mk, .ref o5, .ref o6, .ref o7, .int (nI rr), .int (nI yr), .int (nI sd), .int (nI rn)])), (o7, .inl (cJ, 16, .inr (.inl f)))] → va_S A s.heap H locs → ∀ (ls : Array Slot), lv_has ls 5 [(0, .ref o0), (1, .int (nI b)), (2, .long x), (4, .int (nI i))] → W p l e ({ frames := 0, cells := 0, slots := 0, locals := 0 } : Room) s m args below meth c H locs 0 0 Q (F0 m 3 ls []) := by
    intro n_3
    induction n_3 with
    | zero => intro f i hm; exact absurd hm (Nat.not_lt_zero _)
    | succ n_3 ih_3 =>
      intro f i hm_3 hi hf H locs hP hD hS ls hl
      refine lv_iload hx hb dO_putInOrder_3 (lv_at hl 3 rfl) ?_
      refine lv_if_le (tgt := 44) hx hb dO_putInOrder_5 (by decide) (fun h5 => ?_) (fun h5 => ?_)
      · have e_i : i = 0 := qn_le0 h5 (by omega)
        have hP : va_P (dC, dI) qCl [(o0, .inr (0, [.ref o1, .ref o2, .ref o3, .ref o4, .int (nI ru), .int yg, .int ch, .int (nI sp), .int (nI dl), .int mk, .ref o5, .ref o6, .ref o7, .int (nI rr), .int (nI yr), .int (nI sd), .int (nI rn)])), (o7, .inl (cJ, 16, .inr (.inl f)))] H := by first | exact hP | (rw [e_i] at hP; exact hP)
        have hD : va_D A [(o0, .inr (0, [.ref o1, .ref o2, .ref o3, .ref o4, .int (nI ru), .int yg, .int ch, .int (nI sp), .int (nI dl), .int mk, .ref o5, .ref o6, .ref o7, .int (nI rr), .int (nI yr), .int (nI sd), .int (nI rn)])), (o7, .inl (cJ, 16, .inr (.inl f)))] := by first | exact hD | (rw [e_i] at hD; exact hD)
        have hl : lv_has ls 5 [(0, .ref o0), (1, .int (nI b)), (2, .long x), (4, .int (nI 0))] := by first | exact hl | (rw [e_i] at hl; exact hl)
        refine lv_aload_n hx hb dO_putInOrder_44 rfl (lv_at hl 0 rfl) ?_
        refine va_get (D := (dC, dI)) (ci := 0) (v := .ref o7) (C := "OutlookOdds") (T := TO) (N := 17) hx hb hts inO hown hK hP 0 rfl rfl 12 (by decide) (hts _ mq_1_68) (fun _ h9 => h9) rfl dO_putInOrder_45 ?_
        refine lv_iload hx hb dO_putInOrder_48 (lv_at hl 3 rfl) ?_
        refine lv_lload_n hx hb dO_putInOrder_50 rfl (lv_at hl 2 rfl) ?_
        refine qr_last (k := 0) (ws2 := [(o0, .inr (0, [.ref o1, .ref o2, .ref o3, .ref o4, .int (nI ru), .int yg, .int ch, .int (nI sp), .int (nI dl), .int mk, .ref o5, .ref o6, .ref o7, .int (nI rr), .int (nI yr), .int (nI sd), .int (nI rn)])), (o7, .inl (cJ, 16, .inr (.inl (vp_updL f 0 x))))]) hx hb hK hP hD hS 1 1 rfl rfl (rfl) (by omega) (by decide) rfl dO_putInOrder_51 (fun H locs hP hD hS => ?_)
        have e9 : vp_updL f 0 x = pf_ins x b od := by first | (rw [← hf, e_i]; rfl) | (rw [← hf]; exact (qn_ins1 hi0 h19).symm)
        have hP : va_P (dC, dI) qCl [(o0, .inr (0, [.ref o1, .ref o2, .ref o3, .ref o4, .int (nI ru), .int yg, .int ch, .int (nI sp), .int (nI dl), .int mk, .ref o5, .ref o6, .ref o7, .int (nI rr), .int (nI yr), .int (nI sd), .int (nI rn)])), (o7, .inl (cJ, 16, .inr (.inl (pf_ins x b od))))] H := by first | (rw [← e9]; exact hP) | (rw [e9] at hP; exact hP)
        have hD : va_D A [(o0, .inr (0, [.ref o1, .ref o2, .ref o3, .ref o4, .int (nI ru), .int yg, .int ch, .int (nI sp), .int (nI dl), .int mk, .ref o5, .ref o6, .ref o7, .int (nI rr), .int (nI yr), .int (nI sd), .int (nI rn)])), (o7, .inl (cJ, 16, .inr (.inl (pf_ins x b od))))] := by first | (rw [← e9]; exact hD) | (rw [e9] at hD; exact hD)
        exact hret hP hD hS (Nat.le_of_ble_eq_true rfl) (Nat.le_of_ble_eq_true rfl) dO_putInOrder_52
      · have hi0 : 0 < i := qn_nle0 h5 (by omega)
        refine lv_aload_n hx hb dO_putInOrder_8 rfl (lv_at hl 0 rfl) ?_
        refine va_get (D := (dC, dI)) (ci := 0) (v := .ref o7) (C := "OutlookOdds") (T := TO) (N := 17) hx hb hts inO hown hK hP 0 rfl rfl 12 (by decide) (hts _ mq_1_68) (fun _ h9 => h9) rfl dO_putInOrder_9 ?_
        refine lv_iload hx hb dO_putInOrder_12 (lv_at hl 3 rfl) ?_
        refine lv_iconst (v := 1) hx hb dO_putInOrder_14 (by decide) ?_
        refine lv_isub hx hb dO_putInOrder_15 ?_
        refine qr_lald (k := i - 1) hx hb hK hP 1 1 rfl rfl (qn_sub1 hi0) (by omega) (by decide) dO_putInOrder_16 ?_
        refine lv_lload_n hx hb dO_putInOrder_17 rfl (lv_at hl 2 rfl) ?_
        refine W.lcmp hx hb dO_putInOrder_18 ?_
        refine lv_if_le (tgt := 44) hx hb dO_putInOrder_19 (by decide) (fun h19 => ?_) (fun h19 => ?_)
        · have h19 := (lg_cmp_le _ _).mp h19
          refine lv_aload_n hx hb dO_putInOrder_44 rfl (lv_at hl 0 rfl) ?_
          refine va_get (D := (dC, dI)) (ci := 0) (v := .ref o7) (C := "OutlookOdds") (T := TO) (N := 17) hx hb hts inO hown hK hP 0 rfl rfl 12 (by decide) (hts _ mq_1_68) (fun _ h9 => h9) rfl dO_putInOrder_45 ?_
          refine lv_iload hx hb dO_putInOrder_48 (lv_at hl 3 rfl) ?_
          refine lv_lload_n hx hb dO_putInOrder_50 rfl (lv_at hl 2 rfl) ?_
          refine qr_last (k := i) (ws2 := [(o0, .inr (0, [.ref o1, .ref o2, .ref o3, .ref o4, .int (nI ru), .int yg, .int ch, .int (nI sp), .int (nI dl), .int mk, .ref o5, .ref o6, .ref o7, .int (nI rr), .int (nI yr), .int (nI sd), .int (nI rn)])), (o7, .inl (cJ, 16, .inr (.inl (vp_updL f i x))))]) hx hb hK hP hD hS 1 1 rfl rfl (rfl) (by omega) (by decide) rfl dO_putInOrder_51 (fun H locs hP hD hS => ?_)
          have e9 : vp_updL f i x = pf_ins x b od := by first | (rw [← hf, e_i]; rfl) | (rw [← hf]; exact (qn_ins1 hi0 h19).symm)
          have hP : va_P (dC, dI) qCl [(o0, .inr (0, [.ref o1, .ref o2, .ref o3, .ref o4, .int (nI ru), .int yg, .int ch, .int (nI sp), .int (nI dl), .int mk, .ref o5, .ref o6, .ref o7, .int (nI rr), .int (nI yr), .int (nI sd), .int (nI rn)])), (o7, .inl (cJ, 16, .inr (.inl (pf_ins x b od))))] H := by first | (rw [← e9]; exact hP) | (rw [e9] at hP; exact hP)
          have hD : va_D A [(o0, .inr (0, [.ref o1, .ref o2, .ref o3, .ref o4, .int (nI ru), .int yg, .int ch, .int (nI sp), .int (nI dl), .int mk, .ref o5, .ref o6, .ref o7, .int (nI rr), .int (nI yr), .int (nI sd), .int (nI rn)])), (o7, .inl (cJ, 16, .inr (.inl (pf_ins x b od))))] := by first | (rw [← e9]; exact hD) | (rw [e9] at hD; exact hD)
          exact hret hP hD hS (Nat.le_of_ble_eq_true rfl) (Nat.le_of_ble_eq_true rfl) dO_putInOrder_52
        · have h19 := mt (lg_cmp_le _ _).mpr h19
          refine lv_aload_n hx hb dO_putInOrder_22 rfl (lv_at hl 0 rfl) ?_
          refine va_get (D := (dC, dI)) (ci := 0) (v := .ref o7) (C := "OutlookOdds") (T := TO) (N := 17) hx hb hts inO hown hK hP 0 rfl rfl 12 (by decide) (hts _ mq_1_68) (fun _ h9 => h9) rfl dO_putInOrder_23 ?_
          refine lv_iload hx hb dO_putInOrder_26 (lv_at hl 3 rfl) ?_
          refine lv_aload_n hx hb dO_putInOrder_28 rfl (lv_at hl 0 rfl) ?_
          refine va_get (D := (dC, dI)) (ci := 0) (v := .ref o7) (C := "OutlookOdds") (T := TO) (N := 17) hx hb hts inO hown hK hP 0 rfl rfl 12 (by decide) (hts _ mq_1_68) (fun _ h9 => h9) rfl dO_putInOrder_29 ?_
          refine lv_iload hx hb dO_putInOrder_32 (lv_at hl 3 rfl) ?_
          refine lv_iconst (v := 1) hx hb dO_putInOrder_34 (by decide) ?_
          refine lv_isub hx hb dO_putInOrder_35 ?_
          refine qr_lald (k := i - 1) hx hb hK hP 1 1 rfl rfl (qn_sub1 hi0) (by omega) (by decide) dO_putInOrder_36 ?_
          refine qr_last (k := i) (ws2 := [(o0, .inr (0, [.ref o1, .ref o2, .ref o3, .ref o4, .int (nI ru), .int yg, .int ch, .int (nI sp), .int (nI dl), .int mk, .ref o5, .ref o6, .ref o7, .int (nI rr), .int (nI yr), .int (nI sd), .int (nI rn)])), (o7, .inl (cJ, 16, .inr (.inl (vp_updL f i (f (i - 1))))))]) hx hb hK hP hD hS 1 1 rfl rfl (rfl) (by omega) (by decide) rfl dO_putInOrder_37 (fun H locs hP hD hS => ?_)
          refine lv_iinc (v := nI (i - 1)) (lv' := [(4, .int (nI (i - 1))), (0, .ref o0), (1, .int (nI b)), (2, .long x)]) hx hb dO_putInOrder_38 hl (k := 3) rfl (sb_m1 hi0) (by decide) rfl (fun ls hl => ?_)
          refine lv_goto (tgt := 3) hx hb dO_putInOrder_41 (by decide) ?_
          exact ih_3 (vp_updL f i (f (i - 1))) (i - 1) (by omega) (by omega) ((qn_ins hi0 h19).symm.trans hf) _ _ hP hD hS ls (lv_sub hl [1, 2, 3, 0] rfl)
  exact lp_3 ((b) + 1) od b (by omega) (by omega) rfl _ _ hP hD hS ls (lv_sub hl [1, 2, 3, 0] rfl)

set_option maxHeartbeats 4000000 in
set_option maxRecDepth 100000 in
theorem c_commonDivisor (a b : Int64) : qMl l yO_commonDivisor (wO_commonDivisor) ({ frames := 0, cells := 0, slots := 0, locals := 0 } : Room) (dC, dI) qCl [(cI, .int), (cJ, .long), (cG, .array .long)] [.long a, .long b] [] [] (pf_gcd 200 a b) 0 0 := by
  refine qm_l (cc := prog_1_method_32_code) (maxL := 11) (by decide) rfl (Nat.le_of_ble_eq_true rfl) ?_
  intro p e s m args below meth c Q A ls hx hb hml hown hnm hts hA hK hP hD hS hl hret
  have hl : lv_has ls 11 [(0, .long a), (2, .long b)] := hl
  refine lv_lload_n hx hb dO_commonDivisor_0 rfl (lv_at hl 0 rfl) ?_
  refine lv_lstore (lv' := [(4, .long a), (0, .long a), (2, .long b)]) hx hb dO_commonDivisor_1 hl (by decide) rfl (fun ls hl => ?_)
  refine lv_lload_n hx hb dO_commonDivisor_3 rfl (lv_at hl 2 rfl) ?_
  refine lv_lstore (lv' := [(6, .long b), (4, .long a), (0, .long a), (2, .long b)]) hx hb dO_commonDivisor_4 hl (by decide) rfl (fun ls hl => ?_)
  refine lv_iconst (v := 0) hx hb dO_commonDivisor_6 (by decide) ?_
  refine lv_istore (lv' := [(8, .int 0), (6, .long b), (4, .long a), (0, .long a), (2, .long b)]) hx hb dO_commonDivisor_7 hl (by decide) rfl (fun ls hl => ?_)
  have lp_9 : ∀ (n : Nat) (k : Nat) (u v : Int64), 200 - k < n → k ≤ 200 → pf_gcd (200 - k) u v = pf_gcd 200 a b → ∀ (H : Heap) (locs : List Loc), va_P (dC, dI) qCl [] H → va_D A [] → va_S A s.heap H locs → ∀ (ls : Array Slot), lv_has ls 11 [(0, .long a), (2, .long b), (4, .long u), (6, .long v), (8, .int (nI k))] → W p l e ({ frames := 0, cells := 0, slots := 0, locals := 0 } : Room) s m args below meth c H locs 0 0 Q (F0 m 9 ls []) := by
    intro n_9
    induction n_9 with
    | zero => intro k u v hm; exact absurd hm (Nat.not_lt_zero _)
    | succ n_9 ih_9 =>
      intro k u v hm_9 hk hg H locs hP hD hS ls hl
      refine lv_iload hx hb dO_commonDivisor_9 (lv_at hl 4 rfl) ?_
      refine lv_sipush (v := 200) hx hb dO_commonDivisor_11 (by decide) ?_
      refine lv_icmp_ge (tgt := 45) hx hb dO_commonDivisor_14 (by decide) (fun h14 => ?_) (fun h14 => ?_)
      · have e_k : k = 200 := qn_ge (b := 200) h14 hk (by decide)
        have hP : va_P (dC, dI) qCl [] H := by first | exact hP | (rw [e_k] at hP; exact hP)
        have hD : va_D A [] := by first | exact hD | (rw [e_k] at hD; exact hD)
        have hl : lv_has ls 11 [(0, .long a), (2, .long b), (4, .long u), (6, .long v), (8, .int (nI 200))] := by first | exact hl | (rw [e_k] at hl; exact hl)
        refine lv_lload hx hb dO_commonDivisor_45 (lv_at hl 2 rfl) ?_
        exact hret hP hD hS (Nat.le_of_ble_eq_true rfl) (Nat.le_of_ble_eq_true rfl) (by first | (rw [← hg, e_k]; rfl) | (rw [← hg, h21]; exact (qn_gcd0 hlk).symm)) dO_commonDivisor_47
      · have hlk : k < 200 := qn_nge (b := 200) h14 (by omega)
        refine lv_lload hx hb dO_commonDivisor_17 (lv_at hl 3 rfl) ?_
        refine lv_lconst (v := 0) hx hb dO_commonDivisor_19 (by decide) ?_
        refine W.lcmp hx hb dO_commonDivisor_20 ?_
        refine lv_if_eq (tgt := 45) hx hb dO_commonDivisor_21 (by decide) (fun h21 => ?_) (fun h21 => ?_)
        · have h21 := (lg_cmp_eq _ _).mp h21
          refine lv_lload hx hb dO_commonDivisor_45 (lv_at hl 2 rfl) ?_
          exact hret hP hD hS (Nat.le_of_ble_eq_true rfl) (Nat.le_of_ble_eq_true rfl) (by first | (rw [← hg, e_k]; rfl) | (rw [← hg, h21]; exact (qn_gcd0 hlk).symm)) dO_commonDivisor_47
        · have h21 := mt (lg_cmp_eq _ _).mpr h21
          refine lv_lload hx hb dO_commonDivisor_24 (lv_at hl 2 rfl) ?_
          refine lv_lload hx hb dO_commonDivisor_26 (lv_at hl 3 rfl) ?_
          refine lv_lrem hx hb dO_commonDivisor_28 (h21) ?_
          refine lv_lstore (lv' := [(9, .long (u - u / v * v)), (0, .long a), (2, .long b), (4, .long u), (6, .long v), (8, .int (nI k))]) hx hb dO_commonDivisor_29 hl (by decide) rfl (fun ls hl => ?_)
          refine lv_lload hx hb dO_commonDivisor_31 (lv_at hl 4 rfl) ?_
          refine lv_lstore (lv' := [(4, .long v), (9, .long (u - u / v * v)), (0, .long a), (2, .long b), (6, .long v), (8, .int (nI k))]) hx hb dO_commonDivisor_33 hl (by decide) rfl (fun ls hl => ?_)
          refine lv_lload hx hb dO_commonDivisor_35 (lv_at hl 1 rfl) ?_
          refine lv_lstore (lv' := [(6, .long (u - u / v * v)), (4, .long v), (9, .long (u - u / v * v)), (0, .long a), (2, .long b), (8, .int (nI k))]) hx hb dO_commonDivisor_37 hl (by decide) rfl (fun ls hl => ?_)
          refine lv_iinc (v := nI (k + 1)) (lv' := [(8, .int (nI (k + 1))), (6, .long (u - u / v * v)), (4, .long v), (9, .long (u - u / v * v)), (0, .long a), (2, .long b)]) hx hb dO_commonDivisor_39 hl (k := 5) rfl (nI_1 _) (by decide) rfl (fun ls hl => ?_)
          refine lv_goto (tgt := 9) hx hb dO_commonDivisor_42 (by decide) ?_
          exact ih_9 (k + 1) v (u - u / v * v) (by omega) (by omega) ((qn_gcd hlk h21).symm.trans hg) _ _ hP hD hS ls (lv_sub hl [4, 5, 2, 1, 0] rfl)
  exact lp_9 ((200 - 0) + 1) 0 a b (by omega) (by omega) rfl _ _ hP hD hS ls (lv_sub hl [3, 4, 2, 1, 0] rfl)

set_option maxHeartbeats 4000000 in
set_option maxRecDepth 100000 in
theorem c_partOfFraction (a b : Int64) (pt : Int32) : qMl l yO_partOfFraction (wO_partOfFraction) ({ frames := 1, cells := 0, slots := 0, locals := 30 } : Room) (dC, dI) qCl [(cI, .int), (cJ, .long), (cG, .array .long)] [.long a, .long b, .int pt] [] [] (pf_part a b pt) 0 0 := by
  refine qm_l (cc := prog_1_method_31_code) (maxL := 7) (by decide) rfl (Nat.le_of_ble_eq_true rfl) ?_
  intro p e s m args below meth c Q A ls hx hb hml hown hnm hts hA hK hP hD hS hl hret
  have hl : lv_has ls 7 [(0, .long a), (2, .long b), (4, .int pt)] := hl
  refine lv_lconst (v := 1) hx hb dO_partOfFraction_0 (by decide) ?_
  refine lv_lload_n hx hb dO_partOfFraction_1 rfl (lv_at hl 0 rfl) ?_
  refine lv_lload_n hx hb dO_partOfFraction_2 rfl (lv_at hl 1 rfl) ?_
  refine qr_callSl (As := [.long a, .long b]) (rest := [.long 1]) (wr := []) (ws2 := []) ⟨hx, hb, hml, hown, hts⟩ (c_commonDivisor l dC dI cI cJ cG a b ) (va_cwS 2 hts (qg_S mq_2_145 mq_2_146 mq_1_1 mq_2_147) rfl rfl rfl (by decide +kernel) ⟨Nat.le_of_ble_eq_true rfl, Nat.le_of_ble_eq_true rfl⟩) hK hP hD hS hA [] [] [] rfl rfl (by decide) (by decide) rfl (by decide) rfl hl.1 rfl (Nat.le_of_ble_eq_true rfl) dO_partOfFraction_3 ⟨Nat.le_of_ble_eq_true rfl, Nat.le_of_ble_eq_true rfl⟩ (fun H locs hP hD hS => ?_)
  refine va_mmax_long hx hb (by rw [hml]; exact hl.1.symm) hown (hts _ mq_2_92) (hts _ mq_2_93) (hts _ mq_1_11) (hts _ mq_2_94) (Nat.le_of_ble_eq_true rfl) (by exact Nat.le_of_ble_eq_true rfl) (by exact Nat.le_of_ble_eq_true rfl) (by exact Nat.le_of_ble_eq_true rfl) dO_partOfFraction_6 ?_
  refine lv_lstore (lv' := [(5, .long (pf_max 1 (pf_gcd 200 a b))), (0, .long a), (2, .long b), (4, .int pt)]) hx hb dO_partOfFraction_9 hl (by decide) rfl (fun ls hl => ?_)
  have hl : lv_has ls 7 [(5, .long (pf_div a b)), (0, .long a), (2, .long b), (4, .int pt)] := hl
  refine lv_iload hx hb dO_partOfFraction_11 (lv_at hl 3 rfl) ?_
  refine lv_if_ne (tgt := 20) hx hb dO_partOfFraction_13 (by decide) (fun h13 => ?_) (fun h13 => ?_)
  · refine lv_lload_n hx hb dO_partOfFraction_20 rfl (lv_at hl 2 rfl) ?_
    refine lv_lload hx hb dO_partOfFraction_21 (lv_at hl 0 rfl) ?_
    refine lv_ldiv hx hb dO_partOfFraction_23 (pf_div_ne a b) ?_
    exact hret hP hD hS (Nat.le_of_ble_eq_true rfl) (Nat.le_of_ble_eq_true rfl) (by unfold pf_part; first | rw [if_pos h13] | rw [if_neg h13]) dO_partOfFraction_24
  · refine lv_lload_n hx hb dO_partOfFraction_16 rfl (lv_at hl 1 rfl) ?_
    refine lv_goto (tgt := 21) hx hb dO_partOfFraction_17 (by decide) ?_
    refine lv_lload hx hb dO_partOfFraction_21 (lv_at hl 0 rfl) ?_
    refine lv_ldiv hx hb dO_partOfFraction_23 (pf_div_ne a b) ?_
    exact hret hP hD hS (Nat.le_of_ble_eq_true rfl) (Nat.le_of_ble_eq_true rfl) (by unfold pf_part; first | rw [if_pos h13] | rw [if_neg h13]) dO_partOfFraction_24

end QOP
end
section
section QOR
variable (l : Launch) (dC : Nat → ClassId) (dI : Nat → Nat → Nat) (cI cJ cG : ClassId)
set_option maxHeartbeats 4000000 in
set_option maxRecDepth 100000 in
theorem c_runYear (o0 o1 o2 o3 o4 o5 o6 o7 ru sp dl rr yr sd rn : Nat) (yg ch mk : Int32) (z1 z2 z3 z4 z5 : Nat) (q0 qg : Nat) (qr : Nat → Nat) (M : Nat → Nat → Int64) (wt rp di lo hi : Nat → Int32) (lv : Nat → Int64) (rt : Int32) (se y : Nat) (hse : se < 16) (hy1 : 1 ≤ y) (hy2 : y ≤ 20) (hsp : sp ≤ 50) (hdl : dl ≤ 3) (hrr : rr < 6) : qMv l yO_runYear (wO_runYear) ({ frames := 2, cells := 0, slots := 0, locals := 52 } : Room) (dC, dI) qCl [(cI, .int), (cJ, .long), (cG, .array .long)] [.ref o0, .ref q0, .int rt, .int (nI se), .int (nI y)] [(o0, .inr (0, [.ref o1, .ref o2, .ref o3, .ref o4, .int (nI ru), .int yg, .int ch, .int (nI sp), .int (nI dl), .int mk, .ref o5, .ref o6, .ref o7, .int (nI rr), .int (nI yr), .int (nI sd), .int (nI rn)])), (o1, .inr (1, [.ref z1, .ref z2, .ref z3, .ref z4, .ref z5])), (z2, .inl (cI, 6, .inl wt)), (z3, .inl (cI, 6, .inl rp)), (z4, .inl (cI, 6, .inl di)), (z5, .inl (cJ, 6, .inr (.inl lv))), (o2, .inl (cI, 6, .inl lo)), (o3, .inl (cI, 6, .inl hi)), (q0, .inr (2, [.ref qg])), (qg, .inl (cG, 4, .inr (.inr (.inr (.inr (pf_gf qr)))))), (qr 0, .inl (cJ, 320, .inr (.inl (M 0)))), (qr 1, .inl (cJ, 320, .inr (.inl (M 1)))), (qr 2, .inl (cJ, 320, .inr (.inl (M 2)))), (qr 3, .inl (cJ, 320, .inr (.inl (M 3))))] [(o0, .inr (0, [.ref o1, .ref o2, .ref o3, .ref o4, .int (nI ru), .int yg, .int ch, .int (nI sp), .int (nI dl), .int mk, .ref o5, .ref o6, .ref o7, .int (nI rr), .int (nI yr), .int (nI sd), .int (nI rn)])), (o1, .inr (1, [.ref z1, .ref z2, .ref z3, .ref z4, .ref z5])), (z2, .inl (cI, 6, .inl wt)), (z3, .inl (cI, 6, .inl rp)), (z4, .inl (cI, 6, .inl di)), (z5, .inl (cJ, 6, .inr (.inl (pf_yl wt rp di (lo rr).toInt64 (hi rr).toInt64 rt sp dl yg ch se y lv M)))), (o2, .inl (cI, 6, .inl lo)), (o3, .inl (cI, 6, .inl hi)), (q0, .inr (2, [.ref qg])), (qg, .inl (cG, 4, .inr (.inr (.inr (.inr (pf_gf qr)))))), (qr 0, .inl (cJ, 320, .inr (.inl ((pf_yM wt rp (lo rr).toInt64 (hi rr).toInt64 rt sp dl ch se y lv M) 0)))), (qr 1, .inl (cJ, 320, .inr (.inl ((pf_yM wt rp (lo rr).toInt64 (hi rr).toInt64 rt sp dl ch se y lv M) 1)))), (qr 2, .inl (cJ, 320, .inr (.inl ((pf_yM wt rp (lo rr).toInt64 (hi rr).toInt64 rt sp dl ch se y lv M) 2)))), (qr 3, .inl (cJ, 320, .inr (.inl ((pf_yM wt rp (lo rr).toInt64 (hi rr).toInt64 rt sp dl ch se y lv M) 3))))] 0 0 := by
  refine qm_v (cc := prog_1_method_20_code) (maxL := 13) (by decide) rfl (Nat.le_of_ble_eq_true rfl) ?_
  intro p e s m args below meth c Q A ls hx hb hml hown hnm hts hA hK hP hD hS hl hret
  have hl : lv_has ls 13 [(0, .ref o0), (1, .ref q0), (2, .int rt), (3, .int (nI se)), (4, .int (nI y))] := hl
  refine lv_aload_n hx hb dO_runYear_0 rfl (lv_at hl 1 rfl) ?_
  refine lv_iconst (v := 0) hx hb dO_runYear_1 (by decide) ?_
  refine lv_iload_n hx hb dO_runYear_2 rfl (lv_at hl 3 rfl) ?_
  refine lv_iload hx hb dO_runYear_3 (lv_at hl 4 rfl) ?_
  refine lv_aload_n hx hb dO_runYear_5 rfl (lv_at hl 0 rfl) ?_
  refine va_get (D := (dC, dI)) (ci := 0) (v := .ref o1) (C := "OutlookOdds") (T := TO) (N := 17) hx hb hts inO hown hK hP 0 rfl rfl 0 (by decide) (hts _ mq_1_56) (fun _ h9 => h9) rfl dO_runYear_6 ?_
  refine qr_callVl (As := []) (rest := [.int (nI y), .int (nI se), .int 0, .ref q0]) (wr := [(o0, .inr (0, [.ref o1, .ref o2, .ref o3, .ref o4, .int (nI ru), .int yg, .int ch, .int (nI sp), .int (nI dl), .int mk, .ref o5, .ref o6, .ref o7, .int (nI rr), .int (nI yr), .int (nI sd), .int (nI rn)])), (z4, .inl (cI, 6, .inl di)), (o2, .inl (cI, 6, .inl lo)), (o3, .inl (cI, 6, .inl hi)), (q0, .inr (2, [.ref qg])), (qg, .inl (cG, 4, .inr (.inr (.inr (.inr (pf_gf qr)))))), (qr 0, .inl (cJ, 320, .inr (.inl (M 0)))), (qr 1, .inl (cJ, 320, .inr (.inl (M 1)))), (qr 2, .inl (cJ, 320, .inr (.inl (M 2)))), (qr 3, .inl (cJ, 320, .inr (.inl (M 3))))]) (ws2 := [(o0, .inr (0, [.ref o1, .ref o2, .ref o3, .ref o4, .int (nI ru), .int yg, .int ch, .int (nI sp), .int (nI dl), .int mk, .ref o5, .ref o6, .ref o7, .int (nI rr), .int (nI yr), .int (nI sd), .int (nI rn)])), (o1, .inr (1, [.ref z1, .ref z2, .ref z3, .ref z4, .ref z5])), (z2, .inl (cI, 6, .inl wt)), (z3, .inl (cI, 6, .inl rp)), (z4, .inl (cI, 6, .inl di)), (z5, .inl (cJ, 6, .inr (.inl lv))), (o2, .inl (cI, 6, .inl lo)), (o3, .inl (cI, 6, .inl hi)), (q0, .inr (2, [.ref qg])), (qg, .inl (cG, 4, .inr (.inr (.inr (.inr (pf_gf qr)))))), (qr 0, .inl (cJ, 320, .inr (.inl (M 0)))), (qr 1, .inl (cJ, 320, .inr (.inl (M 1)))), (qr 2, .inl (cJ, 320, .inr (.inl (M 2)))), (qr 3, .inl (cJ, 320, .inr (.inl (M 3))))]) ⟨hx, hb, hml, hown, hts⟩ (c_Stock_ripeMass l dC dI cI cJ cG o1 z1 z2 z3 z4 z5 wt rp lv ) (cwV 0 hts (qg_V mq_2_54 mq_2_55 mq_2_56 mq_1_2 mq_2_57) rfl rfl rfl (by decide +kernel) ⟨Nat.le_of_ble_eq_true rfl, Nat.le_of_ble_eq_true rfl⟩) hK hP hD hS hA (ci := 1) (q0 := 1) rfl rfl [1, 2, 3, 5] [0, 4, 6, 7, 8, 9, 10, 11, 12, 13] [0, 10, 11, 12, 1, 13, 2, 3, 4, 5, 6, 7, 8, 9] rfl rfl (by decide) (by decide) rfl (by decide) rfl hl.1 rfl (Nat.le_of_ble_eq_true rfl) dO_runYear_9 ⟨Nat.le_of_ble_eq_true rfl, Nat.le_of_ble_eq_true rfl⟩ (fun H locs hP hD hS => ?_)
  refine qr_callVv (As := [.int 0, .int (nI se), .int (nI y), .long (pf_ripe lv wt rp 6)]) (rest := []) (wr := [(o0, .inr (0, [.ref o1, .ref o2, .ref o3, .ref o4, .int (nI ru), .int yg, .int ch, .int (nI sp), .int (nI dl), .int mk, .ref o5, .ref o6, .ref o7, .int (nI rr), .int (nI yr), .int (nI sd), .int (nI rn)])), (o1, .inr (1, [.ref z1, .ref z2, .ref z3, .ref z4, .ref z5])), (z2, .inl (cI, 6, .inl wt)), (z3, .inl (cI, 6, .inl rp)), (z4, .inl (cI, 6, .inl di)), (z5, .inl (cJ, 6, .inr (.inl lv))), (o2, .inl (cI, 6, .inl lo)), (o3, .inl (cI, 6, .inl hi))]) (ws2 := [(o0, .inr (0, [.ref o1, .ref o2, .ref o3, .ref o4, .int (nI ru), .int yg, .int ch, .int (nI sp), .int (nI dl), .int mk, .ref o5, .ref o6, .ref o7, .int (nI rr), .int (nI yr), .int (nI sd), .int (nI rn)])), (o1, .inr (1, [.ref z1, .ref z2, .ref z3, .ref z4, .ref z5])), (z2, .inl (cI, 6, .inl wt)), (z3, .inl (cI, 6, .inl rp)), (z4, .inl (cI, 6, .inl di)), (z5, .inl (cJ, 6, .inr (.inl lv))), (o2, .inl (cI, 6, .inl lo)), (o3, .inl (cI, 6, .inl hi)), (q0, .inr (2, [.ref qg])), (qg, .inl (cG, 4, .inr (.inr (.inr (.inr (pf_gf qr)))))), (qr 0, .inl (cJ, 320, .inr (.inl (pf_put M 0 (pf_ix se y) (pf_ripe lv wt rp 6) 0)))), (qr 1, .inl (cJ, 320, .inr (.inl (pf_put M 0 (pf_ix se y) (pf_ripe lv wt rp 6) 1)))), (qr 2, .inl (cJ, 320, .inr (.inl (pf_put M 0 (pf_ix se y) (pf_ripe lv wt rp 6) 2)))), (qr 3, .inl (cJ, 320, .inr (.inl (pf_put M 0 (pf_ix se y) (pf_ripe lv wt rp 6) 3))))]) ⟨hx, hb, hml, hown, hts⟩ (c_Story_put l dC dI cI cJ cG q0 qg qr M 0 se y (pf_ripe lv wt rp 6) (by omega) (by omega) (by omega) (by omega)) (cwV 4 hts (qg_V mq_2_59 mq_2_60 mq_2_61 mq_1_3 mq_2_62) rfl rfl rfl (by decide +kernel) ⟨Nat.le_of_ble_eq_true rfl, Nat.le_of_ble_eq_true rfl⟩) hK hP hD hS hA (ci := 2) (q0 := 8) rfl rfl [8, 9, 10, 11, 12, 13] [0, 1, 2, 3, 4, 5, 6, 7] [0, 1, 2, 3, 4, 5, 6, 7, 8, 9, 10, 11, 12, 13] rfl rfl (by decide) (by decide) rfl (by decide) rfl hl.1 rfl (Nat.le_of_ble_eq_true rfl) dO_runYear_12 ⟨Nat.le_of_ble_eq_true rfl, Nat.le_of_ble_eq_true rfl⟩ (fun H locs hP hD hS => ?_)
  have hP : va_P (dC, dI) qCl [(o0, .inr (0, [.ref o1, .ref o2, .ref o3, .ref o4, .int (nI ru), .int yg, .int ch, .int (nI sp), .int (nI dl), .int mk, .ref o5, .ref o6, .ref o7, .int (nI rr), .int (nI yr), .int (nI sd), .int (nI rn)])), (o1, .inr (1, [.ref z1, .ref z2, .ref z3, .ref z4, .ref z5])), (z2, .inl (cI, 6, .inl wt)), (z3, .inl (cI, 6, .inl rp)), (z4, .inl (cI, 6, .inl di)), (z5, .inl (cJ, 6, .inr (.inl lv))), (o2, .inl (cI, 6, .inl lo)), (o3, .inl (cI, 6, .inl hi)), (q0, .inr (2, [.ref qg])), (qg, .inl (cG, 4, .inr (.inr (.inr (.inr (pf_gf qr)))))), (qr 0, .inl (cJ, 320, .inr (.inl ((pf_Ma wt rp se y lv M) 0)))), (qr 1, .inl (cJ, 320, .inr (.inl ((pf_Ma wt rp se y lv M) 1)))), (qr 2, .inl (cJ, 320, .inr (.inl ((pf_Ma wt rp se y lv M) 2)))), (qr 3, .inl (cJ, 320, .inr (.inl ((pf_Ma wt rp se y lv M) 3))))] H := hP
  have hD : va_D A [(o0, .inr (0, [.ref o1, .ref o2, .ref o3, .ref o4, .int (nI ru), .int yg, .int ch, .int (nI sp), .int (nI dl), .int mk, .ref o5, .ref o6, .ref o7, .int (nI rr), .int (nI yr), .int (nI sd), .int (nI rn)])), (o1, .inr (1, [.ref z1, .ref z2, .ref z3, .ref z4, .ref z5])), (z2, .inl (cI, 6, .inl wt)), (z3, .inl (cI, 6, .inl rp)), (z4, .inl (cI, 6, .inl di)), (z5, .inl (cJ, 6, .inr (.inl lv))), (o2, .inl (cI, 6, .inl lo)), (o3, .inl (cI, 6, .inl hi)), (q0, .inr (2, [.ref qg])), (qg, .inl (cG, 4, .inr (.inr (.inr (.inr (pf_gf qr)))))), (qr 0, .inl (cJ, 320, .inr (.inl ((pf_Ma wt rp se y lv M) 0)))), (qr 1, .inl (cJ, 320, .inr (.inl ((pf_Ma wt rp se y lv M) 1)))), (qr 2, .inl (cJ, 320, .inr (.inl ((pf_Ma wt rp se y lv M) 2)))), (qr 3, .inl (cJ, 320, .inr (.inl ((pf_Ma wt rp se y lv M) 3))))] := hD
  refine lv_aload_n hx hb dO_runYear_15 rfl (lv_at hl 0 rfl) ?_
  refine lv_aload_n hx hb dO_runYear_16 rfl (lv_at hl 1 rfl) ?_
  refine lv_iload_n hx hb dO_runYear_17 rfl (lv_at hl 3 rfl) ?_
  refine lv_iload hx hb dO_runYear_18 (lv_at hl 4 rfl) ?_
  refine qr_callVl (As := [.ref q0, .int (nI se), .int (nI y)]) (rest := []) (wr := [(o1, .inr (1, [.ref z1, .ref z2, .ref z3, .ref z4, .ref z5])), (z2, .inl (cI, 6, .inl wt)), (z3, .inl (cI, 6, .inl rp)), (z4, .inl (cI, 6, .inl di)), (z5, .inl (cJ, 6, .inr (.inl lv))), (o2, .inl (cI, 6, .inl lo)), (o3, .inl (cI, 6, .inl hi))]) (ws2 := [(o0, .inr (0, [.ref o1, .ref o2, .ref o3, .ref o4, .int (nI ru), .int yg, .int ch, .int (nI sp), .int (nI dl), .int mk, .ref o5, .ref o6, .ref o7, .int (nI rr), .int (nI yr), .int (nI sd), .int (nI rn)])), (o1, .inr (1, [.ref z1, .ref z2, .ref z3, .ref z4, .ref z5])), (z2, .inl (cI, 6, .inl wt)), (z3, .inl (cI, 6, .inl rp)), (z4, .inl (cI, 6, .inl di)), (z5, .inl (cJ, 6, .inr (.inl lv))), (o2, .inl (cI, 6, .inl lo)), (o3, .inl (cI, 6, .inl hi)), (q0, .inr (2, [.ref qg])), (qg, .inl (cG, 4, .inr (.inr (.inr (.inr (pf_gf qr)))))), (qr 0, .inl (cJ, 320, .inr (.inl ((pf_Ma wt rp se y lv M) 0)))), (qr 1, .inl (cJ, 320, .inr (.inl ((pf_Ma wt rp se y lv M) 1)))), (qr 2, .inl (cJ, 320, .inr (.inl ((pf_Ma wt rp se y lv M) 2)))), (qr 3, .inl (cJ, 320, .inr (.inl ((pf_Ma wt rp se y lv M) 3))))]) ⟨hx, hb, hml, hown, hts⟩ (c_massSeen l dC dI cI cJ cG o0 o1 o2 o3 o4 o5 o6 o7 ru sp dl rr yr sd rn yg ch mk q0 qg qr (pf_Ma wt rp se y lv M) se y (by omega) (by omega) (by omega) (by omega) (by omega)) (cwV 3 hts (qg_V mq_2_63 mq_2_65 mq_p_3 mq_1_1 mq_2_66) rfl rfl rfl (by decide +kernel) ⟨Nat.le_of_ble_eq_true rfl, Nat.le_of_ble_eq_true rfl⟩) hK hP hD hS hA (ci := 0) (q0 := 0) rfl rfl [0, 8, 9, 10, 11, 12, 13] [1, 2, 3, 4, 5, 6, 7] [7, 0, 1, 2, 3, 4, 5, 6, 8, 9, 10, 11, 12, 13] rfl rfl (by decide) (by decide) rfl (by decide) rfl hl.1 rfl (Nat.le_of_ble_eq_true rfl) dO_runYear_20 ⟨Nat.le_of_ble_eq_true rfl, Nat.le_of_ble_eq_true rfl⟩ (fun H locs hP hD hS => ?_)
  refine lv_lstore (lv' := [(5, .long (pf_seen ((pf_Ma wt rp se y lv M) 0) se y sp dl)), (0, .ref o0), (1, .ref q0), (2, .int rt), (3, .int (nI se)), (4, .int (nI y))]) hx hb dO_runYear_23 hl (by decide) rfl (fun ls hl => ?_)
  have hl : lv_has ls 13 [(5, .long (pf_sn wt rp sp dl se y lv M)), (0, .ref o0), (1, .ref q0), (2, .int rt), (3, .int (nI se)), (4, .int (nI y))] := hl
  refine lv_aload_n hx hb dO_runYear_25 rfl (lv_at hl 2 rfl) ?_
  refine lv_iconst (v := 3) hx hb dO_runYear_26 (by decide) ?_
  refine lv_iload_n hx hb dO_runYear_27 rfl (lv_at hl 4 rfl) ?_
  refine lv_iload hx hb dO_runYear_28 (lv_at hl 5 rfl) ?_
  refine lv_lload hx hb dO_runYear_30 (lv_at hl 0 rfl) ?_
  refine qr_callVv (As := [.int 3, .int (nI se), .int (nI y), .long (pf_sn wt rp sp dl se y lv M)]) (rest := []) (wr := [(o0, .inr (0, [.ref o1, .ref o2, .ref o3, .ref o4, .int (nI ru), .int yg, .int ch, .int (nI sp), .int (nI dl), .int mk, .ref o5, .ref o6, .ref o7, .int (nI rr), .int (nI yr), .int (nI sd), .int (nI rn)])), (o1, .inr (1, [.ref z1, .ref z2, .ref z3, .ref z4, .ref z5])), (z2, .inl (cI, 6, .inl wt)), (z3, .inl (cI, 6, .inl rp)), (z4, .inl (cI, 6, .inl di)), (z5, .inl (cJ, 6, .inr (.inl lv))), (o2, .inl (cI, 6, .inl lo)), (o3, .inl (cI, 6, .inl hi))]) (ws2 := [(o0, .inr (0, [.ref o1, .ref o2, .ref o3, .ref o4, .int (nI ru), .int yg, .int ch, .int (nI sp), .int (nI dl), .int mk, .ref o5, .ref o6, .ref o7, .int (nI rr), .int (nI yr), .int (nI sd), .int (nI rn)])), (o1, .inr (1, [.ref z1, .ref z2, .ref z3, .ref z4, .ref z5])), (z2, .inl (cI, 6, .inl wt)), (z3, .inl (cI, 6, .inl rp)), (z4, .inl (cI, 6, .inl di)), (z5, .inl (cJ, 6, .inr (.inl lv))), (o2, .inl (cI, 6, .inl lo)), (o3, .inl (cI, 6, .inl hi)), (q0, .inr (2, [.ref qg])), (qg, .inl (cG, 4, .inr (.inr (.inr (.inr (pf_gf qr)))))), (qr 0, .inl (cJ, 320, .inr (.inl (pf_put (pf_Ma wt rp se y lv M) 3 (pf_ix se y) (pf_sn wt rp sp dl se y lv M) 0)))), (qr 1, .inl (cJ, 320, .inr (.inl (pf_put (pf_Ma wt rp se y lv M) 3 (pf_ix se y) (pf_sn wt rp sp dl se y lv M) 1)))), (qr 2, .inl (cJ, 320, .inr (.inl (pf_put (pf_Ma wt rp se y lv M) 3 (pf_ix se y) (pf_sn wt rp sp dl se y lv M) 2)))), (qr 3, .inl (cJ, 320, .inr (.inl (pf_put (pf_Ma wt rp se y lv M) 3 (pf_ix se y) (pf_sn wt rp sp dl se y lv M) 3))))]) ⟨hx, hb, hml, hown, hts⟩ (c_Story_put l dC dI cI cJ cG q0 qg qr (pf_Ma wt rp se y lv M) 3 se y (pf_sn wt rp sp dl se y lv M) (by omega) (by omega) (by omega) (by omega)) (cwV 4 hts (qg_V mq_2_59 mq_2_60 mq_2_61 mq_1_3 mq_2_62) rfl rfl rfl (by decide +kernel) ⟨Nat.le_of_ble_eq_true rfl, Nat.le_of_ble_eq_true rfl⟩) hK hP hD hS hA (ci := 2) (q0 := 8) rfl rfl [8, 9, 10, 11, 12, 13] [0, 1, 2, 3, 4, 5, 6, 7] [0, 1, 2, 3, 4, 5, 6, 7, 8, 9, 10, 11, 12, 13] rfl rfl (by decide) (by decide) rfl (by decide) rfl hl.1 rfl (Nat.le_of_ble_eq_true rfl) dO_runYear_32 ⟨Nat.le_of_ble_eq_true rfl, Nat.le_of_ble_eq_true rfl⟩ (fun H locs hP hD hS => ?_)
  have hP : va_P (dC, dI) qCl [(o0, .inr (0, [.ref o1, .ref o2, .ref o3, .ref o4, .int (nI ru), .int yg, .int ch, .int (nI sp), .int (nI dl), .int mk, .ref o5, .ref o6, .ref o7, .int (nI rr), .int (nI yr), .int (nI sd), .int (nI rn)])), (o1, .inr (1, [.ref z1, .ref z2, .ref z3, .ref z4, .ref z5])), (z2, .inl (cI, 6, .inl wt)), (z3, .inl (cI, 6, .inl rp)), (z4, .inl (cI, 6, .inl di)), (z5, .inl (cJ, 6, .inr (.inl lv))), (o2, .inl (cI, 6, .inl lo)), (o3, .inl (cI, 6, .inl hi)), (q0, .inr (2, [.ref qg])), (qg, .inl (cG, 4, .inr (.inr (.inr (.inr (pf_gf qr)))))), (qr 0, .inl (cJ, 320, .inr (.inl ((pf_Mb wt rp sp dl se y lv M) 0)))), (qr 1, .inl (cJ, 320, .inr (.inl ((pf_Mb wt rp sp dl se y lv M) 1)))), (qr 2, .inl (cJ, 320, .inr (.inl ((pf_Mb wt rp sp dl se y lv M) 2)))), (qr 3, .inl (cJ, 320, .inr (.inl ((pf_Mb wt rp sp dl se y lv M) 3))))] H := hP
  have hD : va_D A [(o0, .inr (0, [.ref o1, .ref o2, .ref o3, .ref o4, .int (nI ru), .int yg, .int ch, .int (nI sp), .int (nI dl), .int mk, .ref o5, .ref o6, .ref o7, .int (nI rr), .int (nI yr), .int (nI sd), .int (nI rn)])), (o1, .inr (1, [.ref z1, .ref z2, .ref z3, .ref z4, .ref z5])), (z2, .inl (cI, 6, .inl wt)), (z3, .inl (cI, 6, .inl rp)), (z4, .inl (cI, 6, .inl di)), (z5, .inl (cJ, 6, .inr (.inl lv))), (o2, .inl (cI, 6, .inl lo)), (o3, .inl (cI, 6, .inl hi)), (q0, .inr (2, [.ref qg])), (qg, .inl (cG, 4, .inr (.inr (.inr (.inr (pf_gf qr)))))), (qr 0, .inl (cJ, 320, .inr (.inl ((pf_Mb wt rp sp dl se y lv M) 0)))), (qr 1, .inl (cJ, 320, .inr (.inl ((pf_Mb wt rp sp dl se y lv M) 1)))), (qr 2, .inl (cJ, 320, .inr (.inl ((pf_Mb wt rp sp dl se y lv M) 2)))), (qr 3, .inl (cJ, 320, .inr (.inl ((pf_Mb wt rp sp dl se y lv M) 3))))] := hD
  refine lv_aload_n hx hb dO_runYear_35 rfl (lv_at hl 1 rfl) ?_
  refine va_get (D := (dC, dI)) (ci := 0) (v := .ref o1) (C := "OutlookOdds") (T := TO) (N := 17) hx hb hts inO hown hK hP 0 rfl rfl 0 (by decide) (hts _ mq_1_56) (fun _ h9 => h9) rfl dO_runYear_36 ?_
  refine qr_callVl (As := []) (rest := []) (wr := [(o0, .inr (0, [.ref o1, .ref o2, .ref o3, .ref o4, .int (nI ru), .int yg, .int ch, .int (nI sp), .int (nI dl), .int mk, .ref o5, .ref o6, .ref o7, .int (nI rr), .int (nI yr), .int (nI sd), .int (nI rn)])), (z3, .inl (cI, 6, .inl rp)), (z4, .inl (cI, 6, .inl di)), (o2, .inl (cI, 6, .inl lo)), (o3, .inl (cI, 6, .inl hi)), (q0, .inr (2, [.ref qg])), (qg, .inl (cG, 4, .inr (.inr (.inr (.inr (pf_gf qr)))))), (qr 0, .inl (cJ, 320, .inr (.inl ((pf_Mb wt rp sp dl se y lv M) 0)))), (qr 1, .inl (cJ, 320, .inr (.inl ((pf_Mb wt rp sp dl se y lv M) 1)))), (qr 2, .inl (cJ, 320, .inr (.inl ((pf_Mb wt rp sp dl se y lv M) 2)))), (qr 3, .inl (cJ, 320, .inr (.inl ((pf_Mb wt rp sp dl se y lv M) 3))))]) (ws2 := [(o0, .inr (0, [.ref o1, .ref o2, .ref o3, .ref o4, .int (nI ru), .int yg, .int ch, .int (nI sp), .int (nI dl), .int mk, .ref o5, .ref o6, .ref o7, .int (nI rr), .int (nI yr), .int (nI sd), .int (nI rn)])), (o1, .inr (1, [.ref z1, .ref z2, .ref z3, .ref z4, .ref z5])), (z2, .inl (cI, 6, .inl wt)), (z3, .inl (cI, 6, .inl rp)), (z4, .inl (cI, 6, .inl di)), (z5, .inl (cJ, 6, .inr (.inl lv))), (o2, .inl (cI, 6, .inl lo)), (o3, .inl (cI, 6, .inl hi)), (q0, .inr (2, [.ref qg])), (qg, .inl (cG, 4, .inr (.inr (.inr (.inr (pf_gf qr)))))), (qr 0, .inl (cJ, 320, .inr (.inl ((pf_Mb wt rp sp dl se y lv M) 0)))), (qr 1, .inl (cJ, 320, .inr (.inl ((pf_Mb wt rp sp dl se y lv M) 1)))), (qr 2, .inl (cJ, 320, .inr (.inl ((pf_Mb wt rp sp dl se y lv M) 2)))), (qr 3, .inl (cJ, 320, .inr (.inl ((pf_Mb wt rp sp dl se y lv M) 3))))]) ⟨hx, hb, hml, hown, hts⟩ (c_Stock_totalMass l dC dI cI cJ cG o1 z1 z2 z3 z4 z5 wt lv ) (cwV 0 hts (qg_V mq_2_76 mq_2_77 mq_2_78 mq_1_2 mq_2_79) rfl rfl rfl (by decide +kernel) ⟨Nat.le_of_ble_eq_true rfl, Nat.le_of_ble_eq_true rfl⟩) hK hP hD hS hA (ci := 1) (q0 := 1) rfl rfl [1, 2, 5] [0, 3, 4, 6, 7, 8, 9, 10, 11, 12, 13] [0, 11, 12, 1, 2, 13, 3, 4, 5, 6, 7, 8, 9, 10] rfl rfl (by decide) (by decide) rfl (by decide) rfl hl.1 rfl (Nat.le_of_ble_eq_true rfl) dO_runYear_39 ⟨Nat.le_of_ble_eq_true rfl, Nat.le_of_ble_eq_true rfl⟩ (fun H locs hP hD hS => ?_)
  refine lv_lstore (lv' := [(7, .long (pf_total lv wt 6)), (5, .long (pf_sn wt rp sp dl se y lv M)), (0, .ref o0), (1, .ref q0), (2, .int rt), (3, .int (nI se)), (4, .int (nI y))]) hx hb dO_runYear_42 hl (by decide) rfl (fun ls hl => ?_)
  refine lv_lload hx hb dO_runYear_44 (lv_at hl 0 rfl) ?_
  refine lv_aload_n hx hb dO_runYear_46 rfl (lv_at hl 2 rfl) ?_
  refine lv_lload hx hb dO_runYear_47 (lv_at hl 1 rfl) ?_
  refine lv_iload_n hx hb dO_runYear_49 rfl (lv_at hl 4 rfl) ?_
  refine qr_callVl (As := [.long (pf_sn wt rp sp dl se y lv M), .int rt]) (rest := [.long (pf_total lv wt 6)]) (wr := [(o1, .inr (1, [.ref z1, .ref z2, .ref z3, .ref z4, .ref z5])), (z2, .inl (cI, 6, .inl wt)), (z3, .inl (cI, 6, .inl rp)), (z4, .inl (cI, 6, .inl di)), (z5, .inl (cJ, 6, .inr (.inl lv))), (q0, .inr (2, [.ref qg])), (qg, .inl (cG, 4, .inr (.inr (.inr (.inr (pf_gf qr)))))), (qr 0, .inl (cJ, 320, .inr (.inl ((pf_Mb wt rp sp dl se y lv M) 0)))), (qr 1, .inl (cJ, 320, .inr (.inl ((pf_Mb wt rp sp dl se y lv M) 1)))), (qr 2, .inl (cJ, 320, .inr (.inl ((pf_Mb wt rp sp dl se y lv M) 2)))), (qr 3, .inl (cJ, 320, .inr (.inl ((pf_Mb wt rp sp dl se y lv M) 3))))]) (ws2 := [(o0, .inr (0, [.ref o1, .ref o2, .ref o3, .ref o4, .int (nI ru), .int yg, .int ch, .int (nI sp), .int (nI dl), .int mk, .ref o5, .ref o6, .ref o7, .int (nI rr), .int (nI yr), .int (nI sd), .int (nI rn)])), (o1, .inr (1, [.ref z1, .ref z2, .ref z3, .ref z4, .ref z5])), (z2, .inl (cI, 6, .inl wt)), (z3, .inl (cI, 6, .inl rp)), (z4, .inl (cI, 6, .inl di)), (z5, .inl (cJ, 6, .inr (.inl lv))), (o2, .inl (cI, 6, .inl lo)), (o3, .inl (cI, 6, .inl hi)), (q0, .inr (2, [.ref qg])), (qg, .inl (cG, 4, .inr (.inr (.inr (.inr (pf_gf qr)))))), (qr 0, .inl (cJ, 320, .inr (.inl ((pf_Mb wt rp sp dl se y lv M) 0)))), (qr 1, .inl (cJ, 320, .inr (.inl ((pf_Mb wt rp sp dl se y lv M) 1)))), (qr 2, .inl (cJ, 320, .inr (.inl ((pf_Mb wt rp sp dl se y lv M) 2)))), (qr 3, .inl (cJ, 320, .inr (.inl ((pf_Mb wt rp sp dl se y lv M) 3))))]) ⟨hx, hb, hml, hown, hts⟩ (c_rateAllowed l dC dI cI cJ cG o0 o1 o2 o3 o4 o5 o6 o7 ru sp dl rr yr sd rn yg ch mk lo hi (pf_sn wt rp sp dl se y lv M) rt (by omega)) (cwV 2 hts (qg_V mq_2_80 mq_2_82 mq_p_4 mq_1_1 mq_2_83) rfl rfl rfl (by decide +kernel) ⟨Nat.le_of_ble_eq_true rfl, Nat.le_of_ble_eq_true rfl⟩) hK hP hD hS hA (ci := 0) (q0 := 0) rfl rfl [0, 6, 7] [1, 2, 3, 4, 5, 8, 9, 10, 11, 12, 13] [11, 0, 1, 2, 3, 4, 12, 13, 5, 6, 7, 8, 9, 10] rfl rfl (by decide) (by decide) rfl (by decide) rfl hl.1 rfl (Nat.le_of_ble_eq_true rfl) dO_runYear_50 ⟨Nat.le_of_ble_eq_true rfl, Nat.le_of_ble_eq_true rfl⟩ (fun H locs hP hD hS => ?_)
  refine lv_lmul hx hb dO_runYear_53 ?_
  refine lv_ldc2 (v := 1000) hx hb hown (hts _ mq_2_84) dO_runYear_54 ?_
  refine lv_ldiv hx hb dO_runYear_57 (by decide) ?_
  refine lv_lstore (lv' := [(9, .long (((pf_total lv wt 6) * (pf_rate (lo rr).toInt64 (hi rr).toInt64 (pf_sn wt rp sp dl se y lv M) rt)) / 1000)), (7, .long (pf_total lv wt 6)), (5, .long (pf_sn wt rp sp dl se y lv M)), (0, .ref o0), (1, .ref q0), (2, .int rt), (3, .int (nI se)), (4, .int (nI y))]) hx hb dO_runYear_58 hl (by decide) rfl (fun ls hl => ?_)
  have hl : lv_has ls 13 [(9, .long (pf_wa wt rp (lo rr).toInt64 (hi rr).toInt64 rt sp dl se y lv M)), (7, .long (pf_total lv wt 6)), (5, .long (pf_sn wt rp sp dl se y lv M)), (0, .ref o0), (1, .ref q0), (2, .int rt), (3, .int (nI se)), (4, .int (nI y))] := hl
  refine lv_aload_n hx hb dO_runYear_60 rfl (lv_at hl 3 rfl) ?_
  refine lv_aload_n hx hb dO_runYear_61 rfl (lv_at hl 4 rfl) ?_
  refine lv_lload hx hb dO_runYear_62 (lv_at hl 0 rfl) ?_
  refine lv_iload_n hx hb dO_runYear_64 rfl (lv_at hl 6 rfl) ?_
  refine lv_iload hx hb dO_runYear_65 (lv_at hl 7 rfl) ?_
  refine qr_callVl (As := [.ref q0, .long (pf_wa wt rp (lo rr).toInt64 (hi rr).toInt64 rt sp dl se y lv M), .int (nI se), .int (nI y)]) (rest := []) (wr := [(o1, .inr (1, [.ref z1, .ref z2, .ref z3, .ref z4, .ref z5])), (z2, .inl (cI, 6, .inl wt)), (z3, .inl (cI, 6, .inl rp)), (z4, .inl (cI, 6, .inl di)), (z5, .inl (cJ, 6, .inr (.inl lv))), (o2, .inl (cI, 6, .inl lo)), (o3, .inl (cI, 6, .inl hi))]) (ws2 := [(o0, .inr (0, [.ref o1, .ref o2, .ref o3, .ref o4, .int (nI ru), .int yg, .int ch, .int (nI sp), .int (nI dl), .int mk, .ref o5, .ref o6, .ref o7, .int (nI rr), .int (nI yr), .int (nI sd), .int (nI rn)])), (o1, .inr (1, [.ref z1, .ref z2, .ref z3, .ref z4, .ref z5])), (z2, .inl (cI, 6, .inl wt)), (z3, .inl (cI, 6, .inl rp)), (z4, .inl (cI, 6, .inl di)), (z5, .inl (cJ, 6, .inr (.inl lv))), (o2, .inl (cI, 6, .inl lo)), (o3, .inl (cI, 6, .inl hi)), (q0, .inr (2, [.ref qg])), (qg, .inl (cG, 4, .inr (.inr (.inr (.inr (pf_gf qr)))))), (qr 0, .inl (cJ, 320, .inr (.inl ((pf_Mb wt rp sp dl se y lv M) 0)))), (qr 1, .inl (cJ, 320, .inr (.inl ((pf_Mb wt rp sp dl se y lv M) 1)))), (qr 2, .inl (cJ, 320, .inr (.inl ((pf_Mb wt rp sp dl se y lv M) 2)))), (qr 3, .inl (cJ, 320, .inr (.inl ((pf_Mb wt rp sp dl se y lv M) 3))))]) ⟨hx, hb, hml, hown, hts⟩ (c_limitChange l dC dI cI cJ cG o0 o1 o2 o3 o4 o5 o6 o7 ru sp dl rr yr sd rn yg ch mk q0 qg qr (pf_Mb wt rp sp dl se y lv M) (pf_wa wt rp (lo rr).toInt64 (hi rr).toInt64 rt sp dl se y lv M) se y (by omega) (by omega)) (cwV 4 hts (qg_V mq_2_85 mq_2_87 mq_p_5 mq_1_1 mq_2_88) rfl rfl rfl (by decide +kernel) ⟨Nat.le_of_ble_eq_true rfl, Nat.le_of_ble_eq_true rfl⟩) hK hP hD hS hA (ci := 0) (q0 := 0) rfl rfl [0, 8, 9, 10, 11, 12, 13] [1, 2, 3, 4, 5, 6, 7] [7, 0, 1, 2, 3, 4, 5, 6, 8, 9, 10, 11, 12, 13] rfl rfl (by decide) (by decide) rfl (by decide) rfl hl.1 rfl (Nat.le_of_ble_eq_true rfl) dO_runYear_67 ⟨Nat.le_of_ble_eq_true rfl, Nat.le_of_ble_eq_true rfl⟩ (fun H locs hP hD hS => ?_)
  refine lv_lload hx hb dO_runYear_70 (lv_at hl 1 rfl) ?_
  refine va_mmin_long hx hb (by rw [hml]; exact hl.1.symm) hown (hts _ mq_2_89) (hts _ mq_2_90) (hts _ mq_1_11) (hts _ mq_2_91) (Nat.le_of_ble_eq_true rfl) (by exact Nat.le_of_ble_eq_true rfl) (by exact Nat.le_of_ble_eq_true rfl) (by exact Nat.le_of_ble_eq_true rfl) dO_runYear_72 ?_
  refine lv_lstore (lv' := [(11, .long (pf_min (pf_lim ((pf_Mb wt rp sp dl se y lv M) 2) (pf_wa wt rp (lo rr).toInt64 (hi rr).toInt64 rt sp dl se y lv M) se y ch) (pf_total lv wt 6))), (9, .long (pf_wa wt rp (lo rr).toInt64 (hi rr).toInt64 rt sp dl se y lv M)), (7, .long (pf_total lv wt 6)), (5, .long (pf_sn wt rp sp dl se y lv M)), (0, .ref o0), (1, .ref q0), (2, .int rt), (3, .int (nI se)), (4, .int (nI y))]) hx hb dO_runYear_75 hl (by decide) rfl (fun ls hl => ?_)
  have hl : lv_has ls 13 [(11, .long (pf_al wt rp (lo rr).toInt64 (hi rr).toInt64 rt sp dl ch se y lv M)), (9, .long (pf_wa wt rp (lo rr).toInt64 (hi rr).toInt64 rt sp dl se y lv M)), (7, .long (pf_total lv wt 6)), (5, .long (pf_sn wt rp sp dl se y lv M)), (0, .ref o0), (1, .ref q0), (2, .int rt), (3, .int (nI se)), (4, .int (nI y))] := hl
  refine lv_aload_n hx hb dO_runYear_77 rfl (lv_at hl 5 rfl) ?_
  refine lv_iconst (v := 2) hx hb dO_runYear_78 (by decide) ?_
  refine lv_iload_n hx hb dO_runYear_79 rfl (lv_at hl 7 rfl) ?_
  refine lv_iload hx hb dO_runYear_80 (lv_at hl 8 rfl) ?_
  refine lv_lload hx hb dO_runYear_82 (lv_at hl 0 rfl) ?_
  refine qr_callVv (As := [.int 2, .int (nI se), .int (nI y), .long (pf_al wt rp (lo rr).toInt64 (hi rr).toInt64 rt sp dl ch se y lv M)]) (rest := []) (wr := [(o0, .inr (0, [.ref o1, .ref o2, .ref o3, .ref o4, .int (nI ru), .int yg, .int ch, .int (nI sp), .int (nI dl), .int mk, .ref o5, .ref o6, .ref o7, .int (nI rr), .int (nI yr), .int (nI sd), .int (nI rn)])), (o1, .inr (1, [.ref z1, .ref z2, .ref z3, .ref z4, .ref z5])), (z2, .inl (cI, 6, .inl wt)), (z3, .inl (cI, 6, .inl rp)), (z4, .inl (cI, 6, .inl di)), (z5, .inl (cJ, 6, .inr (.inl lv))), (o2, .inl (cI, 6, .inl lo)), (o3, .inl (cI, 6, .inl hi))]) (ws2 := [(o0, .inr (0, [.ref o1, .ref o2, .ref o3, .ref o4, .int (nI ru), .int yg, .int ch, .int (nI sp), .int (nI dl), .int mk, .ref o5, .ref o6, .ref o7, .int (nI rr), .int (nI yr), .int (nI sd), .int (nI rn)])), (o1, .inr (1, [.ref z1, .ref z2, .ref z3, .ref z4, .ref z5])), (z2, .inl (cI, 6, .inl wt)), (z3, .inl (cI, 6, .inl rp)), (z4, .inl (cI, 6, .inl di)), (z5, .inl (cJ, 6, .inr (.inl lv))), (o2, .inl (cI, 6, .inl lo)), (o3, .inl (cI, 6, .inl hi)), (q0, .inr (2, [.ref qg])), (qg, .inl (cG, 4, .inr (.inr (.inr (.inr (pf_gf qr)))))), (qr 0, .inl (cJ, 320, .inr (.inl (pf_put (pf_Mb wt rp sp dl se y lv M) 2 (pf_ix se y) (pf_al wt rp (lo rr).toInt64 (hi rr).toInt64 rt sp dl ch se y lv M) 0)))), (qr 1, .inl (cJ, 320, .inr (.inl (pf_put (pf_Mb wt rp sp dl se y lv M) 2 (pf_ix se y) (pf_al wt rp (lo rr).toInt64 (hi rr).toInt64 rt sp dl ch se y lv M) 1)))), (qr 2, .inl (cJ, 320, .inr (.inl (pf_put (pf_Mb wt rp sp dl se y lv M) 2 (pf_ix se y) (pf_al wt rp (lo rr).toInt64 (hi rr).toInt64 rt sp dl ch se y lv M) 2)))), (qr 3, .inl (cJ, 320, .inr (.inl (pf_put (pf_Mb wt rp sp dl se y lv M) 2 (pf_ix se y) (pf_al wt rp (lo rr).toInt64 (hi rr).toInt64 rt sp dl ch se y lv M) 3))))]) ⟨hx, hb, hml, hown, hts⟩ (c_Story_put l dC dI cI cJ cG q0 qg qr (pf_Mb wt rp sp dl se y lv M) 2 se y (pf_al wt rp (lo rr).toInt64 (hi rr).toInt64 rt sp dl ch se y lv M) (by omega) (by omega) (by omega) (by omega)) (cwV 4 hts (qg_V mq_2_59 mq_2_60 mq_2_61 mq_1_3 mq_2_62) rfl rfl rfl (by decide +kernel) ⟨Nat.le_of_ble_eq_true rfl, Nat.le_of_ble_eq_true rfl⟩) hK hP hD hS hA (ci := 2) (q0 := 8) rfl rfl [8, 9, 10, 11, 12, 13] [0, 1, 2, 3, 4, 5, 6, 7] [0, 1, 2, 3, 4, 5, 6, 7, 8, 9, 10, 11, 12, 13] rfl rfl (by decide) (by decide) rfl (by decide) rfl hl.1 rfl (Nat.le_of_ble_eq_true rfl) dO_runYear_84 ⟨Nat.le_of_ble_eq_true rfl, Nat.le_of_ble_eq_true rfl⟩ (fun H locs hP hD hS => ?_)
  have hP : va_P (dC, dI) qCl [(o0, .inr (0, [.ref o1, .ref o2, .ref o3, .ref o4, .int (nI ru), .int yg, .int ch, .int (nI sp), .int (nI dl), .int mk, .ref o5, .ref o6, .ref o7, .int (nI rr), .int (nI yr), .int (nI sd), .int (nI rn)])), (o1, .inr (1, [.ref z1, .ref z2, .ref z3, .ref z4, .ref z5])), (z2, .inl (cI, 6, .inl wt)), (z3, .inl (cI, 6, .inl rp)), (z4, .inl (cI, 6, .inl di)), (z5, .inl (cJ, 6, .inr (.inl lv))), (o2, .inl (cI, 6, .inl lo)), (o3, .inl (cI, 6, .inl hi)), (q0, .inr (2, [.ref qg])), (qg, .inl (cG, 4, .inr (.inr (.inr (.inr (pf_gf qr)))))), (qr 0, .inl (cJ, 320, .inr (.inl ((pf_Mc wt rp (lo rr).toInt64 (hi rr).toInt64 rt sp dl ch se y lv M) 0)))), (qr 1, .inl (cJ, 320, .inr (.inl ((pf_Mc wt rp (lo rr).toInt64 (hi rr).toInt64 rt sp dl ch se y lv M) 1)))), (qr 2, .inl (cJ, 320, .inr (.inl ((pf_Mc wt rp (lo rr).toInt64 (hi rr).toInt64 rt sp dl ch se y lv M) 2)))), (qr 3, .inl (cJ, 320, .inr (.inl ((pf_Mc wt rp (lo rr).toInt64 (hi rr).toInt64 rt sp dl ch se y lv M) 3))))] H := hP
  have hD : va_D A [(o0, .inr (0, [.ref o1, .ref o2, .ref o3, .ref o4, .int (nI ru), .int yg, .int ch, .int (nI sp), .int (nI dl), .int mk, .ref o5, .ref o6, .ref o7, .int (nI rr), .int (nI yr), .int (nI sd), .int (nI rn)])), (o1, .inr (1, [.ref z1, .ref z2, .ref z3, .ref z4, .ref z5])), (z2, .inl (cI, 6, .inl wt)), (z3, .inl (cI, 6, .inl rp)), (z4, .inl (cI, 6, .inl di)), (z5, .inl (cJ, 6, .inr (.inl lv))), (o2, .inl (cI, 6, .inl lo)), (o3, .inl (cI, 6, .inl hi)), (q0, .inr (2, [.ref qg])), (qg, .inl (cG, 4, .inr (.inr (.inr (.inr (pf_gf qr)))))), (qr 0, .inl (cJ, 320, .inr (.inl ((pf_Mc wt rp (lo rr).toInt64 (hi rr).toInt64 rt sp dl ch se y lv M) 0)))), (qr 1, .inl (cJ, 320, .inr (.inl ((pf_Mc wt rp (lo rr).toInt64 (hi rr).toInt64 rt sp dl ch se y lv M) 1)))), (qr 2, .inl (cJ, 320, .inr (.inl ((pf_Mc wt rp (lo rr).toInt64 (hi rr).toInt64 rt sp dl ch se y lv M) 2)))), (qr 3, .inl (cJ, 320, .inr (.inl ((pf_Mc wt rp (lo rr).toInt64 (hi rr).toInt64 rt sp dl ch se y lv M) 3))))] := hD
  refine lv_aload_n hx hb dO_runYear_87 rfl (lv_at hl 5 rfl) ?_
  refine lv_iconst (v := 1) hx hb dO_runYear_88 (by decide) ?_
  refine lv_iload_n hx hb dO_runYear_89 rfl (lv_at hl 7 rfl) ?_
  refine lv_iload hx hb dO_runYear_90 (lv_at hl 8 rfl) ?_
  refine lv_aload_n hx hb dO_runYear_92 rfl (lv_at hl 4 rfl) ?_
  refine va_get (D := (dC, dI)) (ci := 0) (v := .ref o1) (C := "OutlookOdds") (T := TO) (N := 17) hx hb hts inO hown hK hP 0 rfl rfl 0 (by decide) (hts _ mq_1_56) (fun _ h9 => h9) rfl dO_runYear_93 ?_
  refine lv_lload hx hb dO_runYear_96 (lv_at hl 0 rfl) ?_
  refine lv_lload hx hb dO_runYear_98 (lv_at hl 2 rfl) ?_
  refine qr_callVl (As := [.long (pf_al wt rp (lo rr).toInt64 (hi rr).toInt64 rt sp dl ch se y lv M), .long (pf_total lv wt 6)]) (rest := [.int (nI y), .int (nI se), .int 1, .ref q0]) (wr := [(o0, .inr (0, [.ref o1, .ref o2, .ref o3, .ref o4, .int (nI ru), .int yg, .int ch, .int (nI sp), .int (nI dl), .int mk, .ref o5, .ref o6, .ref o7, .int (nI rr), .int (nI yr), .int (nI sd), .int (nI rn)])), (z3, .inl (cI, 6, .inl rp)), (z4, .inl (cI, 6, .inl di)), (o2, .inl (cI, 6, .inl lo)), (o3, .inl (cI, 6, .inl hi)), (q0, .inr (2, [.ref qg])), (qg, .inl (cG, 4, .inr (.inr (.inr (.inr (pf_gf qr)))))), (qr 0, .inl (cJ, 320, .inr (.inl ((pf_Mc wt rp (lo rr).toInt64 (hi rr).toInt64 rt sp dl ch se y lv M) 0)))), (qr 1, .inl (cJ, 320, .inr (.inl ((pf_Mc wt rp (lo rr).toInt64 (hi rr).toInt64 rt sp dl ch se y lv M) 1)))), (qr 2, .inl (cJ, 320, .inr (.inl ((pf_Mc wt rp (lo rr).toInt64 (hi rr).toInt64 rt sp dl ch se y lv M) 2)))), (qr 3, .inl (cJ, 320, .inr (.inl ((pf_Mc wt rp (lo rr).toInt64 (hi rr).toInt64 rt sp dl ch se y lv M) 3))))]) (ws2 := [(o0, .inr (0, [.ref o1, .ref o2, .ref o3, .ref o4, .int (nI ru), .int yg, .int ch, .int (nI sp), .int (nI dl), .int mk, .ref o5, .ref o6, .ref o7, .int (nI rr), .int (nI yr), .int (nI sd), .int (nI rn)])), (o1, .inr (1, [.ref z1, .ref z2, .ref z3, .ref z4, .ref z5])), (z2, .inl (cI, 6, .inl wt)), (z3, .inl (cI, 6, .inl rp)), (z4, .inl (cI, 6, .inl di)), (z5, .inl (cJ, 6, .inr (.inl (pf_take lv (pf_al wt rp (lo rr).toInt64 (hi rr).toInt64 rt sp dl ch se y lv M) (pf_total lv wt 6))))), (o2, .inl (cI, 6, .inl lo)), (o3, .inl (cI, 6, .inl hi)), (q0, .inr (2, [.ref qg])), (qg, .inl (cG, 4, .inr (.inr (.inr (.inr (pf_gf qr)))))), (qr 0, .inl (cJ, 320, .inr (.inl ((pf_Mc wt rp (lo rr).toInt64 (hi rr).toInt64 rt sp dl ch se y lv M) 0)))), (qr 1, .inl (cJ, 320, .inr (.inl ((pf_Mc wt rp (lo rr).toInt64 (hi rr).toInt64 rt sp dl ch se y lv M) 1)))), (qr 2, .inl (cJ, 320, .inr (.inl ((pf_Mc wt rp (lo rr).toInt64 (hi rr).toInt64 rt sp dl ch se y lv M) 2)))), (qr 3, .inl (cJ, 320, .inr (.inl ((pf_Mc wt rp (lo rr).toInt64 (hi rr).toInt64 rt sp dl ch se y lv M) 3))))]) ⟨hx, hb, hml, hown, hts⟩ (c_Stock_takeOut l dC dI cI cJ cG o1 z1 z2 z3 z4 z5 wt lv (pf_al wt rp (lo rr).toInt64 (hi rr).toInt64 rt sp dl ch se y lv M) (pf_total lv wt 6) ) (cwV 2 hts (qg_V mq_2_95 mq_2_96 mq_2_97 mq_1_2 mq_2_98) rfl rfl rfl (by decide +kernel) ⟨Nat.le_of_ble_eq_true rfl, Nat.le_of_ble_eq_true rfl⟩) hK hP hD hS hA (ci := 1) (q0 := 1) rfl rfl [1, 2, 5] [0, 3, 4, 6, 7, 8, 9, 10, 11, 12, 13] [0, 11, 12, 1, 2, 13, 3, 4, 5, 6, 7, 8, 9, 10] rfl rfl (by decide) (by decide) rfl (by decide) rfl hl.1 rfl (Nat.le_of_ble_eq_true rfl) dO_runYear_100 ⟨Nat.le_of_ble_eq_true rfl, Nat.le_of_ble_eq_true rfl⟩ (fun H locs hP hD hS => ?_)
  refine qr_callVv (As := [.int 1, .int (nI se), .int (nI y), .long (pf_caught lv wt (pf_al wt rp (lo rr).toInt64 (hi rr).toInt64 rt sp dl ch se y lv M) (pf_total lv wt 6))]) (rest := []) (wr := [(o0, .inr (0, [.ref o1, .ref o2, .ref o3, .ref o4, .int (nI ru), .int yg, .int ch, .int (nI sp), .int (nI dl), .int mk, .ref o5, .ref o6, .ref o7, .int (nI rr), .int (nI yr), .int (nI sd), .int (nI rn)])), (o1, .inr (1, [.ref z1, .ref z2, .ref z3, .ref z4, .ref z5])), (z2, .inl (cI, 6, .inl wt)), (z3, .inl (cI, 6, .inl rp)), (z4, .inl (cI, 6, .inl di)), (z5, .inl (cJ, 6, .inr (.inl (pf_take lv (pf_al wt rp (lo rr).toInt64 (hi rr).toInt64 rt sp dl ch se y lv M) (pf_total lv wt 6))))), (o2, .inl (cI, 6, .inl lo)), (o3, .inl (cI, 6, .inl hi))]) (ws2 := [(o0, .inr (0, [.ref o1, .ref o2, .ref o3, .ref o4, .int (nI ru), .int yg, .int ch, .int (nI sp), .int (nI dl), .int mk, .ref o5, .ref o6, .ref o7, .int (nI rr), .int (nI yr), .int (nI sd), .int (nI rn)])), (o1, .inr (1, [.ref z1, .ref z2, .ref z3, .ref z4, .ref z5])), (z2, .inl (cI, 6, .inl wt)), (z3, .inl (cI, 6, .inl rp)), (z4, .inl (cI, 6, .inl di)), (z5, .inl (cJ, 6, .inr (.inl (pf_take lv (pf_al wt rp (lo rr).toInt64 (hi rr).toInt64 rt sp dl ch se y lv M) (pf_total lv wt 6))))), (o2, .inl (cI, 6, .inl lo)), (o3, .inl (cI, 6, .inl hi)), (q0, .inr (2, [.ref qg])), (qg, .inl (cG, 4, .inr (.inr (.inr (.inr (pf_gf qr)))))), (qr 0, .inl (cJ, 320, .inr (.inl (pf_put (pf_Mc wt rp (lo rr).toInt64 (hi rr).toInt64 rt sp dl ch se y lv M) 1 (pf_ix se y) (pf_caught lv wt (pf_al wt rp (lo rr).toInt64 (hi rr).toInt64 rt sp dl ch se y lv M) (pf_total lv wt 6)) 0)))), (qr 1, .inl (cJ, 320, .inr (.inl (pf_put (pf_Mc wt rp (lo rr).toInt64 (hi rr).toInt64 rt sp dl ch se y lv M) 1 (pf_ix se y) (pf_caught lv wt (pf_al wt rp (lo rr).toInt64 (hi rr).toInt64 rt sp dl ch se y lv M) (pf_total lv wt 6)) 1)))), (qr 2, .inl (cJ, 320, .inr (.inl (pf_put (pf_Mc wt rp (lo rr).toInt64 (hi rr).toInt64 rt sp dl ch se y lv M) 1 (pf_ix se y) (pf_caught lv wt (pf_al wt rp (lo rr).toInt64 (hi rr).toInt64 rt sp dl ch se y lv M) (pf_total lv wt 6)) 2)))), (qr 3, .inl (cJ, 320, .inr (.inl (pf_put (pf_Mc wt rp (lo rr).toInt64 (hi rr).toInt64 rt sp dl ch se y lv M) 1 (pf_ix se y) (pf_caught lv wt (pf_al wt rp (lo rr).toInt64 (hi rr).toInt64 rt sp dl ch se y lv M) (pf_total lv wt 6)) 3))))]) ⟨hx, hb, hml, hown, hts⟩ (c_Story_put l dC dI cI cJ cG q0 qg qr (pf_Mc wt rp (lo rr).toInt64 (hi rr).toInt64 rt sp dl ch se y lv M) 1 se y (pf_caught lv wt (pf_al wt rp (lo rr).toInt64 (hi rr).toInt64 rt sp dl ch se y lv M) (pf_total lv wt 6)) (by omega) (by omega) (by omega) (by omega)) (cwV 4 hts (qg_V mq_2_59 mq_2_60 mq_2_61 mq_1_3 mq_2_62) rfl rfl rfl (by decide +kernel) ⟨Nat.le_of_ble_eq_true rfl, Nat.le_of_ble_eq_true rfl⟩) hK hP hD hS hA (ci := 2) (q0 := 8) rfl rfl [8, 9, 10, 11, 12, 13] [0, 1, 2, 3, 4, 5, 6, 7] [0, 1, 2, 3, 4, 5, 6, 7, 8, 9, 10, 11, 12, 13] rfl rfl (by decide) (by decide) rfl (by decide) rfl hl.1 rfl (Nat.le_of_ble_eq_true rfl) dO_runYear_103 ⟨Nat.le_of_ble_eq_true rfl, Nat.le_of_ble_eq_true rfl⟩ (fun H locs hP hD hS => ?_)
  have hP : va_P (dC, dI) qCl [(o0, .inr (0, [.ref o1, .ref o2, .ref o3, .ref o4, .int (nI ru), .int yg, .int ch, .int (nI sp), .int (nI dl), .int mk, .ref o5, .ref o6, .ref o7, .int (nI rr), .int (nI yr), .int (nI sd), .int (nI rn)])), (o1, .inr (1, [.ref z1, .ref z2, .ref z3, .ref z4, .ref z5])), (z2, .inl (cI, 6, .inl wt)), (z3, .inl (cI, 6, .inl rp)), (z4, .inl (cI, 6, .inl di)), (z5, .inl (cJ, 6, .inr (.inl (pf_take lv (pf_al wt rp (lo rr).toInt64 (hi rr).toInt64 rt sp dl ch se y lv M) (pf_total lv wt 6))))), (o2, .inl (cI, 6, .inl lo)), (o3, .inl (cI, 6, .inl hi)), (q0, .inr (2, [.ref qg])), (qg, .inl (cG, 4, .inr (.inr (.inr (.inr (pf_gf qr)))))), (qr 0, .inl (cJ, 320, .inr (.inl ((pf_yM wt rp (lo rr).toInt64 (hi rr).toInt64 rt sp dl ch se y lv M) 0)))), (qr 1, .inl (cJ, 320, .inr (.inl ((pf_yM wt rp (lo rr).toInt64 (hi rr).toInt64 rt sp dl ch se y lv M) 1)))), (qr 2, .inl (cJ, 320, .inr (.inl ((pf_yM wt rp (lo rr).toInt64 (hi rr).toInt64 rt sp dl ch se y lv M) 2)))), (qr 3, .inl (cJ, 320, .inr (.inl ((pf_yM wt rp (lo rr).toInt64 (hi rr).toInt64 rt sp dl ch se y lv M) 3))))] H := hP
  have hD : va_D A [(o0, .inr (0, [.ref o1, .ref o2, .ref o3, .ref o4, .int (nI ru), .int yg, .int ch, .int (nI sp), .int (nI dl), .int mk, .ref o5, .ref o6, .ref o7, .int (nI rr), .int (nI yr), .int (nI sd), .int (nI rn)])), (o1, .inr (1, [.ref z1, .ref z2, .ref z3, .ref z4, .ref z5])), (z2, .inl (cI, 6, .inl wt)), (z3, .inl (cI, 6, .inl rp)), (z4, .inl (cI, 6, .inl di)), (z5, .inl (cJ, 6, .inr (.inl (pf_take lv (pf_al wt rp (lo rr).toInt64 (hi rr).toInt64 rt sp dl ch se y lv M) (pf_total lv wt 6))))), (o2, .inl (cI, 6, .inl lo)), (o3, .inl (cI, 6, .inl hi)), (q0, .inr (2, [.ref qg])), (qg, .inl (cG, 4, .inr (.inr (.inr (.inr (pf_gf qr)))))), (qr 0, .inl (cJ, 320, .inr (.inl ((pf_yM wt rp (lo rr).toInt64 (hi rr).toInt64 rt sp dl ch se y lv M) 0)))), (qr 1, .inl (cJ, 320, .inr (.inl ((pf_yM wt rp (lo rr).toInt64 (hi rr).toInt64 rt sp dl ch se y lv M) 1)))), (qr 2, .inl (cJ, 320, .inr (.inl ((pf_yM wt rp (lo rr).toInt64 (hi rr).toInt64 rt sp dl ch se y lv M) 2)))), (qr 3, .inl (cJ, 320, .inr (.inl ((pf_yM wt rp (lo rr).toInt64 (hi rr).toInt64 rt sp dl ch se y lv M) 3))))] := hD
  refine lv_aload_n hx hb dO_runYear_106 rfl (lv_at hl 4 rfl) ?_
  refine va_get (D := (dC, dI)) (ci := 0) (v := .ref o1) (C := "OutlookOdds") (T := TO) (N := 17) hx hb hts inO hown hK hP 0 rfl rfl 0 (by decide) (hts _ mq_1_56) (fun _ h9 => h9) rfl dO_runYear_107 ?_
  refine qr_callVv (As := []) (rest := []) (wr := [(o0, .inr (0, [.ref o1, .ref o2, .ref o3, .ref o4, .int (nI ru), .int yg, .int ch, .int (nI sp), .int (nI dl), .int mk, .ref o5, .ref o6, .ref o7, .int (nI rr), .int (nI yr), .int (nI sd), .int (nI rn)])), (z2, .inl (cI, 6, .inl wt)), (z3, .inl (cI, 6, .inl rp)), (o2, .inl (cI, 6, .inl lo)), (o3, .inl (cI, 6, .inl hi)), (q0, .inr (2, [.ref qg])), (qg, .inl (cG, 4, .inr (.inr (.inr (.inr (pf_gf qr)))))), (qr 0, .inl (cJ, 320, .inr (.inl ((pf_yM wt rp (lo rr).toInt64 (hi rr).toInt64 rt sp dl ch se y lv M) 0)))), (qr 1, .inl (cJ, 320, .inr (.inl ((pf_yM wt rp (lo rr).toInt64 (hi rr).toInt64 rt sp dl ch se y lv M) 1)))), (qr 2, .inl (cJ, 320, .inr (.inl ((pf_yM wt rp (lo rr).toInt64 (hi rr).toInt64 rt sp dl ch se y lv M) 2)))), (qr 3, .inl (cJ, 320, .inr (.inl ((pf_yM wt rp (lo rr).toInt64 (hi rr).toInt64 rt sp dl ch se y lv M) 3))))]) (ws2 := [(o0, .inr (0, [.ref o1, .ref o2, .ref o3, .ref o4, .int (nI ru), .int yg, .int ch, .int (nI sp), .int (nI dl), .int mk, .ref o5, .ref o6, .ref o7, .int (nI rr), .int (nI yr), .int (nI sd), .int (nI rn)])), (o1, .inr (1, [.ref z1, .ref z2, .ref z3, .ref z4, .ref z5])), (z2, .inl (cI, 6, .inl wt)), (z3, .inl (cI, 6, .inl rp)), (z4, .inl (cI, 6, .inl di)), (z5, .inl (cJ, 6, .inr (.inl (pf_dead (pf_take lv (pf_al wt rp (lo rr).toInt64 (hi rr).toInt64 rt sp dl ch se y lv M) (pf_total lv wt 6)) di 6)))), (o2, .inl (cI, 6, .inl lo)), (o3, .inl (cI, 6, .inl hi)), (q0, .inr (2, [.ref qg])), (qg, .inl (cG, 4, .inr (.inr (.inr (.inr (pf_gf qr)))))), (qr 0, .inl (cJ, 320, .inr (.inl ((pf_yM wt rp (lo rr).toInt64 (hi rr).toInt64 rt sp dl ch se y lv M) 0)))), (qr 1, .inl (cJ, 320, .inr (.inl ((pf_yM wt rp (lo rr).toInt64 (hi rr).toInt64 rt sp dl ch se y lv M) 1)))), (qr 2, .inl (cJ, 320, .inr (.inl ((pf_yM wt rp (lo rr).toInt64 (hi rr).toInt64 rt sp dl ch se y lv M) 2)))), (qr 3, .inl (cJ, 320, .inr (.inl ((pf_yM wt rp (lo rr).toInt64 (hi rr).toInt64 rt sp dl ch se y lv M) 3))))]) ⟨hx, hb, hml, hown, hts⟩ (c_Stock_loseDead l dC dI cI cJ cG o1 z1 z2 z3 z4 z5 di (pf_take lv (pf_al wt rp (lo rr).toInt64 (hi rr).toInt64 rt sp dl ch se y lv M) (pf_total lv wt 6)) ) (cwV 0 hts (qg_V mq_2_99 mq_2_100 mq_2_101 mq_1_2 mq_2_102) rfl rfl rfl (by decide +kernel) ⟨Nat.le_of_ble_eq_true rfl, Nat.le_of_ble_eq_true rfl⟩) hK hP hD hS hA (ci := 1) (q0 := 1) rfl rfl [1, 4, 5] [0, 2, 3, 6, 7, 8, 9, 10, 11, 12, 13] [0, 11, 1, 2, 12, 13, 3, 4, 5, 6, 7, 8, 9, 10] rfl rfl (by decide) (by decide) rfl (by decide) rfl hl.1 rfl (Nat.le_of_ble_eq_true rfl) dO_runYear_110 ⟨Nat.le_of_ble_eq_true rfl, Nat.le_of_ble_eq_true rfl⟩ (fun H locs hP hD hS => ?_)
  refine lv_aload_n hx hb dO_runYear_113 rfl (lv_at hl 4 rfl) ?_
  refine va_get (D := (dC, dI)) (ci := 0) (v := .ref o1) (C := "OutlookOdds") (T := TO) (N := 17) hx hb hts inO hown hK hP 0 rfl rfl 0 (by decide) (hts _ mq_1_56) (fun _ h9 => h9) rfl dO_runYear_114 ?_
  refine lv_aload_n hx hb dO_runYear_117 rfl (lv_at hl 4 rfl) ?_
  refine lv_iload_n hx hb dO_runYear_118 rfl (lv_at hl 7 rfl) ?_
  refine lv_iload hx hb dO_runYear_119 (lv_at hl 8 rfl) ?_
  refine qr_callVl (As := [.int (nI se), .int (nI y)]) (rest := [.ref o1]) (wr := [(o1, .inr (1, [.ref z1, .ref z2, .ref z3, .ref z4, .ref z5])), (z2, .inl (cI, 6, .inl wt)), (z3, .inl (cI, 6, .inl rp)), (z4, .inl (cI, 6, .inl di)), (z5, .inl (cJ, 6, .inr (.inl (pf_dead (pf_take lv (pf_al wt rp (lo rr).toInt64 (hi rr).toInt64 rt sp dl ch se y lv M) (pf_total lv wt 6)) di 6)))), (o2, .inl (cI, 6, .inl lo)), (o3, .inl (cI, 6, .inl hi)), (q0, .inr (2, [.ref qg])), (qg, .inl (cG, 4, .inr (.inr (.inr (.inr (pf_gf qr)))))), (qr 0, .inl (cJ, 320, .inr (.inl ((pf_yM wt rp (lo rr).toInt64 (hi rr).toInt64 rt sp dl ch se y lv M) 0)))), (qr 1, .inl (cJ, 320, .inr (.inl ((pf_yM wt rp (lo rr).toInt64 (hi rr).toInt64 rt sp dl ch se y lv M) 1)))), (qr 2, .inl (cJ, 320, .inr (.inl ((pf_yM wt rp (lo rr).toInt64 (hi rr).toInt64 rt sp dl ch se y lv M) 2)))), (qr 3, .inl (cJ, 320, .inr (.inl ((pf_yM wt rp (lo rr).toInt64 (hi rr).toInt64 rt sp dl ch se y lv M) 3))))]) (ws2 := [(o0, .inr (0, [.ref o1, .ref o2, .ref o3, .ref o4, .int (nI ru), .int yg, .int ch, .int (nI sp), .int (nI dl), .int mk, .ref o5, .ref o6, .ref o7, .int (nI rr), .int (nI yr), .int (nI sd), .int (nI rn)])), (o1, .inr (1, [.ref z1, .ref z2, .ref z3, .ref z4, .ref z5])), (z2, .inl (cI, 6, .inl wt)), (z3, .inl (cI, 6, .inl rp)), (z4, .inl (cI, 6, .inl di)), (z5, .inl (cJ, 6, .inr (.inl (pf_dead (pf_take lv (pf_al wt rp (lo rr).toInt64 (hi rr).toInt64 rt sp dl ch se y lv M) (pf_total lv wt 6)) di 6)))), (o2, .inl (cI, 6, .inl lo)), (o3, .inl (cI, 6, .inl hi)), (q0, .inr (2, [.ref qg])), (qg, .inl (cG, 4, .inr (.inr (.inr (.inr (pf_gf qr)))))), (qr 0, .inl (cJ, 320, .inr (.inl ((pf_yM wt rp (lo rr).toInt64 (hi rr).toInt64 rt sp dl ch se y lv M) 0)))), (qr 1, .inl (cJ, 320, .inr (.inl ((pf_yM wt rp (lo rr).toInt64 (hi rr).toInt64 rt sp dl ch se y lv M) 1)))), (qr 2, .inl (cJ, 320, .inr (.inl ((pf_yM wt rp (lo rr).toInt64 (hi rr).toInt64 rt sp dl ch se y lv M) 2)))), (qr 3, .inl (cJ, 320, .inr (.inl ((pf_yM wt rp (lo rr).toInt64 (hi rr).toInt64 rt sp dl ch se y lv M) 3))))]) ⟨hx, hb, hml, hown, hts⟩ (c_youngBorn l dC dI cI cJ cG o0 o1 o2 o3 o4 o5 o6 o7 ru sp dl rr yr sd rn yg ch mk se y ) (cwV 2 hts (qg_V mq_2_103 mq_2_105 mq_p_6 mq_1_1 mq_2_106) rfl rfl rfl (by decide +kernel) ⟨Nat.le_of_ble_eq_true rfl, Nat.le_of_ble_eq_true rfl⟩) hK hP hD hS hA (ci := 0) (q0 := 0) rfl rfl [0] [1, 2, 3, 4, 5, 6, 7, 8, 9, 10, 11, 12, 13] [13, 0, 1, 2, 3, 4, 5, 6, 7, 8, 9, 10, 11, 12] rfl rfl (by decide) (by decide) rfl (by decide) rfl hl.1 rfl (Nat.le_of_ble_eq_true rfl) dO_runYear_121 ⟨Nat.le_of_ble_eq_true rfl, Nat.le_of_ble_eq_true rfl⟩ (fun H locs hP hD hS => ?_)
  refine qr_callVv (As := [.long (pf_born se y yg)]) (rest := []) (wr := [(o0, .inr (0, [.ref o1, .ref o2, .ref o3, .ref o4, .int (nI ru), .int yg, .int ch, .int (nI sp), .int (nI dl), .int mk, .ref o5, .ref o6, .ref o7, .int (nI rr), .int (nI yr), .int (nI sd), .int (nI rn)])), (z2, .inl (cI, 6, .inl wt)), (z3, .inl (cI, 6, .inl rp)), (z4, .inl (cI, 6, .inl di)), (o2, .inl (cI, 6, .inl lo)), (o3, .inl (cI, 6, .inl hi)), (q0, .inr (2, [.ref qg])), (qg, .inl (cG, 4, .inr (.inr (.inr (.inr (pf_gf qr)))))), (qr 0, .inl (cJ, 320, .inr (.inl ((pf_yM wt rp (lo rr).toInt64 (hi rr).toInt64 rt sp dl ch se y lv M) 0)))), (qr 1, .inl (cJ, 320, .inr (.inl ((pf_yM wt rp (lo rr).toInt64 (hi rr).toInt64 rt sp dl ch se y lv M) 1)))), (qr 2, .inl (cJ, 320, .inr (.inl ((pf_yM wt rp (lo rr).toInt64 (hi rr).toInt64 rt sp dl ch se y lv M) 2)))), (qr 3, .inl (cJ, 320, .inr (.inl ((pf_yM wt rp (lo rr).toInt64 (hi rr).toInt64 rt sp dl ch se y lv M) 3))))]) (ws2 := [(o0, .inr (0, [.ref o1, .ref o2, .ref o3, .ref o4, .int (nI ru), .int yg, .int ch, .int (nI sp), .int (nI dl), .int mk, .ref o5, .ref o6, .ref o7, .int (nI rr), .int (nI yr), .int (nI sd), .int (nI rn)])), (o1, .inr (1, [.ref z1, .ref z2, .ref z3, .ref z4, .ref z5])), (z2, .inl (cI, 6, .inl wt)), (z3, .inl (cI, 6, .inl rp)), (z4, .inl (cI, 6, .inl di)), (z5, .inl (cJ, 6, .inr (.inl (pf_grow (pf_dead (pf_take lv (pf_al wt rp (lo rr).toInt64 (hi rr).toInt64 rt sp dl ch se y lv M) (pf_total lv wt 6)) di 6) (pf_born se y yg))))), (o2, .inl (cI, 6, .inl lo)), (o3, .inl (cI, 6, .inl hi)), (q0, .inr (2, [.ref qg])), (qg, .inl (cG, 4, .inr (.inr (.inr (.inr (pf_gf qr)))))), (qr 0, .inl (cJ, 320, .inr (.inl ((pf_yM wt rp (lo rr).toInt64 (hi rr).toInt64 rt sp dl ch se y lv M) 0)))), (qr 1, .inl (cJ, 320, .inr (.inl ((pf_yM wt rp (lo rr).toInt64 (hi rr).toInt64 rt sp dl ch se y lv M) 1)))), (qr 2, .inl (cJ, 320, .inr (.inl ((pf_yM wt rp (lo rr).toInt64 (hi rr).toInt64 rt sp dl ch se y lv M) 2)))), (qr 3, .inl (cJ, 320, .inr (.inl ((pf_yM wt rp (lo rr).toInt64 (hi rr).toInt64 rt sp dl ch se y lv M) 3))))]) ⟨hx, hb, hml, hown, hts⟩ (c_Stock_growOlder l dC dI cI cJ cG o1 z1 z2 z3 z4 z5 (pf_dead (pf_take lv (pf_al wt rp (lo rr).toInt64 (hi rr).toInt64 rt sp dl ch se y lv M) (pf_total lv wt 6)) di 6) (pf_born se y yg) ) (cwV 1 hts (qg_V mq_2_107 mq_2_108 mq_2_109 mq_1_2 mq_2_110) rfl rfl rfl (by decide +kernel) ⟨Nat.le_of_ble_eq_true rfl, Nat.le_of_ble_eq_true rfl⟩) hK hP hD hS hA (ci := 1) (q0 := 1) rfl rfl [1, 5] [0, 2, 3, 4, 6, 7, 8, 9, 10, 11, 12, 13] [0, 12, 1, 2, 3, 13, 4, 5, 6, 7, 8, 9, 10, 11] rfl rfl (by decide) (by decide) rfl (by decide) rfl hl.1 rfl (Nat.le_of_ble_eq_true rfl) dO_runYear_124 ⟨Nat.le_of_ble_eq_true rfl, Nat.le_of_ble_eq_true rfl⟩ (fun H locs hP hD hS => ?_)
  have hP : va_P (dC, dI) qCl [(o0, .inr (0, [.ref o1, .ref o2, .ref o3, .ref o4, .int (nI ru), .int yg, .int ch, .int (nI sp), .int (nI dl), .int mk, .ref o5, .ref o6, .ref o7, .int (nI rr), .int (nI yr), .int (nI sd), .int (nI rn)])), (o1, .inr (1, [.ref z1, .ref z2, .ref z3, .ref z4, .ref z5])), (z2, .inl (cI, 6, .inl wt)), (z3, .inl (cI, 6, .inl rp)), (z4, .inl (cI, 6, .inl di)), (z5, .inl (cJ, 6, .inr (.inl (pf_yl wt rp di (lo rr).toInt64 (hi rr).toInt64 rt sp dl yg ch se y lv M)))), (o2, .inl (cI, 6, .inl lo)), (o3, .inl (cI, 6, .inl hi)), (q0, .inr (2, [.ref qg])), (qg, .inl (cG, 4, .inr (.inr (.inr (.inr (pf_gf qr)))))), (qr 0, .inl (cJ, 320, .inr (.inl ((pf_yM wt rp (lo rr).toInt64 (hi rr).toInt64 rt sp dl ch se y lv M) 0)))), (qr 1, .inl (cJ, 320, .inr (.inl ((pf_yM wt rp (lo rr).toInt64 (hi rr).toInt64 rt sp dl ch se y lv M) 1)))), (qr 2, .inl (cJ, 320, .inr (.inl ((pf_yM wt rp (lo rr).toInt64 (hi rr).toInt64 rt sp dl ch se y lv M) 2)))), (qr 3, .inl (cJ, 320, .inr (.inl ((pf_yM wt rp (lo rr).toInt64 (hi rr).toInt64 rt sp dl ch se y lv M) 3))))] H := hP
  have hD : va_D A [(o0, .inr (0, [.ref o1, .ref o2, .ref o3, .ref o4, .int (nI ru), .int yg, .int ch, .int (nI sp), .int (nI dl), .int mk, .ref o5, .ref o6, .ref o7, .int (nI rr), .int (nI yr), .int (nI sd), .int (nI rn)])), (o1, .inr (1, [.ref z1, .ref z2, .ref z3, .ref z4, .ref z5])), (z2, .inl (cI, 6, .inl wt)), (z3, .inl (cI, 6, .inl rp)), (z4, .inl (cI, 6, .inl di)), (z5, .inl (cJ, 6, .inr (.inl (pf_yl wt rp di (lo rr).toInt64 (hi rr).toInt64 rt sp dl yg ch se y lv M)))), (o2, .inl (cI, 6, .inl lo)), (o3, .inl (cI, 6, .inl hi)), (q0, .inr (2, [.ref qg])), (qg, .inl (cG, 4, .inr (.inr (.inr (.inr (pf_gf qr)))))), (qr 0, .inl (cJ, 320, .inr (.inl ((pf_yM wt rp (lo rr).toInt64 (hi rr).toInt64 rt sp dl ch se y lv M) 0)))), (qr 1, .inl (cJ, 320, .inr (.inl ((pf_yM wt rp (lo rr).toInt64 (hi rr).toInt64 rt sp dl ch se y lv M) 1)))), (qr 2, .inl (cJ, 320, .inr (.inl ((pf_yM wt rp (lo rr).toInt64 (hi rr).toInt64 rt sp dl ch se y lv M) 2)))), (qr 3, .inl (cJ, 320, .inr (.inl ((pf_yM wt rp (lo rr).toInt64 (hi rr).toInt64 rt sp dl ch se y lv M) 3))))] := hD
  exact hret hP hD hS (Nat.le_of_ble_eq_true rfl) (Nat.le_of_ble_eq_true rfl) dO_runYear_127

set_option maxHeartbeats 4000000 in
set_option maxRecDepth 100000 in
theorem c_runAllSeeds (o0 o1 o2 o3 o4 o5 o6 o7 ru sp dl rr yr sd rn : Nat) (yg ch mk : Int32) (z1 z2 z3 z4 z5 : Nat) (q0 qg : Nat) (qr : Nat → Nat) (M : Nat → Nat → Int64) (nu wt rp di lo hi : Nat → Int32) (lv : Nat → Int64) (rt : Int32) (hsd : sd ≤ 16) (hyr : yr ≤ 20) (hsp : sp ≤ 50) (hdl : dl ≤ 3) (hrr : rr < 6) : qMv l yO_runAllSeeds (wO_runAllSeeds) ({ frames := 3, cells := 0, slots := 0, locals := 84 } : Room) (dC, dI) qCl [(cI, .int), (cJ, .long), (cG, .array .long)] [.ref o0, .ref q0, .int rt] [(o0, .inr (0, [.ref o1, .ref o2, .ref o3, .ref o4, .int (nI ru), .int yg, .int ch, .int (nI sp), .int (nI dl), .int mk, .ref o5, .ref o6, .ref o7, .int (nI rr), .int (nI yr), .int (nI sd), .int (nI rn)])), (o1, .inr (1, [.ref z1, .ref z2, .ref z3, .ref z4, .ref z5])), (z1, .inl (cI, 6, .inl nu)), (z2, .inl (cI, 6, .inl wt)), (z3, .inl (cI, 6, .inl rp)), (z4, .inl (cI, 6, .inl di)), (z5, .inl (cJ, 6, .inr (.inl lv))), (o2, .inl (cI, 6, .inl lo)), (o3, .inl (cI, 6, .inl hi)), (q0, .inr (2, [.ref qg])), (qg, .inl (cG, 4, .inr (.inr (.inr (.inr (pf_gf qr)))))), (qr 0, .inl (cJ, 320, .inr (.inl (M 0)))), (qr 1, .inl (cJ, 320, .inr (.inl (M 1)))), (qr 2, .inl (cJ, 320, .inr (.inl (M 2)))), (qr 3, .inl (cJ, 320, .inr (.inl (M 3))))] [(o0, .inr (0, [.ref o1, .ref o2, .ref o3, .ref o4, .int (nI ru), .int yg, .int ch, .int (nI sp), .int (nI dl), .int mk, .ref o5, .ref o6, .ref o7, .int (nI rr), .int (nI yr), .int (nI sd), .int (nI rn)])), (o1, .inr (1, [.ref z1, .ref z2, .ref z3, .ref z4, .ref z5])), (z1, .inl (cI, 6, .inl nu)), (z2, .inl (cI, 6, .inl wt)), (z3, .inl (cI, 6, .inl rp)), (z4, .inl (cI, 6, .inl di)), (z5, .inl (cJ, 6, .inr (.inl ((pf_all nu wt rp di (lo rr).toInt64 (hi rr).toInt64 rt sp dl yg ch yr lv M sd).1)))), (o2, .inl (cI, 6, .inl lo)), (o3, .inl (cI, 6, .inl hi)), (q0, .inr (2, [.ref qg])), (qg, .inl (cG, 4, .inr (.inr (.inr (.inr (pf_gf qr)))))), (qr 0, .inl (cJ, 320, .inr (.inl (((pf_all nu wt rp di (lo rr).toInt64 (hi rr).toInt64 rt sp dl yg ch yr lv M sd).2) 0)))), (qr 1, .inl (cJ, 320, .inr (.inl (((pf_all nu wt rp di (lo rr).toInt64 (hi rr).toInt64 rt sp dl yg ch yr lv M sd).2) 1)))), (qr 2, .inl (cJ, 320, .inr (.inl (((pf_all nu wt rp di (lo rr).toInt64 (hi rr).toInt64 rt sp dl yg ch yr lv M sd).2) 2)))), (qr 3, .inl (cJ, 320, .inr (.inl (((pf_all nu wt rp di (lo rr).toInt64 (hi rr).toInt64 rt sp dl yg ch yr lv M sd).2) 3))))] 0 0 := by
  refine qm_v (cc := prog_1_method_19_code) (maxL := 5) (by decide) rfl (Nat.le_of_ble_eq_true rfl) ?_
  intro p e s m args below meth c Q A ls hx hb hml hown hnm hts hA hK hP hD hS hl hret
  have hl : lv_has ls 5 [(0, .ref o0), (1, .ref q0), (2, .int rt)] := hl
  refine lv_iconst (v := 0) hx hb dO_runAllSeeds_0 (by decide) ?_
  refine lv_istore_n (lv' := [(3, .int 0), (0, .ref o0), (1, .ref q0), (2, .int rt)]) hx hb dO_runAllSeeds_1 rfl hl (by decide) rfl (fun ls hl => ?_)
  have lp_2 : ∀ (n : Nat) (j : Nat), sd - j < n → j ≤ sd → ∀ (H : Heap) (locs : List Loc), va_P (dC, dI) qCl [(o0, .inr (0, [.ref o1, .ref o2, .ref o3, .ref o4, .int (nI ru), .int yg, .int ch, .int (nI sp), .int (nI dl), .int mk, .ref o5, .ref o6, .ref o7, .int (nI rr), .int (nI yr), .int (nI sd), .int (nI rn)])), (o1, .inr (1, [.ref z1, .ref z2, .ref z3, .ref z4, .ref z5])), (z1, .inl (cI, 6, .inl nu)), (z2, .inl (cI, 6, .inl wt)), (z3, .inl (cI, 6, .inl rp)), (z4, .inl (cI, 6, .inl di)), (z5, .inl (cJ, 6, .inr (.inl ((pf_all nu wt rp di (lo rr).toInt64 (hi rr).toInt64 rt sp dl yg ch yr lv M j).1)))), (o2, .inl (cI, 6, .inl lo)), (o3, .inl (cI, 6, .inl hi)), (q0, .inr (2, [.ref qg])), (qg, .inl (cG, 4, .inr (.inr (.inr (.inr (pf_gf qr)))))), (qr 0, .inl (cJ, 320, .inr (.inl (((pf_all nu wt rp di (lo rr).toInt64 (hi rr).toInt64 rt sp dl yg ch yr lv M j).2) 0)))), (qr 1, .inl (cJ, 320, .inr (.inl (((pf_all nu wt rp di (lo rr).toInt64 (hi rr).toInt64 rt sp dl yg ch yr lv M j).2) 1)))), (qr 2, .inl (cJ, 320, .inr (.inl (((pf_all nu wt rp di (lo rr).toInt64 (hi rr).toInt64 rt sp dl yg ch yr lv M j).2) 2)))), (qr 3, .inl (cJ, 320, .inr (.inl (((pf_all nu wt rp di (lo rr).toInt64 (hi rr).toInt64 rt sp dl yg ch yr lv M j).2) 3))))] H → va_D A [(o0, .inr (0, [.ref o1, .ref o2, .ref o3, .ref o4, .int (nI ru), .int yg, .int ch, .int (nI sp), .int (nI dl), .int mk, .ref o5, .ref o6, .ref o7, .int (nI rr), .int (nI yr), .int (nI sd), .int (nI rn)])), (o1, .inr (1, [.ref z1, .ref z2, .ref z3, .ref z4, .ref z5])), (z1, .inl (cI, 6, .inl nu)), (z2, .inl (cI, 6, .inl wt)), (z3, .inl (cI, 6, .inl rp)), (z4, .inl (cI, 6, .inl di)), (z5, .inl (cJ, 6, .inr (.inl ((pf_all nu wt rp di (lo rr).toInt64 (hi rr).toInt64 rt sp dl yg ch yr lv M j).1)))), (o2, .inl (cI, 6, .inl lo)), (o3, .inl (cI, 6, .inl hi)), (q0, .inr (2, [.ref qg])), (qg, .inl (cG, 4, .inr (.inr (.inr (.inr (pf_gf qr)))))), (qr 0, .inl (cJ, 320, .inr (.inl (((pf_all nu wt rp di (lo rr).toInt64 (hi rr).toInt64 rt sp dl yg ch yr lv M j).2) 0)))), (qr 1, .inl (cJ, 320, .inr (.inl (((pf_all nu wt rp di (lo rr).toInt64 (hi rr).toInt64 rt sp dl yg ch yr lv M j).2) 1)))), (qr 2, .inl (cJ, 320, .inr (.inl (((pf_all nu wt rp di (lo rr).toInt64 (hi rr).toInt64 rt sp dl yg ch yr lv M j).2) 2)))), (qr 3, .inl (cJ, 320, .inr (.inl (((pf_all nu wt rp di (lo rr).toInt64 (hi rr).toInt64 rt sp dl yg ch yr lv M j).2) 3))))] → va_S A s.heap H locs → ∀ (ls : Array Slot), lv_has ls 5 [(0, .ref o0), (1, .ref q0), (2, .int rt), (3, .int (nI j))] → W p l e ({ frames := 3, cells := 0, slots := 0, locals := 84 } : Room) s m args below meth c H locs 0 0 Q (F0 m 2 ls []) := by
    intro n_2
    induction n_2 with
    | zero => intro j hm; exact absurd hm (Nat.not_lt_zero _)
    | succ n_2 ih_2 =>
      intro j hm_2 hj H locs hP hD hS ls hl
      refine lv_iload_n hx hb dO_runAllSeeds_2 rfl (lv_at hl 3 rfl) ?_
      refine lv_aload_n hx hb dO_runAllSeeds_3 rfl (lv_at hl 0 rfl) ?_
      refine va_get (D := (dC, dI)) (ci := 0) (v := .int (nI sd)) (C := "OutlookOdds") (T := TO) (N := 17) hx hb hts inO hown hK hP 0 rfl rfl 15 (by decide) (hts _ mq_1_71) (fun _ h9 => h9) rfl dO_runAllSeeds_4 ?_
      refine lv_icmp_ge (tgt := 50) hx hb dO_runAllSeeds_7 (by decide) (fun h7 => ?_) (fun h7 => ?_)
      · have e_j : j = sd := qn_ge h7 hj (by omega)
        have hP : va_P (dC, dI) qCl [(o0, .inr (0, [.ref o1, .ref o2, .ref o3, .ref o4, .int (nI ru), .int yg, .int ch, .int (nI sp), .int (nI dl), .int mk, .ref o5, .ref o6, .ref o7, .int (nI rr), .int (nI yr), .int (nI sd), .int (nI rn)])), (o1, .inr (1, [.ref z1, .ref z2, .ref z3, .ref z4, .ref z5])), (z1, .inl (cI, 6, .inl nu)), (z2, .inl (cI, 6, .inl wt)), (z3, .inl (cI, 6, .inl rp)), (z4, .inl (cI, 6, .inl di)), (z5, .inl (cJ, 6, .inr (.inl ((pf_all nu wt rp di (lo rr).toInt64 (hi rr).toInt64 rt sp dl yg ch yr lv M sd).1)))), (o2, .inl (cI, 6, .inl lo)), (o3, .inl (cI, 6, .inl hi)), (q0, .inr (2, [.ref qg])), (qg, .inl (cG, 4, .inr (.inr (.inr (.inr (pf_gf qr)))))), (qr 0, .inl (cJ, 320, .inr (.inl (((pf_all nu wt rp di (lo rr).toInt64 (hi rr).toInt64 rt sp dl yg ch yr lv M sd).2) 0)))), (qr 1, .inl (cJ, 320, .inr (.inl (((pf_all nu wt rp di (lo rr).toInt64 (hi rr).toInt64 rt sp dl yg ch yr lv M sd).2) 1)))), (qr 2, .inl (cJ, 320, .inr (.inl (((pf_all nu wt rp di (lo rr).toInt64 (hi rr).toInt64 rt sp dl yg ch yr lv M sd).2) 2)))), (qr 3, .inl (cJ, 320, .inr (.inl (((pf_all nu wt rp di (lo rr).toInt64 (hi rr).toInt64 rt sp dl yg ch yr lv M sd).2) 3))))] H := by first | exact hP | (rw [e_j] at hP; exact hP)
        have hD : va_D A [(o0, .inr (0, [.ref o1, .ref o2, .ref o3, .ref o4, .int (nI ru), .int yg, .int ch, .int (nI sp), .int (nI dl), .int mk, .ref o5, .ref o6, .ref o7, .int (nI rr), .int (nI yr), .int (nI sd), .int (nI rn)])), (o1, .inr (1, [.ref z1, .ref z2, .ref z3, .ref z4, .ref z5])), (z1, .inl (cI, 6, .inl nu)), (z2, .inl (cI, 6, .inl wt)), (z3, .inl (cI, 6, .inl rp)), (z4, .inl (cI, 6, .inl di)), (z5, .inl (cJ, 6, .inr (.inl ((pf_all nu wt rp di (lo rr).toInt64 (hi rr).toInt64 rt sp dl yg ch yr lv M sd).1)))), (o2, .inl (cI, 6, .inl lo)), (o3, .inl (cI, 6, .inl hi)), (q0, .inr (2, [.ref qg])), (qg, .inl (cG, 4, .inr (.inr (.inr (.inr (pf_gf qr)))))), (qr 0, .inl (cJ, 320, .inr (.inl (((pf_all nu wt rp di (lo rr).toInt64 (hi rr).toInt64 rt sp dl yg ch yr lv M sd).2) 0)))), (qr 1, .inl (cJ, 320, .inr (.inl (((pf_all nu wt rp di (lo rr).toInt64 (hi rr).toInt64 rt sp dl yg ch yr lv M sd).2) 1)))), (qr 2, .inl (cJ, 320, .inr (.inl (((pf_all nu wt rp di (lo rr).toInt64 (hi rr).toInt64 rt sp dl yg ch yr lv M sd).2) 2)))), (qr 3, .inl (cJ, 320, .inr (.inl (((pf_all nu wt rp di (lo rr).toInt64 (hi rr).toInt64 rt sp dl yg ch yr lv M sd).2) 3))))] := by first | exact hD | (rw [e_j] at hD; exact hD)
        have hl : lv_has ls 5 [(0, .ref o0), (1, .ref q0), (2, .int rt), (3, .int (nI sd))] := by first | exact hl | (rw [e_j] at hl; exact hl)
        exact hret hP hD hS (Nat.le_of_ble_eq_true rfl) (Nat.le_of_ble_eq_true rfl) dO_runAllSeeds_50
      · have hlt : j < sd := qn_nge h7 (by omega)
        refine lv_aload_n hx hb dO_runAllSeeds_10 rfl (lv_at hl 0 rfl) ?_
        refine va_get (D := (dC, dI)) (ci := 0) (v := .ref o1) (C := "OutlookOdds") (T := TO) (N := 17) hx hb hts inO hown hK hP 0 rfl rfl 0 (by decide) (hts _ mq_1_56) (fun _ h9 => h9) rfl dO_runAllSeeds_11 ?_
        refine qr_callVv (As := []) (rest := []) (wr := [(o0, .inr (0, [.ref o1, .ref o2, .ref o3, .ref o4, .int (nI ru), .int yg, .int ch, .int (nI sp), .int (nI dl), .int mk, .ref o5, .ref o6, .ref o7, .int (nI rr), .int (nI yr), .int (nI sd), .int (nI rn)])), (z2, .inl (cI, 6, .inl wt)), (z3, .inl (cI, 6, .inl rp)), (z4, .inl (cI, 6, .inl di)), (o2, .inl (cI, 6, .inl lo)), (o3, .inl (cI, 6, .inl hi)), (q0, .inr (2, [.ref qg])), (qg, .inl (cG, 4, .inr (.inr (.inr (.inr (pf_gf qr)))))), (qr 0, .inl (cJ, 320, .inr (.inl (((pf_all nu wt rp di (lo rr).toInt64 (hi rr).toInt64 rt sp dl yg ch yr lv M j).2) 0)))), (qr 1, .inl (cJ, 320, .inr (.inl (((pf_all nu wt rp di (lo rr).toInt64 (hi rr).toInt64 rt sp dl yg ch yr lv M j).2) 1)))), (qr 2, .inl (cJ, 320, .inr (.inl (((pf_all nu wt rp di (lo rr).toInt64 (hi rr).toInt64 rt sp dl yg ch yr lv M j).2) 2)))), (qr 3, .inl (cJ, 320, .inr (.inl (((pf_all nu wt rp di (lo rr).toInt64 (hi rr).toInt64 rt sp dl yg ch yr lv M j).2) 3))))]) (ws2 := [(o0, .inr (0, [.ref o1, .ref o2, .ref o3, .ref o4, .int (nI ru), .int yg, .int ch, .int (nI sp), .int (nI dl), .int mk, .ref o5, .ref o6, .ref o7, .int (nI rr), .int (nI yr), .int (nI sd), .int (nI rn)])), (o1, .inr (1, [.ref z1, .ref z2, .ref z3, .ref z4, .ref z5])), (z1, .inl (cI, 6, .inl nu)), (z2, .inl (cI, 6, .inl wt)), (z3, .inl (cI, 6, .inl rp)), (z4, .inl (cI, 6, .inl di)), (z5, .inl (cJ, 6, .inr (.inl (pf_begin nu ((pf_all nu wt rp di (lo rr).toInt64 (hi rr).toInt64 rt sp dl yg ch yr lv M j).1) 6)))), (o2, .inl (cI, 6, .inl lo)), (o3, .inl (cI, 6, .inl hi)), (q0, .inr (2, [.ref qg])), (qg, .inl (cG, 4, .inr (.inr (.inr (.inr (pf_gf qr)))))), (qr 0, .inl (cJ, 320, .inr (.inl (((pf_all nu wt rp di (lo rr).toInt64 (hi rr).toInt64 rt sp dl yg ch yr lv M j).2) 0)))), (qr 1, .inl (cJ, 320, .inr (.inl (((pf_all nu wt rp di (lo rr).toInt64 (hi rr).toInt64 rt sp dl yg ch yr lv M j).2) 1)))), (qr 2, .inl (cJ, 320, .inr (.inl (((pf_all nu wt rp di (lo rr).toInt64 (hi rr).toInt64 rt sp dl yg ch yr lv M j).2) 2)))), (qr 3, .inl (cJ, 320, .inr (.inl (((pf_all nu wt rp di (lo rr).toInt64 (hi rr).toInt64 rt sp dl yg ch yr lv M j).2) 3))))]) ⟨hx, hb, hml, hown, hts⟩ (c_Stock_begin l dC dI cI cJ cG o1 z1 z2 z3 z4 z5 nu ((pf_all nu wt rp di (lo rr).toInt64 (hi rr).toInt64 rt sp dl yg ch yr lv M j).1) ) (cwV 0 hts (qg_V mq_2_46 mq_2_47 mq_2_48 mq_1_2 mq_2_49) rfl rfl rfl (by decide +kernel) ⟨Nat.le_of_ble_eq_true rfl, Nat.le_of_ble_eq_true rfl⟩) hK hP hD hS hA (ci := 1) (q0 := 1) rfl rfl [1, 2, 6] [0, 3, 4, 5, 7, 8, 9, 10, 11, 12, 13, 14] [0, 12, 13, 1, 2, 3, 14, 4, 5, 6, 7, 8, 9, 10, 11] rfl rfl (by decide) (by decide) rfl (by decide) rfl hl.1 rfl (Nat.le_of_ble_eq_true rfl) dO_runAllSeeds_14 ⟨Nat.le_of_ble_eq_true rfl, Nat.le_of_ble_eq_true rfl⟩ (fun H locs hP hD hS => ?_)
        refine lv_iconst (v := 1) hx hb dO_runAllSeeds_17 (by decide) ?_
        refine lv_istore (lv' := [(4, .int 1), (0, .ref o0), (1, .ref q0), (2, .int rt), (3, .int (nI j))]) hx hb dO_runAllSeeds_18 hl (by decide) rfl (fun ls hl => ?_)
        have lp_20 : ∀ (n : Nat) (k : Nat), yr - k < n → k ≤ yr → ∀ (H : Heap) (locs : List Loc), va_P (dC, dI) qCl [(o0, .inr (0, [.ref o1, .ref o2, .ref o3, .ref o4, .int (nI ru), .int yg, .int ch, .int (nI sp), .int (nI dl), .int mk, .ref o5, .ref o6, .ref o7, .int (nI rr), .int (nI yr), .int (nI sd), .int (nI rn)])), (o1, .inr (1, [.ref z1, .ref z2, .ref z3, .ref z4, .ref z5])), (z1, .inl (cI, 6, .inl nu)), (z2, .inl (cI, 6, .inl wt)), (z3, .inl (cI, 6, .inl rp)), (z4, .inl (cI, 6, .inl di)), (z5, .inl (cJ, 6, .inr (.inl ((pf_yrs wt rp di (lo rr).toInt64 (hi rr).toInt64 rt sp dl yg ch j (pf_begin nu (pf_all nu wt rp di (lo rr).toInt64 (hi rr).toInt64 rt sp dl yg ch yr lv M j).1 6) (pf_all nu wt rp di (lo rr).toInt64 (hi rr).toInt64 rt sp dl yg ch yr lv M j).2 k).1)))), (o2, .inl (cI, 6, .inl lo)), (o3, .inl (cI, 6, .inl hi)), (q0, .inr (2, [.ref qg])), (qg, .inl (cG, 4, .inr (.inr (.inr (.inr (pf_gf qr)))))), (qr 0, .inl (cJ, 320, .inr (.inl (((pf_yrs wt rp di (lo rr).toInt64 (hi rr).toInt64 rt sp dl yg ch j (pf_begin nu (pf_all nu wt rp di (lo rr).toInt64 (hi rr).toInt64 rt sp dl yg ch yr lv M j).1 6) (pf_all nu wt rp di (lo rr).toInt64 (hi rr).toInt64 rt sp dl yg ch yr lv M j).2 k).2) 0)))), (qr 1, .inl (cJ, 320, .inr (.inl (((pf_yrs wt rp di (lo rr).toInt64 (hi rr).toInt64 rt sp dl yg ch j (pf_begin nu (pf_all nu wt rp di (lo rr).toInt64 (hi rr).toInt64 rt sp dl yg ch yr lv M j).1 6) (pf_all nu wt rp di (lo rr).toInt64 (hi rr).toInt64 rt sp dl yg ch yr lv M j).2 k).2) 1)))), (qr 2, .inl (cJ, 320, .inr (.inl (((pf_yrs wt rp di (lo rr).toInt64 (hi rr).toInt64 rt sp dl yg ch j (pf_begin nu (pf_all nu wt rp di (lo rr).toInt64 (hi rr).toInt64 rt sp dl yg ch yr lv M j).1 6) (pf_all nu wt rp di (lo rr).toInt64 (hi rr).toInt64 rt sp dl yg ch yr lv M j).2 k).2) 2)))), (qr 3, .inl (cJ, 320, .inr (.inl (((pf_yrs wt rp di (lo rr).toInt64 (hi rr).toInt64 rt sp dl yg ch j (pf_begin nu (pf_all nu wt rp di (lo rr).toInt64 (hi rr).toInt64 rt sp dl yg ch yr lv M j).1 6) (pf_all nu wt rp di (lo rr).toInt64 (hi rr).toInt64 rt sp dl yg ch yr lv M j).2 k).2) 3))))] H → va_D A [(o0, .inr (0, [.ref o1, .ref o2, .ref o3, .ref o4, .int (nI ru), .int yg, .int ch, .int (nI sp), .int (nI dl), .int mk, .ref o5, .ref o6, .ref o7, .int (nI rr), .int (nI yr), .int (nI sd), .int (nI rn)])), (o1, .inr (1, [.ref z1, .ref z2, .ref z3, .ref z4, .ref z5])), (z1, .inl (cI, 6, .inl nu)), (z2, .inl (cI, 6, .inl wt)), (z3, .inl (cI, 6, .inl rp)), (z4, .inl (cI, 6, .inl di)), (z5, .inl (cJ, 6, .inr (.inl ((pf_yrs wt rp di (lo rr).toInt64 (hi rr).toInt64 rt sp dl yg ch j (pf_begin nu (pf_all nu wt rp di (lo rr).toInt64 (hi rr).toInt64 rt sp dl yg ch yr lv M j).1 6) (pf_all nu wt rp di (lo rr).toInt64 (hi rr).toInt64 rt sp dl yg ch yr lv M j).2 k).1)))), (o2, .inl (cI, 6, .inl lo)), (o3, .inl (cI, 6, .inl hi)), (q0, .inr (2, [.ref qg])), (qg, .inl (cG, 4, .inr (.inr (.inr (.inr (pf_gf qr)))))), (qr 0, .inl (cJ, 320, .inr (.inl (((pf_yrs wt rp di (lo rr).toInt64 (hi rr).toInt64 rt sp dl yg ch j (pf_begin nu (pf_all nu wt rp di (lo rr).toInt64 (hi rr).toInt64 rt sp dl yg ch yr lv M j).1 6) (pf_all nu wt rp di (lo rr).toInt64 (hi rr).toInt64 rt sp dl yg ch yr lv M j).2 k).2) 0)))), (qr 1, .inl (cJ, 320, .inr (.inl (((pf_yrs wt rp di (lo rr).toInt64 (hi rr).toInt64 rt sp dl yg ch j (pf_begin nu (pf_all nu wt rp di (lo rr).toInt64 (hi rr).toInt64 rt sp dl yg ch yr lv M j).1 6) (pf_all nu wt rp di (lo rr).toInt64 (hi rr).toInt64 rt sp dl yg ch yr lv M j).2 k).2) 1)))), (qr 2, .inl (cJ, 320, .inr (.inl (((pf_yrs wt rp di (lo rr).toInt64 (hi rr).toInt64 rt sp dl yg ch j (pf_begin nu (pf_all nu wt rp di (lo rr).toInt64 (hi rr).toInt64 rt sp dl yg ch yr lv M j).1 6) (pf_all nu wt rp di (lo rr).toInt64 (hi rr).toInt64 rt sp dl yg ch yr lv M j).2 k).2) 2)))), (qr 3, .inl (cJ, 320, .inr (.inl (((pf_yrs wt rp di (lo rr).toInt64 (hi rr).toInt64 rt sp dl yg ch j (pf_begin nu (pf_all nu wt rp di (lo rr).toInt64 (hi rr).toInt64 rt sp dl yg ch yr lv M j).1 6) (pf_all nu wt rp di (lo rr).toInt64 (hi rr).toInt64 rt sp dl yg ch yr lv M j).2 k).2) 3))))] → va_S A s.heap H locs → ∀ (ls : Array Slot), lv_has ls 5 [(0, .ref o0), (1, .ref q0), (2, .int rt), (3, .int (nI j)), (4, .int (nI (k + 1)))] → W p l e ({ frames := 3, cells := 0, slots := 0, locals := 84 } : Room) s m args below meth c H locs 0 0 Q (F0 m 20 ls []) := by
          intro n_20
          induction n_20 with
          | zero => intro k hm; exact absurd hm (Nat.not_lt_zero _)
          | succ n_20 ih_20 =>
            intro k hm_20 hk H locs hP hD hS ls hl
            refine lv_iload hx hb dO_runAllSeeds_20 (lv_at hl 4 rfl) ?_
            refine lv_aload_n hx hb dO_runAllSeeds_22 rfl (lv_at hl 0 rfl) ?_
            refine va_get (D := (dC, dI)) (ci := 0) (v := .int (nI yr)) (C := "OutlookOdds") (T := TO) (N := 17) hx hb hts inO hown hK hP 0 rfl rfl 14 (by decide) (hts _ mq_1_70) (fun _ h9 => h9) rfl dO_runAllSeeds_23 ?_
            refine lv_icmp_gt (tgt := 44) hx hb dO_runAllSeeds_26 (by decide) (fun h26 => ?_) (fun h26 => ?_)
            · have e_k : k = yr := qn_gt h26 (by omega) hk
              have hP : va_P (dC, dI) qCl [(o0, .inr (0, [.ref o1, .ref o2, .ref o3, .ref o4, .int (nI ru), .int yg, .int ch, .int (nI sp), .int (nI dl), .int mk, .ref o5, .ref o6, .ref o7, .int (nI rr), .int (nI yr), .int (nI sd), .int (nI rn)])), (o1, .inr (1, [.ref z1, .ref z2, .ref z3, .ref z4, .ref z5])), (z1, .inl (cI, 6, .inl nu)), (z2, .inl (cI, 6, .inl wt)), (z3, .inl (cI, 6, .inl rp)), (z4, .inl (cI, 6, .inl di)), (z5, .inl (cJ, 6, .inr (.inl ((pf_yrs wt rp di (lo rr).toInt64 (hi rr).toInt64 rt sp dl yg ch j (pf_begin nu (pf_all nu wt rp di (lo rr).toInt64 (hi rr).toInt64 rt sp dl yg ch yr lv M j).1 6) (pf_all nu wt rp di (lo rr).toInt64 (hi rr).toInt64 rt sp dl yg ch yr lv M j).2 yr).1)))), (o2, .inl (cI, 6, .inl lo)), (o3, .inl (cI, 6, .inl hi)), (q0, .inr (2, [.ref qg])), (qg, .inl (cG, 4, .inr (.inr (.inr (.inr (pf_gf qr)))))), (qr 0, .inl (cJ, 320, .inr (.inl (((pf_yrs wt rp di (lo rr).toInt64 (hi rr).toInt64 rt sp dl yg ch j (pf_begin nu (pf_all nu wt rp di (lo rr).toInt64 (hi rr).toInt64 rt sp dl yg ch yr lv M j).1 6) (pf_all nu wt rp di (lo rr).toInt64 (hi rr).toInt64 rt sp dl yg ch yr lv M j).2 yr).2) 0)))), (qr 1, .inl (cJ, 320, .inr (.inl (((pf_yrs wt rp di (lo rr).toInt64 (hi rr).toInt64 rt sp dl yg ch j (pf_begin nu (pf_all nu wt rp di (lo rr).toInt64 (hi rr).toInt64 rt sp dl yg ch yr lv M j).1 6) (pf_all nu wt rp di (lo rr).toInt64 (hi rr).toInt64 rt sp dl yg ch yr lv M j).2 yr).2) 1)))), (qr 2, .inl (cJ, 320, .inr (.inl (((pf_yrs wt rp di (lo rr).toInt64 (hi rr).toInt64 rt sp dl yg ch j (pf_begin nu (pf_all nu wt rp di (lo rr).toInt64 (hi rr).toInt64 rt sp dl yg ch yr lv M j).1 6) (pf_all nu wt rp di (lo rr).toInt64 (hi rr).toInt64 rt sp dl yg ch yr lv M j).2 yr).2) 2)))), (qr 3, .inl (cJ, 320, .inr (.inl (((pf_yrs wt rp di (lo rr).toInt64 (hi rr).toInt64 rt sp dl yg ch j (pf_begin nu (pf_all nu wt rp di (lo rr).toInt64 (hi rr).toInt64 rt sp dl yg ch yr lv M j).1 6) (pf_all nu wt rp di (lo rr).toInt64 (hi rr).toInt64 rt sp dl yg ch yr lv M j).2 yr).2) 3))))] H := by first | exact hP | (rw [e_k] at hP; exact hP)
              have hD : va_D A [(o0, .inr (0, [.ref o1, .ref o2, .ref o3, .ref o4, .int (nI ru), .int yg, .int ch, .int (nI sp), .int (nI dl), .int mk, .ref o5, .ref o6, .ref o7, .int (nI rr), .int (nI yr), .int (nI sd), .int (nI rn)])), (o1, .inr (1, [.ref z1, .ref z2, .ref z3, .ref z4, .ref z5])), (z1, .inl (cI, 6, .inl nu)), (z2, .inl (cI, 6, .inl wt)), (z3, .inl (cI, 6, .inl rp)), (z4, .inl (cI, 6, .inl di)), (z5, .inl (cJ, 6, .inr (.inl ((pf_yrs wt rp di (lo rr).toInt64 (hi rr).toInt64 rt sp dl yg ch j (pf_begin nu (pf_all nu wt rp di (lo rr).toInt64 (hi rr).toInt64 rt sp dl yg ch yr lv M j).1 6) (pf_all nu wt rp di (lo rr).toInt64 (hi rr).toInt64 rt sp dl yg ch yr lv M j).2 yr).1)))), (o2, .inl (cI, 6, .inl lo)), (o3, .inl (cI, 6, .inl hi)), (q0, .inr (2, [.ref qg])), (qg, .inl (cG, 4, .inr (.inr (.inr (.inr (pf_gf qr)))))), (qr 0, .inl (cJ, 320, .inr (.inl (((pf_yrs wt rp di (lo rr).toInt64 (hi rr).toInt64 rt sp dl yg ch j (pf_begin nu (pf_all nu wt rp di (lo rr).toInt64 (hi rr).toInt64 rt sp dl yg ch yr lv M j).1 6) (pf_all nu wt rp di (lo rr).toInt64 (hi rr).toInt64 rt sp dl yg ch yr lv M j).2 yr).2) 0)))), (qr 1, .inl (cJ, 320, .inr (.inl (((pf_yrs wt rp di (lo rr).toInt64 (hi rr).toInt64 rt sp dl yg ch j (pf_begin nu (pf_all nu wt rp di (lo rr).toInt64 (hi rr).toInt64 rt sp dl yg ch yr lv M j).1 6) (pf_all nu wt rp di (lo rr).toInt64 (hi rr).toInt64 rt sp dl yg ch yr lv M j).2 yr).2) 1)))), (qr 2, .inl (cJ, 320, .inr (.inl (((pf_yrs wt rp di (lo rr).toInt64 (hi rr).toInt64 rt sp dl yg ch j (pf_begin nu (pf_all nu wt rp di (lo rr).toInt64 (hi rr).toInt64 rt sp dl yg ch yr lv M j).1 6) (pf_all nu wt rp di (lo rr).toInt64 (hi rr).toInt64 rt sp dl yg ch yr lv M j).2 yr).2) 2)))), (qr 3, .inl (cJ, 320, .inr (.inl (((pf_yrs wt rp di (lo rr).toInt64 (hi rr).toInt64 rt sp dl yg ch j (pf_begin nu (pf_all nu wt rp di (lo rr).toInt64 (hi rr).toInt64 rt sp dl yg ch yr lv M j).1 6) (pf_all nu wt rp di (lo rr).toInt64 (hi rr).toInt64 rt sp dl yg ch yr lv M j).2 yr).2) 3))))] := by first | exact hD | (rw [e_k] at hD; exact hD)
              have hl : lv_has ls 5 [(0, .ref o0), (1, .ref q0), (2, .int rt), (3, .int (nI j)), (4, .int (nI (yr + 1)))] := by first | exact hl | (rw [e_k] at hl; exact hl)
              refine lv_iinc (v := nI (j + 1)) (lv' := [(3, .int (nI (j + 1))), (0, .ref o0), (1, .ref q0), (2, .int rt), (4, .int (nI (yr + 1)))]) hx hb dO_runAllSeeds_44 hl (k := 3) rfl (nI_1 _) (by decide) rfl (fun ls hl => ?_)
              refine lv_goto (tgt := 2) hx hb dO_runAllSeeds_47 (by decide) ?_
              exact ih_2 (j + 1) (by omega) (by omega) _ _ hP hD hS ls (lv_sub hl [1, 2, 3, 0] rfl)
            · have hlk : k < yr := qn_ngt h26 (by omega)
              refine lv_aload_n hx hb dO_runAllSeeds_29 rfl (lv_at hl 0 rfl) ?_
              refine lv_aload_n hx hb dO_runAllSeeds_30 rfl (lv_at hl 1 rfl) ?_
              refine lv_iload_n hx hb dO_runAllSeeds_31 rfl (lv_at hl 2 rfl) ?_
              refine lv_iload_n hx hb dO_runAllSeeds_32 rfl (lv_at hl 3 rfl) ?_
              refine lv_iload hx hb dO_runAllSeeds_33 (lv_at hl 4 rfl) ?_
              refine qr_callVv (As := [.ref q0, .int rt, .int (nI j), .int (nI (k + 1))]) (rest := []) (wr := [(z1, .inl (cI, 6, .inl nu))]) (ws2 := [(o0, .inr (0, [.ref o1, .ref o2, .ref o3, .ref o4, .int (nI ru), .int yg, .int ch, .int (nI sp), .int (nI dl), .int mk, .ref o5, .ref o6, .ref o7, .int (nI rr), .int (nI yr), .int (nI sd), .int (nI rn)])), (o1, .inr (1, [.ref z1, .ref z2, .ref z3, .ref z4, .ref z5])), (z1, .inl (cI, 6, .inl nu)), (z2, .inl (cI, 6, .inl wt)), (z3, .inl (cI, 6, .inl rp)), (z4, .inl (cI, 6, .inl di)), (z5, .inl (cJ, 6, .inr (.inl (pf_yl wt rp di (lo rr).toInt64 (hi rr).toInt64 rt sp dl yg ch j (k + 1) ((pf_yrs wt rp di (lo rr).toInt64 (hi rr).toInt64 rt sp dl yg ch j (pf_begin nu (pf_all nu wt rp di (lo rr).toInt64 (hi rr).toInt64 rt sp dl yg ch yr lv M j).1 6) (pf_all nu wt rp di (lo rr).toInt64 (hi rr).toInt64 rt sp dl yg ch yr lv M j).2 k).1) ((pf_yrs wt rp di (lo rr).toInt64 (hi rr).toInt64 rt sp dl yg ch j (pf_begin nu (pf_all nu wt rp di (lo rr).toInt64 (hi rr).toInt64 rt sp dl yg ch yr lv M j).1 6) (pf_all nu wt rp di (lo rr).toInt64 (hi rr).toInt64 rt sp dl yg ch yr lv M j).2 k).2))))), (o2, .inl (cI, 6, .inl lo)), (o3, .inl (cI, 6, .inl hi)), (q0, .inr (2, [.ref qg])), (qg, .inl (cG, 4, .inr (.inr (.inr (.inr (pf_gf qr)))))), (qr 0, .inl (cJ, 320, .inr (.inl ((pf_yM wt rp (lo rr).toInt64 (hi rr).toInt64 rt sp dl ch j (k + 1) ((pf_yrs wt rp di (lo rr).toInt64 (hi rr).toInt64 rt sp dl yg ch j (pf_begin nu (pf_all nu wt rp di (lo rr).toInt64 (hi rr).toInt64 rt sp dl yg ch yr lv M j).1 6) (pf_all nu wt rp di (lo rr).toInt64 (hi rr).toInt64 rt sp dl yg ch yr lv M j).2 k).1) ((pf_yrs wt rp di (lo rr).toInt64 (hi rr).toInt64 rt sp dl yg ch j (pf_begin nu (pf_all nu wt rp di (lo rr).toInt64 (hi rr).toInt64 rt sp dl yg ch yr lv M j).1 6) (pf_all nu wt rp di (lo rr).toInt64 (hi rr).toInt64 rt sp dl yg ch yr lv M j).2 k).2)) 0)))), (qr 1, .inl (cJ, 320, .inr (.inl ((pf_yM wt rp (lo rr).toInt64 (hi rr).toInt64 rt sp dl ch j (k + 1) ((pf_yrs wt rp di (lo rr).toInt64 (hi rr).toInt64 rt sp dl yg ch j (pf_begin nu (pf_all nu wt rp di (lo rr).toInt64 (hi rr).toInt64 rt sp dl yg ch yr lv M j).1 6) (pf_all nu wt rp di (lo rr).toInt64 (hi rr).toInt64 rt sp dl yg ch yr lv M j).2 k).1) ((pf_yrs wt rp di (lo rr).toInt64 (hi rr).toInt64 rt sp dl yg ch j (pf_begin nu (pf_all nu wt rp di (lo rr).toInt64 (hi rr).toInt64 rt sp dl yg ch yr lv M j).1 6) (pf_all nu wt rp di (lo rr).toInt64 (hi rr).toInt64 rt sp dl yg ch yr lv M j).2 k).2)) 1)))), (qr 2, .inl (cJ, 320, .inr (.inl ((pf_yM wt rp (lo rr).toInt64 (hi rr).toInt64 rt sp dl ch j (k + 1) ((pf_yrs wt rp di (lo rr).toInt64 (hi rr).toInt64 rt sp dl yg ch j (pf_begin nu (pf_all nu wt rp di (lo rr).toInt64 (hi rr).toInt64 rt sp dl yg ch yr lv M j).1 6) (pf_all nu wt rp di (lo rr).toInt64 (hi rr).toInt64 rt sp dl yg ch yr lv M j).2 k).1) ((pf_yrs wt rp di (lo rr).toInt64 (hi rr).toInt64 rt sp dl yg ch j (pf_begin nu (pf_all nu wt rp di (lo rr).toInt64 (hi rr).toInt64 rt sp dl yg ch yr lv M j).1 6) (pf_all nu wt rp di (lo rr).toInt64 (hi rr).toInt64 rt sp dl yg ch yr lv M j).2 k).2)) 2)))), (qr 3, .inl (cJ, 320, .inr (.inl ((pf_yM wt rp (lo rr).toInt64 (hi rr).toInt64 rt sp dl ch j (k + 1) ((pf_yrs wt rp di (lo rr).toInt64 (hi rr).toInt64 rt sp dl yg ch j (pf_begin nu (pf_all nu wt rp di (lo rr).toInt64 (hi rr).toInt64 rt sp dl yg ch yr lv M j).1 6) (pf_all nu wt rp di (lo rr).toInt64 (hi rr).toInt64 rt sp dl yg ch yr lv M j).2 k).1) ((pf_yrs wt rp di (lo rr).toInt64 (hi rr).toInt64 rt sp dl yg ch j (pf_begin nu (pf_all nu wt rp di (lo rr).toInt64 (hi rr).toInt64 rt sp dl yg ch yr lv M j).1 6) (pf_all nu wt rp di (lo rr).toInt64 (hi rr).toInt64 rt sp dl yg ch yr lv M j).2 k).2)) 3))))]) ⟨hx, hb, hml, hown, hts⟩ (c_runYear l dC dI cI cJ cG o0 o1 o2 o3 o4 o5 o6 o7 ru sp dl rr yr sd rn yg ch mk z1 z2 z3 z4 z5 q0 qg qr ((pf_yrs wt rp di (lo rr).toInt64 (hi rr).toInt64 rt sp dl yg ch j (pf_begin nu (pf_all nu wt rp di (lo rr).toInt64 (hi rr).toInt64 rt sp dl yg ch yr lv M j).1 6) (pf_all nu wt rp di (lo rr).toInt64 (hi rr).toInt64 rt sp dl yg ch yr lv M j).2 k).2) wt rp di lo hi ((pf_yrs wt rp di (lo rr).toInt64 (hi rr).toInt64 rt sp dl yg ch j (pf_begin nu (pf_all nu wt rp di (lo rr).toInt64 (hi rr).toInt64 rt sp dl yg ch yr lv M j).1 6) (pf_all nu wt rp di (lo rr).toInt64 (hi rr).toInt64 rt sp dl yg ch yr lv M j).2 k).1) rt j (k + 1) (by omega) (by omega) (by omega) (by omega) (by omega) (by omega)) (cwV 4 hts (qg_V mq_2_50 mq_2_52 mq_p_2 mq_1_1 mq_2_53) rfl rfl rfl (by decide +kernel) ⟨Nat.le_of_ble_eq_true rfl, Nat.le_of_ble_eq_true rfl⟩) hK hP hD hS hA (ci := 0) (q0 := 0) rfl rfl [0, 1, 3, 4, 5, 6, 7, 8, 9, 10, 11, 12, 13, 14] [2] [1, 2, 0, 3, 4, 5, 6, 7, 8, 9, 10, 11, 12, 13, 14] rfl rfl (by decide) (by decide) rfl (by decide) rfl hl.1 rfl (Nat.le_of_ble_eq_true rfl) dO_runAllSeeds_35 ⟨Nat.le_of_ble_eq_true rfl, Nat.le_of_ble_eq_true rfl⟩ (fun H locs hP hD hS => ?_)
              refine lv_iinc (v := nI ((k + 1) + 1)) (lv' := [(4, .int (nI ((k + 1) + 1))), (0, .ref o0), (1, .ref q0), (2, .int rt), (3, .int (nI j))]) hx hb dO_runAllSeeds_38 hl (k := 4) rfl (nI_1 _) (by decide) rfl (fun ls hl => ?_)
              refine lv_goto (tgt := 20) hx hb dO_runAllSeeds_41 (by decide) ?_
              exact ih_20 (k + 1) (by omega) (by omega) _ _ hP hD hS ls (lv_sub hl [1, 2, 3, 4, 0] rfl)
        exact lp_20 ((yr - 0) + 1) 0 (by omega) (by omega) _ _ hP hD hS ls (lv_sub hl [1, 2, 3, 4, 0] rfl)
  exact lp_2 ((sd - 0) + 1) 0 (by omega) (by omega) _ _ hP hD hS ls (lv_sub hl [1, 2, 3, 0] rfl)

set_option maxHeartbeats 4000000 in
set_option maxRecDepth 100000 in
theorem c_caughtAtRate (o0 o1 o2 o3 o4 o5 o6 o7 ru sp dl rr yr sd rn : Nat) (yg ch mk : Int32) (z1 z2 z3 z4 z5 : Nat) (qg : Nat) (qr : Nat → Nat) (M : Nat → Nat → Int64) (nu wt rp di lo hi : Nat → Int32) (lv : Nat → Int64) (rt : Int32) (hsd : sd ≤ 16) (hyr : yr ≤ 20) (hyr1 : 1 ≤ yr) (hsp : sp ≤ 50) (hdl : dl ≤ 3) (hrr : rr < 6) : qMl l yO_caughtAtRate (wO_caughtAtRate) ({ frames := 4, cells := 0, slots := 0, locals := 108 } : Room) (dC, dI) qCl [(cI, .int), (cJ, .long), (cG, .array .long)] [.ref o0, .int rt] [(o0, .inr (0, [.ref o1, .ref o2, .ref o3, .ref o4, .int (nI ru), .int yg, .int ch, .int (nI sp), .int (nI dl), .int mk, .ref o5, .ref o6, .ref o7, .int (nI rr), .int (nI yr), .int (nI sd), .int (nI rn)])), (o1, .inr (1, [.ref z1, .ref z2, .ref z3, .ref z4, .ref z5])), (z1, .inl (cI, 6, .inl nu)), (z2, .inl (cI, 6, .inl wt)), (z3, .inl (cI, 6, .inl rp)), (z4, .inl (cI, 6, .inl di)), (z5, .inl (cJ, 6, .inr (.inl lv))), (o2, .inl (cI, 6, .inl lo)), (o3, .inl (cI, 6, .inl hi)), (o6, .inr (2, [.ref qg])), (qg, .inl (cG, 4, .inr (.inr (.inr (.inr (pf_gf qr)))))), (qr 0, .inl (cJ, 320, .inr (.inl (M 0)))), (qr 1, .inl (cJ, 320, .inr (.inl (M 1)))), (qr 2, .inl (cJ, 320, .inr (.inl (M 2)))), (qr 3, .inl (cJ, 320, .inr (.inl (M 3))))] [(o0, .inr (0, [.ref o1, .ref o2, .ref o3, .ref o4, .int (nI ru), .int yg, .int ch, .int (nI sp), .int (nI dl), .int mk, .ref o5, .ref o6, .ref o7, .int (nI rr), .int (nI yr), .int (nI sd), .int (nI rn)])), (o1, .inr (1, [.ref z1, .ref z2, .ref z3, .ref z4, .ref z5])), (z1, .inl (cI, 6, .inl nu)), (z2, .inl (cI, 6, .inl wt)), (z3, .inl (cI, 6, .inl rp)), (z4, .inl (cI, 6, .inl di)), (z5, .inl (cJ, 6, .inr (.inl ((pf_all nu wt rp di (lo rr).toInt64 (hi rr).toInt64 rt sp dl yg ch yr lv M sd).1)))), (o2, .inl (cI, 6, .inl lo)), (o3, .inl (cI, 6, .inl hi)), (o6, .inr (2, [.ref qg])), (qg, .inl (cG, 4, .inr (.inr (.inr (.inr (pf_gf qr)))))), (qr 0, .inl (cJ, 320, .inr (.inl (((pf_all nu wt rp di (lo rr).toInt64 (hi rr).toInt64 rt sp dl yg ch yr lv M sd).2) 0)))), (qr 1, .inl (cJ, 320, .inr (.inl (((pf_all nu wt rp di (lo rr).toInt64 (hi rr).toInt64 rt sp dl yg ch yr lv M sd).2) 1)))), (qr 2, .inl (cJ, 320, .inr (.inl (((pf_all nu wt rp di (lo rr).toInt64 (hi rr).toInt64 rt sp dl yg ch yr lv M sd).2) 2)))), (qr 3, .inl (cJ, 320, .inr (.inl (((pf_all nu wt rp di (lo rr).toInt64 (hi rr).toInt64 rt sp dl yg ch yr lv M sd).2) 3))))] (pf_sumA ((pf_all nu wt rp di (lo rr).toInt64 (hi rr).toInt64 rt sp dl yg ch yr lv M sd).2 1) 1 yr sd) 0 0 := by
  refine qm_l (cc := prog_1_method_25_code) (maxL := 2) (by decide) rfl (Nat.le_of_ble_eq_true rfl) ?_
  intro p e s m args below meth c Q A ls hx hb hml hown hnm hts hA hK hP hD hS hl hret
  have hl : lv_has ls 2 [(0, .ref o0), (1, .int rt)] := hl
  refine lv_aload_n hx hb dO_caughtAtRate_0 rfl (lv_at hl 0 rfl) ?_
  refine lv_aload_n hx hb dO_caughtAtRate_1 rfl (lv_at hl 0 rfl) ?_
  refine va_get (D := (dC, dI)) (ci := 0) (v := .ref o6) (C := "OutlookOdds") (T := TO) (N := 17) hx hb hts inO hown hK hP 0 rfl rfl 11 (by decide) (hts _ mq_1_67) (fun _ h9 => h9) rfl dO_caughtAtRate_2 ?_
  refine lv_iload_n hx hb dO_caughtAtRate_5 rfl (lv_at hl 1 rfl) ?_
  refine qr_callVv (As := [.ref o6, .int rt]) (rest := []) (wr := []) (ws2 := [(o0, .inr (0, [.ref o1, .ref o2, .ref o3, .ref o4, .int (nI ru), .int yg, .int ch, .int (nI sp), .int (nI dl), .int mk, .ref o5, .ref o6, .ref o7, .int (nI rr), .int (nI yr), .int (nI sd), .int (nI rn)])), (o1, .inr (1, [.ref z1, .ref z2, .ref z3, .ref z4, .ref z5])), (z1, .inl (cI, 6, .inl nu)), (z2, .inl (cI, 6, .inl wt)), (z3, .inl (cI, 6, .inl rp)), (z4, .inl (cI, 6, .inl di)), (z5, .inl (cJ, 6, .inr (.inl ((pf_all nu wt rp di (lo rr).toInt64 (hi rr).toInt64 rt sp dl yg ch yr lv M sd).1)))), (o2, .inl (cI, 6, .inl lo)), (o3, .inl (cI, 6, .inl hi)), (o6, .inr (2, [.ref qg])), (qg, .inl (cG, 4, .inr (.inr (.inr (.inr (pf_gf qr)))))), (qr 0, .inl (cJ, 320, .inr (.inl (((pf_all nu wt rp di (lo rr).toInt64 (hi rr).toInt64 rt sp dl yg ch yr lv M sd).2) 0)))), (qr 1, .inl (cJ, 320, .inr (.inl (((pf_all nu wt rp di (lo rr).toInt64 (hi rr).toInt64 rt sp dl yg ch yr lv M sd).2) 1)))), (qr 2, .inl (cJ, 320, .inr (.inl (((pf_all nu wt rp di (lo rr).toInt64 (hi rr).toInt64 rt sp dl yg ch yr lv M sd).2) 2)))), (qr 3, .inl (cJ, 320, .inr (.inl (((pf_all nu wt rp di (lo rr).toInt64 (hi rr).toInt64 rt sp dl yg ch yr lv M sd).2) 3))))]) ⟨hx, hb, hml, hown, hts⟩ (c_runAllSeeds l dC dI cI cJ cG o0 o1 o2 o3 o4 o5 o6 o7 ru sp dl rr yr sd rn yg ch mk z1 z2 z3 z4 z5 o6 qg qr M nu wt rp di lo hi lv rt (by omega) (by omega) (by omega) (by omega) (by omega)) (cwV 2 hts (qg_V mq_2_42 mq_2_44 mq_p_1 mq_1_1 mq_2_45) rfl rfl rfl (by decide +kernel) ⟨Nat.le_of_ble_eq_true rfl, Nat.le_of_ble_eq_true rfl⟩) hK hP hD hS hA (ci := 0) (q0 := 0) rfl rfl [0, 1, 2, 3, 4, 5, 6, 7, 8, 9, 10, 11, 12, 13, 14] [] [0, 1, 2, 3, 4, 5, 6, 7, 8, 9, 10, 11, 12, 13, 14] rfl rfl (by decide) (by decide) rfl (by decide) rfl hl.1 rfl (Nat.le_of_ble_eq_true rfl) dO_caughtAtRate_6 ⟨Nat.le_of_ble_eq_true rfl, Nat.le_of_ble_eq_true rfl⟩ (fun H locs hP hD hS => ?_)
  refine lv_aload_n hx hb dO_caughtAtRate_9 rfl (lv_at hl 0 rfl) ?_
  refine lv_aload_n hx hb dO_caughtAtRate_10 rfl (lv_at hl 0 rfl) ?_
  refine va_get (D := (dC, dI)) (ci := 0) (v := .ref o6) (C := "OutlookOdds") (T := TO) (N := 17) hx hb hts inO hown hK hP 0 rfl rfl 11 (by decide) (hts _ mq_1_67) (fun _ h9 => h9) rfl dO_caughtAtRate_11 ?_
  refine lv_iconst (v := 1) hx hb dO_caughtAtRate_14 (by decide) ?_
  refine lv_iconst (v := 1) hx hb dO_caughtAtRate_15 (by decide) ?_
  refine qr_callVl (As := [.ref o6, .int 1, .int 1]) (rest := []) (wr := [(o1, .inr (1, [.ref z1, .ref z2, .ref z3, .ref z4, .ref z5])), (z1, .inl (cI, 6, .inl nu)), (z2, .inl (cI, 6, .inl wt)), (z3, .inl (cI, 6, .inl rp)), (z4, .inl (cI, 6, .inl di)), (z5, .inl (cJ, 6, .inr (.inl ((pf_all nu wt rp di (lo rr).toInt64 (hi rr).toInt64 rt sp dl yg ch yr lv M sd).1)))), (o2, .inl (cI, 6, .inl lo)), (o3, .inl (cI, 6, .inl hi))]) (ws2 := [(o0, .inr (0, [.ref o1, .ref o2, .ref o3, .ref o4, .int (nI ru), .int yg, .int ch, .int (nI sp), .int (nI dl), .int mk, .ref o5, .ref o6, .ref o7, .int (nI rr), .int (nI yr), .int (nI sd), .int (nI rn)])), (o1, .inr (1, [.ref z1, .ref z2, .ref z3, .ref z4, .ref z5])), (z1, .inl (cI, 6, .inl nu)), (z2, .inl (cI, 6, .inl wt)), (z3, .inl (cI, 6, .inl rp)), (z4, .inl (cI, 6, .inl di)), (z5, .inl (cJ, 6, .inr (.inl ((pf_all nu wt rp di (lo rr).toInt64 (hi rr).toInt64 rt sp dl yg ch yr lv M sd).1)))), (o2, .inl (cI, 6, .inl lo)), (o3, .inl (cI, 6, .inl hi)), (o6, .inr (2, [.ref qg])), (qg, .inl (cG, 4, .inr (.inr (.inr (.inr (pf_gf qr)))))), (qr 0, .inl (cJ, 320, .inr (.inl (((pf_all nu wt rp di (lo rr).toInt64 (hi rr).toInt64 rt sp dl yg ch yr lv M sd).2) 0)))), (qr 1, .inl (cJ, 320, .inr (.inl (((pf_all nu wt rp di (lo rr).toInt64 (hi rr).toInt64 rt sp dl yg ch yr lv M sd).2) 1)))), (qr 2, .inl (cJ, 320, .inr (.inl (((pf_all nu wt rp di (lo rr).toInt64 (hi rr).toInt64 rt sp dl yg ch yr lv M sd).2) 2)))), (qr 3, .inl (cJ, 320, .inr (.inl (((pf_all nu wt rp di (lo rr).toInt64 (hi rr).toInt64 rt sp dl yg ch yr lv M sd).2) 3))))]) ⟨hx, hb, hml, hown, hts⟩ (c_sumOf l dC dI cI cJ cG o0 o1 o2 o3 o4 o5 o6 o7 ru sp dl rr yr sd rn yg ch mk o6 qg qr ((pf_all nu wt rp di (lo rr).toInt64 (hi rr).toInt64 rt sp dl yg ch yr lv M sd).2) 1 1 (by omega) (by omega) (by omega) (by omega) (by omega)) (cwV 3 hts (qg_V mq_2_183 mq_2_185 mq_p_12 mq_1_1 mq_2_186) rfl rfl rfl (by decide +kernel) ⟨Nat.le_of_ble_eq_true rfl, Nat.le_of_ble_eq_true rfl⟩) hK hP hD hS hA (ci := 0) (q0 := 0) rfl rfl [0, 9, 10, 11, 12, 13, 14] [1, 2, 3, 4, 5, 6, 7, 8] [8, 0, 1, 2, 3, 4, 5, 6, 7, 9, 10, 11, 12, 13, 14] rfl rfl (by decide) (by decide) rfl (by decide) rfl hl.1 rfl (Nat.le_of_ble_eq_true rfl) dO_caughtAtRate_16 ⟨Nat.le_of_ble_eq_true rfl, Nat.le_of_ble_eq_true rfl⟩ (fun H locs hP hD hS => ?_)
  exact hret hP hD hS (Nat.le_of_ble_eq_true rfl) (Nat.le_of_ble_eq_true rfl) (rfl) dO_caughtAtRate_19

end QOR
end
section
theorem dO_init_0 : decode prog_1_method_1_code 0 = .ok (.aload_n 0, 1) := by decide +kernel
theorem dO_init_1 : decode prog_1_method_1_code 1 = .ok (.invokespecial 1, 3) := by decide +kernel
theorem dO_init_4 : decode prog_1_method_1_code 4 = .ok (.aload_n 0, 1) := by decide +kernel
theorem dO_init_5 : decode prog_1_method_1_code 5 = .ok (.new 7, 3) := by decide +kernel
theorem dO_init_8 : decode prog_1_method_1_code 8 = .ok (.dup, 1) := by decide +kernel
theorem dO_init_9 : decode prog_1_method_1_code 9 = .ok (.invokespecial 9, 3) := by decide +kernel
theorem dO_init_12 : decode prog_1_method_1_code 12 = .ok (.putfield 10, 3) := by decide +kernel
theorem dO_init_15 : decode prog_1_method_1_code 15 = .ok (.aload_n 0, 1) := by decide +kernel
theorem dO_init_16 : decode prog_1_method_1_code 16 = .ok (.bipush 6, 2) := by decide +kernel
theorem dO_init_18 : decode prog_1_method_1_code 18 = .ok (.newarray .int, 2) := by decide +kernel
theorem dO_init_20 : decode prog_1_method_1_code 20 = .ok (.putfield 16, 3) := by decide +kernel
theorem dO_init_23 : decode prog_1_method_1_code 23 = .ok (.aload_n 0, 1) := by decide +kernel
theorem dO_init_24 : decode prog_1_method_1_code 24 = .ok (.bipush 6, 2) := by decide +kernel
theorem dO_init_26 : decode prog_1_method_1_code 26 = .ok (.newarray .int, 2) := by decide +kernel
theorem dO_init_28 : decode prog_1_method_1_code 28 = .ok (.putfield 20, 3) := by decide +kernel
theorem dO_init_31 : decode prog_1_method_1_code 31 = .ok (.aload_n 0, 1) := by decide +kernel
theorem dO_init_32 : decode prog_1_method_1_code 32 = .ok (.bipush 6, 2) := by decide +kernel
theorem dO_init_34 : decode prog_1_method_1_code 34 = .ok (.newarray .int, 2) := by decide +kernel
theorem dO_init_36 : decode prog_1_method_1_code 36 = .ok (.putfield 23, 3) := by decide +kernel
theorem dO_init_39 : decode prog_1_method_1_code 39 = .ok (.aload_n 0, 1) := by decide +kernel
theorem dO_init_40 : decode prog_1_method_1_code 40 = .ok (.sipush 1000, 3) := by decide +kernel
theorem dO_init_43 : decode prog_1_method_1_code 43 = .ok (.putfield 26, 3) := by decide +kernel
theorem dO_init_46 : decode prog_1_method_1_code 46 = .ok (.aload_n 0, 1) := by decide +kernel
theorem dO_init_47 : decode prog_1_method_1_code 47 = .ok (.new 30, 3) := by decide +kernel
theorem dO_init_50 : decode prog_1_method_1_code 50 = .ok (.dup, 1) := by decide +kernel
theorem dO_init_51 : decode prog_1_method_1_code 51 = .ok (.invokespecial 32, 3) := by decide +kernel
theorem dO_init_54 : decode prog_1_method_1_code 54 = .ok (.putfield 33, 3) := by decide +kernel
theorem dO_init_57 : decode prog_1_method_1_code 57 = .ok (.aload_n 0, 1) := by decide +kernel
theorem dO_init_58 : decode prog_1_method_1_code 58 = .ok (.new 30, 3) := by decide +kernel
theorem dO_init_61 : decode prog_1_method_1_code 61 = .ok (.dup, 1) := by decide +kernel
theorem dO_init_62 : decode prog_1_method_1_code 62 = .ok (.invokespecial 32, 3) := by decide +kernel
theorem dO_init_65 : decode prog_1_method_1_code 65 = .ok (.putfield 37, 3) := by decide +kernel
theorem dO_init_68 : decode prog_1_method_1_code 68 = .ok (.aload_n 0, 1) := by decide +kernel
theorem dO_init_69 : decode prog_1_method_1_code 69 = .ok (.bipush 16, 2) := by decide +kernel
theorem dO_init_71 : decode prog_1_method_1_code 71 = .ok (.newarray .long, 2) := by decide +kernel
theorem dO_init_73 : decode prog_1_method_1_code 73 = .ok (.putfield 40, 3) := by decide +kernel
theorem dO_init_76 : decode prog_1_method_1_code 76 = .ok (.return_, 1) := by decide +kernel
theorem dO_age_0 : decode prog_1_method_2_code 0 = .ok (.iload_n 1, 1) := by decide +kernel
theorem dO_age_1 : decode prog_1_method_2_code 1 = .ok (.iconst 0, 1) := by decide +kernel
theorem dO_age_2 : decode prog_1_method_2_code 2 = .ok (.iconst 5, 1) := by decide +kernel
theorem dO_age_3 : decode prog_1_method_2_code 3 = .ok (.invokestatic 44, 3) := by decide +kernel
theorem dO_age_6 : decode prog_1_method_2_code 6 = .ok (.iload_n 2, 1) := by decide +kernel
theorem dO_age_7 : decode prog_1_method_2_code 7 = .ok (.iconst 0, 1) := by decide +kernel
theorem dO_age_8 : decode prog_1_method_2_code 8 = .ok (.ldc 48, 2) := by decide +kernel
theorem dO_age_10 : decode prog_1_method_2_code 10 = .ok (.invokestatic 49, 3) := by decide +kernel
theorem dO_age_13 : decode prog_1_method_2_code 13 = .ok (.iload_n 3, 1) := by decide +kernel
theorem dO_age_14 : decode prog_1_method_2_code 14 = .ok (.iconst 0, 1) := by decide +kernel
theorem dO_age_15 : decode prog_1_method_2_code 15 = .ok (.sipush 10000, 3) := by decide +kernel
theorem dO_age_18 : decode prog_1_method_2_code 18 = .ok (.invokestatic 49, 3) := by decide +kernel
theorem dO_age_21 : decode prog_1_method_2_code 21 = .ok (.iload 4, 2) := by decide +kernel
theorem dO_age_23 : decode prog_1_method_2_code 23 = .ok (.iconst 0, 1) := by decide +kernel
theorem dO_age_24 : decode prog_1_method_2_code 24 = .ok (.sipush 1000, 3) := by decide +kernel
theorem dO_age_27 : decode prog_1_method_2_code 27 = .ok (.invokestatic 49, 3) := by decide +kernel
theorem dO_age_30 : decode prog_1_method_2_code 30 = .ok (.iload 5, 2) := by decide +kernel
theorem dO_age_32 : decode prog_1_method_2_code 32 = .ok (.iconst 0, 1) := by decide +kernel
theorem dO_age_33 : decode prog_1_method_2_code 33 = .ok (.sipush 1000, 3) := by decide +kernel
theorem dO_age_36 : decode prog_1_method_2_code 36 = .ok (.invokestatic 49, 3) := by decide +kernel
theorem dO_age_39 : decode prog_1_method_2_code 39 = .ok (.aload_n 0, 1) := by decide +kernel
theorem dO_age_40 : decode prog_1_method_2_code 40 = .ok (.getfield 10, 3) := by decide +kernel
theorem dO_age_43 : decode prog_1_method_2_code 43 = .ok (.iload_n 1, 1) := by decide +kernel
theorem dO_age_44 : decode prog_1_method_2_code 44 = .ok (.iload_n 2, 1) := by decide +kernel
theorem dO_age_45 : decode prog_1_method_2_code 45 = .ok (.iload_n 3, 1) := by decide +kernel
theorem dO_age_46 : decode prog_1_method_2_code 46 = .ok (.iload 4, 2) := by decide +kernel
theorem dO_age_48 : decode prog_1_method_2_code 48 = .ok (.iload 5, 2) := by decide +kernel
theorem dO_age_50 : decode prog_1_method_2_code 50 = .ok (.invokevirtual 52, 3) := by decide +kernel
theorem dO_age_53 : decode prog_1_method_2_code 53 = .ok (.return_, 1) := by decide +kernel
theorem dO_young_0 : decode prog_1_method_3_code 0 = .ok (.iload_n 1, 1) := by decide +kernel
theorem dO_young_1 : decode prog_1_method_3_code 1 = .ok (.iconst 0, 1) := by decide +kernel
theorem dO_young_2 : decode prog_1_method_3_code 2 = .ok (.ldc 48, 2) := by decide +kernel
theorem dO_young_4 : decode prog_1_method_3_code 4 = .ok (.invokestatic 49, 3) := by decide +kernel
theorem dO_young_7 : decode prog_1_method_3_code 7 = .ok (.aload_n 0, 1) := by decide +kernel
theorem dO_young_8 : decode prog_1_method_3_code 8 = .ok (.getfield 56, 3) := by decide +kernel
theorem dO_young_11 : decode prog_1_method_3_code 11 = .ok (.istore_n 2, 1) := by decide +kernel
theorem dO_young_12 : decode prog_1_method_3_code 12 = .ok (.aload_n 0, 1) := by decide +kernel
theorem dO_young_13 : decode prog_1_method_3_code 13 = .ok (.iload_n 1, 1) := by decide +kernel
theorem dO_young_14 : decode prog_1_method_3_code 14 = .ok (.putfield 56, 3) := by decide +kernel
theorem dO_young_17 : decode prog_1_method_3_code 17 = .ok (.iload_n 2, 1) := by decide +kernel
theorem dO_young_18 : decode prog_1_method_3_code 18 = .ok (.ireturn, 1) := by decide +kernel
theorem dO_rule_0 : decode prog_1_method_4_code 0 = .ok (.iload_n 2, 1) := by decide +kernel
theorem dO_rule_1 : decode prog_1_method_4_code 1 = .ok (.iconst 0, 1) := by decide +kernel
theorem dO_rule_2 : decode prog_1_method_4_code 2 = .ok (.ldc 59, 2) := by decide +kernel
theorem dO_rule_4 : decode prog_1_method_4_code 4 = .ok (.invokestatic 49, 3) := by decide +kernel
theorem dO_rule_7 : decode prog_1_method_4_code 7 = .ok (.iload_n 1, 1) := by decide +kernel
theorem dO_rule_8 : decode prog_1_method_4_code 8 = .ok (.iconst 0, 1) := by decide +kernel
theorem dO_rule_9 : decode prog_1_method_4_code 9 = .ok (.iload_n 2, 1) := by decide +kernel
theorem dO_rule_10 : decode prog_1_method_4_code 10 = .ok (.invokestatic 49, 3) := by decide +kernel
theorem dO_rule_13 : decode prog_1_method_4_code 13 = .ok (.iload_n 3, 1) := by decide +kernel
theorem dO_rule_14 : decode prog_1_method_4_code 14 = .ok (.iconst 0, 1) := by decide +kernel
theorem dO_rule_15 : decode prog_1_method_4_code 15 = .ok (.sipush 900, 3) := by decide +kernel
theorem dO_rule_18 : decode prog_1_method_4_code 18 = .ok (.invokestatic 49, 3) := by decide +kernel
theorem dO_rule_21 : decode prog_1_method_4_code 21 = .ok (.aload_n 0, 1) := by decide +kernel
theorem dO_rule_22 : decode prog_1_method_4_code 22 = .ok (.getfield 60, 3) := by decide +kernel
theorem dO_rule_25 : decode prog_1_method_4_code 25 = .ok (.bipush 6, 2) := by decide +kernel
theorem dO_rule_27 : decode prog_1_method_4_code 27 = .ok (.if_icmp .lt 13, 3) := by decide +kernel
theorem dO_rule_30 : decode prog_1_method_4_code 30 = .ok (.new 63, 3) := by decide +kernel
theorem dO_rule_33 : decode prog_1_method_4_code 33 = .ok (.dup, 1) := by decide +kernel
theorem dO_rule_34 : decode prog_1_method_4_code 34 = .ok (.ldc 65, 2) := by decide +kernel
theorem dO_rule_36 : decode prog_1_method_4_code 36 = .ok (.invokespecial 67, 3) := by decide +kernel
theorem dO_rule_39 : decode prog_1_method_4_code 39 = .ok (.athrow, 1) := by decide +kernel
theorem dO_rule_40 : decode prog_1_method_4_code 40 = .ok (.aload_n 0, 1) := by decide +kernel
theorem dO_rule_41 : decode prog_1_method_4_code 41 = .ok (.getfield 60, 3) := by decide +kernel
theorem dO_rule_44 : decode prog_1_method_4_code 44 = .ok (.istore 4, 2) := by decide +kernel
theorem dO_rule_46 : decode prog_1_method_4_code 46 = .ok (.aload_n 0, 1) := by decide +kernel
theorem dO_rule_47 : decode prog_1_method_4_code 47 = .ok (.getfield 16, 3) := by decide +kernel
theorem dO_rule_50 : decode prog_1_method_4_code 50 = .ok (.iload 4, 2) := by decide +kernel
theorem dO_rule_52 : decode prog_1_method_4_code 52 = .ok (.iload_n 1, 1) := by decide +kernel
theorem dO_rule_53 : decode prog_1_method_4_code 53 = .ok (.iastore, 1) := by decide +kernel
theorem dO_rule_54 : decode prog_1_method_4_code 54 = .ok (.aload_n 0, 1) := by decide +kernel
theorem dO_rule_55 : decode prog_1_method_4_code 55 = .ok (.getfield 20, 3) := by decide +kernel
theorem dO_rule_58 : decode prog_1_method_4_code 58 = .ok (.iload 4, 2) := by decide +kernel
theorem dO_rule_60 : decode prog_1_method_4_code 60 = .ok (.iload_n 2, 1) := by decide +kernel
theorem dO_rule_61 : decode prog_1_method_4_code 61 = .ok (.iastore, 1) := by decide +kernel
theorem dO_rule_62 : decode prog_1_method_4_code 62 = .ok (.aload_n 0, 1) := by decide +kernel
theorem dO_rule_63 : decode prog_1_method_4_code 63 = .ok (.getfield 23, 3) := by decide +kernel
theorem dO_rule_66 : decode prog_1_method_4_code 66 = .ok (.iload 4, 2) := by decide +kernel
theorem dO_rule_68 : decode prog_1_method_4_code 68 = .ok (.iload_n 3, 1) := by decide +kernel
theorem dO_rule_69 : decode prog_1_method_4_code 69 = .ok (.iastore, 1) := by decide +kernel
theorem dO_rule_70 : decode prog_1_method_4_code 70 = .ok (.aload_n 0, 1) := by decide +kernel
theorem dO_rule_71 : decode prog_1_method_4_code 71 = .ok (.iload 4, 2) := by decide +kernel
theorem dO_rule_73 : decode prog_1_method_4_code 73 = .ok (.iconst 1, 1) := by decide +kernel
theorem dO_rule_74 : decode prog_1_method_4_code 74 = .ok (.iadd, 1) := by decide +kernel
theorem dO_rule_75 : decode prog_1_method_4_code 75 = .ok (.putfield 60, 3) := by decide +kernel
theorem dO_rule_78 : decode prog_1_method_4_code 78 = .ok (.iload 4, 2) := by decide +kernel
theorem dO_rule_80 : decode prog_1_method_4_code 80 = .ok (.ireturn, 1) := by decide +kernel
theorem dO_change_0 : decode prog_1_method_5_code 0 = .ok (.iload_n 1, 1) := by decide +kernel
theorem dO_change_1 : decode prog_1_method_5_code 1 = .ok (.iconst 0, 1) := by decide +kernel
theorem dO_change_2 : decode prog_1_method_5_code 2 = .ok (.sipush 1000, 3) := by decide +kernel
theorem dO_change_5 : decode prog_1_method_5_code 5 = .ok (.invokestatic 49, 3) := by decide +kernel
theorem dO_change_8 : decode prog_1_method_5_code 8 = .ok (.aload_n 0, 1) := by decide +kernel
theorem dO_change_9 : decode prog_1_method_5_code 9 = .ok (.getfield 26, 3) := by decide +kernel
theorem dO_change_12 : decode prog_1_method_5_code 12 = .ok (.istore_n 2, 1) := by decide +kernel
theorem dO_change_13 : decode prog_1_method_5_code 13 = .ok (.aload_n 0, 1) := by decide +kernel
theorem dO_change_14 : decode prog_1_method_5_code 14 = .ok (.iload_n 1, 1) := by decide +kernel
theorem dO_change_15 : decode prog_1_method_5_code 15 = .ok (.putfield 26, 3) := by decide +kernel
theorem dO_change_18 : decode prog_1_method_5_code 18 = .ok (.iload_n 2, 1) := by decide +kernel
theorem dO_change_19 : decode prog_1_method_5_code 19 = .ok (.ireturn, 1) := by decide +kernel
theorem dO_error_0 : decode prog_1_method_6_code 0 = .ok (.iload_n 1, 1) := by decide +kernel
theorem dO_error_1 : decode prog_1_method_6_code 1 = .ok (.iconst 0, 1) := by decide +kernel
theorem dO_error_2 : decode prog_1_method_6_code 2 = .ok (.bipush 50, 2) := by decide +kernel
theorem dO_error_4 : decode prog_1_method_6_code 4 = .ok (.invokestatic 49, 3) := by decide +kernel
theorem dO_error_7 : decode prog_1_method_6_code 7 = .ok (.iload_n 2, 1) := by decide +kernel
theorem dO_error_8 : decode prog_1_method_6_code 8 = .ok (.iconst 0, 1) := by decide +kernel
theorem dO_error_9 : decode prog_1_method_6_code 9 = .ok (.iconst 3, 1) := by decide +kernel
theorem dO_error_10 : decode prog_1_method_6_code 10 = .ok (.invokestatic 49, 3) := by decide +kernel
theorem dO_error_13 : decode prog_1_method_6_code 13 = .ok (.aload_n 0, 1) := by decide +kernel
theorem dO_error_14 : decode prog_1_method_6_code 14 = .ok (.iload_n 1, 1) := by decide +kernel
theorem dO_error_15 : decode prog_1_method_6_code 15 = .ok (.putfield 70, 3) := by decide +kernel
theorem dO_error_18 : decode prog_1_method_6_code 18 = .ok (.aload_n 0, 1) := by decide +kernel
theorem dO_error_19 : decode prog_1_method_6_code 19 = .ok (.iload_n 2, 1) := by decide +kernel
theorem dO_error_20 : decode prog_1_method_6_code 20 = .ok (.putfield 73, 3) := by decide +kernel
theorem dO_error_23 : decode prog_1_method_6_code 23 = .ok (.return_, 1) := by decide +kernel
theorem dO_mark_0 : decode prog_1_method_7_code 0 = .ok (.iload_n 1, 1) := by decide +kernel
theorem dO_mark_1 : decode prog_1_method_7_code 1 = .ok (.iconst 0, 1) := by decide +kernel
theorem dO_mark_2 : decode prog_1_method_7_code 2 = .ok (.ldc 76, 2) := by decide +kernel
theorem dO_mark_4 : decode prog_1_method_7_code 4 = .ok (.invokestatic 49, 3) := by decide +kernel
theorem dO_mark_7 : decode prog_1_method_7_code 7 = .ok (.aload_n 0, 1) := by decide +kernel
theorem dO_mark_8 : decode prog_1_method_7_code 8 = .ok (.getfield 77, 3) := by decide +kernel
theorem dO_mark_11 : decode prog_1_method_7_code 11 = .ok (.istore_n 2, 1) := by decide +kernel
theorem dO_mark_12 : decode prog_1_method_7_code 12 = .ok (.aload_n 0, 1) := by decide +kernel
theorem dO_mark_13 : decode prog_1_method_7_code 13 = .ok (.iload_n 1, 1) := by decide +kernel
theorem dO_mark_14 : decode prog_1_method_7_code 14 = .ok (.putfield 77, 3) := by decide +kernel
theorem dO_mark_17 : decode prog_1_method_7_code 17 = .ok (.iload_n 2, 1) := by decide +kernel
theorem dO_mark_18 : decode prog_1_method_7_code 18 = .ok (.ireturn, 1) := by decide +kernel
theorem dO_run_0 : decode prog_1_method_9_code 0 = .ok (.iload_n 1, 1) := by decide +kernel
theorem dO_run_1 : decode prog_1_method_9_code 1 = .ok (.iconst 0, 1) := by decide +kernel
theorem dO_run_2 : decode prog_1_method_9_code 2 = .ok (.aload_n 0, 1) := by decide +kernel
theorem dO_run_3 : decode prog_1_method_9_code 3 = .ok (.getfield 60, 3) := by decide +kernel
theorem dO_run_6 : decode prog_1_method_9_code 6 = .ok (.iconst 1, 1) := by decide +kernel
theorem dO_run_7 : decode prog_1_method_9_code 7 = .ok (.isub, 1) := by decide +kernel
theorem dO_run_8 : decode prog_1_method_9_code 8 = .ok (.invokestatic 44, 3) := by decide +kernel
theorem dO_run_11 : decode prog_1_method_9_code 11 = .ok (.iload_n 2, 1) := by decide +kernel
theorem dO_run_12 : decode prog_1_method_9_code 12 = .ok (.iconst 1, 1) := by decide +kernel
theorem dO_run_13 : decode prog_1_method_9_code 13 = .ok (.bipush 20, 2) := by decide +kernel
theorem dO_run_15 : decode prog_1_method_9_code 15 = .ok (.invokestatic 49, 3) := by decide +kernel
theorem dO_run_18 : decode prog_1_method_9_code 18 = .ok (.iload_n 3, 1) := by decide +kernel
theorem dO_run_19 : decode prog_1_method_9_code 19 = .ok (.iconst 1, 1) := by decide +kernel
theorem dO_run_20 : decode prog_1_method_9_code 20 = .ok (.bipush 16, 2) := by decide +kernel
theorem dO_run_22 : decode prog_1_method_9_code 22 = .ok (.invokestatic 49, 3) := by decide +kernel
theorem dO_run_25 : decode prog_1_method_9_code 25 = .ok (.aload_n 0, 1) := by decide +kernel
theorem dO_run_26 : decode prog_1_method_9_code 26 = .ok (.iload_n 1, 1) := by decide +kernel
theorem dO_run_27 : decode prog_1_method_9_code 27 = .ok (.putfield 81, 3) := by decide +kernel
theorem dO_run_30 : decode prog_1_method_9_code 30 = .ok (.aload_n 0, 1) := by decide +kernel
theorem dO_run_31 : decode prog_1_method_9_code 31 = .ok (.iload_n 2, 1) := by decide +kernel
theorem dO_run_32 : decode prog_1_method_9_code 32 = .ok (.putfield 84, 3) := by decide +kernel
theorem dO_run_35 : decode prog_1_method_9_code 35 = .ok (.aload_n 0, 1) := by decide +kernel
theorem dO_run_36 : decode prog_1_method_9_code 36 = .ok (.iload_n 3, 1) := by decide +kernel
theorem dO_run_37 : decode prog_1_method_9_code 37 = .ok (.putfield 87, 3) := by decide +kernel
theorem dO_run_40 : decode prog_1_method_9_code 40 = .ok (.aload_n 0, 1) := by decide +kernel
theorem dO_run_41 : decode prog_1_method_9_code 41 = .ok (.dup, 1) := by decide +kernel
theorem dO_run_42 : decode prog_1_method_9_code 42 = .ok (.getfield 90, 3) := by decide +kernel
theorem dO_run_45 : decode prog_1_method_9_code 45 = .ok (.iconst 1, 1) := by decide +kernel
theorem dO_run_46 : decode prog_1_method_9_code 46 = .ok (.iadd, 1) := by decide +kernel
theorem dO_run_47 : decode prog_1_method_9_code 47 = .ok (.putfield 90, 3) := by decide +kernel
theorem dO_run_50 : decode prog_1_method_9_code 50 = .ok (.aload_n 0, 1) := by decide +kernel
theorem dO_run_51 : decode prog_1_method_9_code 51 = .ok (.aload_n 0, 1) := by decide +kernel
theorem dO_run_52 : decode prog_1_method_9_code 52 = .ok (.getfield 33, 3) := by decide +kernel
theorem dO_run_55 : decode prog_1_method_9_code 55 = .ok (.aload_n 0, 1) := by decide +kernel
theorem dO_run_56 : decode prog_1_method_9_code 56 = .ok (.getfield 23, 3) := by decide +kernel
theorem dO_run_59 : decode prog_1_method_9_code 59 = .ok (.iload_n 1, 1) := by decide +kernel
theorem dO_run_60 : decode prog_1_method_9_code 60 = .ok (.iaload, 1) := by decide +kernel
theorem dO_run_61 : decode prog_1_method_9_code 61 = .ok (.invokevirtual 93, 3) := by decide +kernel
theorem dO_run_64 : decode prog_1_method_9_code 64 = .ok (.aload_n 0, 1) := by decide +kernel
theorem dO_run_65 : decode prog_1_method_9_code 65 = .ok (.invokevirtual 97, 3) := by decide +kernel
theorem dO_run_68 : decode prog_1_method_9_code 68 = .ok (.ireturn, 1) := by decide +kernel
theorem dO_told_0 : decode prog_1_method_10_code 0 = .ok (.aload_n 0, 1) := by decide +kernel
theorem dO_told_1 : decode prog_1_method_10_code 1 = .ok (.invokevirtual 101, 3) := by decide +kernel
theorem dO_told_4 : decode prog_1_method_10_code 4 = .ok (.iload_n 1, 1) := by decide +kernel
theorem dO_told_5 : decode prog_1_method_10_code 5 = .ok (.iconst 0, 1) := by decide +kernel
theorem dO_told_6 : decode prog_1_method_10_code 6 = .ok (.aload_n 0, 1) := by decide +kernel
theorem dO_told_7 : decode prog_1_method_10_code 7 = .ok (.getfield 87, 3) := by decide +kernel
theorem dO_told_10 : decode prog_1_method_10_code 10 = .ok (.iconst 1, 1) := by decide +kernel
theorem dO_told_11 : decode prog_1_method_10_code 11 = .ok (.isub, 1) := by decide +kernel
theorem dO_told_12 : decode prog_1_method_10_code 12 = .ok (.invokestatic 44, 3) := by decide +kernel
theorem dO_told_15 : decode prog_1_method_10_code 15 = .ok (.iload_n 2, 1) := by decide +kernel
theorem dO_told_16 : decode prog_1_method_10_code 16 = .ok (.iconst 1, 1) := by decide +kernel
theorem dO_told_17 : decode prog_1_method_10_code 17 = .ok (.aload_n 0, 1) := by decide +kernel
theorem dO_told_18 : decode prog_1_method_10_code 18 = .ok (.getfield 84, 3) := by decide +kernel
theorem dO_told_21 : decode prog_1_method_10_code 21 = .ok (.invokestatic 44, 3) := by decide +kernel
theorem dO_told_24 : decode prog_1_method_10_code 24 = .ok (.iload_n 3, 1) := by decide +kernel
theorem dO_told_25 : decode prog_1_method_10_code 25 = .ok (.iconst 0, 1) := by decide +kernel
theorem dO_told_26 : decode prog_1_method_10_code 26 = .ok (.iconst 3, 1) := by decide +kernel
theorem dO_told_27 : decode prog_1_method_10_code 27 = .ok (.invokestatic 44, 3) := by decide +kernel
theorem dO_told_30 : decode prog_1_method_10_code 30 = .ok (.aload_n 0, 1) := by decide +kernel
theorem dO_told_31 : decode prog_1_method_10_code 31 = .ok (.getfield 33, 3) := by decide +kernel
theorem dO_told_34 : decode prog_1_method_10_code 34 = .ok (.iload_n 3, 1) := by decide +kernel
theorem dO_told_35 : decode prog_1_method_10_code 35 = .ok (.iload_n 1, 1) := by decide +kernel
theorem dO_told_36 : decode prog_1_method_10_code 36 = .ok (.iload_n 2, 1) := by decide +kernel
theorem dO_told_37 : decode prog_1_method_10_code 37 = .ok (.invokevirtual 104, 3) := by decide +kernel
theorem dO_told_40 : decode prog_1_method_10_code 40 = .ok (.lreturn, 1) := by decide +kernel
theorem dO_below_0 : decode prog_1_method_11_code 0 = .ok (.aload_n 0, 1) := by decide +kernel
theorem dO_below_1 : decode prog_1_method_11_code 1 = .ok (.invokevirtual 101, 3) := by decide +kernel
theorem dO_below_4 : decode prog_1_method_11_code 4 = .ok (.iload_n 1, 1) := by decide +kernel
theorem dO_below_5 : decode prog_1_method_11_code 5 = .ok (.iconst 1, 1) := by decide +kernel
theorem dO_below_6 : decode prog_1_method_11_code 6 = .ok (.aload_n 0, 1) := by decide +kernel
theorem dO_below_7 : decode prog_1_method_11_code 7 = .ok (.getfield 84, 3) := by decide +kernel
theorem dO_below_10 : decode prog_1_method_11_code 10 = .ok (.invokestatic 44, 3) := by decide +kernel
theorem dO_below_13 : decode prog_1_method_11_code 13 = .ok (.iload_n 2, 1) := by decide +kernel
theorem dO_below_14 : decode prog_1_method_11_code 14 = .ok (.iconst 0, 1) := by decide +kernel
theorem dO_below_15 : decode prog_1_method_11_code 15 = .ok (.iconst 1, 1) := by decide +kernel
theorem dO_below_16 : decode prog_1_method_11_code 16 = .ok (.invokestatic 44, 3) := by decide +kernel
theorem dO_below_19 : decode prog_1_method_11_code 19 = .ok (.iconst 0, 1) := by decide +kernel
theorem dO_below_20 : decode prog_1_method_11_code 20 = .ok (.istore_n 3, 1) := by decide +kernel
theorem dO_below_21 : decode prog_1_method_11_code 21 = .ok (.iconst 0, 1) := by decide +kernel
theorem dO_below_22 : decode prog_1_method_11_code 22 = .ok (.istore 4, 2) := by decide +kernel
theorem dO_below_24 : decode prog_1_method_11_code 24 = .ok (.iload 4, 2) := by decide +kernel
theorem dO_below_26 : decode prog_1_method_11_code 26 = .ok (.aload_n 0, 1) := by decide +kernel
theorem dO_below_27 : decode prog_1_method_11_code 27 = .ok (.getfield 87, 3) := by decide +kernel
theorem dO_below_30 : decode prog_1_method_11_code 30 = .ok (.if_icmp .ge 22, 3) := by decide +kernel
theorem dO_below_33 : decode prog_1_method_11_code 33 = .ok (.aload_n 0, 1) := by decide +kernel
theorem dO_below_34 : decode prog_1_method_11_code 34 = .ok (.iload 4, 2) := by decide +kernel
theorem dO_below_36 : decode prog_1_method_11_code 36 = .ok (.iload_n 1, 1) := by decide +kernel
theorem dO_below_37 : decode prog_1_method_11_code 37 = .ok (.invokevirtual 108, 3) := by decide +kernel
theorem dO_below_40 : decode prog_1_method_11_code 40 = .ok (.ifCond .eq 6, 3) := by decide +kernel
theorem dO_below_43 : decode prog_1_method_11_code 43 = .ok (.iinc 3 1, 3) := by decide +kernel
theorem dO_below_46 : decode prog_1_method_11_code 46 = .ok (.iinc 4 1, 3) := by decide +kernel
theorem dO_below_49 : decode prog_1_method_11_code 49 = .ok (.goto (-25), 3) := by decide +kernel
theorem dO_below_52 : decode prog_1_method_11_code 52 = .ok (.iload_n 3, 1) := by decide +kernel
theorem dO_below_53 : decode prog_1_method_11_code 53 = .ok (.i2l, 1) := by decide +kernel
theorem dO_below_54 : decode prog_1_method_11_code 54 = .ok (.aload_n 0, 1) := by decide +kernel
theorem dO_below_55 : decode prog_1_method_11_code 55 = .ok (.getfield 87, 3) := by decide +kernel
theorem dO_below_58 : decode prog_1_method_11_code 58 = .ok (.i2l, 1) := by decide +kernel
theorem dO_below_59 : decode prog_1_method_11_code 59 = .ok (.iload_n 2, 1) := by decide +kernel
theorem dO_below_60 : decode prog_1_method_11_code 60 = .ok (.invokestatic 112, 3) := by decide +kernel
theorem dO_below_63 : decode prog_1_method_11_code 63 = .ok (.l2i, 1) := by decide +kernel
theorem dO_below_64 : decode prog_1_method_11_code 64 = .ok (.ireturn, 1) := by decide +kernel
theorem dO_steady_0 : decode prog_1_method_12_code 0 = .ok (.aload_n 0, 1) := by decide +kernel
theorem dO_steady_1 : decode prog_1_method_12_code 1 = .ok (.invokevirtual 101, 3) := by decide +kernel
theorem dO_steady_4 : decode prog_1_method_12_code 4 = .ok (.iload_n 1, 1) := by decide +kernel
theorem dO_steady_5 : decode prog_1_method_12_code 5 = .ok (.iconst 0, 1) := by decide +kernel
theorem dO_steady_6 : decode prog_1_method_12_code 6 = .ok (.aload_n 0, 1) := by decide +kernel
theorem dO_steady_7 : decode prog_1_method_12_code 7 = .ok (.getfield 87, 3) := by decide +kernel
theorem dO_steady_10 : decode prog_1_method_12_code 10 = .ok (.iconst 1, 1) := by decide +kernel
theorem dO_steady_11 : decode prog_1_method_12_code 11 = .ok (.isub, 1) := by decide +kernel
theorem dO_steady_12 : decode prog_1_method_12_code 12 = .ok (.invokestatic 44, 3) := by decide +kernel
theorem dO_steady_15 : decode prog_1_method_12_code 15 = .ok (.lconst 0, 1) := by decide +kernel
theorem dO_steady_16 : decode prog_1_method_12_code 16 = .ok (.lstore_n 2, 1) := by decide +kernel
theorem dO_steady_17 : decode prog_1_method_12_code 17 = .ok (.iconst 2, 1) := by decide +kernel
theorem dO_steady_18 : decode prog_1_method_12_code 18 = .ok (.istore 4, 2) := by decide +kernel
theorem dO_steady_20 : decode prog_1_method_12_code 20 = .ok (.iload 4, 2) := by decide +kernel
theorem dO_steady_22 : decode prog_1_method_12_code 22 = .ok (.aload_n 0, 1) := by decide +kernel
theorem dO_steady_23 : decode prog_1_method_12_code 23 = .ok (.getfield 84, 3) := by decide +kernel
theorem dO_steady_26 : decode prog_1_method_12_code 26 = .ok (.if_icmp .gt 40, 3) := by decide +kernel
theorem dO_steady_29 : decode prog_1_method_12_code 29 = .ok (.lload_n 2, 1) := by decide +kernel
theorem dO_steady_30 : decode prog_1_method_12_code 30 = .ok (.aload_n 0, 1) := by decide +kernel
theorem dO_steady_31 : decode prog_1_method_12_code 31 = .ok (.getfield 33, 3) := by decide +kernel
theorem dO_steady_34 : decode prog_1_method_12_code 34 = .ok (.iconst 1, 1) := by decide +kernel
theorem dO_steady_35 : decode prog_1_method_12_code 35 = .ok (.iload_n 1, 1) := by decide +kernel
theorem dO_steady_36 : decode prog_1_method_12_code 36 = .ok (.iload 4, 2) := by decide +kernel
theorem dO_steady_38 : decode prog_1_method_12_code 38 = .ok (.invokevirtual 104, 3) := by decide +kernel
theorem dO_steady_41 : decode prog_1_method_12_code 41 = .ok (.aload_n 0, 1) := by decide +kernel
theorem dO_steady_42 : decode prog_1_method_12_code 42 = .ok (.getfield 33, 3) := by decide +kernel
theorem dO_steady_45 : decode prog_1_method_12_code 45 = .ok (.iconst 1, 1) := by decide +kernel
theorem dO_steady_46 : decode prog_1_method_12_code 46 = .ok (.iload_n 1, 1) := by decide +kernel
theorem dO_steady_47 : decode prog_1_method_12_code 47 = .ok (.iload 4, 2) := by decide +kernel
theorem dO_steady_49 : decode prog_1_method_12_code 49 = .ok (.iconst 1, 1) := by decide +kernel
theorem dO_steady_50 : decode prog_1_method_12_code 50 = .ok (.isub, 1) := by decide +kernel
theorem dO_steady_51 : decode prog_1_method_12_code 51 = .ok (.invokevirtual 104, 3) := by decide +kernel
theorem dO_steady_54 : decode prog_1_method_12_code 54 = .ok (.lsub, 1) := by decide +kernel
theorem dO_steady_55 : decode prog_1_method_12_code 55 = .ok (.invokestatic 116, 3) := by decide +kernel
theorem dO_steady_58 : decode prog_1_method_12_code 58 = .ok (.ladd, 1) := by decide +kernel
theorem dO_steady_59 : decode prog_1_method_12_code 59 = .ok (.lstore_n 2, 1) := by decide +kernel
theorem dO_steady_60 : decode prog_1_method_12_code 60 = .ok (.iinc 4 1, 3) := by decide +kernel
theorem dO_steady_63 : decode prog_1_method_12_code 63 = .ok (.goto (-43), 3) := by decide +kernel
theorem dO_steady_66 : decode prog_1_method_12_code 66 = .ok (.lload_n 2, 1) := by decide +kernel
theorem dO_steady_67 : decode prog_1_method_12_code 67 = .ok (.lreturn, 1) := by decide +kernel
theorem dO_recovers_0 : decode prog_1_method_13_code 0 = .ok (.aload_n 0, 1) := by decide +kernel
theorem dO_recovers_1 : decode prog_1_method_13_code 1 = .ok (.invokevirtual 101, 3) := by decide +kernel
theorem dO_recovers_4 : decode prog_1_method_13_code 4 = .ok (.iload_n 1, 1) := by decide +kernel
theorem dO_recovers_5 : decode prog_1_method_13_code 5 = .ok (.iconst 0, 1) := by decide +kernel
theorem dO_recovers_6 : decode prog_1_method_13_code 6 = .ok (.aload_n 0, 1) := by decide +kernel
theorem dO_recovers_7 : decode prog_1_method_13_code 7 = .ok (.getfield 87, 3) := by decide +kernel
theorem dO_recovers_10 : decode prog_1_method_13_code 10 = .ok (.iconst 1, 1) := by decide +kernel
theorem dO_recovers_11 : decode prog_1_method_13_code 11 = .ok (.isub, 1) := by decide +kernel
theorem dO_recovers_12 : decode prog_1_method_13_code 12 = .ok (.invokestatic 44, 3) := by decide +kernel
theorem dO_recovers_15 : decode prog_1_method_13_code 15 = .ok (.iload_n 2, 1) := by decide +kernel
theorem dO_recovers_16 : decode prog_1_method_13_code 16 = .ok (.iconst 1, 1) := by decide +kernel
theorem dO_recovers_17 : decode prog_1_method_13_code 17 = .ok (.bipush 20, 2) := by decide +kernel
theorem dO_recovers_19 : decode prog_1_method_13_code 19 = .ok (.invokestatic 49, 3) := by decide +kernel
theorem dO_recovers_22 : decode prog_1_method_13_code 22 = .ok (.iconst 0, 1) := by decide +kernel
theorem dO_recovers_23 : decode prog_1_method_13_code 23 = .ok (.istore_n 3, 1) := by decide +kernel
theorem dO_recovers_24 : decode prog_1_method_13_code 24 = .ok (.iconst 1, 1) := by decide +kernel
theorem dO_recovers_25 : decode prog_1_method_13_code 25 = .ok (.istore 4, 2) := by decide +kernel
theorem dO_recovers_27 : decode prog_1_method_13_code 27 = .ok (.iload 4, 2) := by decide +kernel
theorem dO_recovers_29 : decode prog_1_method_13_code 29 = .ok (.aload_n 0, 1) := by decide +kernel
theorem dO_recovers_30 : decode prog_1_method_13_code 30 = .ok (.getfield 84, 3) := by decide +kernel
theorem dO_recovers_33 : decode prog_1_method_13_code 33 = .ok (.if_icmp .gt 39, 3) := by decide +kernel
theorem dO_recovers_36 : decode prog_1_method_13_code 36 = .ok (.aload_n 0, 1) := by decide +kernel
theorem dO_recovers_37 : decode prog_1_method_13_code 37 = .ok (.iload_n 1, 1) := by decide +kernel
theorem dO_recovers_38 : decode prog_1_method_13_code 38 = .ok (.iload 4, 2) := by decide +kernel
theorem dO_recovers_40 : decode prog_1_method_13_code 40 = .ok (.invokevirtual 108, 3) := by decide +kernel
theorem dO_recovers_43 : decode prog_1_method_13_code 43 = .ok (.ifCond .eq 7, 3) := by decide +kernel
theorem dO_recovers_46 : decode prog_1_method_13_code 46 = .ok (.iconst 0, 1) := by decide +kernel
theorem dO_recovers_47 : decode prog_1_method_13_code 47 = .ok (.goto 6, 3) := by decide +kernel
theorem dO_recovers_50 : decode prog_1_method_13_code 50 = .ok (.iload_n 3, 1) := by decide +kernel
theorem dO_recovers_51 : decode prog_1_method_13_code 51 = .ok (.iconst 1, 1) := by decide +kernel
theorem dO_recovers_52 : decode prog_1_method_13_code 52 = .ok (.iadd, 1) := by decide +kernel
theorem dO_recovers_53 : decode prog_1_method_13_code 53 = .ok (.istore_n 3, 1) := by decide +kernel
theorem dO_recovers_54 : decode prog_1_method_13_code 54 = .ok (.iload_n 3, 1) := by decide +kernel
theorem dO_recovers_55 : decode prog_1_method_13_code 55 = .ok (.iload_n 2, 1) := by decide +kernel
theorem dO_recovers_56 : decode prog_1_method_13_code 56 = .ok (.if_icmp .ne 10, 3) := by decide +kernel
theorem dO_recovers_59 : decode prog_1_method_13_code 59 = .ok (.iload 4, 2) := by decide +kernel
theorem dO_recovers_61 : decode prog_1_method_13_code 61 = .ok (.iload_n 2, 1) := by decide +kernel
theorem dO_recovers_62 : decode prog_1_method_13_code 62 = .ok (.isub, 1) := by decide +kernel
theorem dO_recovers_63 : decode prog_1_method_13_code 63 = .ok (.iconst 1, 1) := by decide +kernel
theorem dO_recovers_64 : decode prog_1_method_13_code 64 = .ok (.iadd, 1) := by decide +kernel
theorem dO_recovers_65 : decode prog_1_method_13_code 65 = .ok (.ireturn, 1) := by decide +kernel
theorem dO_recovers_66 : decode prog_1_method_13_code 66 = .ok (.iinc 4 1, 3) := by decide +kernel
theorem dO_recovers_69 : decode prog_1_method_13_code 69 = .ok (.goto (-42), 3) := by decide +kernel
theorem dO_recovers_72 : decode prog_1_method_13_code 72 = .ok (.iconst (-1), 1) := by decide +kernel
theorem dO_recovers_73 : decode prog_1_method_13_code 73 = .ok (.ireturn, 1) := by decide +kernel
theorem dO_rank_0 : decode prog_1_method_14_code 0 = .ok (.aload_n 0, 1) := by decide +kernel
theorem dO_rank_1 : decode prog_1_method_14_code 1 = .ok (.invokevirtual 101, 3) := by decide +kernel
theorem dO_rank_4 : decode prog_1_method_14_code 4 = .ok (.iload_n 1, 1) := by decide +kernel
theorem dO_rank_5 : decode prog_1_method_14_code 5 = .ok (.iconst 1, 1) := by decide +kernel
theorem dO_rank_6 : decode prog_1_method_14_code 6 = .ok (.aload_n 0, 1) := by decide +kernel
theorem dO_rank_7 : decode prog_1_method_14_code 7 = .ok (.getfield 84, 3) := by decide +kernel
theorem dO_rank_10 : decode prog_1_method_14_code 10 = .ok (.invokestatic 44, 3) := by decide +kernel
theorem dO_rank_13 : decode prog_1_method_14_code 13 = .ok (.iload_n 2, 1) := by decide +kernel
theorem dO_rank_14 : decode prog_1_method_14_code 14 = .ok (.iconst 0, 1) := by decide +kernel
theorem dO_rank_15 : decode prog_1_method_14_code 15 = .ok (.aload_n 0, 1) := by decide +kernel
theorem dO_rank_16 : decode prog_1_method_14_code 16 = .ok (.getfield 87, 3) := by decide +kernel
theorem dO_rank_19 : decode prog_1_method_14_code 19 = .ok (.iconst 1, 1) := by decide +kernel
theorem dO_rank_20 : decode prog_1_method_14_code 20 = .ok (.isub, 1) := by decide +kernel
theorem dO_rank_21 : decode prog_1_method_14_code 21 = .ok (.invokestatic 44, 3) := by decide +kernel
theorem dO_rank_24 : decode prog_1_method_14_code 24 = .ok (.iconst 0, 1) := by decide +kernel
theorem dO_rank_25 : decode prog_1_method_14_code 25 = .ok (.istore_n 3, 1) := by decide +kernel
theorem dO_rank_26 : decode prog_1_method_14_code 26 = .ok (.iload_n 3, 1) := by decide +kernel
theorem dO_rank_27 : decode prog_1_method_14_code 27 = .ok (.aload_n 0, 1) := by decide +kernel
theorem dO_rank_28 : decode prog_1_method_14_code 28 = .ok (.getfield 87, 3) := by decide +kernel
theorem dO_rank_31 : decode prog_1_method_14_code 31 = .ok (.if_icmp .ge 24, 3) := by decide +kernel
theorem dO_rank_34 : decode prog_1_method_14_code 34 = .ok (.aload_n 0, 1) := by decide +kernel
theorem dO_rank_35 : decode prog_1_method_14_code 35 = .ok (.iload_n 3, 1) := by decide +kernel
theorem dO_rank_36 : decode prog_1_method_14_code 36 = .ok (.aload_n 0, 1) := by decide +kernel
theorem dO_rank_37 : decode prog_1_method_14_code 37 = .ok (.getfield 33, 3) := by decide +kernel
theorem dO_rank_40 : decode prog_1_method_14_code 40 = .ok (.iconst 0, 1) := by decide +kernel
theorem dO_rank_41 : decode prog_1_method_14_code 41 = .ok (.iload_n 3, 1) := by decide +kernel
theorem dO_rank_42 : decode prog_1_method_14_code 42 = .ok (.iload_n 1, 1) := by decide +kernel
theorem dO_rank_43 : decode prog_1_method_14_code 43 = .ok (.invokevirtual 104, 3) := by decide +kernel
theorem dO_rank_46 : decode prog_1_method_14_code 46 = .ok (.invokevirtual 122, 3) := by decide +kernel
theorem dO_rank_49 : decode prog_1_method_14_code 49 = .ok (.iinc 3 1, 3) := by decide +kernel
theorem dO_rank_52 : decode prog_1_method_14_code 52 = .ok (.goto (-26), 3) := by decide +kernel
theorem dO_rank_55 : decode prog_1_method_14_code 55 = .ok (.aload_n 0, 1) := by decide +kernel
theorem dO_rank_56 : decode prog_1_method_14_code 56 = .ok (.getfield 40, 3) := by decide +kernel
theorem dO_rank_59 : decode prog_1_method_14_code 59 = .ok (.iload_n 2, 1) := by decide +kernel
theorem dO_rank_60 : decode prog_1_method_14_code 60 = .ok (.laload, 1) := by decide +kernel
theorem dO_rank_61 : decode prog_1_method_14_code 61 = .ok (.lreturn, 1) := by decide +kernel
theorem dO_mean_0 : decode prog_1_method_15_code 0 = .ok (.aload_n 0, 1) := by decide +kernel
theorem dO_mean_1 : decode prog_1_method_15_code 1 = .ok (.invokevirtual 101, 3) := by decide +kernel
theorem dO_mean_4 : decode prog_1_method_15_code 4 = .ok (.iload_n 1, 1) := by decide +kernel
theorem dO_mean_5 : decode prog_1_method_15_code 5 = .ok (.iconst 0, 1) := by decide +kernel
theorem dO_mean_6 : decode prog_1_method_15_code 6 = .ok (.iconst 1, 1) := by decide +kernel
theorem dO_mean_7 : decode prog_1_method_15_code 7 = .ok (.invokestatic 44, 3) := by decide +kernel
theorem dO_mean_10 : decode prog_1_method_15_code 10 = .ok (.iload_n 2, 1) := by decide +kernel
theorem dO_mean_11 : decode prog_1_method_15_code 11 = .ok (.iconst 0, 1) := by decide +kernel
theorem dO_mean_12 : decode prog_1_method_15_code 12 = .ok (.iconst 1, 1) := by decide +kernel
theorem dO_mean_13 : decode prog_1_method_15_code 13 = .ok (.invokestatic 44, 3) := by decide +kernel
theorem dO_mean_16 : decode prog_1_method_15_code 16 = .ok (.iload_n 1, 1) := by decide +kernel
theorem dO_mean_17 : decode prog_1_method_15_code 17 = .ok (.ifCond .ne 28, 3) := by decide +kernel
theorem dO_mean_20 : decode prog_1_method_15_code 20 = .ok (.aload_n 0, 1) := by decide +kernel
theorem dO_mean_21 : decode prog_1_method_15_code 21 = .ok (.aload_n 0, 1) := by decide +kernel
theorem dO_mean_22 : decode prog_1_method_15_code 22 = .ok (.getfield 33, 3) := by decide +kernel
theorem dO_mean_25 : decode prog_1_method_15_code 25 = .ok (.iconst 1, 1) := by decide +kernel
theorem dO_mean_26 : decode prog_1_method_15_code 26 = .ok (.iconst 1, 1) := by decide +kernel
theorem dO_mean_27 : decode prog_1_method_15_code 27 = .ok (.invokevirtual 126, 3) := by decide +kernel
theorem dO_mean_30 : decode prog_1_method_15_code 30 = .ok (.aload_n 0, 1) := by decide +kernel
theorem dO_mean_31 : decode prog_1_method_15_code 31 = .ok (.getfield 87, 3) := by decide +kernel
theorem dO_mean_34 : decode prog_1_method_15_code 34 = .ok (.aload_n 0, 1) := by decide +kernel
theorem dO_mean_35 : decode prog_1_method_15_code 35 = .ok (.getfield 84, 3) := by decide +kernel
theorem dO_mean_38 : decode prog_1_method_15_code 38 = .ok (.imul, 1) := by decide +kernel
theorem dO_mean_39 : decode prog_1_method_15_code 39 = .ok (.i2l, 1) := by decide +kernel
theorem dO_mean_40 : decode prog_1_method_15_code 40 = .ok (.iload_n 2, 1) := by decide +kernel
theorem dO_mean_41 : decode prog_1_method_15_code 41 = .ok (.invokestatic 112, 3) := by decide +kernel
theorem dO_mean_44 : decode prog_1_method_15_code 44 = .ok (.lreturn, 1) := by decide +kernel
theorem dO_mean_45 : decode prog_1_method_15_code 45 = .ok (.aload_n 0, 1) := by decide +kernel
theorem dO_mean_46 : decode prog_1_method_15_code 46 = .ok (.aload_n 0, 1) := by decide +kernel
theorem dO_mean_47 : decode prog_1_method_15_code 47 = .ok (.getfield 33, 3) := by decide +kernel
theorem dO_mean_50 : decode prog_1_method_15_code 50 = .ok (.iconst 0, 1) := by decide +kernel
theorem dO_mean_51 : decode prog_1_method_15_code 51 = .ok (.aload_n 0, 1) := by decide +kernel
theorem dO_mean_52 : decode prog_1_method_15_code 52 = .ok (.getfield 84, 3) := by decide +kernel
theorem dO_mean_55 : decode prog_1_method_15_code 55 = .ok (.invokevirtual 126, 3) := by decide +kernel
theorem dO_mean_58 : decode prog_1_method_15_code 58 = .ok (.aload_n 0, 1) := by decide +kernel
theorem dO_mean_59 : decode prog_1_method_15_code 59 = .ok (.getfield 87, 3) := by decide +kernel
theorem dO_mean_62 : decode prog_1_method_15_code 62 = .ok (.i2l, 1) := by decide +kernel
theorem dO_mean_63 : decode prog_1_method_15_code 63 = .ok (.iload_n 2, 1) := by decide +kernel
theorem dO_mean_64 : decode prog_1_method_15_code 64 = .ok (.invokestatic 112, 3) := by decide +kernel
theorem dO_mean_67 : decode prog_1_method_15_code 67 = .ok (.lreturn, 1) := by decide +kernel
theorem dO_table_0 : decode prog_1_method_16_code 0 = .ok (.aload_n 0, 1) := by decide +kernel
theorem dO_table_1 : decode prog_1_method_16_code 1 = .ok (.invokevirtual 101, 3) := by decide +kernel
theorem dO_table_4 : decode prog_1_method_16_code 4 = .ok (.iload_n 1, 1) := by decide +kernel
theorem dO_table_5 : decode prog_1_method_16_code 5 = .ok (.iconst 0, 1) := by decide +kernel
theorem dO_table_6 : decode prog_1_method_16_code 6 = .ok (.bipush 18, 2) := by decide +kernel
theorem dO_table_8 : decode prog_1_method_16_code 8 = .ok (.invokestatic 44, 3) := by decide +kernel
theorem dO_table_11 : decode prog_1_method_16_code 11 = .ok (.aload_n 0, 1) := by decide +kernel
theorem dO_table_12 : decode prog_1_method_16_code 12 = .ok (.bipush 50, 2) := by decide +kernel
theorem dO_table_14 : decode prog_1_method_16_code 14 = .ok (.iload_n 1, 1) := by decide +kernel
theorem dO_table_15 : decode prog_1_method_16_code 15 = .ok (.imul, 1) := by decide +kernel
theorem dO_table_16 : decode prog_1_method_16_code 16 = .ok (.invokevirtual 130, 3) := by decide +kernel
theorem dO_table_19 : decode prog_1_method_16_code 19 = .ok (.lreturn, 1) := by decide +kernel
theorem dO_top_0 : decode prog_1_method_17_code 0 = .ok (.aload_n 0, 1) := by decide +kernel
theorem dO_top_1 : decode prog_1_method_17_code 1 = .ok (.invokevirtual 101, 3) := by decide +kernel
theorem dO_top_4 : decode prog_1_method_17_code 4 = .ok (.iconst 0, 1) := by decide +kernel
theorem dO_top_5 : decode prog_1_method_17_code 5 = .ok (.istore_n 1, 1) := by decide +kernel
theorem dO_top_6 : decode prog_1_method_17_code 6 = .ok (.aload_n 0, 1) := by decide +kernel
theorem dO_top_7 : decode prog_1_method_17_code 7 = .ok (.iconst 0, 1) := by decide +kernel
theorem dO_top_8 : decode prog_1_method_17_code 8 = .ok (.invokevirtual 130, 3) := by decide +kernel
theorem dO_top_11 : decode prog_1_method_17_code 11 = .ok (.lstore_n 2, 1) := by decide +kernel
theorem dO_top_12 : decode prog_1_method_17_code 12 = .ok (.iconst 1, 1) := by decide +kernel
theorem dO_top_13 : decode prog_1_method_17_code 13 = .ok (.istore 4, 2) := by decide +kernel
theorem dO_top_15 : decode prog_1_method_17_code 15 = .ok (.iload 4, 2) := by decide +kernel
theorem dO_top_17 : decode prog_1_method_17_code 17 = .ok (.bipush 19, 2) := by decide +kernel
theorem dO_top_19 : decode prog_1_method_17_code 19 = .ok (.if_icmp .ge 33, 3) := by decide +kernel
theorem dO_top_22 : decode prog_1_method_17_code 22 = .ok (.aload_n 0, 1) := by decide +kernel
theorem dO_top_23 : decode prog_1_method_17_code 23 = .ok (.bipush 50, 2) := by decide +kernel
theorem dO_top_25 : decode prog_1_method_17_code 25 = .ok (.iload 4, 2) := by decide +kernel
theorem dO_top_27 : decode prog_1_method_17_code 27 = .ok (.imul, 1) := by decide +kernel
theorem dO_top_28 : decode prog_1_method_17_code 28 = .ok (.invokevirtual 130, 3) := by decide +kernel
theorem dO_top_31 : decode prog_1_method_17_code 31 = .ok (.lstore 5, 2) := by decide +kernel
theorem dO_top_33 : decode prog_1_method_17_code 33 = .ok (.lload 5, 2) := by decide +kernel
theorem dO_top_35 : decode prog_1_method_17_code 35 = .ok (.lload_n 2, 1) := by decide +kernel
theorem dO_top_36 : decode prog_1_method_17_code 36 = .ok (.lcmp, 1) := by decide +kernel
theorem dO_top_37 : decode prog_1_method_17_code 37 = .ok (.ifCond .le 9, 3) := by decide +kernel
theorem dO_top_40 : decode prog_1_method_17_code 40 = .ok (.iload 4, 2) := by decide +kernel
theorem dO_top_42 : decode prog_1_method_17_code 42 = .ok (.istore_n 1, 1) := by decide +kernel
theorem dO_top_43 : decode prog_1_method_17_code 43 = .ok (.lload 5, 2) := by decide +kernel
theorem dO_top_45 : decode prog_1_method_17_code 45 = .ok (.lstore_n 2, 1) := by decide +kernel
theorem dO_top_46 : decode prog_1_method_17_code 46 = .ok (.iinc 4 1, 3) := by decide +kernel
theorem dO_top_49 : decode prog_1_method_17_code 49 = .ok (.goto (-34), 3) := by decide +kernel
theorem dO_top_52 : decode prog_1_method_17_code 52 = .ok (.iload_n 1, 1) := by decide +kernel
theorem dO_top_53 : decode prog_1_method_17_code 53 = .ok (.ireturn, 1) := by decide +kernel
theorem dO_count_0 : decode prog_1_method_18_code 0 = .ok (.iload_n 1, 1) := by decide +kernel
theorem dO_count_1 : decode prog_1_method_18_code 1 = .ok (.tableswitch 51 0 3 #[31, 36, 41, 46], 31) := by decide +kernel
theorem dO_count_32 : decode prog_1_method_18_code 32 = .ok (.aload_n 0, 1) := by decide +kernel
theorem dO_count_33 : decode prog_1_method_18_code 33 = .ok (.getfield 60, 3) := by decide +kernel
theorem dO_count_36 : decode prog_1_method_18_code 36 = .ok (.ireturn, 1) := by decide +kernel
theorem dO_count_37 : decode prog_1_method_18_code 37 = .ok (.aload_n 0, 1) := by decide +kernel
theorem dO_count_38 : decode prog_1_method_18_code 38 = .ok (.getfield 84, 3) := by decide +kernel
theorem dO_count_41 : decode prog_1_method_18_code 41 = .ok (.ireturn, 1) := by decide +kernel
theorem dO_count_42 : decode prog_1_method_18_code 42 = .ok (.aload_n 0, 1) := by decide +kernel
theorem dO_count_43 : decode prog_1_method_18_code 43 = .ok (.getfield 87, 3) := by decide +kernel
theorem dO_count_46 : decode prog_1_method_18_code 46 = .ok (.ireturn, 1) := by decide +kernel
theorem dO_count_47 : decode prog_1_method_18_code 47 = .ok (.aload_n 0, 1) := by decide +kernel
theorem dO_count_48 : decode prog_1_method_18_code 48 = .ok (.getfield 90, 3) := by decide +kernel
theorem dO_count_51 : decode prog_1_method_18_code 51 = .ok (.ireturn, 1) := by decide +kernel
theorem dO_count_52 : decode prog_1_method_18_code 52 = .ok (.iconst (-1), 1) := by decide +kernel
theorem dO_count_53 : decode prog_1_method_18_code 53 = .ok (.ireturn, 1) := by decide +kernel
theorem dO_requireRun_0 : decode prog_1_method_33_code 0 = .ok (.aload_n 0, 1) := by decide +kernel
theorem dO_requireRun_1 : decode prog_1_method_33_code 1 = .ok (.getfield 90, 3) := by decide +kernel
theorem dO_requireRun_4 : decode prog_1_method_33_code 4 = .ok (.ifCond .ne 13, 3) := by decide +kernel
theorem dO_requireRun_7 : decode prog_1_method_33_code 7 = .ok (.new 63, 3) := by decide +kernel
theorem dO_requireRun_10 : decode prog_1_method_33_code 10 = .ok (.dup, 1) := by decide +kernel
theorem dO_requireRun_11 : decode prog_1_method_33_code 11 = .ok (.ldc 202, 2) := by decide +kernel
theorem dO_requireRun_13 : decode prog_1_method_33_code 13 = .ok (.invokespecial 67, 3) := by decide +kernel
theorem dO_requireRun_16 : decode prog_1_method_33_code 16 = .ok (.athrow, 1) := by decide +kernel
theorem dO_requireRun_17 : decode prog_1_method_33_code 17 = .ok (.return_, 1) := by decide +kernel
theorem dO_requirePlace_0 : decode prog_1_method_34_code 0 = .ok (.iload_n 0, 1) := by decide +kernel
theorem dO_requirePlace_1 : decode prog_1_method_34_code 1 = .ok (.iload_n 1, 1) := by decide +kernel
theorem dO_requirePlace_2 : decode prog_1_method_34_code 2 = .ok (.if_icmp .lt 8, 3) := by decide +kernel
theorem dO_requirePlace_5 : decode prog_1_method_34_code 5 = .ok (.iload_n 0, 1) := by decide +kernel
theorem dO_requirePlace_6 : decode prog_1_method_34_code 6 = .ok (.iload_n 2, 1) := by decide +kernel
theorem dO_requirePlace_7 : decode prog_1_method_34_code 7 = .ok (.if_icmp .le 13, 3) := by decide +kernel
theorem dO_requirePlace_10 : decode prog_1_method_34_code 10 = .ok (.new 204, 3) := by decide +kernel
theorem dO_requirePlace_13 : decode prog_1_method_34_code 13 = .ok (.dup, 1) := by decide +kernel
theorem dO_requirePlace_14 : decode prog_1_method_34_code 14 = .ok (.ldc 206, 2) := by decide +kernel
theorem dO_requirePlace_16 : decode prog_1_method_34_code 16 = .ok (.invokespecial 208, 3) := by decide +kernel
theorem dO_requirePlace_19 : decode prog_1_method_34_code 19 = .ok (.athrow, 1) := by decide +kernel
theorem dO_requirePlace_20 : decode prog_1_method_34_code 20 = .ok (.return_, 1) := by decide +kernel
theorem dO_requireNumber_0 : decode prog_1_method_35_code 0 = .ok (.iload_n 0, 1) := by decide +kernel
theorem dO_requireNumber_1 : decode prog_1_method_35_code 1 = .ok (.iload_n 1, 1) := by decide +kernel
theorem dO_requireNumber_2 : decode prog_1_method_35_code 2 = .ok (.if_icmp .lt 8, 3) := by decide +kernel
theorem dO_requireNumber_5 : decode prog_1_method_35_code 5 = .ok (.iload_n 0, 1) := by decide +kernel
theorem dO_requireNumber_6 : decode prog_1_method_35_code 6 = .ok (.iload_n 2, 1) := by decide +kernel
theorem dO_requireNumber_7 : decode prog_1_method_35_code 7 = .ok (.if_icmp .le 13, 3) := by decide +kernel
theorem dO_requireNumber_10 : decode prog_1_method_35_code 10 = .ok (.new 209, 3) := by decide +kernel
theorem dO_requireNumber_13 : decode prog_1_method_35_code 13 = .ok (.dup, 1) := by decide +kernel
theorem dO_requireNumber_14 : decode prog_1_method_35_code 14 = .ok (.ldc 211, 2) := by decide +kernel
theorem dO_requireNumber_16 : decode prog_1_method_35_code 16 = .ok (.invokespecial 213, 3) := by decide +kernel
theorem dO_requireNumber_19 : decode prog_1_method_35_code 19 = .ok (.athrow, 1) := by decide +kernel
theorem dO_requireNumber_20 : decode prog_1_method_35_code 20 = .ok (.return_, 1) := by decide +kernel
end
section
section QTH
/-! what a throw of the component needs of the machine's start -/
def qEs : List String := ["java/lang/IndexOutOfBoundsException", "java/lang/IllegalArgumentException", "java/lang/IllegalStateException"]
def qNs : List String := ["java/lang/RuntimeException", "java/lang/Exception"]
def qDs : List MethodName := [⟨"java/lang/RuntimeException", "<init>", "(Ljava/lang/String;)V"⟩, ⟨"java/lang/Exception", "<init>", "(Ljava/lang/String;)V"⟩, ⟨"java/lang/Throwable", "<init>", "(Ljava/lang/String;)V"⟩]
def qSs : List (Nat × String) := [(206, "there is no such place"), (211, "a number is not as said"), (65, "there is no room for another rule"), (202, "there was no run")]
def qZ (A : Nat → Prop) (U : State) (H : Heap) : Prop := vx_Zq Jvm.Bundle.tN "UNASSIGNED_STACK" Jvm.Bundle.steD A U H ∧ vx_Zq Jvm.Bundle.tN "SUPPRESSED_SENTINEL" Jvm.Bundle.listD A U H ∧ (∀ E ∈ qEs, va_Nw (.castable E E) U) ∧ (∀ y ∈ qDs, va_Nw (.declares y) U) ∧ ∀ q ∈ qSs, ∃ a : Nat, vk_R "OutlookOdds" q.1 q.2 a U
theorem qZ_ok : qZok qZ := by
  refine ⟨fun A u U H hW h => ?_, fun A U H H1 hq h => ?_, fun A B U H hAB h => ?_⟩
  · obtain ⟨h1, h2, h3, h4, h5⟩ := h
    exact ⟨vx_Zq.moved hW.alike h1, vx_Zq.moved hW.alike h2, fun E hE => va_Nw.warmC hW (h3 E hE), fun y hy => va_Nw.warmD hW (h4 y hy), fun q hq => (h5 q hq).imp fun a ha => ha.warm hW⟩
  · obtain ⟨h1, h2, h3, h4, h5⟩ := h
    exact ⟨h1.kept hq, h2.kept hq, h3, h4, h5⟩
  · obtain ⟨h1, h2, h3, h4, h5⟩ := h
    exact ⟨h1.narrow hAB, h2.narrow hAB, h3, h4, h5⟩
theorem qat_0 : ∀ w ∈ (vx_atS "OutlookOdds" 208 "java/lang/IndexOutOfBoundsException" qNs).filter goodWord, w ∈ lw_tbl := by decide +kernel
theorem qat_1 : ∀ w ∈ (vx_atS "OutlookOdds" 213 "java/lang/IllegalArgumentException" qNs).filter goodWord, w ∈ lw_tbl := by decide +kernel
theorem qat_2 : ∀ w ∈ (vx_atS "OutlookOdds" 67 "java/lang/IllegalStateException" qNs).filter goodWord, w ∈ lw_tbl := by decide +kernel
def qBd (E : String) : List Cond := [.castable E E, .declares ⟨"java/lang/RuntimeException", "<init>", "(Ljava/lang/String;)V"⟩, .declares ⟨"java/lang/Exception", "<init>", "(Ljava/lang/String;)V"⟩, .declares ⟨"java/lang/Throwable", "<init>", "(Ljava/lang/String;)V"⟩]
theorem qab_0 : ∀ w ∈ (vx_atS "OutlookOdds" 208 "java/lang/IndexOutOfBoundsException" qNs).filter (fun w => !goodWord w), w ∈ qBd "java/lang/IndexOutOfBoundsException" := by decide +kernel
theorem qab_1 : ∀ w ∈ (vx_atS "OutlookOdds" 213 "java/lang/IllegalArgumentException" qNs).filter (fun w => !goodWord w), w ∈ qBd "java/lang/IllegalArgumentException" := by decide +kernel
theorem qab_2 : ∀ w ∈ (vx_atS "OutlookOdds" 67 "java/lang/IllegalStateException" qNs).filter (fun w => !goodWord w), w ∈ qBd "java/lang/IllegalStateException" := by decide +kernel
theorem qat_g0 : ∀ w ∈ Cond.classLink "OutlookOdds" 204 "java/lang/IndexOutOfBoundsException" :: Cond.initialized "java/lang/IndexOutOfBoundsException" :: vx_atS "OutlookOdds" 208 "java/lang/IndexOutOfBoundsException" qNs, vx_ot w = true := by decide +kernel
theorem qat_g1 : ∀ w ∈ Cond.classLink "OutlookOdds" 209 "java/lang/IllegalArgumentException" :: Cond.initialized "java/lang/IllegalArgumentException" :: vx_atS "OutlookOdds" 213 "java/lang/IllegalArgumentException" qNs, vx_ot w = true := by decide +kernel
theorem qat_g2 : ∀ w ∈ Cond.classLink "OutlookOdds" 63 "java/lang/IllegalStateException" :: Cond.initialized "java/lang/IllegalStateException" :: vx_atS "OutlookOdds" 67 "java/lang/IllegalStateException" qNs, vx_ot w = true := by decide +kernel
theorem qat_all {A : Nat → Prop} {args : Array Value} {s : State} {H : Heap} {ic : Nat} {E : String} (hE : E ∈ qEs) (hts : ∀ w ∈ qT, w.before args s = true) (hZ : qZ A s H) (h1 : ∀ w ∈ (vx_atS "OutlookOdds" ic E qNs).filter goodWord, w ∈ lw_tbl) (h2 : ∀ w ∈ (vx_atS "OutlookOdds" ic E qNs).filter (fun w => !goodWord w), w ∈ qBd E) : ∀ w ∈ vx_atS "OutlookOdds" ic E qNs, w.before args s = true := by
  refine vx_hat (B := qBd E) (fun w hw => hts w (List.mem_filter.mpr ⟨h1 w hw, (List.mem_filter.mp hw).2⟩)) h2 ?_
  exact vx_c (va_Nw.use rfl (hZ.2.2.1 E hE)) (vx_c (va_Nw.use rfl (hZ.2.2.2.1 _ (List.mem_of_getElem? (i := 0) rfl))) (vx_c (va_Nw.use rfl (hZ.2.2.2.1 _ (List.mem_of_getElem? (i := 1) rfl))) (vx_c (va_Nw.use rfl (hZ.2.2.2.1 _ (List.mem_of_getElem? (i := 2) rfl))) vx_n)))
theorem qx_thr {p : Program} {l : Launch} {e : Env} {R : Room} {s : State} {m : MethodId} {args : Array Value} {below : List Frame} {meth : Method} {c : Code} {H : Heap} {locs : List Loc} {cells slots : Nat} {Q : State → Prop} {cc : ByteArray} {pc : Nat} {ls : Array Slot} {rest : List Value} {D : va_G} {cl : List vw_C} {A : Nat → Prop} {tys : List (ClassId × FieldType)} {w : va_W} {Qc : Array Value → State → Outcome → State → Prop} {ex : Option String} {E text : String} {ik is ic mc ms : Nat}
    (hfin : Q = vx_MQ below Qc (qXc D cl tys s.heap.size w ex) args s mc ms (va_A w s.heap.size) ∧ A = va_A w s.heap.size ∧ meth.locks = false ∧ ∀ x ∈ c.exceptionTable.toList, False) (hl : l.stackTraces = false) (hZ : qZ A s s.heap) (hx : p.tables.exec = Jvm.exec) (hb : c.code = cc) (hown : s.vm.findClass "OutlookOdds" = some m.cls) (hts : ∀ w ∈ qT, w.before args s = true) (hK : va_K D cl tys s) (hP : va_P D cl w H) (hD : va_D A w) (hS : va_S A s.heap H locs) (hsize : ls.size = c.maxLocals)
    (hfit : Jvm.Bundle.fit E = true) (hE : E ∈ qEs) (hk : Cond.classLink "OutlookOdds" ik E ∈ qT) (hi : Cond.initialized E ∈ qT) (hstr : (is, text) ∈ qSs) (h1 : ∀ w ∈ (vx_atS "OutlookOdds" ic E qNs).filter goodWord, w ∈ lw_tbl) (h2 : ∀ w ∈ (vx_atS "OutlookOdds" ic E qNs).filter (fun w => !goodWord w), w ∈ qBd E) (hg : ∀ w ∈ Cond.classLink "OutlookOdds" ik E :: Cond.initialized E :: vx_atS "OutlookOdds" ic E qNs, vx_ot w = true)
    (d0 : decode cc pc = .ok (.new ik, 3)) (d3 : decode cc (pc + 3) = .ok (.dup, 1)) (d4 : decode cc (pc + 4) = .ok (.ldc is, 2)) (d6 : decode cc (pc + 6) = .ok (.invokespecial ic, 3)) (d9 : decode cc (pc + 9) = .ok (.athrow, 1))
    (hR : 5 < R.frames ∧ (rest.map fun v => v.category).sum + 82 ≤ R.locals ∧ cells + 1 ≤ R.cells ∧ slots + 6 ≤ R.slots) (hc : cells + 1 ≤ mc ∧ slots + 6 ≤ ms) (hex : ex = some E) :
    W p l e R s m args below meth c H locs cells slots Q (F0 m pc ls rest) := by
  obtain ⟨rfl, rfl, hlocks, hEx⟩ := hfin
  obtain ⟨a, ha⟩ := hZ.2.2.2.2 _ hstr
  refine vx_throwS (names := qNs) (A := va_A w s.heap.size) hx hb hl hown hfit (by decide) (hts _ hk) (hts _ hi) ha (qat_all hE hts hZ h1 h2) hg hZ.1 hZ.2.1 hS hsize d0 d3 d4 d6 d9 (fun x hx => (hEx x hx).elim) hR.1 hR.2.1 hR.2.2.1 hR.2.2.2 hlocks ?_ hS.2.2 hc.1 hc.2
  intro t ha hsz hq
  exact ⟨(), trivial, ⟨hex, hP.kept (fun k q hk => hq q.1 (hP k q hk).lt), va_K.moved ha hK, hD⟩, Nat.le_trans hS.1 hsz, fun q h1 h2 => (hq q (Nat.lt_of_lt_of_le h1 hS.1)).trans (hS.2.1 q h1 h2)⟩
def px_or (a b : Option String) : Option String := match a with
  | some e => some e
  | none => b
theorem px_n {a b c : Option String} (h : a = none) (k : b = c) : px_or a b = c := by rw [h]; exact k
theorem px_s {a b : Option String} {e : String} (h : a = some e) : px_or a b = some e := by rw [h]; rfl
def px_place (a f t : Int32) : Option String := if a < f then some "java/lang/IndexOutOfBoundsException" else if a ≤ t then none else some "java/lang/IndexOutOfBoundsException"
def px_num (a f t : Int32) : Option String := if a < f then some "java/lang/IllegalArgumentException" else if a ≤ t then none else some "java/lang/IllegalArgumentException"
def px_run (r : Int32) : Option String := if r = 0 then some "java/lang/IllegalStateException" else none
def px_room (r : Int32) : Option String := if r < 6 then none else some "java/lang/IllegalStateException"
end QTH
end
section
section QRQ
variable (l : Launch) (dC : Nat → ClassId) (dI : Nat → Nat → Nat) (cI cJ cG : ClassId)
set_option maxHeartbeats 4000000 in
set_option maxRecDepth 100000 in
theorem c_requirePlace (a f t : Int32) (hst : l.stackTraces = false) : qXv qZ l yO_requirePlace (wO_requirePlace) ({ frames := 6, cells := 1, slots := 6, locals := 82 } : Room) (dC, dI) qCl [(cI, .int), (cJ, .long), (cG, .array .long)] [.int a, .int f, .int t] [] [] (px_place a f t) 1 6 := by
  refine qx_v (cc := prog_1_method_34_code) (maxL := 3) (by decide) rfl (Nat.le_of_ble_eq_true rfl) ?_
  intro p e s m args below meth c Q A ls hx hb hml hown hnm hts hA hK hP hD hS hl hZ hret hout hfin
  have hl : lv_has ls 3 [(0, .int a), (1, .int f), (2, .int t)] := hl
  refine lv_iload_n hx hb dO_requirePlace_0 rfl (lv_at hl 0 rfl) ?_
  refine lv_iload_n hx hb dO_requirePlace_1 rfl (lv_at hl 1 rfl) ?_
  refine lv_icmp_lt (tgt := 10) hx hb dO_requirePlace_2 (by decide) (fun h2 => ?_) (fun h2 => ?_)
  · exact qx_thr (E := "java/lang/IndexOutOfBoundsException") (text := "there is no such place") hfin hst hZ hx hb hown hts hK hP hD hS (by rw [hml]; exact hl.1) (by decide) (List.mem_of_getElem? (i := 0) rfl) mq_1_129 mq_1_8 (List.mem_of_getElem? (i := 0) rfl) qat_0 qab_0 qat_g0 dO_requirePlace_10 dO_requirePlace_13 dO_requirePlace_14 dO_requirePlace_16 dO_requirePlace_19 ⟨Nat.le_of_ble_eq_true rfl, Nat.le_of_ble_eq_true rfl, Nat.le_of_ble_eq_true rfl, Nat.le_of_ble_eq_true rfl⟩ ⟨Nat.le_of_ble_eq_true rfl, Nat.le_of_ble_eq_true rfl⟩ (by unfold px_place; first | rw [if_pos h2] | rw [if_neg h2, if_neg h7])
  · refine lv_iload_n hx hb dO_requirePlace_5 rfl (lv_at hl 0 rfl) ?_
    refine lv_iload_n hx hb dO_requirePlace_6 rfl (lv_at hl 2 rfl) ?_
    refine lv_icmp_le (tgt := 20) hx hb dO_requirePlace_7 (by decide) (fun h7 => ?_) (fun h7 => ?_)
    · exact hret hP hD hS (Nat.le_of_ble_eq_true rfl) (Nat.le_of_ble_eq_true rfl) (by unfold px_place; rw [if_neg h2, if_pos h7]) dO_requirePlace_20
    · exact qx_thr (E := "java/lang/IndexOutOfBoundsException") (text := "there is no such place") hfin hst hZ hx hb hown hts hK hP hD hS (by rw [hml]; exact hl.1) (by decide) (List.mem_of_getElem? (i := 0) rfl) mq_1_129 mq_1_8 (List.mem_of_getElem? (i := 0) rfl) qat_0 qab_0 qat_g0 dO_requirePlace_10 dO_requirePlace_13 dO_requirePlace_14 dO_requirePlace_16 dO_requirePlace_19 ⟨Nat.le_of_ble_eq_true rfl, Nat.le_of_ble_eq_true rfl, Nat.le_of_ble_eq_true rfl, Nat.le_of_ble_eq_true rfl⟩ ⟨Nat.le_of_ble_eq_true rfl, Nat.le_of_ble_eq_true rfl⟩ (by unfold px_place; first | rw [if_pos h2] | rw [if_neg h2, if_neg h7])

set_option maxHeartbeats 4000000 in
set_option maxRecDepth 100000 in
theorem c_requireNumber (a f t : Int32) (hst : l.stackTraces = false) : qXv qZ l yO_requireNumber (wO_requireNumber) ({ frames := 6, cells := 1, slots := 6, locals := 82 } : Room) (dC, dI) qCl [(cI, .int), (cJ, .long), (cG, .array .long)] [.int a, .int f, .int t] [] [] (px_num a f t) 1 6 := by
  refine qx_v (cc := prog_1_method_35_code) (maxL := 3) (by decide) rfl (Nat.le_of_ble_eq_true rfl) ?_
  intro p e s m args below meth c Q A ls hx hb hml hown hnm hts hA hK hP hD hS hl hZ hret hout hfin
  have hl : lv_has ls 3 [(0, .int a), (1, .int f), (2, .int t)] := hl
  refine lv_iload_n hx hb dO_requireNumber_0 rfl (lv_at hl 0 rfl) ?_
  refine lv_iload_n hx hb dO_requireNumber_1 rfl (lv_at hl 1 rfl) ?_
  refine lv_icmp_lt (tgt := 10) hx hb dO_requireNumber_2 (by decide) (fun h2 => ?_) (fun h2 => ?_)
  · exact qx_thr (E := "java/lang/IllegalArgumentException") (text := "a number is not as said") hfin hst hZ hx hb hown hts hK hP hD hS (by rw [hml]; exact hl.1) (by decide) (List.mem_of_getElem? (i := 1) rfl) mq_1_201 mq_1_9 (List.mem_of_getElem? (i := 1) rfl) qat_1 qab_1 qat_g1 dO_requireNumber_10 dO_requireNumber_13 dO_requireNumber_14 dO_requireNumber_16 dO_requireNumber_19 ⟨Nat.le_of_ble_eq_true rfl, Nat.le_of_ble_eq_true rfl, Nat.le_of_ble_eq_true rfl, Nat.le_of_ble_eq_true rfl⟩ ⟨Nat.le_of_ble_eq_true rfl, Nat.le_of_ble_eq_true rfl⟩ (by unfold px_num; first | rw [if_pos h2] | rw [if_neg h2, if_neg h7])
  · refine lv_iload_n hx hb dO_requireNumber_5 rfl (lv_at hl 0 rfl) ?_
    refine lv_iload_n hx hb dO_requireNumber_6 rfl (lv_at hl 2 rfl) ?_
    refine lv_icmp_le (tgt := 20) hx hb dO_requireNumber_7 (by decide) (fun h7 => ?_) (fun h7 => ?_)
    · exact hret hP hD hS (Nat.le_of_ble_eq_true rfl) (Nat.le_of_ble_eq_true rfl) (by unfold px_num; rw [if_neg h2, if_pos h7]) dO_requireNumber_20
    · exact qx_thr (E := "java/lang/IllegalArgumentException") (text := "a number is not as said") hfin hst hZ hx hb hown hts hK hP hD hS (by rw [hml]; exact hl.1) (by decide) (List.mem_of_getElem? (i := 1) rfl) mq_1_201 mq_1_9 (List.mem_of_getElem? (i := 1) rfl) qat_1 qab_1 qat_g1 dO_requireNumber_10 dO_requireNumber_13 dO_requireNumber_14 dO_requireNumber_16 dO_requireNumber_19 ⟨Nat.le_of_ble_eq_true rfl, Nat.le_of_ble_eq_true rfl, Nat.le_of_ble_eq_true rfl, Nat.le_of_ble_eq_true rfl⟩ ⟨Nat.le_of_ble_eq_true rfl, Nat.le_of_ble_eq_true rfl⟩ (by unfold px_num; first | rw [if_pos h2] | rw [if_neg h2, if_neg h7])

set_option maxHeartbeats 4000000 in
set_option maxRecDepth 100000 in
theorem c_requireRun (o0 o1 o2 o3 o4 o5 o6 o7 ru sp dl rr yr sd rn : Nat) (yg ch mk : Int32) (hst : l.stackTraces = false) : qXv qZ l yO_requireRun (wO_requireRun) ({ frames := 6, cells := 1, slots := 6, locals := 82 } : Room) (dC, dI) qCl [(cI, .int), (cJ, .long), (cG, .array .long)] [.ref o0] [(o0, .inr (0, [.ref o1, .ref o2, .ref o3, .ref o4, .int (nI ru), .int yg, .int ch, .int (nI sp), .int (nI dl), .int mk, .ref o5, .ref o6, .ref o7, .int (nI rr), .int (nI yr), .int (nI sd), .int (nI rn)]))] [(o0, .inr (0, [.ref o1, .ref o2, .ref o3, .ref o4, .int (nI ru), .int yg, .int ch, .int (nI sp), .int (nI dl), .int mk, .ref o5, .ref o6, .ref o7, .int (nI rr), .int (nI yr), .int (nI sd), .int (nI rn)]))] (px_run (nI rn)) 1 6 := by
  refine qx_v (cc := prog_1_method_33_code) (maxL := 1) (by decide) rfl (Nat.le_of_ble_eq_true rfl) ?_
  intro p e s m args below meth c Q A ls hx hb hml hown hnm hts hA hK hP hD hS hl hZ hret hout hfin
  have hl : lv_has ls 1 [(0, .ref o0)] := hl
  refine lv_aload_n hx hb dO_requireRun_0 rfl (lv_at hl 0 rfl) ?_
  refine va_get (D := (dC, dI)) (ci := 0) (v := .int (nI rn)) (C := "OutlookOdds") (T := TO) (N := 17) hx hb hts inO hown hK hP 0 rfl rfl 16 (by decide) (hts _ mq_1_72) (fun _ h9 => h9) rfl dO_requireRun_1 ?_
  refine lv_if_ne (tgt := 17) hx hb dO_requireRun_4 (by decide) (fun h4 => ?_) (fun h4 => ?_)
  · exact hret hP hD hS (Nat.le_of_ble_eq_true rfl) (Nat.le_of_ble_eq_true rfl) (if_neg h4) dO_requireRun_17
  · exact qx_thr (E := "java/lang/IllegalStateException") (text := "there was no run") hfin hst hZ hx hb hown hts hK hP hD hS (by rw [hml]; exact hl.1) (by decide) (List.mem_of_getElem? (i := 2) rfl) mq_1_237 mq_1_10 (List.mem_of_getElem? (i := 3) rfl) qat_2 qab_2 qat_g2 dO_requireRun_7 dO_requireRun_10 dO_requireRun_11 dO_requireRun_13 dO_requireRun_16 ⟨Nat.le_of_ble_eq_true rfl, Nat.le_of_ble_eq_true rfl, Nat.le_of_ble_eq_true rfl, Nat.le_of_ble_eq_true rfl⟩ ⟨Nat.le_of_ble_eq_true rfl, Nat.le_of_ble_eq_true rfl⟩ (if_pos h4)

end QRQ
end
section
section QP2
theorem px_place_none {a f t : Int32} (h : px_place a f t = none) : ¬ a < f ∧ a ≤ t := by
  unfold px_place at h
  split at h
  · cases h
  · split at h
    · exact ⟨by assumption, by assumption⟩
    · cases h
theorem px_num_none {a f t : Int32} (h : px_num a f t = none) : ¬ a < f ∧ a ≤ t := by
  unfold px_num at h
  split at h
  · cases h
  · split at h
    · exact ⟨by assumption, by assumption⟩
    · cases h
theorem qn_between {a : Int32} {f t : Nat} (ht : t < 2 ^ 31) (hf : f < 2 ^ 31) (h1 : ¬ a < nI f) (h2 : a ≤ nI t) : a = nI a.toNatClampNeg ∧ f ≤ a.toNatClampNeg ∧ a.toNatClampNeg ≤ t := by
  have h0 : ¬ a < 0 := fun q => h1 (by
    have q1 := Int32.lt_iff_toInt_lt.mp q
    apply Int32.lt_iff_toInt_lt.mpr
    rw [nI_toInt hf]
    have : (0 : Int32).toInt = 0 := rfl
    omega)
  obtain ⟨k, hk, rfl⟩ := nI_of h0
  rw [nI_clamp hk]
  refine ⟨rfl, ?_, (nI_leI hk ht).mp h2⟩
  have : ¬ k < f := fun q => h1 ((nI_ltI hk hf).mpr q)
  omega
theorem qn_pl {a : Int32} {f t : Nat} (h : px_place a (nI f) (nI t) = none) (ht : t < 2 ^ 31) (hf : f < 2 ^ 31) : a = nI a.toNatClampNeg ∧ f ≤ a.toNatClampNeg ∧ a.toNatClampNeg ≤ t :=
  qn_between ht hf (px_place_none h).1 (px_place_none h).2
theorem qn_nu {a : Int32} {f t : Nat} (h : px_num a (nI f) (nI t) = none) (ht : t < 2 ^ 31) (hf : f < 2 ^ 31) : a = nI a.toNatClampNeg ∧ f ≤ a.toNatClampNeg ∧ a.toNatClampNeg ≤ t :=
  qn_between ht hf (px_num_none h).1 (px_num_none h).2
theorem qn_plm {a : Int32} {n : Nat} (h : px_place a 0 (nI n - 1) = none) (hn : n < 2 ^ 31) : a = nI a.toNatClampNeg ∧ a.toNatClampNeg < n := by
  rcases Nat.eq_zero_or_pos n with z | z
  · subst z
    have h1 := (px_place_none h).1
    have h2 := (px_place_none h).2
    exfalso
    have q2 := Int32.le_iff_toInt_le.mp h2
    have e : (nI 0 - 1).toInt = -1 := by decide
    apply h1
    apply Int32.lt_iff_toInt_lt.mpr
    have : (0 : Int32).toInt = 0 := rfl
    omega
  · rw [qn_sub1 z] at h
    obtain ⟨h1, -, h3⟩ := qn_pl (f := 0) h (by omega) (by decide)
    exact ⟨h1, by omega⟩
theorem qn_run {n : Nat} {P : Prop} (h : px_run (nI n) = none) (hn : n < 2 ^ 31) (hp : n = 0 ∨ P) : P := by
  rcases hp with z | z
  · subst z
    exact absurd h (by decide)
  · exact z
def pf_blw (R : Nat → Int64) (mk : Int32) (y : Nat) : Nat → Int32
  | 0 => 0
  | j + 1 => if pf_bm R mk (pf_ix j y) = 0 then pf_blw R mk y j else pf_blw R mk y j + 1
def pf_std (R : Nat → Int64) (se : Nat) : Nat → Int64
  | 0 => 0
  | k + 1 => pf_std R se k + pf_abs (R (pf_ix se (k + 2)) - R (pf_ix se (k + 2 - 1)))
/-- how many years end with year k + 1 without one below the mark -/
def pf_gc (R : Nat → Int64) (mk : Int32) (se : Nat) : Nat → Nat
  | 0 => 0
  | k + 1 => if pf_bm R mk (pf_ix se (k + 1)) = 0 then pf_gc R mk se k + 1 else 0
theorem pf_gc_le (R : Nat → Int64) (mk : Int32) (se : Nat) : ∀ k, pf_gc R mk se k ≤ k
  | 0 => Nat.le_refl 0
  | k + 1 => by
    unfold pf_gc
    have := pf_gc_le R mk se k
    split <;> omega
def pf_rc (R : Nat → Int64) (mk : Int32) (se sn : Nat) : Nat → Int32
  | 0 => -1
  | k + 1 => if pf_rc R mk se sn k = -1 then (if pf_gc R mk se (k + 1) = sn then nI (k + 1 - sn + 1) else -1) else pf_rc R mk se sn k
theorem qn_m1 {n : Nat} (h : n < 2 ^ 31) : ¬ nI n = -1 := fun q => by
  have e := congrArg Int32.toInt q
  rw [nI_toInt h] at e
  have : (-1 : Int32).toInt = -1 := by decide
  omega
theorem pf_rc_up {R : Nat → Int64} {mk : Int32} {se sn : Nat} : ∀ {k n : Nat}, k ≤ n → ¬ pf_rc R mk se sn k = -1 → pf_rc R mk se sn n = pf_rc R mk se sn k
  | k, 0, h, q => by
    have e : k = 0 := by omega
    rw [e]
  | k, n + 1, h, q => by
    rcases Nat.lt_or_ge k (n + 1) with z | z
    · have ih := pf_rc_up (k := k) (n := n) (by omega) q
      show (if pf_rc R mk se sn n = -1 then _ else pf_rc R mk se sn n) = _
      rw [if_neg (by rw [ih]; exact q), ih]
    · have e : k = n + 1 := by omega
      rw [e]
theorem pf_rc_new {R : Nat → Int64} {mk : Int32} {se sn k : Nat} (h0 : pf_rc R mk se sn k = -1) (h : pf_gc R mk se (k + 1) = sn) : pf_rc R mk se sn (k + 1) = nI (k + 1 - sn + 1) := by
  show (if pf_rc R mk se sn k = -1 then (if pf_gc R mk se (k + 1) = sn then _ else _) else _) = _
  rw [if_pos h0, if_pos h]
theorem pf_rc_old {R : Nat → Int64} {mk : Int32} {se sn k : Nat} (h0 : pf_rc R mk se sn k = -1) (h : ¬ pf_gc R mk se (k + 1) = sn) : pf_rc R mk se sn (k + 1) = -1 := by
  show (if pf_rc R mk se sn k = -1 then (if pf_gc R mk se (k + 1) = sn then _ else _) else _) = _
  rw [if_pos h0, if_neg h]
theorem pf_rc_at {R : Nat → Int64} {mk : Int32} {se sn k yr : Nat} (hk : k < yr) (hy : yr ≤ 20) (h0 : pf_rc R mk se sn k = -1) (h : pf_gc R mk se (k + 1) = sn) : nI (k + 1 - sn + 1) = pf_rc R mk se sn yr := by
  have e := pf_rc_new h0 h
  rw [pf_rc_up (k := k + 1) hk (by rw [e]; exact qn_m1 (by omega)), e]
def pf_srt (R : Nat → Int64) (y : Nat) (od : Nat → Int64) : Nat → (Nat → Int64)
  | 0 => od
  | j + 1 => pf_ins (R (pf_ix j y)) j (pf_srt R y od j)
def pf_mean (M : Nat → Nat → Int64) (yr sd : Nat) (what pt : Int32) : Int64 := if what = 0 then pf_part (pf_sumA (M 1) 1 yr sd) (nI sd * nI yr).toInt64 pt else pf_part (pf_sumA (M 0) yr yr sd) (nI sd).toInt64 pt
def pf_count (w : Int32) (ru yr sd rn : Nat) : Int32 := if w = 0 then nI ru else if w = 1 then nI yr else if w = 2 then nI sd else if w = 3 then nI rn else -1
/-- the trial's fish and rows behind k rates -/
def pf_tst (nu wt rp di : Nat → Int32) (lo hi : Int64) (sp dl : Nat) (yg ch : Int32) (yr sd : Nat) (lv : Nat → Int64) (M : Nat → Nat → Int64) : Nat → (Nat → Int64) × (Nat → Nat → Int64)
  | 0 => (lv, M)
  | k + 1 => pf_all nu wt rp di lo hi (50 * nI k) sp dl yg ch yr (pf_tst nu wt rp di lo hi sp dl yg ch yr sd lv M k).1 (pf_tst nu wt rp di lo hi sp dl yg ch yr sd lv M k).2 sd
def pf_tv (nu wt rp di : Nat → Int32) (lo hi : Int64) (sp dl : Nat) (yg ch : Int32) (yr sd : Nat) (lv : Nat → Int64) (M : Nat → Nat → Int64) (k : Nat) : Int64 := pf_sumA ((pf_tst nu wt rp di lo hi sp dl yg ch yr sd lv M (k + 1)).2 1) 1 yr sd
def pf_tp (v : Nat → Int64) : Nat → Int32 × Int64
  | 0 => (0, v 0)
  | j + 1 => if (pf_tp v j).2 < v (j + 1) then (nI (j + 1), v (j + 1)) else pf_tp v j
theorem pf_tp_y {v : Nat → Int64} {j : Nat} (h : (pf_tp v j).2 < v (j + 1)) : pf_tp v (j + 1) = (nI (j + 1), v (j + 1)) := if_pos h
theorem pf_tp_n {v : Nat → Int64} {j : Nat} (h : ¬ (pf_tp v j).2 < v (j + 1)) : pf_tp v (j + 1) = pf_tp v j := if_neg h
theorem qn_lt {a b : Nat} (h : nI a < nI b) (hb : a < 2 ^ 31 ∧ b < 2 ^ 31) : a < b := (nI_ltI hb.1 hb.2).mp h
end QP2
end
section
section QO1
variable (l : Launch) (dC : Nat → ClassId) (dI : Nat → Nat → Nat) (cI cJ cG : ClassId)
set_option maxHeartbeats 4000000 in
set_option maxRecDepth 100000 in
theorem c_age (o0 o1 o2 o3 o4 o5 o6 o7 ru sp dl rr yr sd rn : Nat) (yg ch mk : Int32) (z1 z2 z3 z4 z5 : Nat) (nu wt rp di : Nat → Int32) (a0 a1 a2 a3 a4 : Int32) (hst : l.stackTraces = false) : qXv qZ l yO_age (wO_age) ({ frames := 7, cells := 5, slots := 30, locals := 104 } : Room) (dC, dI) qCl [(cI, .int), (cJ, .long), (cG, .array .long)] [.ref o0, .int a0, .int a1, .int a2, .int a3, .int a4] [(o0, .inr (0, [.ref o1, .ref o2, .ref o3, .ref o4, .int (nI ru), .int yg, .int ch, .int (nI sp), .int (nI dl), .int mk, .ref o5, .ref o6, .ref o7, .int (nI rr), .int (nI yr), .int (nI sd), .int (nI rn)])), (o1, .inr (1, [.ref z1, .ref z2, .ref z3, .ref z4, .ref z5])), (z1, .inl (cI, 6, .inl nu)), (z2, .inl (cI, 6, .inl wt)), (z3, .inl (cI, 6, .inl rp)), (z4, .inl (cI, 6, .inl di))] [(o0, .inr (0, [.ref o1, .ref o2, .ref o3, .ref o4, .int (nI ru), .int yg, .int ch, .int (nI sp), .int (nI dl), .int mk, .ref o5, .ref o6, .ref o7, .int (nI rr), .int (nI yr), .int (nI sd), .int (nI rn)])), (o1, .inr (1, [.ref z1, .ref z2, .ref z3, .ref z4, .ref z5])), (z1, .inl (cI, 6, .inl (upd nu a0.toNatClampNeg a1))), (z2, .inl (cI, 6, .inl (upd wt a0.toNatClampNeg a2))), (z3, .inl (cI, 6, .inl (upd rp a0.toNatClampNeg a3))), (z4, .inl (cI, 6, .inl (upd di a0.toNatClampNeg a4)))] (px_or (px_place a0 0 5) (px_or (px_num a1 0 100000) (px_or (px_num a2 0 10000) (px_or (px_num a3 0 1000) (px_num a4 0 1000))))) 5 30 := by
  refine qx_v (cc := prog_1_method_2_code) (maxL := 6) (by decide) rfl (Nat.le_of_ble_eq_true rfl) ?_
  intro p e s m args below meth c Q A ls hx hb hml hown hnm hts hA hK hP hD hS hl hZ hret hout hfin
  have hl : lv_has ls 6 [(0, .ref o0), (1, .int a0), (2, .int a1), (3, .int a2), (4, .int a3), (5, .int a4)] := hl
  refine lv_iload_n hx hb dO_age_0 rfl (lv_at hl 1 rfl) ?_
  refine lv_iconst (v := 0) hx hb dO_age_1 (by decide) ?_
  refine lv_iconst (v := 5) hx hb dO_age_2 (by decide) ?_
  refine qx_callSv (As := [.int a0, .int 0, .int 5]) (rest := []) (wr := [(o0, .inr (0, [.ref o1, .ref o2, .ref o3, .ref o4, .int (nI ru), .int yg, .int ch, .int (nI sp), .int (nI dl), .int mk, .ref o5, .ref o6, .ref o7, .int (nI rr), .int (nI yr), .int (nI sd), .int (nI rn)])), (o1, .inr (1, [.ref z1, .ref z2, .ref z3, .ref z4, .ref z5])), (z1, .inl (cI, 6, .inl nu)), (z2, .inl (cI, 6, .inl wt)), (z3, .inl (cI, 6, .inl rp)), (z4, .inl (cI, 6, .inl di))]) (ws2 := [(o0, .inr (0, [.ref o1, .ref o2, .ref o3, .ref o4, .int (nI ru), .int yg, .int ch, .int (nI sp), .int (nI dl), .int mk, .ref o5, .ref o6, .ref o7, .int (nI rr), .int (nI yr), .int (nI sd), .int (nI rn)])), (o1, .inr (1, [.ref z1, .ref z2, .ref z3, .ref z4, .ref z5])), (z1, .inl (cI, 6, .inl nu)), (z2, .inl (cI, 6, .inl wt)), (z3, .inl (cI, 6, .inl rp)), (z4, .inl (cI, 6, .inl di))]) qZ_ok hZ ⟨hx, hb, hml, hown, hts⟩ (c_requirePlace l dC dI cI cJ cG a0 0 5 hst) (va_cwS 3 hts (qg_S mq_1_126 mq_1_127 mq_1_1 mq_1_128) rfl rfl rfl (by decide +kernel) ⟨Nat.le_of_ble_eq_true rfl, Nat.le_of_ble_eq_true rfl⟩) hK hP hD hS hA [] [0, 1, 2, 3, 4, 5] [0, 1, 2, 3, 4, 5] rfl rfl (by decide) (by decide) rfl rfl (by decide) rfl hl.1 rfl (Nat.le_of_ble_eq_true rfl) dO_age_3 ⟨Nat.le_of_ble_eq_true rfl, Nat.le_of_ble_eq_true rfl⟩ (fun E ce q9 H locs hex hP hD hS hce hcv hcl => hout hP hD hS (Nat.le_of_ble_eq_true rfl) (Nat.le_of_ble_eq_true rfl) (px_s hex) hce hcv hcl) (fun H locs hn3 hP hD hS => ?_)
  refine lv_iload_n hx hb dO_age_6 rfl (lv_at hl 2 rfl) ?_
  refine lv_iconst (v := 0) hx hb dO_age_7 (by decide) ?_
  refine lv_ldc (v := 100000) hx hb hown (hts _ mq_1_197) dO_age_8 ?_
  refine qx_callSv (As := [.int a1, .int 0, .int 100000]) (rest := []) (wr := [(o0, .inr (0, [.ref o1, .ref o2, .ref o3, .ref o4, .int (nI ru), .int yg, .int ch, .int (nI sp), .int (nI dl), .int mk, .ref o5, .ref o6, .ref o7, .int (nI rr), .int (nI yr), .int (nI sd), .int (nI rn)])), (o1, .inr (1, [.ref z1, .ref z2, .ref z3, .ref z4, .ref z5])), (z1, .inl (cI, 6, .inl nu)), (z2, .inl (cI, 6, .inl wt)), (z3, .inl (cI, 6, .inl rp)), (z4, .inl (cI, 6, .inl di))]) (ws2 := [(o0, .inr (0, [.ref o1, .ref o2, .ref o3, .ref o4, .int (nI ru), .int yg, .int ch, .int (nI sp), .int (nI dl), .int mk, .ref o5, .ref o6, .ref o7, .int (nI rr), .int (nI yr), .int (nI sd), .int (nI rn)])), (o1, .inr (1, [.ref z1, .ref z2, .ref z3, .ref z4, .ref z5])), (z1, .inl (cI, 6, .inl nu)), (z2, .inl (cI, 6, .inl wt)), (z3, .inl (cI, 6, .inl rp)), (z4, .inl (cI, 6, .inl di))]) qZ_ok hZ ⟨hx, hb, hml, hown, hts⟩ (c_requireNumber l dC dI cI cJ cG a1 0 100000 hst) (va_cwS 3 hts (qg_S mq_1_198 mq_1_199 mq_1_1 mq_1_200) rfl rfl rfl (by decide +kernel) ⟨Nat.le_of_ble_eq_true rfl, Nat.le_of_ble_eq_true rfl⟩) hK hP hD hS hA [] [0, 1, 2, 3, 4, 5] [0, 1, 2, 3, 4, 5] rfl rfl (by decide) (by decide) rfl rfl (by decide) rfl hl.1 rfl (Nat.le_of_ble_eq_true rfl) dO_age_10 ⟨Nat.le_of_ble_eq_true rfl, Nat.le_of_ble_eq_true rfl⟩ (fun E ce q9 H locs hex hP hD hS hce hcv hcl => hout hP hD hS (Nat.le_of_ble_eq_true rfl) (Nat.le_of_ble_eq_true rfl) (px_n hn3 (px_s hex)) hce hcv hcl) (fun H locs hn10 hP hD hS => ?_)
  refine lv_iload_n hx hb dO_age_13 rfl (lv_at hl 3 rfl) ?_
  refine lv_iconst (v := 0) hx hb dO_age_14 (by decide) ?_
  refine lv_sipush (v := 10000) hx hb dO_age_15 (by decide) ?_
  refine qx_callSv (As := [.int a2, .int 0, .int 10000]) (rest := []) (wr := [(o0, .inr (0, [.ref o1, .ref o2, .ref o3, .ref o4, .int (nI ru), .int yg, .int ch, .int (nI sp), .int (nI dl), .int mk, .ref o5, .ref o6, .ref o7, .int (nI rr), .int (nI yr), .int (nI sd), .int (nI rn)])), (o1, .inr (1, [.ref z1, .ref z2, .ref z3, .ref z4, .ref z5])), (z1, .inl (cI, 6, .inl nu)), (z2, .inl (cI, 6, .inl wt)), (z3, .inl (cI, 6, .inl rp)), (z4, .inl (cI, 6, .inl di))]) (ws2 := [(o0, .inr (0, [.ref o1, .ref o2, .ref o3, .ref o4, .int (nI ru), .int yg, .int ch, .int (nI sp), .int (nI dl), .int mk, .ref o5, .ref o6, .ref o7, .int (nI rr), .int (nI yr), .int (nI sd), .int (nI rn)])), (o1, .inr (1, [.ref z1, .ref z2, .ref z3, .ref z4, .ref z5])), (z1, .inl (cI, 6, .inl nu)), (z2, .inl (cI, 6, .inl wt)), (z3, .inl (cI, 6, .inl rp)), (z4, .inl (cI, 6, .inl di))]) qZ_ok hZ ⟨hx, hb, hml, hown, hts⟩ (c_requireNumber l dC dI cI cJ cG a2 0 10000 hst) (va_cwS 3 hts (qg_S mq_1_198 mq_1_199 mq_1_1 mq_1_200) rfl rfl rfl (by decide +kernel) ⟨Nat.le_of_ble_eq_true rfl, Nat.le_of_ble_eq_true rfl⟩) hK hP hD hS hA [] [0, 1, 2, 3, 4, 5] [0, 1, 2, 3, 4, 5] rfl rfl (by decide) (by decide) rfl rfl (by decide) rfl hl.1 rfl (Nat.le_of_ble_eq_true rfl) dO_age_18 ⟨Nat.le_of_ble_eq_true rfl, Nat.le_of_ble_eq_true rfl⟩ (fun E ce q9 H locs hex hP hD hS hce hcv hcl => hout hP hD hS (Nat.le_of_ble_eq_true rfl) (Nat.le_of_ble_eq_true rfl) (px_n hn3 (px_n hn10 (px_s hex))) hce hcv hcl) (fun H locs hn18 hP hD hS => ?_)
  refine lv_iload hx hb dO_age_21 (lv_at hl 4 rfl) ?_
  refine lv_iconst (v := 0) hx hb dO_age_23 (by decide) ?_
  refine lv_sipush (v := 1000) hx hb dO_age_24 (by decide) ?_
  refine qx_callSv (As := [.int a3, .int 0, .int 1000]) (rest := []) (wr := [(o0, .inr (0, [.ref o1, .ref o2, .ref o3, .ref o4, .int (nI ru), .int yg, .int ch, .int (nI sp), .int (nI dl), .int mk, .ref o5, .ref o6, .ref o7, .int (nI rr), .int (nI yr), .int (nI sd), .int (nI rn)])), (o1, .inr (1, [.ref z1, .ref z2, .ref z3, .ref z4, .ref z5])), (z1, .inl (cI, 6, .inl nu)), (z2, .inl (cI, 6, .inl wt)), (z3, .inl (cI, 6, .inl rp)), (z4, .inl (cI, 6, .inl di))]) (ws2 := [(o0, .inr (0, [.ref o1, .ref o2, .ref o3, .ref o4, .int (nI ru), .int yg, .int ch, .int (nI sp), .int (nI dl), .int mk, .ref o5, .ref o6, .ref o7, .int (nI rr), .int (nI yr), .int (nI sd), .int (nI rn)])), (o1, .inr (1, [.ref z1, .ref z2, .ref z3, .ref z4, .ref z5])), (z1, .inl (cI, 6, .inl nu)), (z2, .inl (cI, 6, .inl wt)), (z3, .inl (cI, 6, .inl rp)), (z4, .inl (cI, 6, .inl di))]) qZ_ok hZ ⟨hx, hb, hml, hown, hts⟩ (c_requireNumber l dC dI cI cJ cG a3 0 1000 hst) (va_cwS 3 hts (qg_S mq_1_198 mq_1_199 mq_1_1 mq_1_200) rfl rfl rfl (by decide +kernel) ⟨Nat.le_of_ble_eq_true rfl, Nat.le_of_ble_eq_true rfl⟩) hK hP hD hS hA [] [0, 1, 2, 3, 4, 5] [0, 1, 2, 3, 4, 5] rfl rfl (by decide) (by decide) rfl rfl (by decide) rfl hl.1 rfl (Nat.le_of_ble_eq_true rfl) dO_age_27 ⟨Nat.le_of_ble_eq_true rfl, Nat.le_of_ble_eq_true rfl⟩ (fun E ce q9 H locs hex hP hD hS hce hcv hcl => hout hP hD hS (Nat.le_of_ble_eq_true rfl) (Nat.le_of_ble_eq_true rfl) (px_n hn3 (px_n hn10 (px_n hn18 (px_s hex)))) hce hcv hcl) (fun H locs hn27 hP hD hS => ?_)
  refine lv_iload hx hb dO_age_30 (lv_at hl 5 rfl) ?_
  refine lv_iconst (v := 0) hx hb dO_age_32 (by decide) ?_
  refine lv_sipush (v := 1000) hx hb dO_age_33 (by decide) ?_
  refine qx_callSv (As := [.int a4, .int 0, .int 1000]) (rest := []) (wr := [(o0, .inr (0, [.ref o1, .ref o2, .ref o3, .ref o4, .int (nI ru), .int yg, .int ch, .int (nI sp), .int (nI dl), .int mk, .ref o5, .ref o6, .ref o7, .int (nI rr), .int (nI yr), .int (nI sd), .int (nI rn)])), (o1, .inr (1, [.ref z1, .ref z2, .ref z3, .ref z4, .ref z5])), (z1, .inl (cI, 6, .inl nu)), (z2, .inl (cI, 6, .inl wt)), (z3, .inl (cI, 6, .inl rp)), (z4, .inl (cI, 6, .inl di))]) (ws2 := [(o0, .inr (0, [.ref o1, .ref o2, .ref o3, .ref o4, .int (nI ru), .int yg, .int ch, .int (nI sp), .int (nI dl), .int mk, .ref o5, .ref o6, .ref o7, .int (nI rr), .int (nI yr), .int (nI sd), .int (nI rn)])), (o1, .inr (1, [.ref z1, .ref z2, .ref z3, .ref z4, .ref z5])), (z1, .inl (cI, 6, .inl nu)), (z2, .inl (cI, 6, .inl wt)), (z3, .inl (cI, 6, .inl rp)), (z4, .inl (cI, 6, .inl di))]) qZ_ok hZ ⟨hx, hb, hml, hown, hts⟩ (c_requireNumber l dC dI cI cJ cG a4 0 1000 hst) (va_cwS 3 hts (qg_S mq_1_198 mq_1_199 mq_1_1 mq_1_200) rfl rfl rfl (by decide +kernel) ⟨Nat.le_of_ble_eq_true rfl, Nat.le_of_ble_eq_true rfl⟩) hK hP hD hS hA [] [0, 1, 2, 3, 4, 5] [0, 1, 2, 3, 4, 5] rfl rfl (by decide) (by decide) rfl rfl (by decide) rfl hl.1 rfl (Nat.le_of_ble_eq_true rfl) dO_age_36 ⟨Nat.le_of_ble_eq_true rfl, Nat.le_of_ble_eq_true rfl⟩ (fun E ce q9 H locs hex hP hD hS hce hcv hcl => hout hP hD hS (Nat.le_of_ble_eq_true rfl) (Nat.le_of_ble_eq_true rfl) (px_n hn3 (px_n hn10 (px_n hn18 (px_n hn27 hex)))) hce hcv hcl) (fun H locs hn36 hP hD hS => ?_)
  have hp := qn_pl (f := 0) (t := 5) hn3 (by decide) (by decide)
  refine lv_aload_n hx hb dO_age_39 rfl (lv_at hl 0 rfl) ?_
  refine va_get (D := (dC, dI)) (ci := 0) (v := .ref o1) (C := "OutlookOdds") (T := TO) (N := 17) hx hb hts inO hown hK hP 0 rfl rfl 0 (by decide) (hts _ mq_1_56) (fun _ h9 => h9) rfl dO_age_40 ?_
  refine lv_iload_n hx hb dO_age_43 rfl (lv_at hl 1 rfl) ?_
  refine qr_topi (y := nI a0.toNatClampNeg) (hp.1) ?_
  refine lv_iload_n hx hb dO_age_44 rfl (lv_at hl 2 rfl) ?_
  refine lv_iload_n hx hb dO_age_45 rfl (lv_at hl 3 rfl) ?_
  refine lv_iload hx hb dO_age_46 (lv_at hl 4 rfl) ?_
  refine lv_iload hx hb dO_age_48 (lv_at hl 5 rfl) ?_
  refine qr_callVv (As := [.int (nI a0.toNatClampNeg), .int a1, .int a2, .int a3, .int a4]) (rest := []) (wr := [(o0, .inr (0, [.ref o1, .ref o2, .ref o3, .ref o4, .int (nI ru), .int yg, .int ch, .int (nI sp), .int (nI dl), .int mk, .ref o5, .ref o6, .ref o7, .int (nI rr), .int (nI yr), .int (nI sd), .int (nI rn)]))]) (ws2 := [(o0, .inr (0, [.ref o1, .ref o2, .ref o3, .ref o4, .int (nI ru), .int yg, .int ch, .int (nI sp), .int (nI dl), .int mk, .ref o5, .ref o6, .ref o7, .int (nI rr), .int (nI yr), .int (nI sd), .int (nI rn)])), (o1, .inr (1, [.ref z1, .ref z2, .ref z3, .ref z4, .ref z5])), (z1, .inl (cI, 6, .inl (upd nu a0.toNatClampNeg a1))), (z2, .inl (cI, 6, .inl (upd wt a0.toNatClampNeg a2))), (z3, .inl (cI, 6, .inl (upd rp a0.toNatClampNeg a3))), (z4, .inl (cI, 6, .inl (upd di a0.toNatClampNeg a4)))]) ⟨hx, hb, hml, hown, hts⟩ (c_Stock_setAge l dC dI cI cJ cG o1 z1 z2 z3 z4 z5 nu wt rp di a0.toNatClampNeg a1 a2 a3 a4 (by omega)) (cwV 5 hts (qg_V mq_1_217 mq_1_218 mq_1_219 mq_1_2 mq_1_220) rfl rfl rfl (by decide +kernel) ⟨Nat.le_of_ble_eq_true rfl, Nat.le_of_ble_eq_true rfl⟩) hK hP hD hS hA (ci := 1) (q0 := 1) rfl rfl [1, 2, 3, 4, 5] [0] [0, 1, 2, 3, 4, 5] rfl rfl (by decide) (by decide) rfl (by decide) rfl hl.1 rfl (Nat.le_of_ble_eq_true rfl) dO_age_50 ⟨Nat.le_of_ble_eq_true rfl, Nat.le_of_ble_eq_true rfl⟩ (fun H locs hP hD hS => ?_)
  exact hret hP hD hS (Nat.le_of_ble_eq_true rfl) (Nat.le_of_ble_eq_true rfl) (px_n hn3 (px_n hn10 (px_n hn18 (px_n hn27 hn36)))) dO_age_53

set_option maxHeartbeats 4000000 in
set_option maxRecDepth 100000 in
theorem c_young (o0 o1 o2 o3 o4 o5 o6 o7 ru sp dl rr yr sd rn : Nat) (yg ch mk : Int32) (a0 : Int32) (hst : l.stackTraces = false) : qXi qZ l yO_young (wO_young) ({ frames := 7, cells := 1, slots := 6, locals := 104 } : Room) (dC, dI) qCl [(cI, .int), (cJ, .long), (cG, .array .long)] [.ref o0, .int a0] [(o0, .inr (0, [.ref o1, .ref o2, .ref o3, .ref o4, .int (nI ru), .int yg, .int ch, .int (nI sp), .int (nI dl), .int mk, .ref o5, .ref o6, .ref o7, .int (nI rr), .int (nI yr), .int (nI sd), .int (nI rn)]))] [(o0, .inr (0, [.ref o1, .ref o2, .ref o3, .ref o4, .int (nI ru), .int a0, .int ch, .int (nI sp), .int (nI dl), .int mk, .ref o5, .ref o6, .ref o7, .int (nI rr), .int (nI yr), .int (nI sd), .int (nI rn)]))] (px_num a0 0 100000) yg 1 6 := by
  refine qx_i (cc := prog_1_method_3_code) (maxL := 3) (by decide) rfl (Nat.le_of_ble_eq_true rfl) ?_
  intro p e s m args below meth c Q A ls hx hb hml hown hnm hts hA hK hP hD hS hl hZ hret hout hfin
  have hl : lv_has ls 3 [(0, .ref o0), (1, .int a0)] := hl
  refine lv_iload_n hx hb dO_young_0 rfl (lv_at hl 1 rfl) ?_
  refine lv_iconst (v := 0) hx hb dO_young_1 (by decide) ?_
  refine lv_ldc (v := 100000) hx hb hown (hts _ mq_1_197) dO_young_2 ?_
  refine qx_callSv (As := [.int a0, .int 0, .int 100000]) (rest := []) (wr := [(o0, .inr (0, [.ref o1, .ref o2, .ref o3, .ref o4, .int (nI ru), .int yg, .int ch, .int (nI sp), .int (nI dl), .int mk, .ref o5, .ref o6, .ref o7, .int (nI rr), .int (nI yr), .int (nI sd), .int (nI rn)]))]) (ws2 := [(o0, .inr (0, [.ref o1, .ref o2, .ref o3, .ref o4, .int (nI ru), .int yg, .int ch, .int (nI sp), .int (nI dl), .int mk, .ref o5, .ref o6, .ref o7, .int (nI rr), .int (nI yr), .int (nI sd), .int (nI rn)]))]) qZ_ok hZ ⟨hx, hb, hml, hown, hts⟩ (c_requireNumber l dC dI cI cJ cG a0 0 100000 hst) (va_cwS 3 hts (qg_S mq_1_198 mq_1_199 mq_1_1 mq_1_200) rfl rfl rfl (by decide +kernel) ⟨Nat.le_of_ble_eq_true rfl, Nat.le_of_ble_eq_true rfl⟩) hK hP hD hS hA [] [0] [0] rfl rfl (by decide) (by decide) rfl rfl (by decide) rfl hl.1 rfl (Nat.le_of_ble_eq_true rfl) dO_young_4 ⟨Nat.le_of_ble_eq_true rfl, Nat.le_of_ble_eq_true rfl⟩ (fun E ce q9 H locs hex hP hD hS hce hcv hcl => hout hP hD hS (Nat.le_of_ble_eq_true rfl) (Nat.le_of_ble_eq_true rfl) (hex) hce hcv hcl) (fun H locs hn4 hP hD hS => ?_)
  refine lv_aload_n hx hb dO_young_7 rfl (lv_at hl 0 rfl) ?_
  refine va_get (D := (dC, dI)) (ci := 0) (v := .int yg) (C := "OutlookOdds") (T := TO) (N := 17) hx hb hts inO hown hK hP 0 rfl rfl 5 (by decide) (hts _ mq_1_61) (fun _ h9 => h9) rfl dO_young_8 ?_
  refine lv_istore_n (lv' := [(2, .int yg), (0, .ref o0), (1, .int a0)]) hx hb dO_young_11 rfl hl (by decide) rfl (fun ls hl => ?_)
  refine lv_aload_n hx hb dO_young_12 rfl (lv_at hl 1 rfl) ?_
  refine lv_iload_n hx hb dO_young_13 rfl (lv_at hl 2 rfl) ?_
  refine qr_put (D := (dC, dI)) (ci := 0) (v := .int a0) (ty := .int) (C := "OutlookOdds") (T := TO) (N := 17) (ws2 := [(o0, .inr (0, [.ref o1, .ref o2, .ref o3, .ref o4, .int (nI ru), .int a0, .int ch, .int (nI sp), .int (nI dl), .int mk, .ref o5, .ref o6, .ref o7, .int (nI rr), .int (nI yr), .int (nI sd), .int (nI rn)]))]) hx hb hts inO tyO tyO_ok nmO hown hK hP hD hS 0 rfl rfl 5 (by decide) (hts _ mq_1_61) (fun _ h9 => h9) rfl (by decide +kernel) rfl rfl (Nat.le_of_ble_eq_true rfl) rfl dO_young_14 (fun H locs hP hD hS => ?_)
  refine lv_iload_n hx hb dO_young_17 rfl (lv_at hl 0 rfl) ?_
  exact hret hP hD hS (Nat.le_of_ble_eq_true rfl) (Nat.le_of_ble_eq_true rfl) (hn4) (rfl) dO_young_18

set_option maxHeartbeats 4000000 in
set_option maxRecDepth 100000 in
theorem c_change (o0 o1 o2 o3 o4 o5 o6 o7 ru sp dl rr yr sd rn : Nat) (yg ch mk : Int32) (a0 : Int32) (hst : l.stackTraces = false) : qXi qZ l yO_change (wO_change) ({ frames := 7, cells := 1, slots := 6, locals := 104 } : Room) (dC, dI) qCl [(cI, .int), (cJ, .long), (cG, .array .long)] [.ref o0, .int a0] [(o0, .inr (0, [.ref o1, .ref o2, .ref o3, .ref o4, .int (nI ru), .int yg, .int ch, .int (nI sp), .int (nI dl), .int mk, .ref o5, .ref o6, .ref o7, .int (nI rr), .int (nI yr), .int (nI sd), .int (nI rn)]))] [(o0, .inr (0, [.ref o1, .ref o2, .ref o3, .ref o4, .int (nI ru), .int yg, .int a0, .int (nI sp), .int (nI dl), .int mk, .ref o5, .ref o6, .ref o7, .int (nI rr), .int (nI yr), .int (nI sd), .int (nI rn)]))] (px_num a0 0 1000) ch 1 6 := by
  refine qx_i (cc := prog_1_method_5_code) (maxL := 3) (by decide) rfl (Nat.le_of_ble_eq_true rfl) ?_
  intro p e s m args below meth c Q A ls hx hb hml hown hnm hts hA hK hP hD hS hl hZ hret hout hfin
  have hl : lv_has ls 3 [(0, .ref o0), (1, .int a0)] := hl
  refine lv_iload_n hx hb dO_change_0 rfl (lv_at hl 1 rfl) ?_
  refine lv_iconst (v := 0) hx hb dO_change_1 (by decide) ?_
  refine lv_sipush (v := 1000) hx hb dO_change_2 (by decide) ?_
  refine qx_callSv (As := [.int a0, .int 0, .int 1000]) (rest := []) (wr := [(o0, .inr (0, [.ref o1, .ref o2, .ref o3, .ref o4, .int (nI ru), .int yg, .int ch, .int (nI sp), .int (nI dl), .int mk, .ref o5, .ref o6, .ref o7, .int (nI rr), .int (nI yr), .int (nI sd), .int (nI rn)]))]) (ws2 := [(o0, .inr (0, [.ref o1, .ref o2, .ref o3, .ref o4, .int (nI ru), .int yg, .int ch, .int (nI sp), .int (nI dl), .int mk, .ref o5, .ref o6, .ref o7, .int (nI rr), .int (nI yr), .int (nI sd), .int (nI rn)]))]) qZ_ok hZ ⟨hx, hb, hml, hown, hts⟩ (c_requireNumber l dC dI cI cJ cG a0 0 1000 hst) (va_cwS 3 hts (qg_S mq_1_198 mq_1_199 mq_1_1 mq_1_200) rfl rfl rfl (by decide +kernel) ⟨Nat.le_of_ble_eq_true rfl, Nat.le_of_ble_eq_true rfl⟩) hK hP hD hS hA [] [0] [0] rfl rfl (by decide) (by decide) rfl rfl (by decide) rfl hl.1 rfl (Nat.le_of_ble_eq_true rfl) dO_change_5 ⟨Nat.le_of_ble_eq_true rfl, Nat.le_of_ble_eq_true rfl⟩ (fun E ce q9 H locs hex hP hD hS hce hcv hcl => hout hP hD hS (Nat.le_of_ble_eq_true rfl) (Nat.le_of_ble_eq_true rfl) (hex) hce hcv hcl) (fun H locs hn5 hP hD hS => ?_)
  refine lv_aload_n hx hb dO_change_8 rfl (lv_at hl 0 rfl) ?_
  refine va_get (D := (dC, dI)) (ci := 0) (v := .int ch) (C := "OutlookOdds") (T := TO) (N := 17) hx hb hts inO hown hK hP 0 rfl rfl 6 (by decide) (hts _ mq_1_62) (fun _ h9 => h9) rfl dO_change_9 ?_
  refine lv_istore_n (lv' := [(2, .int ch), (0, .ref o0), (1, .int a0)]) hx hb dO_change_12 rfl hl (by decide) rfl (fun ls hl => ?_)
  refine lv_aload_n hx hb dO_change_13 rfl (lv_at hl 1 rfl) ?_
  refine lv_iload_n hx hb dO_change_14 rfl (lv_at hl 2 rfl) ?_
  refine qr_put (D := (dC, dI)) (ci := 0) (v := .int a0) (ty := .int) (C := "OutlookOdds") (T := TO) (N := 17) (ws2 := [(o0, .inr (0, [.ref o1, .ref o2, .ref o3, .ref o4, .int (nI ru), .int yg, .int a0, .int (nI sp), .int (nI dl), .int mk, .ref o5, .ref o6, .ref o7, .int (nI rr), .int (nI yr), .int (nI sd), .int (nI rn)]))]) hx hb hts inO tyO tyO_ok nmO hown hK hP hD hS 0 rfl rfl 6 (by decide) (hts _ mq_1_62) (fun _ h9 => h9) rfl (by decide +kernel) rfl rfl (Nat.le_of_ble_eq_true rfl) rfl dO_change_15 (fun H locs hP hD hS => ?_)
  refine lv_iload_n hx hb dO_change_18 rfl (lv_at hl 0 rfl) ?_
  exact hret hP hD hS (Nat.le_of_ble_eq_true rfl) (Nat.le_of_ble_eq_true rfl) (hn5) (rfl) dO_change_19

set_option maxHeartbeats 4000000 in
set_option maxRecDepth 100000 in
theorem c_mark (o0 o1 o2 o3 o4 o5 o6 o7 ru sp dl rr yr sd rn : Nat) (yg ch mk : Int32) (a0 : Int32) (hst : l.stackTraces = false) : qXi qZ l yO_mark (wO_mark) ({ frames := 7, cells := 1, slots := 6, locals := 104 } : Room) (dC, dI) qCl [(cI, .int), (cJ, .long), (cG, .array .long)] [.ref o0, .int a0] [(o0, .inr (0, [.ref o1, .ref o2, .ref o3, .ref o4, .int (nI ru), .int yg, .int ch, .int (nI sp), .int (nI dl), .int mk, .ref o5, .ref o6, .ref o7, .int (nI rr), .int (nI yr), .int (nI sd), .int (nI rn)]))] [(o0, .inr (0, [.ref o1, .ref o2, .ref o3, .ref o4, .int (nI ru), .int yg, .int ch, .int (nI sp), .int (nI dl), .int a0, .ref o5, .ref o6, .ref o7, .int (nI rr), .int (nI yr), .int (nI sd), .int (nI rn)]))] (px_num a0 0 2147483647) mk 1 6 := by
  refine qx_i (cc := prog_1_method_7_code) (maxL := 3) (by decide) rfl (Nat.le_of_ble_eq_true rfl) ?_
  intro p e s m args below meth c Q A ls hx hb hml hown hnm hts hA hK hP hD hS hl hZ hret hout hfin
  have hl : lv_has ls 3 [(0, .ref o0), (1, .int a0)] := hl
  refine lv_iload_n hx hb dO_mark_0 rfl (lv_at hl 1 rfl) ?_
  refine lv_iconst (v := 0) hx hb dO_mark_1 (by decide) ?_
  refine lv_ldc (v := 2147483647) hx hb hown (hts _ mq_2_34) dO_mark_2 ?_
  refine qx_callSv (As := [.int a0, .int 0, .int 2147483647]) (rest := []) (wr := [(o0, .inr (0, [.ref o1, .ref o2, .ref o3, .ref o4, .int (nI ru), .int yg, .int ch, .int (nI sp), .int (nI dl), .int mk, .ref o5, .ref o6, .ref o7, .int (nI rr), .int (nI yr), .int (nI sd), .int (nI rn)]))]) (ws2 := [(o0, .inr (0, [.ref o1, .ref o2, .ref o3, .ref o4, .int (nI ru), .int yg, .int ch, .int (nI sp), .int (nI dl), .int mk, .ref o5, .ref o6, .ref o7, .int (nI rr), .int (nI yr), .int (nI sd), .int (nI rn)]))]) qZ_ok hZ ⟨hx, hb, hml, hown, hts⟩ (c_requireNumber l dC dI cI cJ cG a0 0 2147483647 hst) (va_cwS 3 hts (qg_S mq_1_198 mq_1_199 mq_1_1 mq_1_200) rfl rfl rfl (by decide +kernel) ⟨Nat.le_of_ble_eq_true rfl, Nat.le_of_ble_eq_true rfl⟩) hK hP hD hS hA [] [0] [0] rfl rfl (by decide) (by decide) rfl rfl (by decide) rfl hl.1 rfl (Nat.le_of_ble_eq_true rfl) dO_mark_4 ⟨Nat.le_of_ble_eq_true rfl, Nat.le_of_ble_eq_true rfl⟩ (fun E ce q9 H locs hex hP hD hS hce hcv hcl => hout hP hD hS (Nat.le_of_ble_eq_true rfl) (Nat.le_of_ble_eq_true rfl) (hex) hce hcv hcl) (fun H locs hn4 hP hD hS => ?_)
  refine lv_aload_n hx hb dO_mark_7 rfl (lv_at hl 0 rfl) ?_
  refine va_get (D := (dC, dI)) (ci := 0) (v := .int mk) (C := "OutlookOdds") (T := TO) (N := 17) hx hb hts inO hown hK hP 0 rfl rfl 9 (by decide) (hts _ mq_1_65) (fun _ h9 => h9) rfl dO_mark_8 ?_
  refine lv_istore_n (lv' := [(2, .int mk), (0, .ref o0), (1, .int a0)]) hx hb dO_mark_11 rfl hl (by decide) rfl (fun ls hl => ?_)
  refine lv_aload_n hx hb dO_mark_12 rfl (lv_at hl 1 rfl) ?_
  refine lv_iload_n hx hb dO_mark_13 rfl (lv_at hl 2 rfl) ?_
  refine qr_put (D := (dC, dI)) (ci := 0) (v := .int a0) (ty := .int) (C := "OutlookOdds") (T := TO) (N := 17) (ws2 := [(o0, .inr (0, [.ref o1, .ref o2, .ref o3, .ref o4, .int (nI ru), .int yg, .int ch, .int (nI sp), .int (nI dl), .int a0, .ref o5, .ref o6, .ref o7, .int (nI rr), .int (nI yr), .int (nI sd), .int (nI rn)]))]) hx hb hts inO tyO tyO_ok nmO hown hK hP hD hS 0 rfl rfl 9 (by decide) (hts _ mq_1_65) (fun _ h9 => h9) rfl (by decide +kernel) rfl rfl (Nat.le_of_ble_eq_true rfl) rfl dO_mark_14 (fun H locs hP hD hS => ?_)
  refine lv_iload_n hx hb dO_mark_17 rfl (lv_at hl 0 rfl) ?_
  exact hret hP hD hS (Nat.le_of_ble_eq_true rfl) (Nat.le_of_ble_eq_true rfl) (hn4) (rfl) dO_mark_18

set_option maxHeartbeats 4000000 in
set_option maxRecDepth 100000 in
theorem c_rule (o0 o1 o2 o3 o4 o5 o6 o7 ru sp dl rr yr sd rn : Nat) (yg ch mk : Int32) (lo hi ra : Nat → Int32) (a0 a1 a2 : Int32) (hst : l.stackTraces = false) (hru : ru ≤ 6) : qXi qZ l yO_rule (wO_rule) ({ frames := 7, cells := 4, slots := 24, locals := 104 } : Room) (dC, dI) qCl [(cI, .int), (cJ, .long), (cG, .array .long)] [.ref o0, .int a0, .int a1, .int a2] [(o0, .inr (0, [.ref o1, .ref o2, .ref o3, .ref o4, .int (nI ru), .int yg, .int ch, .int (nI sp), .int (nI dl), .int mk, .ref o5, .ref o6, .ref o7, .int (nI rr), .int (nI yr), .int (nI sd), .int (nI rn)])), (o2, .inl (cI, 6, .inl lo)), (o3, .inl (cI, 6, .inl hi)), (o4, .inl (cI, 6, .inl ra))] [(o0, .inr (0, [.ref o1, .ref o2, .ref o3, .ref o4, .int (nI (ru + 1)), .int yg, .int ch, .int (nI sp), .int (nI dl), .int mk, .ref o5, .ref o6, .ref o7, .int (nI rr), .int (nI yr), .int (nI sd), .int (nI rn)])), (o2, .inl (cI, 6, .inl (upd lo ru a0))), (o3, .inl (cI, 6, .inl (upd hi ru a1))), (o4, .inl (cI, 6, .inl (upd ra ru a2)))] (px_or (px_num a1 0 2000000000) (px_or (px_num a0 0 a1) (px_or (px_num a2 0 900) (px_room (nI ru))))) (nI ru) 4 24 := by
  refine qx_i (cc := prog_1_method_4_code) (maxL := 5) (by decide) rfl (Nat.le_of_ble_eq_true rfl) ?_
  intro p e s m args below meth c Q A ls hx hb hml hown hnm hts hA hK hP hD hS hl hZ hret hout hfin
  have hl : lv_has ls 5 [(0, .ref o0), (1, .int a0), (2, .int a1), (3, .int a2)] := hl
  refine lv_iload_n hx hb dO_rule_0 rfl (lv_at hl 2 rfl) ?_
  refine lv_iconst (v := 0) hx hb dO_rule_1 (by decide) ?_
  refine lv_ldc (v := 2000000000) hx hb hown (hts _ mq_1_236) dO_rule_2 ?_
  refine qx_callSv (As := [.int a1, .int 0, .int 2000000000]) (rest := []) (wr := [(o0, .inr (0, [.ref o1, .ref o2, .ref o3, .ref o4, .int (nI ru), .int yg, .int ch, .int (nI sp), .int (nI dl), .int mk, .ref o5, .ref o6, .ref o7, .int (nI rr), .int (nI yr), .int (nI sd), .int (nI rn)])), (o2, .inl (cI, 6, .inl lo)), (o3, .inl (cI, 6, .inl hi)), (o4, .inl (cI, 6, .inl ra))]) (ws2 := [(o0, .inr (0, [.ref o1, .ref o2, .ref o3, .ref o4, .int (nI ru), .int yg, .int ch, .int (nI sp), .int (nI dl), .int mk, .ref o5, .ref o6, .ref o7, .int (nI rr), .int (nI yr), .int (nI sd), .int (nI rn)])), (o2, .inl (cI, 6, .inl lo)), (o3, .inl (cI, 6, .inl hi)), (o4, .inl (cI, 6, .inl ra))]) qZ_ok hZ ⟨hx, hb, hml, hown, hts⟩ (c_requireNumber l dC dI cI cJ cG a1 0 2000000000 hst) (va_cwS 3 hts (qg_S mq_1_198 mq_1_199 mq_1_1 mq_1_200) rfl rfl rfl (by decide +kernel) ⟨Nat.le_of_ble_eq_true rfl, Nat.le_of_ble_eq_true rfl⟩) hK hP hD hS hA [] [0, 1, 2, 3] [0, 1, 2, 3] rfl rfl (by decide) (by decide) rfl rfl (by decide) rfl hl.1 rfl (Nat.le_of_ble_eq_true rfl) dO_rule_4 ⟨Nat.le_of_ble_eq_true rfl, Nat.le_of_ble_eq_true rfl⟩ (fun E ce q9 H locs hex hP hD hS hce hcv hcl => hout hP hD hS (Nat.le_of_ble_eq_true rfl) (Nat.le_of_ble_eq_true rfl) (px_s hex) hce hcv hcl) (fun H locs hn4 hP hD hS => ?_)
  refine lv_iload_n hx hb dO_rule_7 rfl (lv_at hl 1 rfl) ?_
  refine lv_iconst (v := 0) hx hb dO_rule_8 (by decide) ?_
  refine lv_iload_n hx hb dO_rule_9 rfl (lv_at hl 2 rfl) ?_
  refine qx_callSv (As := [.int a0, .int 0, .int a1]) (rest := []) (wr := [(o0, .inr (0, [.ref o1, .ref o2, .ref o3, .ref o4, .int (nI ru), .int yg, .int ch, .int (nI sp), .int (nI dl), .int mk, .ref o5, .ref o6, .ref o7, .int (nI rr), .int (nI yr), .int (nI sd), .int (nI rn)])), (o2, .inl (cI, 6, .inl lo)), (o3, .inl (cI, 6, .inl hi)), (o4, .inl (cI, 6, .inl ra))]) (ws2 := [(o0, .inr (0, [.ref o1, .ref o2, .ref o3, .ref o4, .int (nI ru), .int yg, .int ch, .int (nI sp), .int (nI dl), .int mk, .ref o5, .ref o6, .ref o7, .int (nI rr), .int (nI yr), .int (nI sd), .int (nI rn)])), (o2, .inl (cI, 6, .inl lo)), (o3, .inl (cI, 6, .inl hi)), (o4, .inl (cI, 6, .inl ra))]) qZ_ok hZ ⟨hx, hb, hml, hown, hts⟩ (c_requireNumber l dC dI cI cJ cG a0 0 a1 hst) (va_cwS 3 hts (qg_S mq_1_198 mq_1_199 mq_1_1 mq_1_200) rfl rfl rfl (by decide +kernel) ⟨Nat.le_of_ble_eq_true rfl, Nat.le_of_ble_eq_true rfl⟩) hK hP hD hS hA [] [0, 1, 2, 3] [0, 1, 2, 3] rfl rfl (by decide) (by decide) rfl rfl (by decide) rfl hl.1 rfl (Nat.le_of_ble_eq_true rfl) dO_rule_10 ⟨Nat.le_of_ble_eq_true rfl, Nat.le_of_ble_eq_true rfl⟩ (fun E ce q9 H locs hex hP hD hS hce hcv hcl => hout hP hD hS (Nat.le_of_ble_eq_true rfl) (Nat.le_of_ble_eq_true rfl) (px_n hn4 (px_s hex)) hce hcv hcl) (fun H locs hn10 hP hD hS => ?_)
  refine lv_iload_n hx hb dO_rule_13 rfl (lv_at hl 3 rfl) ?_
  refine lv_iconst (v := 0) hx hb dO_rule_14 (by decide) ?_
  refine lv_sipush (v := 900) hx hb dO_rule_15 (by decide) ?_
  refine qx_callSv (As := [.int a2, .int 0, .int 900]) (rest := []) (wr := [(o0, .inr (0, [.ref o1, .ref o2, .ref o3, .ref o4, .int (nI ru), .int yg, .int ch, .int (nI sp), .int (nI dl), .int mk, .ref o5, .ref o6, .ref o7, .int (nI rr), .int (nI yr), .int (nI sd), .int (nI rn)])), (o2, .inl (cI, 6, .inl lo)), (o3, .inl (cI, 6, .inl hi)), (o4, .inl (cI, 6, .inl ra))]) (ws2 := [(o0, .inr (0, [.ref o1, .ref o2, .ref o3, .ref o4, .int (nI ru), .int yg, .int ch, .int (nI sp), .int (nI dl), .int mk, .ref o5, .ref o6, .ref o7, .int (nI rr), .int (nI yr), .int (nI sd), .int (nI rn)])), (o2, .inl (cI, 6, .inl lo)), (o3, .inl (cI, 6, .inl hi)), (o4, .inl (cI, 6, .inl ra))]) qZ_ok hZ ⟨hx, hb, hml, hown, hts⟩ (c_requireNumber l dC dI cI cJ cG a2 0 900 hst) (va_cwS 3 hts (qg_S mq_1_198 mq_1_199 mq_1_1 mq_1_200) rfl rfl rfl (by decide +kernel) ⟨Nat.le_of_ble_eq_true rfl, Nat.le_of_ble_eq_true rfl⟩) hK hP hD hS hA [] [0, 1, 2, 3] [0, 1, 2, 3] rfl rfl (by decide) (by decide) rfl rfl (by decide) rfl hl.1 rfl (Nat.le_of_ble_eq_true rfl) dO_rule_18 ⟨Nat.le_of_ble_eq_true rfl, Nat.le_of_ble_eq_true rfl⟩ (fun E ce q9 H locs hex hP hD hS hce hcv hcl => hout hP hD hS (Nat.le_of_ble_eq_true rfl) (Nat.le_of_ble_eq_true rfl) (px_n hn4 (px_n hn10 (px_s hex))) hce hcv hcl) (fun H locs hn18 hP hD hS => ?_)
  refine lv_aload_n hx hb dO_rule_21 rfl (lv_at hl 0 rfl) ?_
  refine va_get (D := (dC, dI)) (ci := 0) (v := .int (nI ru)) (C := "OutlookOdds") (T := TO) (N := 17) hx hb hts inO hown hK hP 0 rfl rfl 4 (by decide) (hts _ mq_1_60) (fun _ h9 => h9) rfl dO_rule_22 ?_
  refine lv_bipush (v := 6) hx hb dO_rule_25 (by decide) ?_
  refine lv_icmp_lt (tgt := 40) hx hb dO_rule_27 (by decide) (fun h27 => ?_) (fun h27 => ?_)
  · have hr6 : ru < 6 := qn_lt (b := 6) h27 (by omega)
    have hn27 := show px_room (nI ru) = none from if_pos h27
    refine lv_aload_n hx hb dO_rule_40 rfl (lv_at hl 0 rfl) ?_
    refine va_get (D := (dC, dI)) (ci := 0) (v := .int (nI ru)) (C := "OutlookOdds") (T := TO) (N := 17) hx hb hts inO hown hK hP 0 rfl rfl 4 (by decide) (hts _ mq_1_60) (fun _ h9 => h9) rfl dO_rule_41 ?_
    refine lv_istore (lv' := [(4, .int (nI ru)), (0, .ref o0), (1, .int a0), (2, .int a1), (3, .int a2)]) hx hb dO_rule_44 hl (by decide) rfl (fun ls hl => ?_)
    refine lv_aload_n hx hb dO_rule_46 rfl (lv_at hl 1 rfl) ?_
    refine va_get (D := (dC, dI)) (ci := 0) (v := .ref o2) (C := "OutlookOdds") (T := TO) (N := 17) hx hb hts inO hown hK hP 0 rfl rfl 1 (by decide) (hts _ mq_1_57) (fun _ h9 => h9) rfl dO_rule_47 ?_
    refine lv_iload hx hb dO_rule_50 (lv_at hl 0 rfl) ?_
    refine lv_iload_n hx hb dO_rule_52 rfl (lv_at hl 2 rfl) ?_
    refine qr_iast (k := ru) (ws2 := [(o0, .inr (0, [.ref o1, .ref o2, .ref o3, .ref o4, .int (nI ru), .int yg, .int ch, .int (nI sp), .int (nI dl), .int mk, .ref o5, .ref o6, .ref o7, .int (nI rr), .int (nI yr), .int (nI sd), .int (nI rn)])), (o2, .inl (cI, 6, .inl (upd lo ru a0))), (o3, .inl (cI, 6, .inl hi)), (o4, .inl (cI, 6, .inl ra))]) hx hb hK hP hD hS 1 0 rfl rfl (rfl) (by omega) (by decide) rfl dO_rule_53 (fun H locs hP hD hS => ?_)
    refine lv_aload_n hx hb dO_rule_54 rfl (lv_at hl 1 rfl) ?_
    refine va_get (D := (dC, dI)) (ci := 0) (v := .ref o3) (C := "OutlookOdds") (T := TO) (N := 17) hx hb hts inO hown hK hP 0 rfl rfl 2 (by decide) (hts _ mq_1_58) (fun _ h9 => h9) rfl dO_rule_55 ?_
    refine lv_iload hx hb dO_rule_58 (lv_at hl 0 rfl) ?_
    refine lv_iload_n hx hb dO_rule_60 rfl (lv_at hl 3 rfl) ?_
    refine qr_iast (k := ru) (ws2 := [(o0, .inr (0, [.ref o1, .ref o2, .ref o3, .ref o4, .int (nI ru), .int yg, .int ch, .int (nI sp), .int (nI dl), .int mk, .ref o5, .ref o6, .ref o7, .int (nI rr), .int (nI yr), .int (nI sd), .int (nI rn)])), (o2, .inl (cI, 6, .inl (upd lo ru a0))), (o3, .inl (cI, 6, .inl (upd hi ru a1))), (o4, .inl (cI, 6, .inl ra))]) hx hb hK hP hD hS 2 0 rfl rfl (rfl) (by omega) (by decide) rfl dO_rule_61 (fun H locs hP hD hS => ?_)
    refine lv_aload_n hx hb dO_rule_62 rfl (lv_at hl 1 rfl) ?_
    refine va_get (D := (dC, dI)) (ci := 0) (v := .ref o4) (C := "OutlookOdds") (T := TO) (N := 17) hx hb hts inO hown hK hP 0 rfl rfl 3 (by decide) (hts _ mq_1_59) (fun _ h9 => h9) rfl dO_rule_63 ?_
    refine lv_iload hx hb dO_rule_66 (lv_at hl 0 rfl) ?_
    refine lv_iload_n hx hb dO_rule_68 rfl (lv_at hl 4 rfl) ?_
    refine qr_iast (k := ru) (ws2 := [(o0, .inr (0, [.ref o1, .ref o2, .ref o3, .ref o4, .int (nI ru), .int yg, .int ch, .int (nI sp), .int (nI dl), .int mk, .ref o5, .ref o6, .ref o7, .int (nI rr), .int (nI yr), .int (nI sd), .int (nI rn)])), (o2, .inl (cI, 6, .inl (upd lo ru a0))), (o3, .inl (cI, 6, .inl (upd hi ru a1))), (o4, .inl (cI, 6, .inl (upd ra ru a2)))]) hx hb hK hP hD hS 3 0 rfl rfl (rfl) (by omega) (by decide) rfl dO_rule_69 (fun H locs hP hD hS => ?_)
    refine lv_aload_n hx hb dO_rule_70 rfl (lv_at hl 1 rfl) ?_
    refine lv_iload hx hb dO_rule_71 (lv_at hl 0 rfl) ?_
    refine lv_iconst (v := 1) hx hb dO_rule_73 (by decide) ?_
    refine lv_iadd hx hb dO_rule_74 ?_
    refine qr_topi (y := nI (ru + 1)) (nI_1 _) ?_
    refine qr_put (D := (dC, dI)) (ci := 0) (v := .int (nI (ru + 1))) (ty := .int) (C := "OutlookOdds") (T := TO) (N := 17) (ws2 := [(o0, .inr (0, [.ref o1, .ref o2, .ref o3, .ref o4, .int (nI (ru + 1)), .int yg, .int ch, .int (nI sp), .int (nI dl), .int mk, .ref o5, .ref o6, .ref o7, .int (nI rr), .int (nI yr), .int (nI sd), .int (nI rn)])), (o2, .inl (cI, 6, .inl (upd lo ru a0))), (o3, .inl (cI, 6, .inl (upd hi ru a1))), (o4, .inl (cI, 6, .inl (upd ra ru a2)))]) hx hb hts inO tyO tyO_ok nmO hown hK hP hD hS 0 rfl rfl 4 (by decide) (hts _ mq_1_60) (fun _ h9 => h9) rfl (by decide +kernel) rfl rfl (Nat.le_of_ble_eq_true rfl) rfl dO_rule_75 (fun H locs hP hD hS => ?_)
    refine lv_iload hx hb dO_rule_78 (lv_at hl 0 rfl) ?_
    exact hret hP hD hS (Nat.le_of_ble_eq_true rfl) (Nat.le_of_ble_eq_true rfl) (px_n hn4 (px_n hn10 (px_n hn18 hn27))) (rfl) dO_rule_80
  · exact qx_thr (E := "java/lang/IllegalStateException") (text := "there is no room for another rule") hfin hst hZ hx hb hown hts hK hP hD hS (by rw [hml]; exact hl.1) (by decide) (List.mem_of_getElem? (i := 2) rfl) mq_1_237 mq_1_10 (List.mem_of_getElem? (i := 2) rfl) qat_2 qab_2 qat_g2 dO_rule_30 dO_rule_33 dO_rule_34 dO_rule_36 dO_rule_39 ⟨Nat.le_of_ble_eq_true rfl, Nat.le_of_ble_eq_true rfl, Nat.le_of_ble_eq_true rfl, Nat.le_of_ble_eq_true rfl⟩ ⟨Nat.le_of_ble_eq_true rfl, Nat.le_of_ble_eq_true rfl⟩ (px_n hn4 (px_n hn10 (px_n hn18 (show px_room (nI ru) = some "java/lang/IllegalStateException" from if_neg h27))))

set_option maxHeartbeats 4000000 in
set_option maxRecDepth 100000 in
theorem c_error (o0 o1 o2 o3 o4 o5 o6 o7 ru sp dl rr yr sd rn : Nat) (yg ch mk : Int32) (a0 a1 : Int32) (hst : l.stackTraces = false) : qXv qZ l yO_error (wO_error) ({ frames := 7, cells := 2, slots := 12, locals := 104 } : Room) (dC, dI) qCl [(cI, .int), (cJ, .long), (cG, .array .long)] [.ref o0, .int a0, .int a1] [(o0, .inr (0, [.ref o1, .ref o2, .ref o3, .ref o4, .int (nI ru), .int yg, .int ch, .int (nI sp), .int (nI dl), .int mk, .ref o5, .ref o6, .ref o7, .int (nI rr), .int (nI yr), .int (nI sd), .int (nI rn)]))] [(o0, .inr (0, [.ref o1, .ref o2, .ref o3, .ref o4, .int (nI ru), .int yg, .int ch, .int (nI a0.toNatClampNeg), .int (nI a1.toNatClampNeg), .int mk, .ref o5, .ref o6, .ref o7, .int (nI rr), .int (nI yr), .int (nI sd), .int (nI rn)]))] (px_or (px_num a0 0 50) (px_num a1 0 3)) 2 12 := by
  refine qx_v (cc := prog_1_method_6_code) (maxL := 3) (by decide) rfl (Nat.le_of_ble_eq_true rfl) ?_
  intro p e s m args below meth c Q A ls hx hb hml hown hnm hts hA hK hP hD hS hl hZ hret hout hfin
  have hl : lv_has ls 3 [(0, .ref o0), (1, .int a0), (2, .int a1)] := hl
  refine lv_iload_n hx hb dO_error_0 rfl (lv_at hl 1 rfl) ?_
  refine lv_iconst (v := 0) hx hb dO_error_1 (by decide) ?_
  refine lv_bipush (v := 50) hx hb dO_error_2 (by decide) ?_
  refine qx_callSv (As := [.int a0, .int 0, .int 50]) (rest := []) (wr := [(o0, .inr (0, [.ref o1, .ref o2, .ref o3, .ref o4, .int (nI ru), .int yg, .int ch, .int (nI sp), .int (nI dl), .int mk, .ref o5, .ref o6, .ref o7, .int (nI rr), .int (nI yr), .int (nI sd), .int (nI rn)]))]) (ws2 := [(o0, .inr (0, [.ref o1, .ref o2, .ref o3, .ref o4, .int (nI ru), .int yg, .int ch, .int (nI sp), .int (nI dl), .int mk, .ref o5, .ref o6, .ref o7, .int (nI rr), .int (nI yr), .int (nI sd), .int (nI rn)]))]) qZ_ok hZ ⟨hx, hb, hml, hown, hts⟩ (c_requireNumber l dC dI cI cJ cG a0 0 50 hst) (va_cwS 3 hts (qg_S mq_1_198 mq_1_199 mq_1_1 mq_1_200) rfl rfl rfl (by decide +kernel) ⟨Nat.le_of_ble_eq_true rfl, Nat.le_of_ble_eq_true rfl⟩) hK hP hD hS hA [] [0] [0] rfl rfl (by decide) (by decide) rfl rfl (by decide) rfl hl.1 rfl (Nat.le_of_ble_eq_true rfl) dO_error_4 ⟨Nat.le_of_ble_eq_true rfl, Nat.le_of_ble_eq_true rfl⟩ (fun E ce q9 H locs hex hP hD hS hce hcv hcl => hout hP hD hS (Nat.le_of_ble_eq_true rfl) (Nat.le_of_ble_eq_true rfl) (px_s hex) hce hcv hcl) (fun H locs hn4 hP hD hS => ?_)
  refine lv_iload_n hx hb dO_error_7 rfl (lv_at hl 2 rfl) ?_
  refine lv_iconst (v := 0) hx hb dO_error_8 (by decide) ?_
  refine lv_iconst (v := 3) hx hb dO_error_9 (by decide) ?_
  refine qx_callSv (As := [.int a1, .int 0, .int 3]) (rest := []) (wr := [(o0, .inr (0, [.ref o1, .ref o2, .ref o3, .ref o4, .int (nI ru), .int yg, .int ch, .int (nI sp), .int (nI dl), .int mk, .ref o5, .ref o6, .ref o7, .int (nI rr), .int (nI yr), .int (nI sd), .int (nI rn)]))]) (ws2 := [(o0, .inr (0, [.ref o1, .ref o2, .ref o3, .ref o4, .int (nI ru), .int yg, .int ch, .int (nI sp), .int (nI dl), .int mk, .ref o5, .ref o6, .ref o7, .int (nI rr), .int (nI yr), .int (nI sd), .int (nI rn)]))]) qZ_ok hZ ⟨hx, hb, hml, hown, hts⟩ (c_requireNumber l dC dI cI cJ cG a1 0 3 hst) (va_cwS 3 hts (qg_S mq_1_198 mq_1_199 mq_1_1 mq_1_200) rfl rfl rfl (by decide +kernel) ⟨Nat.le_of_ble_eq_true rfl, Nat.le_of_ble_eq_true rfl⟩) hK hP hD hS hA [] [0] [0] rfl rfl (by decide) (by decide) rfl rfl (by decide) rfl hl.1 rfl (Nat.le_of_ble_eq_true rfl) dO_error_10 ⟨Nat.le_of_ble_eq_true rfl, Nat.le_of_ble_eq_true rfl⟩ (fun E ce q9 H locs hex hP hD hS hce hcv hcl => hout hP hD hS (Nat.le_of_ble_eq_true rfl) (Nat.le_of_ble_eq_true rfl) (px_n hn4 hex) hce hcv hcl) (fun H locs hn10 hP hD hS => ?_)
  refine lv_aload_n hx hb dO_error_13 rfl (lv_at hl 0 rfl) ?_
  refine lv_iload_n hx hb dO_error_14 rfl (lv_at hl 1 rfl) ?_
  refine qr_topi (y := nI a0.toNatClampNeg) ((qn_nu (f := 0) (t := 50) hn4 (by decide) (by decide)).1) ?_
  refine qr_put (D := (dC, dI)) (ci := 0) (v := .int (nI a0.toNatClampNeg)) (ty := .int) (C := "OutlookOdds") (T := TO) (N := 17) (ws2 := [(o0, .inr (0, [.ref o1, .ref o2, .ref o3, .ref o4, .int (nI ru), .int yg, .int ch, .int (nI a0.toNatClampNeg), .int (nI dl), .int mk, .ref o5, .ref o6, .ref o7, .int (nI rr), .int (nI yr), .int (nI sd), .int (nI rn)]))]) hx hb hts inO tyO tyO_ok nmO hown hK hP hD hS 0 rfl rfl 7 (by decide) (hts _ mq_1_63) (fun _ h9 => h9) rfl (by decide +kernel) rfl rfl (Nat.le_of_ble_eq_true rfl) rfl dO_error_15 (fun H locs hP hD hS => ?_)
  refine lv_aload_n hx hb dO_error_18 rfl (lv_at hl 0 rfl) ?_
  refine lv_iload_n hx hb dO_error_19 rfl (lv_at hl 2 rfl) ?_
  refine qr_topi (y := nI a1.toNatClampNeg) ((qn_nu (f := 0) (t := 3) hn10 (by decide) (by decide)).1) ?_
  refine qr_put (D := (dC, dI)) (ci := 0) (v := .int (nI a1.toNatClampNeg)) (ty := .int) (C := "OutlookOdds") (T := TO) (N := 17) (ws2 := [(o0, .inr (0, [.ref o1, .ref o2, .ref o3, .ref o4, .int (nI ru), .int yg, .int ch, .int (nI a0.toNatClampNeg), .int (nI a1.toNatClampNeg), .int mk, .ref o5, .ref o6, .ref o7, .int (nI rr), .int (nI yr), .int (nI sd), .int (nI rn)]))]) hx hb hts inO tyO tyO_ok nmO hown hK hP hD hS 0 rfl rfl 8 (by decide) (hts _ mq_1_64) (fun _ h9 => h9) rfl (by decide +kernel) rfl rfl (Nat.le_of_ble_eq_true rfl) rfl dO_error_20 (fun H locs hP hD hS => ?_)
  exact hret hP hD hS (Nat.le_of_ble_eq_true rfl) (Nat.le_of_ble_eq_true rfl) (px_n hn4 hn10) dO_error_23

set_option maxHeartbeats 4000000 in
set_option maxRecDepth 100000 in
theorem c_run (o0 o1 o2 o3 o4 o5 o6 o7 ru sp dl rr yr sd rn : Nat) (yg ch mk : Int32) (z1 z2 z3 z4 z5 : Nat) (qg : Nat) (qr : Nat → Nat) (M : Nat → Nat → Int64) (nu wt rp di lo hi ra : Nat → Int32) (lv : Nat → Int64) (a0 a1 a2 : Int32) (hst : l.stackTraces = false) (hru : ru ≤ 6) (hsp : sp ≤ 50) (hdl : dl ≤ 3) : qXi qZ l yO_run (wO_run) ({ frames := 7, cells := 3, slots := 18, locals := 108 } : Room) (dC, dI) qCl [(cI, .int), (cJ, .long), (cG, .array .long)] [.ref o0, .int a0, .int a1, .int a2] [(o0, .inr (0, [.ref o1, .ref o2, .ref o3, .ref o4, .int (nI ru), .int yg, .int ch, .int (nI sp), .int (nI dl), .int mk, .ref o5, .ref o6, .ref o7, .int (nI rr), .int (nI yr), .int (nI sd), .int (nI rn)])), (o1, .inr (1, [.ref z1, .ref z2, .ref z3, .ref z4, .ref z5])), (z1, .inl (cI, 6, .inl nu)), (z2, .inl (cI, 6, .inl wt)), (z3, .inl (cI, 6, .inl rp)), (z4, .inl (cI, 6, .inl di)), (z5, .inl (cJ, 6, .inr (.inl lv))), (o2, .inl (cI, 6, .inl lo)), (o3, .inl (cI, 6, .inl hi)), (o4, .inl (cI, 6, .inl ra)), (o5, .inr (2, [.ref qg])), (qg, .inl (cG, 4, .inr (.inr (.inr (.inr (pf_gf qr)))))), (qr 0, .inl (cJ, 320, .inr (.inl (M 0)))), (qr 1, .inl (cJ, 320, .inr (.inl (M 1)))), (qr 2, .inl (cJ, 320, .inr (.inl (M 2)))), (qr 3, .inl (cJ, 320, .inr (.inl (M 3))))] [(o0, .inr (0, [.ref o1, .ref o2, .ref o3, .ref o4, .int (nI ru), .int yg, .int ch, .int (nI sp), .int (nI dl), .int mk, .ref o5, .ref o6, .ref o7, .int (nI a0.toNatClampNeg), .int (nI a1.toNatClampNeg), .int (nI a2.toNatClampNeg), .int (nI (rn + 1))])), (o1, .inr (1, [.ref z1, .ref z2, .ref z3, .ref z4, .ref z5])), (z1, .inl (cI, 6, .inl nu)), (z2, .inl (cI, 6, .inl wt)), (z3, .inl (cI, 6, .inl rp)), (z4, .inl (cI, 6, .inl di)), (z5, .inl (cJ, 6, .inr (.inl ((pf_all nu wt rp di (lo a0.toNatClampNeg).toInt64 (hi a0.toNatClampNeg).toInt64 (ra a0.toNatClampNeg) sp dl yg ch a1.toNatClampNeg lv M a2.toNatClampNeg).1)))), (o2, .inl (cI, 6, .inl lo)), (o3, .inl (cI, 6, .inl hi)), (o4, .inl (cI, 6, .inl ra)), (o5, .inr (2, [.ref qg])), (qg, .inl (cG, 4, .inr (.inr (.inr (.inr (pf_gf qr)))))), (qr 0, .inl (cJ, 320, .inr (.inl (((pf_all nu wt rp di (lo a0.toNatClampNeg).toInt64 (hi a0.toNatClampNeg).toInt64 (ra a0.toNatClampNeg) sp dl yg ch a1.toNatClampNeg lv M a2.toNatClampNeg).2) 0)))), (qr 1, .inl (cJ, 320, .inr (.inl (((pf_all nu wt rp di (lo a0.toNatClampNeg).toInt64 (hi a0.toNatClampNeg).toInt64 (ra a0.toNatClampNeg) sp dl yg ch a1.toNatClampNeg lv M a2.toNatClampNeg).2) 1)))), (qr 2, .inl (cJ, 320, .inr (.inl (((pf_all nu wt rp di (lo a0.toNatClampNeg).toInt64 (hi a0.toNatClampNeg).toInt64 (ra a0.toNatClampNeg) sp dl yg ch a1.toNatClampNeg lv M a2.toNatClampNeg).2) 2)))), (qr 3, .inl (cJ, 320, .inr (.inl (((pf_all nu wt rp di (lo a0.toNatClampNeg).toInt64 (hi a0.toNatClampNeg).toInt64 (ra a0.toNatClampNeg) sp dl yg ch a1.toNatClampNeg lv M a2.toNatClampNeg).2) 3))))] (px_or (px_place a0 0 ((nI ru) - 1)) (px_or (px_num a1 1 20) (px_num a2 1 16))) (pf_cnt ((pf_all nu wt rp di (lo a0.toNatClampNeg).toInt64 (hi a0.toNatClampNeg).toInt64 (ra a0.toNatClampNeg) sp dl yg ch a1.toNatClampNeg lv M a2.toNatClampNeg).2 0) mk a1.toNatClampNeg a2.toNatClampNeg) 3 18 := by
  refine qx_i (cc := prog_1_method_9_code) (maxL := 4) (by decide) rfl (Nat.le_of_ble_eq_true rfl) ?_
  intro p e s m args below meth c Q A ls hx hb hml hown hnm hts hA hK hP hD hS hl hZ hret hout hfin
  have hl : lv_has ls 4 [(0, .ref o0), (1, .int a0), (2, .int a1), (3, .int a2)] := hl
  refine lv_iload_n hx hb dO_run_0 rfl (lv_at hl 1 rfl) ?_
  refine lv_iconst (v := 0) hx hb dO_run_1 (by decide) ?_
  refine lv_aload_n hx hb dO_run_2 rfl (lv_at hl 0 rfl) ?_
  refine va_get (D := (dC, dI)) (ci := 0) (v := .int (nI ru)) (C := "OutlookOdds") (T := TO) (N := 17) hx hb hts inO hown hK hP 0 rfl rfl 4 (by decide) (hts _ mq_1_60) (fun _ h9 => h9) rfl dO_run_3 ?_
  refine lv_iconst (v := 1) hx hb dO_run_6 (by decide) ?_
  refine lv_isub hx hb dO_run_7 ?_
  refine qx_callSv (As := [.int a0, .int 0, .int ((nI ru) - 1)]) (rest := []) (wr := [(o0, .inr (0, [.ref o1, .ref o2, .ref o3, .ref o4, .int (nI ru), .int yg, .int ch, .int (nI sp), .int (nI dl), .int mk, .ref o5, .ref o6, .ref o7, .int (nI rr), .int (nI yr), .int (nI sd), .int (nI rn)])), (o1, .inr (1, [.ref z1, .ref z2, .ref z3, .ref z4, .ref z5])), (z1, .inl (cI, 6, .inl nu)), (z2, .inl (cI, 6, .inl wt)), (z3, .inl (cI, 6, .inl rp)), (z4, .inl (cI, 6, .inl di)), (z5, .inl (cJ, 6, .inr (.inl lv))), (o2, .inl (cI, 6, .inl lo)), (o3, .inl (cI, 6, .inl hi)), (o4, .inl (cI, 6, .inl ra)), (o5, .inr (2, [.ref qg])), (qg, .inl (cG, 4, .inr (.inr (.inr (.inr (pf_gf qr)))))), (qr 0, .inl (cJ, 320, .inr (.inl (M 0)))), (qr 1, .inl (cJ, 320, .inr (.inl (M 1)))), (qr 2, .inl (cJ, 320, .inr (.inl (M 2)))), (qr 3, .inl (cJ, 320, .inr (.inl (M 3))))]) (ws2 := [(o0, .inr (0, [.ref o1, .ref o2, .ref o3, .ref o4, .int (nI ru), .int yg, .int ch, .int (nI sp), .int (nI dl), .int mk, .ref o5, .ref o6, .ref o7, .int (nI rr), .int (nI yr), .int (nI sd), .int (nI rn)])), (o1, .inr (1, [.ref z1, .ref z2, .ref z3, .ref z4, .ref z5])), (z1, .inl (cI, 6, .inl nu)), (z2, .inl (cI, 6, .inl wt)), (z3, .inl (cI, 6, .inl rp)), (z4, .inl (cI, 6, .inl di)), (z5, .inl (cJ, 6, .inr (.inl lv))), (o2, .inl (cI, 6, .inl lo)), (o3, .inl (cI, 6, .inl hi)), (o4, .inl (cI, 6, .inl ra)), (o5, .inr (2, [.ref qg])), (qg, .inl (cG, 4, .inr (.inr (.inr (.inr (pf_gf qr)))))), (qr 0, .inl (cJ, 320, .inr (.inl (M 0)))), (qr 1, .inl (cJ, 320, .inr (.inl (M 1)))), (qr 2, .inl (cJ, 320, .inr (.inl (M 2)))), (qr 3, .inl (cJ, 320, .inr (.inl (M 3))))]) qZ_ok hZ ⟨hx, hb, hml, hown, hts⟩ (c_requirePlace l dC dI cI cJ cG a0 0 ((nI ru) - 1) hst) (va_cwS 3 hts (qg_S mq_1_126 mq_1_127 mq_1_1 mq_1_128) rfl rfl rfl (by decide +kernel) ⟨Nat.le_of_ble_eq_true rfl, Nat.le_of_ble_eq_true rfl⟩) hK hP hD hS hA [] [0, 1, 2, 3, 4, 5, 6, 7, 8, 9, 10, 11, 12, 13, 14, 15] [0, 1, 2, 3, 4, 5, 6, 7, 8, 9, 10, 11, 12, 13, 14, 15] rfl rfl (by decide) (by decide) rfl rfl (by decide) rfl hl.1 rfl (Nat.le_of_ble_eq_true rfl) dO_run_8 ⟨Nat.le_of_ble_eq_true rfl, Nat.le_of_ble_eq_true rfl⟩ (fun E ce q9 H locs hex hP hD hS hce hcv hcl => hout hP hD hS (Nat.le_of_ble_eq_true rfl) (Nat.le_of_ble_eq_true rfl) (px_s hex) hce hcv hcl) (fun H locs hn8 hP hD hS => ?_)
  refine lv_iload_n hx hb dO_run_11 rfl (lv_at hl 2 rfl) ?_
  refine lv_iconst (v := 1) hx hb dO_run_12 (by decide) ?_
  refine lv_bipush (v := 20) hx hb dO_run_13 (by decide) ?_
  refine qx_callSv (As := [.int a1, .int 1, .int 20]) (rest := []) (wr := [(o0, .inr (0, [.ref o1, .ref o2, .ref o3, .ref o4, .int (nI ru), .int yg, .int ch, .int (nI sp), .int (nI dl), .int mk, .ref o5, .ref o6, .ref o7, .int (nI rr), .int (nI yr), .int (nI sd), .int (nI rn)])), (o1, .inr (1, [.ref z1, .ref z2, .ref z3, .ref z4, .ref z5])), (z1, .inl (cI, 6, .inl nu)), (z2, .inl (cI, 6, .inl wt)), (z3, .inl (cI, 6, .inl rp)), (z4, .inl (cI, 6, .inl di)), (z5, .inl (cJ, 6, .inr (.inl lv))), (o2, .inl (cI, 6, .inl lo)), (o3, .inl (cI, 6, .inl hi)), (o4, .inl (cI, 6, .inl ra)), (o5, .inr (2, [.ref qg])), (qg, .inl (cG, 4, .inr (.inr (.inr (.inr (pf_gf qr)))))), (qr 0, .inl (cJ, 320, .inr (.inl (M 0)))), (qr 1, .inl (cJ, 320, .inr (.inl (M 1)))), (qr 2, .inl (cJ, 320, .inr (.inl (M 2)))), (qr 3, .inl (cJ, 320, .inr (.inl (M 3))))]) (ws2 := [(o0, .inr (0, [.ref o1, .ref o2, .ref o3, .ref o4, .int (nI ru), .int yg, .int ch, .int (nI sp), .int (nI dl), .int mk, .ref o5, .ref o6, .ref o7, .int (nI rr), .int (nI yr), .int (nI sd), .int (nI rn)])), (o1, .inr (1, [.ref z1, .ref z2, .ref z3, .ref z4, .ref z5])), (z1, .inl (cI, 6, .inl nu)), (z2, .inl (cI, 6, .inl wt)), (z3, .inl (cI, 6, .inl rp)), (z4, .inl (cI, 6, .inl di)), (z5, .inl (cJ, 6, .inr (.inl lv))), (o2, .inl (cI, 6, .inl lo)), (o3, .inl (cI, 6, .inl hi)), (o4, .inl (cI, 6, .inl ra)), (o5, .inr (2, [.ref qg])), (qg, .inl (cG, 4, .inr (.inr (.inr (.inr (pf_gf qr)))))), (qr 0, .inl (cJ, 320, .inr (.inl (M 0)))), (qr 1, .inl (cJ, 320, .inr (.inl (M 1)))), (qr 2, .inl (cJ, 320, .inr (.inl (M 2)))), (qr 3, .inl (cJ, 320, .inr (.inl (M 3))))]) qZ_ok hZ ⟨hx, hb, hml, hown, hts⟩ (c_requireNumber l dC dI cI cJ cG a1 1 20 hst) (va_cwS 3 hts (qg_S mq_1_198 mq_1_199 mq_1_1 mq_1_200) rfl rfl rfl (by decide +kernel) ⟨Nat.le_of_ble_eq_true rfl, Nat.le_of_ble_eq_true rfl⟩) hK hP hD hS hA [] [0, 1, 2, 3, 4, 5, 6, 7, 8, 9, 10, 11, 12, 13, 14, 15] [0, 1, 2, 3, 4, 5, 6, 7, 8, 9, 10, 11, 12, 13, 14, 15] rfl rfl (by decide) (by decide) rfl rfl (by decide) rfl hl.1 rfl (Nat.le_of_ble_eq_true rfl) dO_run_15 ⟨Nat.le_of_ble_eq_true rfl, Nat.le_of_ble_eq_true rfl⟩ (fun E ce q9 H locs hex hP hD hS hce hcv hcl => hout hP hD hS (Nat.le_of_ble_eq_true rfl) (Nat.le_of_ble_eq_true rfl) (px_n hn8 (px_s hex)) hce hcv hcl) (fun H locs hn15 hP hD hS => ?_)
  refine lv_iload_n hx hb dO_run_18 rfl (lv_at hl 3 rfl) ?_
  refine lv_iconst (v := 1) hx hb dO_run_19 (by decide) ?_
  refine lv_bipush (v := 16) hx hb dO_run_20 (by decide) ?_
  refine qx_callSv (As := [.int a2, .int 1, .int 16]) (rest := []) (wr := [(o0, .inr (0, [.ref o1, .ref o2, .ref o3, .ref o4, .int (nI ru), .int yg, .int ch, .int (nI sp), .int (nI dl), .int mk, .ref o5, .ref o6, .ref o7, .int (nI rr), .int (nI yr), .int (nI sd), .int (nI rn)])), (o1, .inr (1, [.ref z1, .ref z2, .ref z3, .ref z4, .ref z5])), (z1, .inl (cI, 6, .inl nu)), (z2, .inl (cI, 6, .inl wt)), (z3, .inl (cI, 6, .inl rp)), (z4, .inl (cI, 6, .inl di)), (z5, .inl (cJ, 6, .inr (.inl lv))), (o2, .inl (cI, 6, .inl lo)), (o3, .inl (cI, 6, .inl hi)), (o4, .inl (cI, 6, .inl ra)), (o5, .inr (2, [.ref qg])), (qg, .inl (cG, 4, .inr (.inr (.inr (.inr (pf_gf qr)))))), (qr 0, .inl (cJ, 320, .inr (.inl (M 0)))), (qr 1, .inl (cJ, 320, .inr (.inl (M 1)))), (qr 2, .inl (cJ, 320, .inr (.inl (M 2)))), (qr 3, .inl (cJ, 320, .inr (.inl (M 3))))]) (ws2 := [(o0, .inr (0, [.ref o1, .ref o2, .ref o3, .ref o4, .int (nI ru), .int yg, .int ch, .int (nI sp), .int (nI dl), .int mk, .ref o5, .ref o6, .ref o7, .int (nI rr), .int (nI yr), .int (nI sd), .int (nI rn)])), (o1, .inr (1, [.ref z1, .ref z2, .ref z3, .ref z4, .ref z5])), (z1, .inl (cI, 6, .inl nu)), (z2, .inl (cI, 6, .inl wt)), (z3, .inl (cI, 6, .inl rp)), (z4, .inl (cI, 6, .inl di)), (z5, .inl (cJ, 6, .inr (.inl lv))), (o2, .inl (cI, 6, .inl lo)), (o3, .inl (cI, 6, .inl hi)), (o4, .inl (cI, 6, .inl ra)), (o5, .inr (2, [.ref qg])), (qg, .inl (cG, 4, .inr (.inr (.inr (.inr (pf_gf qr)))))), (qr 0, .inl (cJ, 320, .inr (.inl (M 0)))), (qr 1, .inl (cJ, 320, .inr (.inl (M 1)))), (qr 2, .inl (cJ, 320, .inr (.inl (M 2)))), (qr 3, .inl (cJ, 320, .inr (.inl (M 3))))]) qZ_ok hZ ⟨hx, hb, hml, hown, hts⟩ (c_requireNumber l dC dI cI cJ cG a2 1 16 hst) (va_cwS 3 hts (qg_S mq_1_198 mq_1_199 mq_1_1 mq_1_200) rfl rfl rfl (by decide +kernel) ⟨Nat.le_of_ble_eq_true rfl, Nat.le_of_ble_eq_true rfl⟩) hK hP hD hS hA [] [0, 1, 2, 3, 4, 5, 6, 7, 8, 9, 10, 11, 12, 13, 14, 15] [0, 1, 2, 3, 4, 5, 6, 7, 8, 9, 10, 11, 12, 13, 14, 15] rfl rfl (by decide) (by decide) rfl rfl (by decide) rfl hl.1 rfl (Nat.le_of_ble_eq_true rfl) dO_run_22 ⟨Nat.le_of_ble_eq_true rfl, Nat.le_of_ble_eq_true rfl⟩ (fun E ce q9 H locs hex hP hD hS hce hcv hcl => hout hP hD hS (Nat.le_of_ble_eq_true rfl) (Nat.le_of_ble_eq_true rfl) (px_n hn8 (px_n hn15 hex)) hce hcv hcl) (fun H locs hn22 hP hD hS => ?_)
  have hp0 := qn_plm hn8 (by omega)
  have hp1 := qn_nu (f := 1) (t := 20) hn15 (by decide) (by decide)
  have hp2 := qn_nu (f := 1) (t := 16) hn22 (by decide) (by decide)
  refine lv_aload_n hx hb dO_run_25 rfl (lv_at hl 0 rfl) ?_
  refine lv_iload_n hx hb dO_run_26 rfl (lv_at hl 1 rfl) ?_
  refine qr_topi (y := nI a0.toNatClampNeg) (hp0.1) ?_
  refine qr_put (D := (dC, dI)) (ci := 0) (v := .int (nI a0.toNatClampNeg)) (ty := .int) (C := "OutlookOdds") (T := TO) (N := 17) (ws2 := [(o0, .inr (0, [.ref o1, .ref o2, .ref o3, .ref o4, .int (nI ru), .int yg, .int ch, .int (nI sp), .int (nI dl), .int mk, .ref o5, .ref o6, .ref o7, .int (nI a0.toNatClampNeg), .int (nI yr), .int (nI sd), .int (nI rn)])), (o1, .inr (1, [.ref z1, .ref z2, .ref z3, .ref z4, .ref z5])), (z1, .inl (cI, 6, .inl nu)), (z2, .inl (cI, 6, .inl wt)), (z3, .inl (cI, 6, .inl rp)), (z4, .inl (cI, 6, .inl di)), (z5, .inl (cJ, 6, .inr (.inl lv))), (o2, .inl (cI, 6, .inl lo)), (o3, .inl (cI, 6, .inl hi)), (o4, .inl (cI, 6, .inl ra)), (o5, .inr (2, [.ref qg])), (qg, .inl (cG, 4, .inr (.inr (.inr (.inr (pf_gf qr)))))), (qr 0, .inl (cJ, 320, .inr (.inl (M 0)))), (qr 1, .inl (cJ, 320, .inr (.inl (M 1)))), (qr 2, .inl (cJ, 320, .inr (.inl (M 2)))), (qr 3, .inl (cJ, 320, .inr (.inl (M 3))))]) hx hb hts inO tyO tyO_ok nmO hown hK hP hD hS 0 rfl rfl 13 (by decide) (hts _ mq_1_69) (fun _ h9 => h9) rfl (by decide +kernel) rfl rfl (Nat.le_of_ble_eq_true rfl) rfl dO_run_27 (fun H locs hP hD hS => ?_)
  refine lv_aload_n hx hb dO_run_30 rfl (lv_at hl 0 rfl) ?_
  refine lv_iload_n hx hb dO_run_31 rfl (lv_at hl 2 rfl) ?_
  refine qr_topi (y := nI a1.toNatClampNeg) (hp1.1) ?_
  refine qr_put (D := (dC, dI)) (ci := 0) (v := .int (nI a1.toNatClampNeg)) (ty := .int) (C := "OutlookOdds") (T := TO) (N := 17) (ws2 := [(o0, .inr (0, [.ref o1, .ref o2, .ref o3, .ref o4, .int (nI ru), .int yg, .int ch, .int (nI sp), .int (nI dl), .int mk, .ref o5, .ref o6, .ref o7, .int (nI a0.toNatClampNeg), .int (nI a1.toNatClampNeg), .int (nI sd), .int (nI rn)])), (o1, .inr (1, [.ref z1, .ref z2, .ref z3, .ref z4, .ref z5])), (z1, .inl (cI, 6, .inl nu)), (z2, .inl (cI, 6, .inl wt)), (z3, .inl (cI, 6, .inl rp)), (z4, .inl (cI, 6, .inl di)), (z5, .inl (cJ, 6, .inr (.inl lv))), (o2, .inl (cI, 6, .inl lo)), (o3, .inl (cI, 6, .inl hi)), (o4, .inl (cI, 6, .inl ra)), (o5, .inr (2, [.ref qg])), (qg, .inl (cG, 4, .inr (.inr (.inr (.inr (pf_gf qr)))))), (qr 0, .inl (cJ, 320, .inr (.inl (M 0)))), (qr 1, .inl (cJ, 320, .inr (.inl (M 1)))), (qr 2, .inl (cJ, 320, .inr (.inl (M 2)))), (qr 3, .inl (cJ, 320, .inr (.inl (M 3))))]) hx hb hts inO tyO tyO_ok nmO hown hK hP hD hS 0 rfl rfl 14 (by decide) (hts _ mq_1_70) (fun _ h9 => h9) rfl (by decide +kernel) rfl rfl (Nat.le_of_ble_eq_true rfl) rfl dO_run_32 (fun H locs hP hD hS => ?_)
  refine lv_aload_n hx hb dO_run_35 rfl (lv_at hl 0 rfl) ?_
  refine lv_iload_n hx hb dO_run_36 rfl (lv_at hl 3 rfl) ?_
  refine qr_topi (y := nI a2.toNatClampNeg) (hp2.1) ?_
  refine qr_put (D := (dC, dI)) (ci := 0) (v := .int (nI a2.toNatClampNeg)) (ty := .int) (C := "OutlookOdds") (T := TO) (N := 17) (ws2 := [(o0, .inr (0, [.ref o1, .ref o2, .ref o3, .ref o4, .int (nI ru), .int yg, .int ch, .int (nI sp), .int (nI dl), .int mk, .ref o5, .ref o6, .ref o7, .int (nI a0.toNatClampNeg), .int (nI a1.toNatClampNeg), .int (nI a2.toNatClampNeg), .int (nI rn)])), (o1, .inr (1, [.ref z1, .ref z2, .ref z3, .ref z4, .ref z5])), (z1, .inl (cI, 6, .inl nu)), (z2, .inl (cI, 6, .inl wt)), (z3, .inl (cI, 6, .inl rp)), (z4, .inl (cI, 6, .inl di)), (z5, .inl (cJ, 6, .inr (.inl lv))), (o2, .inl (cI, 6, .inl lo)), (o3, .inl (cI, 6, .inl hi)), (o4, .inl (cI, 6, .inl ra)), (o5, .inr (2, [.ref qg])), (qg, .inl (cG, 4, .inr (.inr (.inr (.inr (pf_gf qr)))))), (qr 0, .inl (cJ, 320, .inr (.inl (M 0)))), (qr 1, .inl (cJ, 320, .inr (.inl (M 1)))), (qr 2, .inl (cJ, 320, .inr (.inl (M 2)))), (qr 3, .inl (cJ, 320, .inr (.inl (M 3))))]) hx hb hts inO tyO tyO_ok nmO hown hK hP hD hS 0 rfl rfl 15 (by decide) (hts _ mq_1_71) (fun _ h9 => h9) rfl (by decide +kernel) rfl rfl (Nat.le_of_ble_eq_true rfl) rfl dO_run_37 (fun H locs hP hD hS => ?_)
  refine lv_aload_n hx hb dO_run_40 rfl (lv_at hl 0 rfl) ?_
  refine lv_dup hx hb dO_run_41 rfl ?_
  refine va_get (D := (dC, dI)) (ci := 0) (v := .int (nI rn)) (C := "OutlookOdds") (T := TO) (N := 17) hx hb hts inO hown hK hP 0 rfl rfl 16 (by decide) (hts _ mq_1_72) (fun _ h9 => h9) rfl dO_run_42 ?_
  refine lv_iconst (v := 1) hx hb dO_run_45 (by decide) ?_
  refine lv_iadd hx hb dO_run_46 ?_
  refine qr_topi (y := nI (rn + 1)) (nI_1 _) ?_
  refine qr_put (D := (dC, dI)) (ci := 0) (v := .int (nI (rn + 1))) (ty := .int) (C := "OutlookOdds") (T := TO) (N := 17) (ws2 := [(o0, .inr (0, [.ref o1, .ref o2, .ref o3, .ref o4, .int (nI ru), .int yg, .int ch, .int (nI sp), .int (nI dl), .int mk, .ref o5, .ref o6, .ref o7, .int (nI a0.toNatClampNeg), .int (nI a1.toNatClampNeg), .int (nI a2.toNatClampNeg), .int (nI (rn + 1))])), (o1, .inr (1, [.ref z1, .ref z2, .ref z3, .ref z4, .ref z5])), (z1, .inl (cI, 6, .inl nu)), (z2, .inl (cI, 6, .inl wt)), (z3, .inl (cI, 6, .inl rp)), (z4, .inl (cI, 6, .inl di)), (z5, .inl (cJ, 6, .inr (.inl lv))), (o2, .inl (cI, 6, .inl lo)), (o3, .inl (cI, 6, .inl hi)), (o4, .inl (cI, 6, .inl ra)), (o5, .inr (2, [.ref qg])), (qg, .inl (cG, 4, .inr (.inr (.inr (.inr (pf_gf qr)))))), (qr 0, .inl (cJ, 320, .inr (.inl (M 0)))), (qr 1, .inl (cJ, 320, .inr (.inl (M 1)))), (qr 2, .inl (cJ, 320, .inr (.inl (M 2)))), (qr 3, .inl (cJ, 320, .inr (.inl (M 3))))]) hx hb hts inO tyO tyO_ok nmO hown hK hP hD hS 0 rfl rfl 16 (by decide) (hts _ mq_1_72) (fun _ h9 => h9) rfl (by decide +kernel) rfl rfl (Nat.le_of_ble_eq_true rfl) rfl dO_run_47 (fun H locs hP hD hS => ?_)
  refine lv_aload_n hx hb dO_run_50 rfl (lv_at hl 0 rfl) ?_
  refine lv_aload_n hx hb dO_run_51 rfl (lv_at hl 0 rfl) ?_
  refine va_get (D := (dC, dI)) (ci := 0) (v := .ref o5) (C := "OutlookOdds") (T := TO) (N := 17) hx hb hts inO hown hK hP 0 rfl rfl 10 (by decide) (hts _ mq_1_66) (fun _ h9 => h9) rfl dO_run_52 ?_
  refine lv_aload_n hx hb dO_run_55 rfl (lv_at hl 0 rfl) ?_
  refine va_get (D := (dC, dI)) (ci := 0) (v := .ref o4) (C := "OutlookOdds") (T := TO) (N := 17) hx hb hts inO hown hK hP 0 rfl rfl 3 (by decide) (hts _ mq_1_59) (fun _ h9 => h9) rfl dO_run_56 ?_
  refine lv_iload_n hx hb dO_run_59 rfl (lv_at hl 1 rfl) ?_
  refine qr_topi (y := nI a0.toNatClampNeg) (hp0.1) ?_
  refine qr_iald (k := a0.toNatClampNeg) hx hb hK hP 9 0 rfl rfl (rfl) (by omega) (by decide) dO_run_60 ?_
  refine qr_callVv (As := [.ref o5, .int (ra a0.toNatClampNeg)]) (rest := []) (wr := [(o4, .inl (cI, 6, .inl ra))]) (ws2 := [(o0, .inr (0, [.ref o1, .ref o2, .ref o3, .ref o4, .int (nI ru), .int yg, .int ch, .int (nI sp), .int (nI dl), .int mk, .ref o5, .ref o6, .ref o7, .int (nI a0.toNatClampNeg), .int (nI a1.toNatClampNeg), .int (nI a2.toNatClampNeg), .int (nI (rn + 1))])), (o1, .inr (1, [.ref z1, .ref z2, .ref z3, .ref z4, .ref z5])), (z1, .inl (cI, 6, .inl nu)), (z2, .inl (cI, 6, .inl wt)), (z3, .inl (cI, 6, .inl rp)), (z4, .inl (cI, 6, .inl di)), (z5, .inl (cJ, 6, .inr (.inl ((pf_all nu wt rp di (lo a0.toNatClampNeg).toInt64 (hi a0.toNatClampNeg).toInt64 (ra a0.toNatClampNeg) sp dl yg ch a1.toNatClampNeg lv M a2.toNatClampNeg).1)))), (o2, .inl (cI, 6, .inl lo)), (o3, .inl (cI, 6, .inl hi)), (o4, .inl (cI, 6, .inl ra)), (o5, .inr (2, [.ref qg])), (qg, .inl (cG, 4, .inr (.inr (.inr (.inr (pf_gf qr)))))), (qr 0, .inl (cJ, 320, .inr (.inl (((pf_all nu wt rp di (lo a0.toNatClampNeg).toInt64 (hi a0.toNatClampNeg).toInt64 (ra a0.toNatClampNeg) sp dl yg ch a1.toNatClampNeg lv M a2.toNatClampNeg).2) 0)))), (qr 1, .inl (cJ, 320, .inr (.inl (((pf_all nu wt rp di (lo a0.toNatClampNeg).toInt64 (hi a0.toNatClampNeg).toInt64 (ra a0.toNatClampNeg) sp dl yg ch a1.toNatClampNeg lv M a2.toNatClampNeg).2) 1)))), (qr 2, .inl (cJ, 320, .inr (.inl (((pf_all nu wt rp di (lo a0.toNatClampNeg).toInt64 (hi a0.toNatClampNeg).toInt64 (ra a0.toNatClampNeg) sp dl yg ch a1.toNatClampNeg lv M a2.toNatClampNeg).2) 2)))), (qr 3, .inl (cJ, 320, .inr (.inl (((pf_all nu wt rp di (lo a0.toNatClampNeg).toInt64 (hi a0.toNatClampNeg).toInt64 (ra a0.toNatClampNeg) sp dl yg ch a1.toNatClampNeg lv M a2.toNatClampNeg).2) 3))))]) ⟨hx, hb, hml, hown, hts⟩ (c_runAllSeeds l dC dI cI cJ cG o0 o1 o2 o3 o4 o5 o6 o7 ru sp dl a0.toNatClampNeg a1.toNatClampNeg a2.toNatClampNeg (rn + 1) yg ch mk z1 z2 z3 z4 z5 o5 qg qr M nu wt rp di lo hi lv (ra a0.toNatClampNeg) (by omega) (by omega) (by omega) (by omega) (by omega)) (cwV 2 hts (qg_V mq_2_42 mq_2_44 mq_p_1 mq_1_1 mq_2_45) rfl rfl rfl (by decide +kernel) ⟨Nat.le_of_ble_eq_true rfl, Nat.le_of_ble_eq_true rfl⟩) hK hP hD hS hA (ci := 0) (q0 := 0) rfl rfl [0, 1, 2, 3, 4, 5, 6, 7, 8, 10, 11, 12, 13, 14, 15] [9] [1, 2, 3, 4, 5, 6, 7, 8, 9, 0, 10, 11, 12, 13, 14, 15] rfl rfl (by decide) (by decide) rfl (by decide) rfl hl.1 rfl (Nat.le_of_ble_eq_true rfl) dO_run_61 ⟨Nat.le_of_ble_eq_true rfl, Nat.le_of_ble_eq_true rfl⟩ (fun H locs hP hD hS => ?_)
  refine lv_aload_n hx hb dO_run_64 rfl (lv_at hl 0 rfl) ?_
  refine qr_callVi (As := []) (rest := []) (wr := [(o1, .inr (1, [.ref z1, .ref z2, .ref z3, .ref z4, .ref z5])), (z1, .inl (cI, 6, .inl nu)), (z2, .inl (cI, 6, .inl wt)), (z3, .inl (cI, 6, .inl rp)), (z4, .inl (cI, 6, .inl di)), (z5, .inl (cJ, 6, .inr (.inl ((pf_all nu wt rp di (lo a0.toNatClampNeg).toInt64 (hi a0.toNatClampNeg).toInt64 (ra a0.toNatClampNeg) sp dl yg ch a1.toNatClampNeg lv M a2.toNatClampNeg).1)))), (o2, .inl (cI, 6, .inl lo)), (o3, .inl (cI, 6, .inl hi)), (o4, .inl (cI, 6, .inl ra))]) (ws2 := [(o0, .inr (0, [.ref o1, .ref o2, .ref o3, .ref o4, .int (nI ru), .int yg, .int ch, .int (nI sp), .int (nI dl), .int mk, .ref o5, .ref o6, .ref o7, .int (nI a0.toNatClampNeg), .int (nI a1.toNatClampNeg), .int (nI a2.toNatClampNeg), .int (nI (rn + 1))])), (o1, .inr (1, [.ref z1, .ref z2, .ref z3, .ref z4, .ref z5])), (z1, .inl (cI, 6, .inl nu)), (z2, .inl (cI, 6, .inl wt)), (z3, .inl (cI, 6, .inl rp)), (z4, .inl (cI, 6, .inl di)), (z5, .inl (cJ, 6, .inr (.inl ((pf_all nu wt rp di (lo a0.toNatClampNeg).toInt64 (hi a0.toNatClampNeg).toInt64 (ra a0.toNatClampNeg) sp dl yg ch a1.toNatClampNeg lv M a2.toNatClampNeg).1)))), (o2, .inl (cI, 6, .inl lo)), (o3, .inl (cI, 6, .inl hi)), (o4, .inl (cI, 6, .inl ra)), (o5, .inr (2, [.ref qg])), (qg, .inl (cG, 4, .inr (.inr (.inr (.inr (pf_gf qr)))))), (qr 0, .inl (cJ, 320, .inr (.inl (((pf_all nu wt rp di (lo a0.toNatClampNeg).toInt64 (hi a0.toNatClampNeg).toInt64 (ra a0.toNatClampNeg) sp dl yg ch a1.toNatClampNeg lv M a2.toNatClampNeg).2) 0)))), (qr 1, .inl (cJ, 320, .inr (.inl (((pf_all nu wt rp di (lo a0.toNatClampNeg).toInt64 (hi a0.toNatClampNeg).toInt64 (ra a0.toNatClampNeg) sp dl yg ch a1.toNatClampNeg lv M a2.toNatClampNeg).2) 1)))), (qr 2, .inl (cJ, 320, .inr (.inl (((pf_all nu wt rp di (lo a0.toNatClampNeg).toInt64 (hi a0.toNatClampNeg).toInt64 (ra a0.toNatClampNeg) sp dl yg ch a1.toNatClampNeg lv M a2.toNatClampNeg).2) 2)))), (qr 3, .inl (cJ, 320, .inr (.inl (((pf_all nu wt rp di (lo a0.toNatClampNeg).toInt64 (hi a0.toNatClampNeg).toInt64 (ra a0.toNatClampNeg) sp dl yg ch a1.toNatClampNeg lv M a2.toNatClampNeg).2) 3))))]) ⟨hx, hb, hml, hown, hts⟩ (c_seedsEverBelowMark l dC dI cI cJ cG o0 o1 o2 o3 o4 o5 o6 o7 ru sp dl a0.toNatClampNeg a1.toNatClampNeg a2.toNatClampNeg (rn + 1) yg ch mk qg qr ((pf_all nu wt rp di (lo a0.toNatClampNeg).toInt64 (hi a0.toNatClampNeg).toInt64 (ra a0.toNatClampNeg) sp dl yg ch a1.toNatClampNeg lv M a2.toNatClampNeg).2) (by omega) (by omega)) (cwV 0 hts (qg_V mq_2_111 mq_2_113 mq_p_7 mq_1_1 mq_2_114) rfl rfl rfl (by decide +kernel) ⟨Nat.le_of_ble_eq_true rfl, Nat.le_of_ble_eq_true rfl⟩) hK hP hD hS hA (ci := 0) (q0 := 0) rfl rfl [0, 10, 11, 12, 13, 14, 15] [1, 2, 3, 4, 5, 6, 7, 8, 9] [9, 0, 1, 2, 3, 4, 5, 6, 7, 8, 10, 11, 12, 13, 14, 15] rfl rfl (by decide) (by decide) rfl (by decide) rfl hl.1 rfl (Nat.le_of_ble_eq_true rfl) dO_run_65 ⟨Nat.le_of_ble_eq_true rfl, Nat.le_of_ble_eq_true rfl⟩ (fun H locs hP hD hS => ?_)
  exact hret hP hD hS (Nat.le_of_ble_eq_true rfl) (Nat.le_of_ble_eq_true rfl) (px_n hn8 (px_n hn15 hn22)) (rfl) dO_run_68

end QO1
end
section
section QO2
variable (l : Launch) (dC : Nat → ClassId) (dI : Nat → Nat → Nat) (cI cJ cG : ClassId)
set_option maxHeartbeats 4000000 in
set_option maxRecDepth 100000 in
theorem c_told (o0 o1 o2 o3 o4 o5 o6 o7 ru sp dl rr yr sd rn : Nat) (yg ch mk : Int32) (qg : Nat) (qr : Nat → Nat) (M : Nat → Nat → Int64) (a0 a1 a2 : Int32) (hst : l.stackTraces = false) (hrn : rn < 2 ^ 31) (hsd : sd ≤ 16) (hyr : yr ≤ 20) (hro : rn = 0 ∨ (1 ≤ sd ∧ 1 ≤ yr ∧ rr < 6)) : qXl qZ l yO_told (wO_told) ({ frames := 7, cells := 4, slots := 24, locals := 104 } : Room) (dC, dI) qCl [(cI, .int), (cJ, .long), (cG, .array .long)] [.ref o0, .int a0, .int a1, .int a2] [(o0, .inr (0, [.ref o1, .ref o2, .ref o3, .ref o4, .int (nI ru), .int yg, .int ch, .int (nI sp), .int (nI dl), .int mk, .ref o5, .ref o6, .ref o7, .int (nI rr), .int (nI yr), .int (nI sd), .int (nI rn)])), (o5, .inr (2, [.ref qg])), (qg, .inl (cG, 4, .inr (.inr (.inr (.inr (pf_gf qr)))))), (qr 0, .inl (cJ, 320, .inr (.inl (M 0)))), (qr 1, .inl (cJ, 320, .inr (.inl (M 1)))), (qr 2, .inl (cJ, 320, .inr (.inl (M 2)))), (qr 3, .inl (cJ, 320, .inr (.inl (M 3))))] [(o0, .inr (0, [.ref o1, .ref o2, .ref o3, .ref o4, .int (nI ru), .int yg, .int ch, .int (nI sp), .int (nI dl), .int mk, .ref o5, .ref o6, .ref o7, .int (nI rr), .int (nI yr), .int (nI sd), .int (nI rn)])), (o5, .inr (2, [.ref qg])), (qg, .inl (cG, 4, .inr (.inr (.inr (.inr (pf_gf qr)))))), (qr 0, .inl (cJ, 320, .inr (.inl (M 0)))), (qr 1, .inl (cJ, 320, .inr (.inl (M 1)))), (qr 2, .inl (cJ, 320, .inr (.inl (M 2)))), (qr 3, .inl (cJ, 320, .inr (.inl (M 3))))] (px_or (px_run (nI rn)) (px_or (px_place a0 0 ((nI sd) - 1)) (px_or (px_place a1 1 (nI yr)) (px_place a2 0 3)))) (M a2.toNatClampNeg (pf_ix a0.toNatClampNeg a1.toNatClampNeg)) 4 24 := by
  refine qx_l (cc := prog_1_method_10_code) (maxL := 4) (by decide) rfl (Nat.le_of_ble_eq_true rfl) ?_
  intro p e s m args below meth c Q A ls hx hb hml hown hnm hts hA hK hP hD hS hl hZ hret hout hfin
  have hl : lv_has ls 4 [(0, .ref o0), (1, .int a0), (2, .int a1), (3, .int a2)] := hl
  refine lv_aload_n hx hb dO_told_0 rfl (lv_at hl 0 rfl) ?_
  refine qx_callVv (As := []) (rest := []) (wr := [(o5, .inr (2, [.ref qg])), (qg, .inl (cG, 4, .inr (.inr (.inr (.inr (pf_gf qr)))))), (qr 0, .inl (cJ, 320, .inr (.inl (M 0)))), (qr 1, .inl (cJ, 320, .inr (.inl (M 1)))), (qr 2, .inl (cJ, 320, .inr (.inl (M 2)))), (qr 3, .inl (cJ, 320, .inr (.inl (M 3))))]) (ws2 := [(o0, .inr (0, [.ref o1, .ref o2, .ref o3, .ref o4, .int (nI ru), .int yg, .int ch, .int (nI sp), .int (nI dl), .int mk, .ref o5, .ref o6, .ref o7, .int (nI rr), .int (nI yr), .int (nI sd), .int (nI rn)])), (o5, .inr (2, [.ref qg])), (qg, .inl (cG, 4, .inr (.inr (.inr (.inr (pf_gf qr)))))), (qr 0, .inl (cJ, 320, .inr (.inl (M 0)))), (qr 1, .inl (cJ, 320, .inr (.inl (M 1)))), (qr 2, .inl (cJ, 320, .inr (.inl (M 2)))), (qr 3, .inl (cJ, 320, .inr (.inl (M 3))))]) qZ_ok hZ ⟨hx, hb, hml, hown, hts⟩ (c_requireRun l dC dI cI cJ cG o0 o1 o2 o3 o4 o5 o6 o7 ru sp dl rr yr sd rn yg ch mk hst) (cwV 0 hts (qg_V mq_2_130 mq_2_132 mq_p_10 mq_1_1 mq_2_133) rfl rfl rfl (by decide +kernel) ⟨Nat.le_of_ble_eq_true rfl, Nat.le_of_ble_eq_true rfl⟩) hK hP hD hS hA (ci := 0) (q0 := 0) rfl rfl [0] [1, 2, 3, 4, 5, 6] [6, 0, 1, 2, 3, 4, 5] rfl rfl (by decide) (by decide) rfl rfl (by decide) rfl hl.1 rfl (Nat.le_of_ble_eq_true rfl) dO_told_1 ⟨Nat.le_of_ble_eq_true rfl, Nat.le_of_ble_eq_true rfl⟩ (fun E ce q9 H locs hex hP hD hS hce hcv hcl => hout hP hD hS (Nat.le_of_ble_eq_true rfl) (Nat.le_of_ble_eq_true rfl) (px_s hex) hce hcv hcl) (fun H locs hn1 hP hD hS => ?_)
  have hr1 := qn_run hn1 hrn hro
  refine lv_iload_n hx hb dO_told_4 rfl (lv_at hl 1 rfl) ?_
  refine lv_iconst (v := 0) hx hb dO_told_5 (by decide) ?_
  refine lv_aload_n hx hb dO_told_6 rfl (lv_at hl 0 rfl) ?_
  refine va_get (D := (dC, dI)) (ci := 0) (v := .int (nI sd)) (C := "OutlookOdds") (T := TO) (N := 17) hx hb hts inO hown hK hP 0 rfl rfl 15 (by decide) (hts _ mq_1_71) (fun _ h9 => h9) rfl dO_told_7 ?_
  refine lv_iconst (v := 1) hx hb dO_told_10 (by decide) ?_
  refine lv_isub hx hb dO_told_11 ?_
  refine qx_callSv (As := [.int a0, .int 0, .int ((nI sd) - 1)]) (rest := []) (wr := [(o0, .inr (0, [.ref o1, .ref o2, .ref o3, .ref o4, .int (nI ru), .int yg, .int ch, .int (nI sp), .int (nI dl), .int mk, .ref o5, .ref o6, .ref o7, .int (nI rr), .int (nI yr), .int (nI sd), .int (nI rn)])), (o5, .inr (2, [.ref qg])), (qg, .inl (cG, 4, .inr (.inr (.inr (.inr (pf_gf qr)))))), (qr 0, .inl (cJ, 320, .inr (.inl (M 0)))), (qr 1, .inl (cJ, 320, .inr (.inl (M 1)))), (qr 2, .inl (cJ, 320, .inr (.inl (M 2)))), (qr 3, .inl (cJ, 320, .inr (.inl (M 3))))]) (ws2 := [(o0, .inr (0, [.ref o1, .ref o2, .ref o3, .ref o4, .int (nI ru), .int yg, .int ch, .int (nI sp), .int (nI dl), .int mk, .ref o5, .ref o6, .ref o7, .int (nI rr), .int (nI yr), .int (nI sd), .int (nI rn)])), (o5, .inr (2, [.ref qg])), (qg, .inl (cG, 4, .inr (.inr (.inr (.inr (pf_gf qr)))))), (qr 0, .inl (cJ, 320, .inr (.inl (M 0)))), (qr 1, .inl (cJ, 320, .inr (.inl (M 1)))), (qr 2, .inl (cJ, 320, .inr (.inl (M 2)))), (qr 3, .inl (cJ, 320, .inr (.inl (M 3))))]) qZ_ok hZ ⟨hx, hb, hml, hown, hts⟩ (c_requirePlace l dC dI cI cJ cG a0 0 ((nI sd) - 1) hst) (va_cwS 3 hts (qg_S mq_1_126 mq_1_127 mq_1_1 mq_1_128) rfl rfl rfl (by decide +kernel) ⟨Nat.le_of_ble_eq_true rfl, Nat.le_of_ble_eq_true rfl⟩) hK hP hD hS hA [] [0, 1, 2, 3, 4, 5, 6] [0, 1, 2, 3, 4, 5, 6] rfl rfl (by decide) (by decide) rfl rfl (by decide) rfl hl.1 rfl (Nat.le_of_ble_eq_true rfl) dO_told_12 ⟨Nat.le_of_ble_eq_true rfl, Nat.le_of_ble_eq_true rfl⟩ (fun E ce q9 H locs hex hP hD hS hce hcv hcl => hout hP hD hS (Nat.le_of_ble_eq_true rfl) (Nat.le_of_ble_eq_true rfl) (px_n hn1 (px_s hex)) hce hcv hcl) (fun H locs hn12 hP hD hS => ?_)
  refine lv_iload_n hx hb dO_told_15 rfl (lv_at hl 2 rfl) ?_
  refine lv_iconst (v := 1) hx hb dO_told_16 (by decide) ?_
  refine lv_aload_n hx hb dO_told_17 rfl (lv_at hl 0 rfl) ?_
  refine va_get (D := (dC, dI)) (ci := 0) (v := .int (nI yr)) (C := "OutlookOdds") (T := TO) (N := 17) hx hb hts inO hown hK hP 0 rfl rfl 14 (by decide) (hts _ mq_1_70) (fun _ h9 => h9) rfl dO_told_18 ?_
  refine qx_callSv (As := [.int a1, .int 1, .int (nI yr)]) (rest := []) (wr := [(o0, .inr (0, [.ref o1, .ref o2, .ref o3, .ref o4, .int (nI ru), .int yg, .int ch, .int (nI sp), .int (nI dl), .int mk, .ref o5, .ref o6, .ref o7, .int (nI rr), .int (nI yr), .int (nI sd), .int (nI rn)])), (o5, .inr (2, [.ref qg])), (qg, .inl (cG, 4, .inr (.inr (.inr (.inr (pf_gf qr)))))), (qr 0, .inl (cJ, 320, .inr (.inl (M 0)))), (qr 1, .inl (cJ, 320, .inr (.inl (M 1)))), (qr 2, .inl (cJ, 320, .inr (.inl (M 2)))), (qr 3, .inl (cJ, 320, .inr (.inl (M 3))))]) (ws2 := [(o0, .inr (0, [.ref o1, .ref o2, .ref o3, .ref o4, .int (nI ru), .int yg, .int ch, .int (nI sp), .int (nI dl), .int mk, .ref o5, .ref o6, .ref o7, .int (nI rr), .int (nI yr), .int (nI sd), .int (nI rn)])), (o5, .inr (2, [.ref qg])), (qg, .inl (cG, 4, .inr (.inr (.inr (.inr (pf_gf qr)))))), (qr 0, .inl (cJ, 320, .inr (.inl (M 0)))), (qr 1, .inl (cJ, 320, .inr (.inl (M 1)))), (qr 2, .inl (cJ, 320, .inr (.inl (M 2)))), (qr 3, .inl (cJ, 320, .inr (.inl (M 3))))]) qZ_ok hZ ⟨hx, hb, hml, hown, hts⟩ (c_requirePlace l dC dI cI cJ cG a1 1 (nI yr) hst) (va_cwS 3 hts (qg_S mq_1_126 mq_1_127 mq_1_1 mq_1_128) rfl rfl rfl (by decide +kernel) ⟨Nat.le_of_ble_eq_true rfl, Nat.le_of_ble_eq_true rfl⟩) hK hP hD hS hA [] [0, 1, 2, 3, 4, 5, 6] [0, 1, 2, 3, 4, 5, 6] rfl rfl (by decide) (by decide) rfl rfl (by decide) rfl hl.1 rfl (Nat.le_of_ble_eq_true rfl) dO_told_21 ⟨Nat.le_of_ble_eq_true rfl, Nat.le_of_ble_eq_true rfl⟩ (fun E ce q9 H locs hex hP hD hS hce hcv hcl => hout hP hD hS (Nat.le_of_ble_eq_true rfl) (Nat.le_of_ble_eq_true rfl) (px_n hn1 (px_n hn12 (px_s hex))) hce hcv hcl) (fun H locs hn21 hP hD hS => ?_)
  refine lv_iload_n hx hb dO_told_24 rfl (lv_at hl 3 rfl) ?_
  refine lv_iconst (v := 0) hx hb dO_told_25 (by decide) ?_
  refine lv_iconst (v := 3) hx hb dO_told_26 (by decide) ?_
  refine qx_callSv (As := [.int a2, .int 0, .int 3]) (rest := []) (wr := [(o0, .inr (0, [.ref o1, .ref o2, .ref o3, .ref o4, .int (nI ru), .int yg, .int ch, .int (nI sp), .int (nI dl), .int mk, .ref o5, .ref o6, .ref o7, .int (nI rr), .int (nI yr), .int (nI sd), .int (nI rn)])), (o5, .inr (2, [.ref qg])), (qg, .inl (cG, 4, .inr (.inr (.inr (.inr (pf_gf qr)))))), (qr 0, .inl (cJ, 320, .inr (.inl (M 0)))), (qr 1, .inl (cJ, 320, .inr (.inl (M 1)))), (qr 2, .inl (cJ, 320, .inr (.inl (M 2)))), (qr 3, .inl (cJ, 320, .inr (.inl (M 3))))]) (ws2 := [(o0, .inr (0, [.ref o1, .ref o2, .ref o3, .ref o4, .int (nI ru), .int yg, .int ch, .int (nI sp), .int (nI dl), .int mk, .ref o5, .ref o6, .ref o7, .int (nI rr), .int (nI yr), .int (nI sd), .int (nI rn)])), (o5, .inr (2, [.ref qg])), (qg, .inl (cG, 4, .inr (.inr (.inr (.inr (pf_gf qr)))))), (qr 0, .inl (cJ, 320, .inr (.inl (M 0)))), (qr 1, .inl (cJ, 320, .inr (.inl (M 1)))), (qr 2, .inl (cJ, 320, .inr (.inl (M 2)))), (qr 3, .inl (cJ, 320, .inr (.inl (M 3))))]) qZ_ok hZ ⟨hx, hb, hml, hown, hts⟩ (c_requirePlace l dC dI cI cJ cG a2 0 3 hst) (va_cwS 3 hts (qg_S mq_1_126 mq_1_127 mq_1_1 mq_1_128) rfl rfl rfl (by decide +kernel) ⟨Nat.le_of_ble_eq_true rfl, Nat.le_of_ble_eq_true rfl⟩) hK hP hD hS hA [] [0, 1, 2, 3, 4, 5, 6] [0, 1, 2, 3, 4, 5, 6] rfl rfl (by decide) (by decide) rfl rfl (by decide) rfl hl.1 rfl (Nat.le_of_ble_eq_true rfl) dO_told_27 ⟨Nat.le_of_ble_eq_true rfl, Nat.le_of_ble_eq_true rfl⟩ (fun E ce q9 H locs hex hP hD hS hce hcv hcl => hout hP hD hS (Nat.le_of_ble_eq_true rfl) (Nat.le_of_ble_eq_true rfl) (px_n hn1 (px_n hn12 (px_n hn21 hex))) hce hcv hcl) (fun H locs hn27 hP hD hS => ?_)
  have hp0 := qn_plm hn12 (by omega)
  have hp1 := qn_pl (f := 1) (t := yr) hn21 (by omega) (by decide)
  have hp2 := qn_pl (f := 0) (t := 3) hn27 (by decide) (by decide)
  refine lv_aload_n hx hb dO_told_30 rfl (lv_at hl 0 rfl) ?_
  refine va_get (D := (dC, dI)) (ci := 0) (v := .ref o5) (C := "OutlookOdds") (T := TO) (N := 17) hx hb hts inO hown hK hP 0 rfl rfl 10 (by decide) (hts _ mq_1_66) (fun _ h9 => h9) rfl dO_told_31 ?_
  refine lv_iload_n hx hb dO_told_34 rfl (lv_at hl 3 rfl) ?_
  refine qr_topi (y := nI a2.toNatClampNeg) (hp2.1) ?_
  refine lv_iload_n hx hb dO_told_35 rfl (lv_at hl 1 rfl) ?_
  refine qr_topi (y := nI a0.toNatClampNeg) (hp0.1) ?_
  refine lv_iload_n hx hb dO_told_36 rfl (lv_at hl 2 rfl) ?_
  refine qr_topi (y := nI a1.toNatClampNeg) (hp1.1) ?_
  refine qr_callVl (As := [.int (nI a2.toNatClampNeg), .int (nI a0.toNatClampNeg), .int (nI a1.toNatClampNeg)]) (rest := []) (wr := [(o0, .inr (0, [.ref o1, .ref o2, .ref o3, .ref o4, .int (nI ru), .int yg, .int ch, .int (nI sp), .int (nI dl), .int mk, .ref o5, .ref o6, .ref o7, .int (nI rr), .int (nI yr), .int (nI sd), .int (nI rn)]))]) (ws2 := [(o0, .inr (0, [.ref o1, .ref o2, .ref o3, .ref o4, .int (nI ru), .int yg, .int ch, .int (nI sp), .int (nI dl), .int mk, .ref o5, .ref o6, .ref o7, .int (nI rr), .int (nI yr), .int (nI sd), .int (nI rn)])), (o5, .inr (2, [.ref qg])), (qg, .inl (cG, 4, .inr (.inr (.inr (.inr (pf_gf qr)))))), (qr 0, .inl (cJ, 320, .inr (.inl (M 0)))), (qr 1, .inl (cJ, 320, .inr (.inl (M 1)))), (qr 2, .inl (cJ, 320, .inr (.inl (M 2)))), (qr 3, .inl (cJ, 320, .inr (.inl (M 3))))]) ⟨hx, hb, hml, hown, hts⟩ (c_Story_get l dC dI cI cJ cG o5 qg qr M a2.toNatClampNeg a0.toNatClampNeg a1.toNatClampNeg (by omega) (by omega) (by omega) (by omega)) (cwV 3 hts (qg_V mq_2_71 mq_2_72 mq_2_73 mq_1_3 mq_2_74) rfl rfl rfl (by decide +kernel) ⟨Nat.le_of_ble_eq_true rfl, Nat.le_of_ble_eq_true rfl⟩) hK hP hD hS hA (ci := 2) (q0 := 1) rfl rfl [1, 2, 3, 4, 5, 6] [0] [0, 1, 2, 3, 4, 5, 6] rfl rfl (by decide) (by decide) rfl (by decide) rfl hl.1 rfl (Nat.le_of_ble_eq_true rfl) dO_told_37 ⟨Nat.le_of_ble_eq_true rfl, Nat.le_of_ble_eq_true rfl⟩ (fun H locs hP hD hS => ?_)
  exact hret hP hD hS (Nat.le_of_ble_eq_true rfl) (Nat.le_of_ble_eq_true rfl) (px_n hn1 (px_n hn12 (px_n hn21 hn27))) (rfl) dO_told_40

set_option maxHeartbeats 4000000 in
set_option maxRecDepth 100000 in
theorem c_below (o0 o1 o2 o3 o4 o5 o6 o7 ru sp dl rr yr sd rn : Nat) (yg ch mk : Int32) (qg : Nat) (qr : Nat → Nat) (M : Nat → Nat → Int64) (a0 a1 : Int32) (hst : l.stackTraces = false) (hrn : rn < 2 ^ 31) (hsd : sd ≤ 16) (hyr : yr ≤ 20) (hro : rn = 0 ∨ (1 ≤ sd ∧ 1 ≤ yr ∧ rr < 6)) : qXi qZ l yO_below (wO_below) ({ frames := 7, cells := 3, slots := 18, locals := 104 } : Room) (dC, dI) qCl [(cI, .int), (cJ, .long), (cG, .array .long)] [.ref o0, .int a0, .int a1] [(o0, .inr (0, [.ref o1, .ref o2, .ref o3, .ref o4, .int (nI ru), .int yg, .int ch, .int (nI sp), .int (nI dl), .int mk, .ref o5, .ref o6, .ref o7, .int (nI rr), .int (nI yr), .int (nI sd), .int (nI rn)])), (o5, .inr (2, [.ref qg])), (qg, .inl (cG, 4, .inr (.inr (.inr (.inr (pf_gf qr)))))), (qr 0, .inl (cJ, 320, .inr (.inl (M 0)))), (qr 1, .inl (cJ, 320, .inr (.inl (M 1)))), (qr 2, .inl (cJ, 320, .inr (.inl (M 2)))), (qr 3, .inl (cJ, 320, .inr (.inl (M 3))))] [(o0, .inr (0, [.ref o1, .ref o2, .ref o3, .ref o4, .int (nI ru), .int yg, .int ch, .int (nI sp), .int (nI dl), .int mk, .ref o5, .ref o6, .ref o7, .int (nI rr), .int (nI yr), .int (nI sd), .int (nI rn)])), (o5, .inr (2, [.ref qg])), (qg, .inl (cG, 4, .inr (.inr (.inr (.inr (pf_gf qr)))))), (qr 0, .inl (cJ, 320, .inr (.inl (M 0)))), (qr 1, .inl (cJ, 320, .inr (.inl (M 1)))), (qr 2, .inl (cJ, 320, .inr (.inl (M 2)))), (qr 3, .inl (cJ, 320, .inr (.inl (M 3))))] (px_or (px_run (nI rn)) (px_or (px_place a0 1 (nI yr)) (px_place a1 0 1))) ((pf_part (pf_blw (M 0) mk a0.toNatClampNeg sd).toInt64 (nI sd).toInt64 a1).toInt32) 3 18 := by
  refine qx_i (cc := prog_1_method_11_code) (maxL := 5) (by decide) rfl (Nat.le_of_ble_eq_true rfl) ?_
  intro p e s m args below meth c Q A ls hx hb hml hown hnm hts hA hK hP hD hS hl hZ hret hout hfin
  have hl : lv_has ls 5 [(0, .ref o0), (1, .int a0), (2, .int a1)] := hl
  refine lv_aload_n hx hb dO_below_0 rfl (lv_at hl 0 rfl) ?_
  refine qx_callVv (As := []) (rest := []) (wr := [(o5, .inr (2, [.ref qg])), (qg, .inl (cG, 4, .inr (.inr (.inr (.inr (pf_gf qr)))))), (qr 0, .inl (cJ, 320, .inr (.inl (M 0)))), (qr 1, .inl (cJ, 320, .inr (.inl (M 1)))), (qr 2, .inl (cJ, 320, .inr (.inl (M 2)))), (qr 3, .inl (cJ, 320, .inr (.inl (M 3))))]) (ws2 := [(o0, .inr (0, [.ref o1, .ref o2, .ref o3, .ref o4, .int (nI ru), .int yg, .int ch, .int (nI sp), .int (nI dl), .int mk, .ref o5, .ref o6, .ref o7, .int (nI rr), .int (nI yr), .int (nI sd), .int (nI rn)])), (o5, .inr (2, [.ref qg])), (qg, .inl (cG, 4, .inr (.inr (.inr (.inr (pf_gf qr)))))), (qr 0, .inl (cJ, 320, .inr (.inl (M 0)))), (qr 1, .inl (cJ, 320, .inr (.inl (M 1)))), (qr 2, .inl (cJ, 320, .inr (.inl (M 2)))), (qr 3, .inl (cJ, 320, .inr (.inl (M 3))))]) qZ_ok hZ ⟨hx, hb, hml, hown, hts⟩ (c_requireRun l dC dI cI cJ cG o0 o1 o2 o3 o4 o5 o6 o7 ru sp dl rr yr sd rn yg ch mk hst) (cwV 0 hts (qg_V mq_2_130 mq_2_132 mq_p_10 mq_1_1 mq_2_133) rfl rfl rfl (by decide +kernel) ⟨Nat.le_of_ble_eq_true rfl, Nat.le_of_ble_eq_true rfl⟩) hK hP hD hS hA (ci := 0) (q0 := 0) rfl rfl [0] [1, 2, 3, 4, 5, 6] [6, 0, 1, 2, 3, 4, 5] rfl rfl (by decide) (by decide) rfl rfl (by decide) rfl hl.1 rfl (Nat.le_of_ble_eq_true rfl) dO_below_1 ⟨Nat.le_of_ble_eq_true rfl, Nat.le_of_ble_eq_true rfl⟩ (fun E ce q9 H locs hex hP hD hS hce hcv hcl => hout hP hD hS (Nat.le_of_ble_eq_true rfl) (Nat.le_of_ble_eq_true rfl) (px_s hex) hce hcv hcl) (fun H locs hn1 hP hD hS => ?_)
  have hr1 := qn_run hn1 hrn hro
  refine lv_iload_n hx hb dO_below_4 rfl (lv_at hl 1 rfl) ?_
  refine lv_iconst (v := 1) hx hb dO_below_5 (by decide) ?_
  refine lv_aload_n hx hb dO_below_6 rfl (lv_at hl 0 rfl) ?_
  refine va_get (D := (dC, dI)) (ci := 0) (v := .int (nI yr)) (C := "OutlookOdds") (T := TO) (N := 17) hx hb hts inO hown hK hP 0 rfl rfl 14 (by decide) (hts _ mq_1_70) (fun _ h9 => h9) rfl dO_below_7 ?_
  refine qx_callSv (As := [.int a0, .int 1, .int (nI yr)]) (rest := []) (wr := [(o0, .inr (0, [.ref o1, .ref o2, .ref o3, .ref o4, .int (nI ru), .int yg, .int ch, .int (nI sp), .int (nI dl), .int mk, .ref o5, .ref o6, .ref o7, .int (nI rr), .int (nI yr), .int (nI sd), .int (nI rn)])), (o5, .inr (2, [.ref qg])), (qg, .inl (cG, 4, .inr (.inr (.inr (.inr (pf_gf qr)))))), (qr 0, .inl (cJ, 320, .inr (.inl (M 0)))), (qr 1, .inl (cJ, 320, .inr (.inl (M 1)))), (qr 2, .inl (cJ, 320, .inr (.inl (M 2)))), (qr 3, .inl (cJ, 320, .inr (.inl (M 3))))]) (ws2 := [(o0, .inr (0, [.ref o1, .ref o2, .ref o3, .ref o4, .int (nI ru), .int yg, .int ch, .int (nI sp), .int (nI dl), .int mk, .ref o5, .ref o6, .ref o7, .int (nI rr), .int (nI yr), .int (nI sd), .int (nI rn)])), (o5, .inr (2, [.ref qg])), (qg, .inl (cG, 4, .inr (.inr (.inr (.inr (pf_gf qr)))))), (qr 0, .inl (cJ, 320, .inr (.inl (M 0)))), (qr 1, .inl (cJ, 320, .inr (.inl (M 1)))), (qr 2, .inl (cJ, 320, .inr (.inl (M 2)))), (qr 3, .inl (cJ, 320, .inr (.inl (M 3))))]) qZ_ok hZ ⟨hx, hb, hml, hown, hts⟩ (c_requirePlace l dC dI cI cJ cG a0 1 (nI yr) hst) (va_cwS 3 hts (qg_S mq_1_126 mq_1_127 mq_1_1 mq_1_128) rfl rfl rfl (by decide +kernel) ⟨Nat.le_of_ble_eq_true rfl, Nat.le_of_ble_eq_true rfl⟩) hK hP hD hS hA [] [0, 1, 2, 3, 4, 5, 6] [0, 1, 2, 3, 4, 5, 6] rfl rfl (by decide) (by decide) rfl rfl (by decide) rfl hl.1 rfl (Nat.le_of_ble_eq_true rfl) dO_below_10 ⟨Nat.le_of_ble_eq_true rfl, Nat.le_of_ble_eq_true rfl⟩ (fun E ce q9 H locs hex hP hD hS hce hcv hcl => hout hP hD hS (Nat.le_of_ble_eq_true rfl) (Nat.le_of_ble_eq_true rfl) (px_n hn1 (px_s hex)) hce hcv hcl) (fun H locs hn10 hP hD hS => ?_)
  refine lv_iload_n hx hb dO_below_13 rfl (lv_at hl 2 rfl) ?_
  refine lv_iconst (v := 0) hx hb dO_below_14 (by decide) ?_
  refine lv_iconst (v := 1) hx hb dO_below_15 (by decide) ?_
  refine qx_callSv (As := [.int a1, .int 0, .int 1]) (rest := []) (wr := [(o0, .inr (0, [.ref o1, .ref o2, .ref o3, .ref o4, .int (nI ru), .int yg, .int ch, .int (nI sp), .int (nI dl), .int mk, .ref o5, .ref o6, .ref o7, .int (nI rr), .int (nI yr), .int (nI sd), .int (nI rn)])), (o5, .inr (2, [.ref qg])), (qg, .inl (cG, 4, .inr (.inr (.inr (.inr (pf_gf qr)))))), (qr 0, .inl (cJ, 320, .inr (.inl (M 0)))), (qr 1, .inl (cJ, 320, .inr (.inl (M 1)))), (qr 2, .inl (cJ, 320, .inr (.inl (M 2)))), (qr 3, .inl (cJ, 320, .inr (.inl (M 3))))]) (ws2 := [(o0, .inr (0, [.ref o1, .ref o2, .ref o3, .ref o4, .int (nI ru), .int yg, .int ch, .int (nI sp), .int (nI dl), .int mk, .ref o5, .ref o6, .ref o7, .int (nI rr), .int (nI yr), .int (nI sd), .int (nI rn)])), (o5, .inr (2, [.ref qg])), (qg, .inl (cG, 4, .inr (.inr (.inr (.inr (pf_gf qr)))))), (qr 0, .inl (cJ, 320, .inr (.inl (M 0)))), (qr 1, .inl (cJ, 320, .inr (.inl (M 1)))), (qr 2, .inl (cJ, 320, .inr (.inl (M 2)))), (qr 3, .inl (cJ, 320, .inr (.inl (M 3))))]) qZ_ok hZ ⟨hx, hb, hml, hown, hts⟩ (c_requirePlace l dC dI cI cJ cG a1 0 1 hst) (va_cwS 3 hts (qg_S mq_1_126 mq_1_127 mq_1_1 mq_1_128) rfl rfl rfl (by decide +kernel) ⟨Nat.le_of_ble_eq_true rfl, Nat.le_of_ble_eq_true rfl⟩) hK hP hD hS hA [] [0, 1, 2, 3, 4, 5, 6] [0, 1, 2, 3, 4, 5, 6] rfl rfl (by decide) (by decide) rfl rfl (by decide) rfl hl.1 rfl (Nat.le_of_ble_eq_true rfl) dO_below_16 ⟨Nat.le_of_ble_eq_true rfl, Nat.le_of_ble_eq_true rfl⟩ (fun E ce q9 H locs hex hP hD hS hce hcv hcl => hout hP hD hS (Nat.le_of_ble_eq_true rfl) (Nat.le_of_ble_eq_true rfl) (px_n hn1 (px_n hn10 hex)) hce hcv hcl) (fun H locs hn16 hP hD hS => ?_)
  have hp0 := qn_pl (f := 1) (t := yr) hn10 (by omega) (by decide)
  refine lv_iconst (v := 0) hx hb dO_below_19 (by decide) ?_
  refine lv_istore_n (lv' := [(3, .int 0), (0, .ref o0), (1, .int a0), (2, .int a1)]) hx hb dO_below_20 rfl hl (by decide) rfl (fun ls hl => ?_)
  refine lv_iconst (v := 0) hx hb dO_below_21 (by decide) ?_
  refine lv_istore (lv' := [(4, .int 0), (3, .int 0), (0, .ref o0), (1, .int a0), (2, .int a1)]) hx hb dO_below_22 hl (by decide) rfl (fun ls hl => ?_)
  have lp_24 : ∀ (n : Nat) (j : Nat), sd - j < n → j ≤ sd → ∀ (H : Heap) (locs : List Loc), va_P (dC, dI) qCl [(o0, .inr (0, [.ref o1, .ref o2, .ref o3, .ref o4, .int (nI ru), .int yg, .int ch, .int (nI sp), .int (nI dl), .int mk, .ref o5, .ref o6, .ref o7, .int (nI rr), .int (nI yr), .int (nI sd), .int (nI rn)])), (o5, .inr (2, [.ref qg])), (qg, .inl (cG, 4, .inr (.inr (.inr (.inr (pf_gf qr)))))), (qr 0, .inl (cJ, 320, .inr (.inl (M 0)))), (qr 1, .inl (cJ, 320, .inr (.inl (M 1)))), (qr 2, .inl (cJ, 320, .inr (.inl (M 2)))), (qr 3, .inl (cJ, 320, .inr (.inl (M 3))))] H → va_D A [(o0, .inr (0, [.ref o1, .ref o2, .ref o3, .ref o4, .int (nI ru), .int yg, .int ch, .int (nI sp), .int (nI dl), .int mk, .ref o5, .ref o6, .ref o7, .int (nI rr), .int (nI yr), .int (nI sd), .int (nI rn)])), (o5, .inr (2, [.ref qg])), (qg, .inl (cG, 4, .inr (.inr (.inr (.inr (pf_gf qr)))))), (qr 0, .inl (cJ, 320, .inr (.inl (M 0)))), (qr 1, .inl (cJ, 320, .inr (.inl (M 1)))), (qr 2, .inl (cJ, 320, .inr (.inl (M 2)))), (qr 3, .inl (cJ, 320, .inr (.inl (M 3))))] → va_S A s.heap H locs → ∀ (ls : Array Slot), lv_has ls 5 [(0, .ref o0), (1, .int a0), (2, .int a1), (3, .int (pf_blw (M 0) mk a0.toNatClampNeg j)), (4, .int (nI j))] → W p l e ({ frames := 7, cells := 3, slots := 18, locals := 104 } : Room) s m args below meth c H locs 3 18 Q (F0 m 24 ls []) := by
    intro n_24
    induction n_24 with
    | zero => intro j hm; exact absurd hm (Nat.not_lt_zero _)
    | succ n_24 ih_24 =>
      intro j hm_24 hj H locs hP hD hS ls hl
      refine lv_iload hx hb dO_below_24 (lv_at hl 4 rfl) ?_
      refine lv_aload_n hx hb dO_below_26 rfl (lv_at hl 0 rfl) ?_
      refine va_get (D := (dC, dI)) (ci := 0) (v := .int (nI sd)) (C := "OutlookOdds") (T := TO) (N := 17) hx hb hts inO hown hK hP 0 rfl rfl 15 (by decide) (hts _ mq_1_71) (fun _ h9 => h9) rfl dO_below_27 ?_
      refine lv_icmp_ge (tgt := 52) hx hb dO_below_30 (by decide) (fun h30 => ?_) (fun h30 => ?_)
      · have e_j : j = sd := qn_ge h30 hj (by omega)
        have hP : va_P (dC, dI) qCl [(o0, .inr (0, [.ref o1, .ref o2, .ref o3, .ref o4, .int (nI ru), .int yg, .int ch, .int (nI sp), .int (nI dl), .int mk, .ref o5, .ref o6, .ref o7, .int (nI rr), .int (nI yr), .int (nI sd), .int (nI rn)])), (o5, .inr (2, [.ref qg])), (qg, .inl (cG, 4, .inr (.inr (.inr (.inr (pf_gf qr)))))), (qr 0, .inl (cJ, 320, .inr (.inl (M 0)))), (qr 1, .inl (cJ, 320, .inr (.inl (M 1)))), (qr 2, .inl (cJ, 320, .inr (.inl (M 2)))), (qr 3, .inl (cJ, 320, .inr (.inl (M 3))))] H := by first | exact hP | (rw [e_j] at hP; exact hP)
        have hD : va_D A [(o0, .inr (0, [.ref o1, .ref o2, .ref o3, .ref o4, .int (nI ru), .int yg, .int ch, .int (nI sp), .int (nI dl), .int mk, .ref o5, .ref o6, .ref o7, .int (nI rr), .int (nI yr), .int (nI sd), .int (nI rn)])), (o5, .inr (2, [.ref qg])), (qg, .inl (cG, 4, .inr (.inr (.inr (.inr (pf_gf qr)))))), (qr 0, .inl (cJ, 320, .inr (.inl (M 0)))), (qr 1, .inl (cJ, 320, .inr (.inl (M 1)))), (qr 2, .inl (cJ, 320, .inr (.inl (M 2)))), (qr 3, .inl (cJ, 320, .inr (.inl (M 3))))] := by first | exact hD | (rw [e_j] at hD; exact hD)
        have hl : lv_has ls 5 [(0, .ref o0), (1, .int a0), (2, .int a1), (3, .int (pf_blw (M 0) mk a0.toNatClampNeg sd)), (4, .int (nI sd))] := by first | exact hl | (rw [e_j] at hl; exact hl)
        refine lv_iload_n hx hb dO_below_52 rfl (lv_at hl 3 rfl) ?_
        refine lv_i2l hx hb dO_below_53 rfl ?_
        refine lv_aload_n hx hb dO_below_54 rfl (lv_at hl 0 rfl) ?_
        refine va_get (D := (dC, dI)) (ci := 0) (v := .int (nI sd)) (C := "OutlookOdds") (T := TO) (N := 17) hx hb hts inO hown hK hP 0 rfl rfl 15 (by decide) (hts _ mq_1_71) (fun _ h9 => h9) rfl dO_below_55 ?_
        refine lv_i2l hx hb dO_below_58 rfl ?_
        refine lv_iload_n hx hb dO_below_59 rfl (lv_at hl 2 rfl) ?_
        refine qr_callSl (As := [.long ((pf_blw (M 0) mk a0.toNatClampNeg sd).toInt64), .long ((nI sd).toInt64), .int a1]) (rest := []) (wr := [(o0, .inr (0, [.ref o1, .ref o2, .ref o3, .ref o4, .int (nI ru), .int yg, .int ch, .int (nI sp), .int (nI dl), .int mk, .ref o5, .ref o6, .ref o7, .int (nI rr), .int (nI yr), .int (nI sd), .int (nI rn)])), (o5, .inr (2, [.ref qg])), (qg, .inl (cG, 4, .inr (.inr (.inr (.inr (pf_gf qr)))))), (qr 0, .inl (cJ, 320, .inr (.inl (M 0)))), (qr 1, .inl (cJ, 320, .inr (.inl (M 1)))), (qr 2, .inl (cJ, 320, .inr (.inl (M 2)))), (qr 3, .inl (cJ, 320, .inr (.inl (M 3))))]) (ws2 := [(o0, .inr (0, [.ref o1, .ref o2, .ref o3, .ref o4, .int (nI ru), .int yg, .int ch, .int (nI sp), .int (nI dl), .int mk, .ref o5, .ref o6, .ref o7, .int (nI rr), .int (nI yr), .int (nI sd), .int (nI rn)])), (o5, .inr (2, [.ref qg])), (qg, .inl (cG, 4, .inr (.inr (.inr (.inr (pf_gf qr)))))), (qr 0, .inl (cJ, 320, .inr (.inl (M 0)))), (qr 1, .inl (cJ, 320, .inr (.inl (M 1)))), (qr 2, .inl (cJ, 320, .inr (.inl (M 2)))), (qr 3, .inl (cJ, 320, .inr (.inl (M 3))))]) ⟨hx, hb, hml, hown, hts⟩ (c_partOfFraction l dC dI cI cJ cG ((pf_blw (M 0) mk a0.toNatClampNeg sd).toInt64) ((nI sd).toInt64) a1 ) (va_cwS 3 hts (qg_S mq_2_142 mq_2_143 mq_1_1 mq_2_144) rfl rfl rfl (by decide +kernel) ⟨Nat.le_of_ble_eq_true rfl, Nat.le_of_ble_eq_true rfl⟩) hK hP hD hS hA [] [0, 1, 2, 3, 4, 5, 6] [0, 1, 2, 3, 4, 5, 6] rfl rfl (by decide) (by decide) rfl (by decide) rfl hl.1 rfl (Nat.le_of_ble_eq_true rfl) dO_below_60 ⟨Nat.le_of_ble_eq_true rfl, Nat.le_of_ble_eq_true rfl⟩ (fun H locs hP hD hS => ?_)
        refine lv_l2i hx hb dO_below_63 rfl ?_
        exact hret hP hD hS (Nat.le_of_ble_eq_true rfl) (Nat.le_of_ble_eq_true rfl) (px_n hn1 (px_n hn10 hn16)) (rfl) dO_below_64
      · have hlt : j < sd := qn_nge h30 (by omega)
        refine lv_aload_n hx hb dO_below_33 rfl (lv_at hl 0 rfl) ?_
        refine lv_iload hx hb dO_below_34 (lv_at hl 4 rfl) ?_
        refine lv_iload_n hx hb dO_below_36 rfl (lv_at hl 1 rfl) ?_
        refine qr_topi (y := nI a0.toNatClampNeg) (hp0.1) ?_
        refine qr_callVi (As := [.int (nI j), .int (nI a0.toNatClampNeg)]) (rest := []) (wr := []) (ws2 := [(o0, .inr (0, [.ref o1, .ref o2, .ref o3, .ref o4, .int (nI ru), .int yg, .int ch, .int (nI sp), .int (nI dl), .int mk, .ref o5, .ref o6, .ref o7, .int (nI rr), .int (nI yr), .int (nI sd), .int (nI rn)])), (o5, .inr (2, [.ref qg])), (qg, .inl (cG, 4, .inr (.inr (.inr (.inr (pf_gf qr)))))), (qr 0, .inl (cJ, 320, .inr (.inl (M 0)))), (qr 1, .inl (cJ, 320, .inr (.inl (M 1)))), (qr 2, .inl (cJ, 320, .inr (.inl (M 2)))), (qr 3, .inl (cJ, 320, .inr (.inl (M 3))))]) ⟨hx, hb, hml, hown, hts⟩ (c_isBelowMark l dC dI cI cJ cG o0 o1 o2 o3 o4 o5 o6 o7 ru sp dl rr yr sd rn yg ch mk qg qr M j a0.toNatClampNeg (by omega) (by omega) (by omega)) (cwV 2 hts (qg_V mq_2_119 mq_2_121 mq_p_9 mq_1_1 mq_2_122) rfl rfl rfl (by decide +kernel) ⟨Nat.le_of_ble_eq_true rfl, Nat.le_of_ble_eq_true rfl⟩) hK hP hD hS hA (ci := 0) (q0 := 0) rfl rfl [0, 1, 2, 3, 4, 5, 6] [] [0, 1, 2, 3, 4, 5, 6] rfl rfl (by decide) (by decide) rfl (by decide) rfl hl.1 rfl (Nat.le_of_ble_eq_true rfl) dO_below_37 ⟨Nat.le_of_ble_eq_true rfl, Nat.le_of_ble_eq_true rfl⟩ (fun H locs hP hD hS => ?_)
        refine lv_if_eq (tgt := 46) hx hb dO_below_40 (by decide) (fun h40 => ?_) (fun h40 => ?_)
        · have hl : lv_has ls 5 [(0, .ref o0), (1, .int a0), (2, .int a1), (3, .int (pf_blw (M 0) mk a0.toNatClampNeg (j + 1))), (4, .int (nI j))] := by have e9 : pf_blw (M 0) mk a0.toNatClampNeg j = pf_blw (M 0) mk a0.toNatClampNeg (j + 1) := ((if_pos h40).symm); first | (rw [← e9]; exact hl) | (rw [e9] at hl; exact hl)
          refine lv_iinc (v := nI (j + 1)) (lv' := [(4, .int (nI (j + 1))), (0, .ref o0), (1, .int a0), (2, .int a1), (3, .int (pf_blw (M 0) mk a0.toNatClampNeg (j + 1)))]) hx hb dO_below_46 hl (k := 4) rfl (nI_1 _) (by decide) rfl (fun ls hl => ?_)
          refine lv_goto (tgt := 24) hx hb dO_below_49 (by decide) ?_
          exact ih_24 (j + 1) (by omega) (by omega) _ _ hP hD hS ls (lv_sub hl [1, 2, 3, 4, 0] rfl)
        · refine lv_iinc (v := pf_blw (M 0) mk a0.toNatClampNeg (j + 1)) (lv' := [(3, .int (pf_blw (M 0) mk a0.toNatClampNeg (j + 1))), (0, .ref o0), (1, .int a0), (2, .int a1), (4, .int (nI j))]) hx hb dO_below_43 hl (k := 3) rfl ((if_neg h40).symm) (by decide) rfl (fun ls hl => ?_)
          refine lv_iinc (v := nI (j + 1)) (lv' := [(4, .int (nI (j + 1))), (3, .int (pf_blw (M 0) mk a0.toNatClampNeg (j + 1))), (0, .ref o0), (1, .int a0), (2, .int a1)]) hx hb dO_below_46 hl (k := 4) rfl (nI_1 _) (by decide) rfl (fun ls hl => ?_)
          refine lv_goto (tgt := 24) hx hb dO_below_49 (by decide) ?_
          exact ih_24 (j + 1) (by omega) (by omega) _ _ hP hD hS ls (lv_sub hl [2, 3, 4, 1, 0] rfl)
  exact lp_24 ((sd - 0) + 1) 0 (by omega) (by omega) _ _ hP hD hS ls (lv_sub hl [2, 3, 4, 1, 0] rfl)

set_option maxHeartbeats 4000000 in
set_option maxRecDepth 100000 in
theorem c_steady (o0 o1 o2 o3 o4 o5 o6 o7 ru sp dl rr yr sd rn : Nat) (yg ch mk : Int32) (qg : Nat) (qr : Nat → Nat) (M : Nat → Nat → Int64) (a0 : Int32) (hst : l.stackTraces = false) (hrn : rn < 2 ^ 31) (hsd : sd ≤ 16) (hyr : yr ≤ 20) (hro : rn = 0 ∨ (1 ≤ sd ∧ 1 ≤ yr ∧ rr < 6)) : qXl qZ l yO_steady (wO_steady) ({ frames := 7, cells := 2, slots := 12, locals := 104 } : Room) (dC, dI) qCl [(cI, .int), (cJ, .long), (cG, .array .long)] [.ref o0, .int a0] [(o0, .inr (0, [.ref o1, .ref o2, .ref o3, .ref o4, .int (nI ru), .int yg, .int ch, .int (nI sp), .int (nI dl), .int mk, .ref o5, .ref o6, .ref o7, .int (nI rr), .int (nI yr), .int (nI sd), .int (nI rn)])), (o5, .inr (2, [.ref qg])), (qg, .inl (cG, 4, .inr (.inr (.inr (.inr (pf_gf qr)))))), (qr 0, .inl (cJ, 320, .inr (.inl (M 0)))), (qr 1, .inl (cJ, 320, .inr (.inl (M 1)))), (qr 2, .inl (cJ, 320, .inr (.inl (M 2)))), (qr 3, .inl (cJ, 320, .inr (.inl (M 3))))] [(o0, .inr (0, [.ref o1, .ref o2, .ref o3, .ref o4, .int (nI ru), .int yg, .int ch, .int (nI sp), .int (nI dl), .int mk, .ref o5, .ref o6, .ref o7, .int (nI rr), .int (nI yr), .int (nI sd), .int (nI rn)])), (o5, .inr (2, [.ref qg])), (qg, .inl (cG, 4, .inr (.inr (.inr (.inr (pf_gf qr)))))), (qr 0, .inl (cJ, 320, .inr (.inl (M 0)))), (qr 1, .inl (cJ, 320, .inr (.inl (M 1)))), (qr 2, .inl (cJ, 320, .inr (.inl (M 2)))), (qr 3, .inl (cJ, 320, .inr (.inl (M 3))))] (px_or (px_run (nI rn)) (px_place a0 0 ((nI sd) - 1))) (pf_std (M 1) a0.toNatClampNeg (yr - 1)) 2 12 := by
  refine qx_l (cc := prog_1_method_12_code) (maxL := 5) (by decide) rfl (Nat.le_of_ble_eq_true rfl) ?_
  intro p e s m args below meth c Q A ls hx hb hml hown hnm hts hA hK hP hD hS hl hZ hret hout hfin
  have hl : lv_has ls 5 [(0, .ref o0), (1, .int a0)] := hl
  refine lv_aload_n hx hb dO_steady_0 rfl (lv_at hl 0 rfl) ?_
  refine qx_callVv (As := []) (rest := []) (wr := [(o5, .inr (2, [.ref qg])), (qg, .inl (cG, 4, .inr (.inr (.inr (.inr (pf_gf qr)))))), (qr 0, .inl (cJ, 320, .inr (.inl (M 0)))), (qr 1, .inl (cJ, 320, .inr (.inl (M 1)))), (qr 2, .inl (cJ, 320, .inr (.inl (M 2)))), (qr 3, .inl (cJ, 320, .inr (.inl (M 3))))]) (ws2 := [(o0, .inr (0, [.ref o1, .ref o2, .ref o3, .ref o4, .int (nI ru), .int yg, .int ch, .int (nI sp), .int (nI dl), .int mk, .ref o5, .ref o6, .ref o7, .int (nI rr), .int (nI yr), .int (nI sd), .int (nI rn)])), (o5, .inr (2, [.ref qg])), (qg, .inl (cG, 4, .inr (.inr (.inr (.inr (pf_gf qr)))))), (qr 0, .inl (cJ, 320, .inr (.inl (M 0)))), (qr 1, .inl (cJ, 320, .inr (.inl (M 1)))), (qr 2, .inl (cJ, 320, .inr (.inl (M 2)))), (qr 3, .inl (cJ, 320, .inr (.inl (M 3))))]) qZ_ok hZ ⟨hx, hb, hml, hown, hts⟩ (c_requireRun l dC dI cI cJ cG o0 o1 o2 o3 o4 o5 o6 o7 ru sp dl rr yr sd rn yg ch mk hst) (cwV 0 hts (qg_V mq_2_130 mq_2_132 mq_p_10 mq_1_1 mq_2_133) rfl rfl rfl (by decide +kernel) ⟨Nat.le_of_ble_eq_true rfl, Nat.le_of_ble_eq_true rfl⟩) hK hP hD hS hA (ci := 0) (q0 := 0) rfl rfl [0] [1, 2, 3, 4, 5, 6] [6, 0, 1, 2, 3, 4, 5] rfl rfl (by decide) (by decide) rfl rfl (by decide) rfl hl.1 rfl (Nat.le_of_ble_eq_true rfl) dO_steady_1 ⟨Nat.le_of_ble_eq_true rfl, Nat.le_of_ble_eq_true rfl⟩ (fun E ce q9 H locs hex hP hD hS hce hcv hcl => hout hP hD hS (Nat.le_of_ble_eq_true rfl) (Nat.le_of_ble_eq_true rfl) (px_s hex) hce hcv hcl) (fun H locs hn1 hP hD hS => ?_)
  have hr1 := qn_run hn1 hrn hro
  refine lv_iload_n hx hb dO_steady_4 rfl (lv_at hl 1 rfl) ?_
  refine lv_iconst (v := 0) hx hb dO_steady_5 (by decide) ?_
  refine lv_aload_n hx hb dO_steady_6 rfl (lv_at hl 0 rfl) ?_
  refine va_get (D := (dC, dI)) (ci := 0) (v := .int (nI sd)) (C := "OutlookOdds") (T := TO) (N := 17) hx hb hts inO hown hK hP 0 rfl rfl 15 (by decide) (hts _ mq_1_71) (fun _ h9 => h9) rfl dO_steady_7 ?_
  refine lv_iconst (v := 1) hx hb dO_steady_10 (by decide) ?_
  refine lv_isub hx hb dO_steady_11 ?_
  refine qx_callSv (As := [.int a0, .int 0, .int ((nI sd) - 1)]) (rest := []) (wr := [(o0, .inr (0, [.ref o1, .ref o2, .ref o3, .ref o4, .int (nI ru), .int yg, .int ch, .int (nI sp), .int (nI dl), .int mk, .ref o5, .ref o6, .ref o7, .int (nI rr), .int (nI yr), .int (nI sd), .int (nI rn)])), (o5, .inr (2, [.ref qg])), (qg, .inl (cG, 4, .inr (.inr (.inr (.inr (pf_gf qr)))))), (qr 0, .inl (cJ, 320, .inr (.inl (M 0)))), (qr 1, .inl (cJ, 320, .inr (.inl (M 1)))), (qr 2, .inl (cJ, 320, .inr (.inl (M 2)))), (qr 3, .inl (cJ, 320, .inr (.inl (M 3))))]) (ws2 := [(o0, .inr (0, [.ref o1, .ref o2, .ref o3, .ref o4, .int (nI ru), .int yg, .int ch, .int (nI sp), .int (nI dl), .int mk, .ref o5, .ref o6, .ref o7, .int (nI rr), .int (nI yr), .int (nI sd), .int (nI rn)])), (o5, .inr (2, [.ref qg])), (qg, .inl (cG, 4, .inr (.inr (.inr (.inr (pf_gf qr)))))), (qr 0, .inl (cJ, 320, .inr (.inl (M 0)))), (qr 1, .inl (cJ, 320, .inr (.inl (M 1)))), (qr 2, .inl (cJ, 320, .inr (.inl (M 2)))), (qr 3, .inl (cJ, 320, .inr (.inl (M 3))))]) qZ_ok hZ ⟨hx, hb, hml, hown, hts⟩ (c_requirePlace l dC dI cI cJ cG a0 0 ((nI sd) - 1) hst) (va_cwS 3 hts (qg_S mq_1_126 mq_1_127 mq_1_1 mq_1_128) rfl rfl rfl (by decide +kernel) ⟨Nat.le_of_ble_eq_true rfl, Nat.le_of_ble_eq_true rfl⟩) hK hP hD hS hA [] [0, 1, 2, 3, 4, 5, 6] [0, 1, 2, 3, 4, 5, 6] rfl rfl (by decide) (by decide) rfl rfl (by decide) rfl hl.1 rfl (Nat.le_of_ble_eq_true rfl) dO_steady_12 ⟨Nat.le_of_ble_eq_true rfl, Nat.le_of_ble_eq_true rfl⟩ (fun E ce q9 H locs hex hP hD hS hce hcv hcl => hout hP hD hS (Nat.le_of_ble_eq_true rfl) (Nat.le_of_ble_eq_true rfl) (px_n hn1 hex) hce hcv hcl) (fun H locs hn12 hP hD hS => ?_)
  have hp0 := qn_plm hn12 (by omega)
  refine lv_lconst (v := 0) hx hb dO_steady_15 (by decide) ?_
  refine lv_lstore_n (lv' := [(2, .long 0), (0, .ref o0), (1, .int a0)]) hx hb dO_steady_16 rfl hl (by decide) rfl (fun ls hl => ?_)
  refine lv_iconst (v := 2) hx hb dO_steady_17 (by decide) ?_
  refine lv_istore (lv' := [(4, .int 2), (2, .long 0), (0, .ref o0), (1, .int a0)]) hx hb dO_steady_18 hl (by decide) rfl (fun ls hl => ?_)
  have lp_20 : ∀ (n : Nat) (k : Nat), yr - k < n → k ≤ yr - 1 → ∀ (H : Heap) (locs : List Loc), va_P (dC, dI) qCl [(o0, .inr (0, [.ref o1, .ref o2, .ref o3, .ref o4, .int (nI ru), .int yg, .int ch, .int (nI sp), .int (nI dl), .int mk, .ref o5, .ref o6, .ref o7, .int (nI rr), .int (nI yr), .int (nI sd), .int (nI rn)])), (o5, .inr (2, [.ref qg])), (qg, .inl (cG, 4, .inr (.inr (.inr (.inr (pf_gf qr)))))), (qr 0, .inl (cJ, 320, .inr (.inl (M 0)))), (qr 1, .inl (cJ, 320, .inr (.inl (M 1)))), (qr 2, .inl (cJ, 320, .inr (.inl (M 2)))), (qr 3, .inl (cJ, 320, .inr (.inl (M 3))))] H → va_D A [(o0, .inr (0, [.ref o1, .ref o2, .ref o3, .ref o4, .int (nI ru), .int yg, .int ch, .int (nI sp), .int (nI dl), .int mk, .ref o5, .ref o6, .ref o7, .int (nI rr), .int (nI yr), .int (nI sd), .int (nI rn)])), (o5, .inr (2, [.ref qg])), (qg, .inl (cG, 4, .inr (.inr (.inr (.inr (pf_gf qr)))))), (qr 0, .inl (cJ, 320, .inr (.inl (M 0)))), (qr 1, .inl (cJ, 320, .inr (.inl (M 1)))), (qr 2, .inl (cJ, 320, .inr (.inl (M 2)))), (qr 3, .inl (cJ, 320, .inr (.inl (M 3))))] → va_S A s.heap H locs → ∀ (ls : Array Slot), lv_has ls 5 [(0, .ref o0), (1, .int a0), (2, .long (pf_std (M 1) a0.toNatClampNeg k)), (4, .int (nI (k + 2)))] → W p l e ({ frames := 7, cells := 2, slots := 12, locals := 104 } : Room) s m args below meth c H locs 2 12 Q (F0 m 20 ls []) := by
    intro n_20
    induction n_20 with
    | zero => intro k hm; exact absurd hm (Nat.not_lt_zero _)
    | succ n_20 ih_20 =>
      intro k hm_20 hk H locs hP hD hS ls hl
      refine lv_iload hx hb dO_steady_20 (lv_at hl 3 rfl) ?_
      refine lv_aload_n hx hb dO_steady_22 rfl (lv_at hl 0 rfl) ?_
      refine va_get (D := (dC, dI)) (ci := 0) (v := .int (nI yr)) (C := "OutlookOdds") (T := TO) (N := 17) hx hb hts inO hown hK hP 0 rfl rfl 14 (by decide) (hts _ mq_1_70) (fun _ h9 => h9) rfl dO_steady_23 ?_
      refine lv_icmp_gt (tgt := 66) hx hb dO_steady_26 (by decide) (fun h26 => ?_) (fun h26 => ?_)
      · have e_k : k = yr - 1 := by have := qn_gtN h26 (by omega); omega
        have hP : va_P (dC, dI) qCl [(o0, .inr (0, [.ref o1, .ref o2, .ref o3, .ref o4, .int (nI ru), .int yg, .int ch, .int (nI sp), .int (nI dl), .int mk, .ref o5, .ref o6, .ref o7, .int (nI rr), .int (nI yr), .int (nI sd), .int (nI rn)])), (o5, .inr (2, [.ref qg])), (qg, .inl (cG, 4, .inr (.inr (.inr (.inr (pf_gf qr)))))), (qr 0, .inl (cJ, 320, .inr (.inl (M 0)))), (qr 1, .inl (cJ, 320, .inr (.inl (M 1)))), (qr 2, .inl (cJ, 320, .inr (.inl (M 2)))), (qr 3, .inl (cJ, 320, .inr (.inl (M 3))))] H := by first | exact hP | (rw [e_k] at hP; exact hP)
        have hD : va_D A [(o0, .inr (0, [.ref o1, .ref o2, .ref o3, .ref o4, .int (nI ru), .int yg, .int ch, .int (nI sp), .int (nI dl), .int mk, .ref o5, .ref o6, .ref o7, .int (nI rr), .int (nI yr), .int (nI sd), .int (nI rn)])), (o5, .inr (2, [.ref qg])), (qg, .inl (cG, 4, .inr (.inr (.inr (.inr (pf_gf qr)))))), (qr 0, .inl (cJ, 320, .inr (.inl (M 0)))), (qr 1, .inl (cJ, 320, .inr (.inl (M 1)))), (qr 2, .inl (cJ, 320, .inr (.inl (M 2)))), (qr 3, .inl (cJ, 320, .inr (.inl (M 3))))] := by first | exact hD | (rw [e_k] at hD; exact hD)
        have hl : lv_has ls 5 [(0, .ref o0), (1, .int a0), (2, .long (pf_std (M 1) a0.toNatClampNeg (yr - 1))), (4, .int (nI ((yr - 1) + 2)))] := by first | exact hl | (rw [e_k] at hl; exact hl)
        refine lv_lload_n hx hb dO_steady_66 rfl (lv_at hl 2 rfl) ?_
        exact hret hP hD hS (Nat.le_of_ble_eq_true rfl) (Nat.le_of_ble_eq_true rfl) (px_n hn1 hn12) (rfl) dO_steady_67
      · have hlk : k + 2 ≤ yr := qn_ngtN h26 (by omega)
        refine lv_lload_n hx hb dO_steady_29 rfl (lv_at hl 2 rfl) ?_
        refine lv_aload_n hx hb dO_steady_30 rfl (lv_at hl 0 rfl) ?_
        refine va_get (D := (dC, dI)) (ci := 0) (v := .ref o5) (C := "OutlookOdds") (T := TO) (N := 17) hx hb hts inO hown hK hP 0 rfl rfl 10 (by decide) (hts _ mq_1_66) (fun _ h9 => h9) rfl dO_steady_31 ?_
        refine lv_iconst (v := 1) hx hb dO_steady_34 (by decide) ?_
        refine lv_iload_n hx hb dO_steady_35 rfl (lv_at hl 1 rfl) ?_
        refine qr_topi (y := nI a0.toNatClampNeg) (hp0.1) ?_
        refine lv_iload hx hb dO_steady_36 (lv_at hl 3 rfl) ?_
        refine qr_callVl (As := [.int 1, .int (nI a0.toNatClampNeg), .int (nI (k + 2))]) (rest := [.long (pf_std (M 1) a0.toNatClampNeg k)]) (wr := [(o0, .inr (0, [.ref o1, .ref o2, .ref o3, .ref o4, .int (nI ru), .int yg, .int ch, .int (nI sp), .int (nI dl), .int mk, .ref o5, .ref o6, .ref o7, .int (nI rr), .int (nI yr), .int (nI sd), .int (nI rn)]))]) (ws2 := [(o0, .inr (0, [.ref o1, .ref o2, .ref o3, .ref o4, .int (nI ru), .int yg, .int ch, .int (nI sp), .int (nI dl), .int mk, .ref o5, .ref o6, .ref o7, .int (nI rr), .int (nI yr), .int (nI sd), .int (nI rn)])), (o5, .inr (2, [.ref qg])), (qg, .inl (cG, 4, .inr (.inr (.inr (.inr (pf_gf qr)))))), (qr 0, .inl (cJ, 320, .inr (.inl (M 0)))), (qr 1, .inl (cJ, 320, .inr (.inl (M 1)))), (qr 2, .inl (cJ, 320, .inr (.inl (M 2)))), (qr 3, .inl (cJ, 320, .inr (.inl (M 3))))]) ⟨hx, hb, hml, hown, hts⟩ (c_Story_get l dC dI cI cJ cG o5 qg qr M 1 a0.toNatClampNeg (k + 2) (by omega) (by omega) (by omega) (by omega)) (cwV 3 hts (qg_V mq_2_71 mq_2_72 mq_2_73 mq_1_3 mq_2_74) rfl rfl rfl (by decide +kernel) ⟨Nat.le_of_ble_eq_true rfl, Nat.le_of_ble_eq_true rfl⟩) hK hP hD hS hA (ci := 2) (q0 := 1) rfl rfl [1, 2, 3, 4, 5, 6] [0] [0, 1, 2, 3, 4, 5, 6] rfl rfl (by decide) (by decide) rfl (by decide) rfl hl.1 rfl (Nat.le_of_ble_eq_true rfl) dO_steady_38 ⟨Nat.le_of_ble_eq_true rfl, Nat.le_of_ble_eq_true rfl⟩ (fun H locs hP hD hS => ?_)
        refine lv_aload_n hx hb dO_steady_41 rfl (lv_at hl 0 rfl) ?_
        refine va_get (D := (dC, dI)) (ci := 0) (v := .ref o5) (C := "OutlookOdds") (T := TO) (N := 17) hx hb hts inO hown hK hP 0 rfl rfl 10 (by decide) (hts _ mq_1_66) (fun _ h9 => h9) rfl dO_steady_42 ?_
        refine lv_iconst (v := 1) hx hb dO_steady_45 (by decide) ?_
        refine lv_iload_n hx hb dO_steady_46 rfl (lv_at hl 1 rfl) ?_
        refine qr_topi (y := nI a0.toNatClampNeg) (hp0.1) ?_
        refine lv_iload hx hb dO_steady_47 (lv_at hl 3 rfl) ?_
        refine lv_iconst (v := 1) hx hb dO_steady_49 (by decide) ?_
        refine lv_isub hx hb dO_steady_50 ?_
        refine qr_topi (y := nI (k + 2 - 1)) (qn_sub1 (by omega)) ?_
        refine qr_callVl (As := [.int 1, .int (nI a0.toNatClampNeg), .int (nI (k + 2 - 1))]) (rest := [.long (M 1 (pf_ix a0.toNatClampNeg (k + 2))), .long (pf_std (M 1) a0.toNatClampNeg k)]) (wr := [(o0, .inr (0, [.ref o1, .ref o2, .ref o3, .ref o4, .int (nI ru), .int yg, .int ch, .int (nI sp), .int (nI dl), .int mk, .ref o5, .ref o6, .ref o7, .int (nI rr), .int (nI yr), .int (nI sd), .int (nI rn)]))]) (ws2 := [(o0, .inr (0, [.ref o1, .ref o2, .ref o3, .ref o4, .int (nI ru), .int yg, .int ch, .int (nI sp), .int (nI dl), .int mk, .ref o5, .ref o6, .ref o7, .int (nI rr), .int (nI yr), .int (nI sd), .int (nI rn)])), (o5, .inr (2, [.ref qg])), (qg, .inl (cG, 4, .inr (.inr (.inr (.inr (pf_gf qr)))))), (qr 0, .inl (cJ, 320, .inr (.inl (M 0)))), (qr 1, .inl (cJ, 320, .inr (.inl (M 1)))), (qr 2, .inl (cJ, 320, .inr (.inl (M 2)))), (qr 3, .inl (cJ, 320, .inr (.inl (M 3))))]) ⟨hx, hb, hml, hown, hts⟩ (c_Story_get l dC dI cI cJ cG o5 qg qr M 1 a0.toNatClampNeg (k + 2 - 1) (by omega) (by omega) (by omega) (by omega)) (cwV 3 hts (qg_V mq_2_71 mq_2_72 mq_2_73 mq_1_3 mq_2_74) rfl rfl rfl (by decide +kernel) ⟨Nat.le_of_ble_eq_true rfl, Nat.le_of_ble_eq_true rfl⟩) hK hP hD hS hA (ci := 2) (q0 := 1) rfl rfl [1, 2, 3, 4, 5, 6] [0] [0, 1, 2, 3, 4, 5, 6] rfl rfl (by decide) (by decide) rfl (by decide) rfl hl.1 rfl (Nat.le_of_ble_eq_true rfl) dO_steady_51 ⟨Nat.le_of_ble_eq_true rfl, Nat.le_of_ble_eq_true rfl⟩ (fun H locs hP hD hS => ?_)
        refine lv_lsub hx hb dO_steady_54 ?_
        refine va_mabs_long hx hb (by rw [hml]; exact hl.1.symm) hown (hts _ mq_2_155) (hts _ mq_2_156) (hts _ mq_1_11) (hts _ mq_2_157) (Nat.le_of_ble_eq_true rfl) (by exact Nat.le_of_ble_eq_true rfl) (by exact Nat.le_of_ble_eq_true rfl) (by exact Nat.le_of_ble_eq_true rfl) dO_steady_55 ?_
        refine lv_ladd hx hb dO_steady_58 ?_
        refine lv_lstore_n (lv' := [(2, .long ((pf_std (M 1) a0.toNatClampNeg k) + (pf_abs ((M 1 (pf_ix a0.toNatClampNeg (k + 2))) - (M 1 (pf_ix a0.toNatClampNeg (k + 2 - 1))))))), (0, .ref o0), (1, .int a0), (4, .int (nI (k + 2)))]) hx hb dO_steady_59 rfl hl (by decide) rfl (fun ls hl => ?_)
        refine lv_iinc (v := nI (k + 1 + 2)) (lv' := [(4, .int (nI (k + 1 + 2))), (2, .long ((pf_std (M 1) a0.toNatClampNeg k) + (pf_abs ((M 1 (pf_ix a0.toNatClampNeg (k + 2))) - (M 1 (pf_ix a0.toNatClampNeg (k + 2 - 1))))))), (0, .ref o0), (1, .int a0)]) hx hb dO_steady_60 hl (k := 3) rfl ((nI_1 _).trans (by rw [Nat.add_right_comm])) (by decide) rfl (fun ls hl => ?_)
        refine lv_goto (tgt := 20) hx hb dO_steady_63 (by decide) ?_
        exact ih_20 (k + 1) (by omega) (by omega) _ _ hP hD hS ls (lv_sub hl [2, 3, 1, 0] rfl)
  exact lp_20 ((yr - 0) + 1) 0 (by omega) (by omega) _ _ hP hD hS ls (lv_sub hl [2, 3, 1, 0] rfl)

set_option maxHeartbeats 4000000 in
set_option maxRecDepth 100000 in
theorem c_recovers (o0 o1 o2 o3 o4 o5 o6 o7 ru sp dl rr yr sd rn : Nat) (yg ch mk : Int32) (qg : Nat) (qr : Nat → Nat) (M : Nat → Nat → Int64) (a0 a1 : Int32) (hst : l.stackTraces = false) (hrn : rn < 2 ^ 31) (hsd : sd ≤ 16) (hyr : yr ≤ 20) (hro : rn = 0 ∨ (1 ≤ sd ∧ 1 ≤ yr ∧ rr < 6)) : qXi qZ l yO_recovers (wO_recovers) ({ frames := 7, cells := 3, slots := 18, locals := 104 } : Room) (dC, dI) qCl [(cI, .int), (cJ, .long), (cG, .array .long)] [.ref o0, .int a0, .int a1] [(o0, .inr (0, [.ref o1, .ref o2, .ref o3, .ref o4, .int (nI ru), .int yg, .int ch, .int (nI sp), .int (nI dl), .int mk, .ref o5, .ref o6, .ref o7, .int (nI rr), .int (nI yr), .int (nI sd), .int (nI rn)])), (o5, .inr (2, [.ref qg])), (qg, .inl (cG, 4, .inr (.inr (.inr (.inr (pf_gf qr)))))), (qr 0, .inl (cJ, 320, .inr (.inl (M 0)))), (qr 1, .inl (cJ, 320, .inr (.inl (M 1)))), (qr 2, .inl (cJ, 320, .inr (.inl (M 2)))), (qr 3, .inl (cJ, 320, .inr (.inl (M 3))))] [(o0, .inr (0, [.ref o1, .ref o2, .ref o3, .ref o4, .int (nI ru), .int yg, .int ch, .int (nI sp), .int (nI dl), .int mk, .ref o5, .ref o6, .ref o7, .int (nI rr), .int (nI yr), .int (nI sd), .int (nI rn)])), (o5, .inr (2, [.ref qg])), (qg, .inl (cG, 4, .inr (.inr (.inr (.inr (pf_gf qr)))))), (qr 0, .inl (cJ, 320, .inr (.inl (M 0)))), (qr 1, .inl (cJ, 320, .inr (.inl (M 1)))), (qr 2, .inl (cJ, 320, .inr (.inl (M 2)))), (qr 3, .inl (cJ, 320, .inr (.inl (M 3))))] (px_or (px_run (nI rn)) (px_or (px_place a0 0 ((nI sd) - 1)) (px_num a1 1 20))) (pf_rc (M 0) mk a0.toNatClampNeg a1.toNatClampNeg yr) 3 18 := by
  refine qx_i (cc := prog_1_method_13_code) (maxL := 5) (by decide) rfl (Nat.le_of_ble_eq_true rfl) ?_
  intro p e s m args below meth c Q A ls hx hb hml hown hnm hts hA hK hP hD hS hl hZ hret hout hfin
  have hl : lv_has ls 5 [(0, .ref o0), (1, .int a0), (2, .int a1)] := hl
  refine lv_aload_n hx hb dO_recovers_0 rfl (lv_at hl 0 rfl) ?_
  refine qx_callVv (As := []) (rest := []) (wr := [(o5, .inr (2, [.ref qg])), (qg, .inl (cG, 4, .inr (.inr (.inr (.inr (pf_gf qr)))))), (qr 0, .inl (cJ, 320, .inr (.inl (M 0)))), (qr 1, .inl (cJ, 320, .inr (.inl (M 1)))), (qr 2, .inl (cJ, 320, .inr (.inl (M 2)))), (qr 3, .inl (cJ, 320, .inr (.inl (M 3))))]) (ws2 := [(o0, .inr (0, [.ref o1, .ref o2, .ref o3, .ref o4, .int (nI ru), .int yg, .int ch, .int (nI sp), .int (nI dl), .int mk, .ref o5, .ref o6, .ref o7, .int (nI rr), .int (nI yr), .int (nI sd), .int (nI rn)])), (o5, .inr (2, [.ref qg])), (qg, .inl (cG, 4, .inr (.inr (.inr (.inr (pf_gf qr)))))), (qr 0, .inl (cJ, 320, .inr (.inl (M 0)))), (qr 1, .inl (cJ, 320, .inr (.inl (M 1)))), (qr 2, .inl (cJ, 320, .inr (.inl (M 2)))), (qr 3, .inl (cJ, 320, .inr (.inl (M 3))))]) qZ_ok hZ ⟨hx, hb, hml, hown, hts⟩ (c_requireRun l dC dI cI cJ cG o0 o1 o2 o3 o4 o5 o6 o7 ru sp dl rr yr sd rn yg ch mk hst) (cwV 0 hts (qg_V mq_2_130 mq_2_132 mq_p_10 mq_1_1 mq_2_133) rfl rfl rfl (by decide +kernel) ⟨Nat.le_of_ble_eq_true rfl, Nat.le_of_ble_eq_true rfl⟩) hK hP hD hS hA (ci := 0) (q0 := 0) rfl rfl [0] [1, 2, 3, 4, 5, 6] [6, 0, 1, 2, 3, 4, 5] rfl rfl (by decide) (by decide) rfl rfl (by decide) rfl hl.1 rfl (Nat.le_of_ble_eq_true rfl) dO_recovers_1 ⟨Nat.le_of_ble_eq_true rfl, Nat.le_of_ble_eq_true rfl⟩ (fun E ce q9 H locs hex hP hD hS hce hcv hcl => hout hP hD hS (Nat.le_of_ble_eq_true rfl) (Nat.le_of_ble_eq_true rfl) (px_s hex) hce hcv hcl) (fun H locs hn1 hP hD hS => ?_)
  have hr1 := qn_run hn1 hrn hro
  refine lv_iload_n hx hb dO_recovers_4 rfl (lv_at hl 1 rfl) ?_
  refine lv_iconst (v := 0) hx hb dO_recovers_5 (by decide) ?_
  refine lv_aload_n hx hb dO_recovers_6 rfl (lv_at hl 0 rfl) ?_
  refine va_get (D := (dC, dI)) (ci := 0) (v := .int (nI sd)) (C := "OutlookOdds") (T := TO) (N := 17) hx hb hts inO hown hK hP 0 rfl rfl 15 (by decide) (hts _ mq_1_71) (fun _ h9 => h9) rfl dO_recovers_7 ?_
  refine lv_iconst (v := 1) hx hb dO_recovers_10 (by decide) ?_
  refine lv_isub hx hb dO_recovers_11 ?_
  refine qx_callSv (As := [.int a0, .int 0, .int ((nI sd) - 1)]) (rest := []) (wr := [(o0, .inr (0, [.ref o1, .ref o2, .ref o3, .ref o4, .int (nI ru), .int yg, .int ch, .int (nI sp), .int (nI dl), .int mk, .ref o5, .ref o6, .ref o7, .int (nI rr), .int (nI yr), .int (nI sd), .int (nI rn)])), (o5, .inr (2, [.ref qg])), (qg, .inl (cG, 4, .inr (.inr (.inr (.inr (pf_gf qr)))))), (qr 0, .inl (cJ, 320, .inr (.inl (M 0)))), (qr 1, .inl (cJ, 320, .inr (.inl (M 1)))), (qr 2, .inl (cJ, 320, .inr (.inl (M 2)))), (qr 3, .inl (cJ, 320, .inr (.inl (M 3))))]) (ws2 := [(o0, .inr (0, [.ref o1, .ref o2, .ref o3, .ref o4, .int (nI ru), .int yg, .int ch, .int (nI sp), .int (nI dl), .int mk, .ref o5, .ref o6, .ref o7, .int (nI rr), .int (nI yr), .int (nI sd), .int (nI rn)])), (o5, .inr (2, [.ref qg])), (qg, .inl (cG, 4, .inr (.inr (.inr (.inr (pf_gf qr)))))), (qr 0, .inl (cJ, 320, .inr (.inl (M 0)))), (qr 1, .inl (cJ, 320, .inr (.inl (M 1)))), (qr 2, .inl (cJ, 320, .inr (.inl (M 2)))), (qr 3, .inl (cJ, 320, .inr (.inl (M 3))))]) qZ_ok hZ ⟨hx, hb, hml, hown, hts⟩ (c_requirePlace l dC dI cI cJ cG a0 0 ((nI sd) - 1) hst) (va_cwS 3 hts (qg_S mq_1_126 mq_1_127 mq_1_1 mq_1_128) rfl rfl rfl (by decide +kernel) ⟨Nat.le_of_ble_eq_true rfl, Nat.le_of_ble_eq_true rfl⟩) hK hP hD hS hA [] [0, 1, 2, 3, 4, 5, 6] [0, 1, 2, 3, 4, 5, 6] rfl rfl (by decide) (by decide) rfl rfl (by decide) rfl hl.1 rfl (Nat.le_of_ble_eq_true rfl) dO_recovers_12 ⟨Nat.le_of_ble_eq_true rfl, Nat.le_of_ble_eq_true rfl⟩ (fun E ce q9 H locs hex hP hD hS hce hcv hcl => hout hP hD hS (Nat.le_of_ble_eq_true rfl) (Nat.le_of_ble_eq_true rfl) (px_n hn1 (px_s hex)) hce hcv hcl) (fun H locs hn12 hP hD hS => ?_)
  refine lv_iload_n hx hb dO_recovers_15 rfl (lv_at hl 2 rfl) ?_
  refine lv_iconst (v := 1) hx hb dO_recovers_16 (by decide) ?_
  refine lv_bipush (v := 20) hx hb dO_recovers_17 (by decide) ?_
  refine qx_callSv (As := [.int a1, .int 1, .int 20]) (rest := []) (wr := [(o0, .inr (0, [.ref o1, .ref o2, .ref o3, .ref o4, .int (nI ru), .int yg, .int ch, .int (nI sp), .int (nI dl), .int mk, .ref o5, .ref o6, .ref o7, .int (nI rr), .int (nI yr), .int (nI sd), .int (nI rn)])), (o5, .inr (2, [.ref qg])), (qg, .inl (cG, 4, .inr (.inr (.inr (.inr (pf_gf qr)))))), (qr 0, .inl (cJ, 320, .inr (.inl (M 0)))), (qr 1, .inl (cJ, 320, .inr (.inl (M 1)))), (qr 2, .inl (cJ, 320, .inr (.inl (M 2)))), (qr 3, .inl (cJ, 320, .inr (.inl (M 3))))]) (ws2 := [(o0, .inr (0, [.ref o1, .ref o2, .ref o3, .ref o4, .int (nI ru), .int yg, .int ch, .int (nI sp), .int (nI dl), .int mk, .ref o5, .ref o6, .ref o7, .int (nI rr), .int (nI yr), .int (nI sd), .int (nI rn)])), (o5, .inr (2, [.ref qg])), (qg, .inl (cG, 4, .inr (.inr (.inr (.inr (pf_gf qr)))))), (qr 0, .inl (cJ, 320, .inr (.inl (M 0)))), (qr 1, .inl (cJ, 320, .inr (.inl (M 1)))), (qr 2, .inl (cJ, 320, .inr (.inl (M 2)))), (qr 3, .inl (cJ, 320, .inr (.inl (M 3))))]) qZ_ok hZ ⟨hx, hb, hml, hown, hts⟩ (c_requireNumber l dC dI cI cJ cG a1 1 20 hst) (va_cwS 3 hts (qg_S mq_1_198 mq_1_199 mq_1_1 mq_1_200) rfl rfl rfl (by decide +kernel) ⟨Nat.le_of_ble_eq_true rfl, Nat.le_of_ble_eq_true rfl⟩) hK hP hD hS hA [] [0, 1, 2, 3, 4, 5, 6] [0, 1, 2, 3, 4, 5, 6] rfl rfl (by decide) (by decide) rfl rfl (by decide) rfl hl.1 rfl (Nat.le_of_ble_eq_true rfl) dO_recovers_19 ⟨Nat.le_of_ble_eq_true rfl, Nat.le_of_ble_eq_true rfl⟩ (fun E ce q9 H locs hex hP hD hS hce hcv hcl => hout hP hD hS (Nat.le_of_ble_eq_true rfl) (Nat.le_of_ble_eq_true rfl) (px_n hn1 (px_n hn12 hex)) hce hcv hcl) (fun H locs hn19 hP hD hS => ?_)
  have hp0 := qn_plm hn12 (by omega)
  have hp1 := qn_nu (f := 1) (t := 20) hn19 (by decide) (by decide)
  refine lv_iconst (v := 0) hx hb dO_recovers_22 (by decide) ?_
  refine lv_istore_n (lv' := [(3, .int 0), (0, .ref o0), (1, .int a0), (2, .int a1)]) hx hb dO_recovers_23 rfl hl (by decide) rfl (fun ls hl => ?_)
  refine lv_iconst (v := 1) hx hb dO_recovers_24 (by decide) ?_
  refine lv_istore (lv' := [(4, .int 1), (3, .int 0), (0, .ref o0), (1, .int a0), (2, .int a1)]) hx hb dO_recovers_25 hl (by decide) rfl (fun ls hl => ?_)
  have lp_27 : ∀ (n : Nat) (k : Nat), yr - k < n → k ≤ yr → pf_rc (M 0) mk a0.toNatClampNeg a1.toNatClampNeg k = -1 → ∀ (H : Heap) (locs : List Loc), va_P (dC, dI) qCl [(o0, .inr (0, [.ref o1, .ref o2, .ref o3, .ref o4, .int (nI ru), .int yg, .int ch, .int (nI sp), .int (nI dl), .int mk, .ref o5, .ref o6, .ref o7, .int (nI rr), .int (nI yr), .int (nI sd), .int (nI rn)])), (o5, .inr (2, [.ref qg])), (qg, .inl (cG, 4, .inr (.inr (.inr (.inr (pf_gf qr)))))), (qr 0, .inl (cJ, 320, .inr (.inl (M 0)))), (qr 1, .inl (cJ, 320, .inr (.inl (M 1)))), (qr 2, .inl (cJ, 320, .inr (.inl (M 2)))), (qr 3, .inl (cJ, 320, .inr (.inl (M 3))))] H → va_D A [(o0, .inr (0, [.ref o1, .ref o2, .ref o3, .ref o4, .int (nI ru), .int yg, .int ch, .int (nI sp), .int (nI dl), .int mk, .ref o5, .ref o6, .ref o7, .int (nI rr), .int (nI yr), .int (nI sd), .int (nI rn)])), (o5, .inr (2, [.ref qg])), (qg, .inl (cG, 4, .inr (.inr (.inr (.inr (pf_gf qr)))))), (qr 0, .inl (cJ, 320, .inr (.inl (M 0)))), (qr 1, .inl (cJ, 320, .inr (.inl (M 1)))), (qr 2, .inl (cJ, 320, .inr (.inl (M 2)))), (qr 3, .inl (cJ, 320, .inr (.inl (M 3))))] → va_S A s.heap H locs → ∀ (ls : Array Slot), lv_has ls 5 [(0, .ref o0), (1, .int a0), (2, .int a1), (3, .int (nI (pf_gc (M 0) mk a0.toNatClampNeg k))), (4, .int (nI (k + 1)))] → W p l e ({ frames := 7, cells := 3, slots := 18, locals := 104 } : Room) s m args below meth c H locs 3 18 Q (F0 m 27 ls []) := by
    intro n_27
    induction n_27 with
    | zero => intro k hm; exact absurd hm (Nat.not_lt_zero _)
    | succ n_27 ih_27 =>
      intro k hm_27 hk hv H locs hP hD hS ls hl
      refine lv_iload hx hb dO_recovers_27 (lv_at hl 4 rfl) ?_
      refine lv_aload_n hx hb dO_recovers_29 rfl (lv_at hl 0 rfl) ?_
      refine va_get (D := (dC, dI)) (ci := 0) (v := .int (nI yr)) (C := "OutlookOdds") (T := TO) (N := 17) hx hb hts inO hown hK hP 0 rfl rfl 14 (by decide) (hts _ mq_1_70) (fun _ h9 => h9) rfl dO_recovers_30 ?_
      refine lv_icmp_gt (tgt := 72) hx hb dO_recovers_33 (by decide) (fun h33 => ?_) (fun h33 => ?_)
      · have e_k : k = yr := qn_gt h33 (by omega) hk
        have hP : va_P (dC, dI) qCl [(o0, .inr (0, [.ref o1, .ref o2, .ref o3, .ref o4, .int (nI ru), .int yg, .int ch, .int (nI sp), .int (nI dl), .int mk, .ref o5, .ref o6, .ref o7, .int (nI rr), .int (nI yr), .int (nI sd), .int (nI rn)])), (o5, .inr (2, [.ref qg])), (qg, .inl (cG, 4, .inr (.inr (.inr (.inr (pf_gf qr)))))), (qr 0, .inl (cJ, 320, .inr (.inl (M 0)))), (qr 1, .inl (cJ, 320, .inr (.inl (M 1)))), (qr 2, .inl (cJ, 320, .inr (.inl (M 2)))), (qr 3, .inl (cJ, 320, .inr (.inl (M 3))))] H := by first | exact hP | (rw [e_k] at hP; exact hP)
        have hD : va_D A [(o0, .inr (0, [.ref o1, .ref o2, .ref o3, .ref o4, .int (nI ru), .int yg, .int ch, .int (nI sp), .int (nI dl), .int mk, .ref o5, .ref o6, .ref o7, .int (nI rr), .int (nI yr), .int (nI sd), .int (nI rn)])), (o5, .inr (2, [.ref qg])), (qg, .inl (cG, 4, .inr (.inr (.inr (.inr (pf_gf qr)))))), (qr 0, .inl (cJ, 320, .inr (.inl (M 0)))), (qr 1, .inl (cJ, 320, .inr (.inl (M 1)))), (qr 2, .inl (cJ, 320, .inr (.inl (M 2)))), (qr 3, .inl (cJ, 320, .inr (.inl (M 3))))] := by first | exact hD | (rw [e_k] at hD; exact hD)
        have hl : lv_has ls 5 [(0, .ref o0), (1, .int a0), (2, .int a1), (3, .int (nI (pf_gc (M 0) mk a0.toNatClampNeg yr))), (4, .int (nI (yr + 1)))] := by first | exact hl | (rw [e_k] at hl; exact hl)
        refine lv_iconst (v := -1) hx hb dO_recovers_72 (by decide) ?_
        exact hret hP hD hS (Nat.le_of_ble_eq_true rfl) (Nat.le_of_ble_eq_true rfl) (px_n hn1 (px_n hn12 hn19)) (by rw [← e_k]; exact hv.symm) dO_recovers_73
      · have hlk : k < yr := qn_ngt h33 (by omega)
        refine lv_aload_n hx hb dO_recovers_36 rfl (lv_at hl 0 rfl) ?_
        refine lv_iload_n hx hb dO_recovers_37 rfl (lv_at hl 1 rfl) ?_
        refine qr_topi (y := nI a0.toNatClampNeg) (hp0.1) ?_
        refine lv_iload hx hb dO_recovers_38 (lv_at hl 4 rfl) ?_
        refine qr_callVi (As := [.int (nI a0.toNatClampNeg), .int (nI (k + 1))]) (rest := []) (wr := []) (ws2 := [(o0, .inr (0, [.ref o1, .ref o2, .ref o3, .ref o4, .int (nI ru), .int yg, .int ch, .int (nI sp), .int (nI dl), .int mk, .ref o5, .ref o6, .ref o7, .int (nI rr), .int (nI yr), .int (nI sd), .int (nI rn)])), (o5, .inr (2, [.ref qg])), (qg, .inl (cG, 4, .inr (.inr (.inr (.inr (pf_gf qr)))))), (qr 0, .inl (cJ, 320, .inr (.inl (M 0)))), (qr 1, .inl (cJ, 320, .inr (.inl (M 1)))), (qr 2, .inl (cJ, 320, .inr (.inl (M 2)))), (qr 3, .inl (cJ, 320, .inr (.inl (M 3))))]) ⟨hx, hb, hml, hown, hts⟩ (c_isBelowMark l dC dI cI cJ cG o0 o1 o2 o3 o4 o5 o6 o7 ru sp dl rr yr sd rn yg ch mk qg qr M a0.toNatClampNeg (k + 1) (by omega) (by omega) (by omega)) (cwV 2 hts (qg_V mq_2_119 mq_2_121 mq_p_9 mq_1_1 mq_2_122) rfl rfl rfl (by decide +kernel) ⟨Nat.le_of_ble_eq_true rfl, Nat.le_of_ble_eq_true rfl⟩) hK hP hD hS hA (ci := 0) (q0 := 0) rfl rfl [0, 1, 2, 3, 4, 5, 6] [] [0, 1, 2, 3, 4, 5, 6] rfl rfl (by decide) (by decide) rfl (by decide) rfl hl.1 rfl (Nat.le_of_ble_eq_true rfl) dO_recovers_40 ⟨Nat.le_of_ble_eq_true rfl, Nat.le_of_ble_eq_true rfl⟩ (fun H locs hP hD hS => ?_)
        refine lv_if_eq (tgt := 50) hx hb dO_recovers_43 (by decide) (fun h43 => ?_) (fun h43 => ?_)
        · refine lv_iload_n hx hb dO_recovers_50 rfl (lv_at hl 3 rfl) ?_
          refine lv_iconst (v := 1) hx hb dO_recovers_51 (by decide) ?_
          refine lv_iadd hx hb dO_recovers_52 ?_
          refine qr_topi (y := nI (pf_gc (M 0) mk a0.toNatClampNeg (k + 1))) (by rw [show pf_gc (M 0) mk a0.toNatClampNeg (k + 1) = pf_gc (M 0) mk a0.toNatClampNeg k + 1 from if_pos h43]; exact nI_1 _) ?_
          refine lv_istore_n (lv' := [(3, .int (nI (pf_gc (M 0) mk a0.toNatClampNeg (k + 1)))), (0, .ref o0), (1, .int a0), (2, .int a1), (4, .int (nI (k + 1)))]) hx hb dO_recovers_53 rfl hl (by decide) rfl (fun ls hl => ?_)
          refine lv_iload_n hx hb dO_recovers_54 rfl (lv_at hl 0 rfl) ?_
          refine lv_iload_n hx hb dO_recovers_55 rfl (lv_at hl 3 rfl) ?_
          refine qr_topi (y := nI a1.toNatClampNeg) (hp1.1) ?_
          refine lv_icmp_ne (tgt := 66) hx hb dO_recovers_56 (by decide) (fun h56 => ?_) (fun h56 => ?_)
          · refine lv_iinc (v := nI ((k + 1) + 1)) (lv' := [(4, .int (nI ((k + 1) + 1))), (3, .int (nI (pf_gc (M 0) mk a0.toNatClampNeg (k + 1)))), (0, .ref o0), (1, .int a0), (2, .int a1)]) hx hb dO_recovers_66 hl (k := 4) rfl (nI_1 _) (by decide) rfl (fun ls hl => ?_)
            refine lv_goto (tgt := 27) hx hb dO_recovers_69 (by decide) ?_
            exact ih_27 (k + 1) (by omega) (by omega) (pf_rc_old hv (fun q => h56 (by rw [q]))) _ _ hP hD hS ls (lv_sub hl [2, 3, 4, 1, 0] rfl)
          · have hgs : pf_gc (M 0) mk a0.toNatClampNeg (k + 1) = a1.toNatClampNeg := (nI_eq (by have := pf_gc_le (M 0) mk a0.toNatClampNeg (k + 1); omega) (by omega)).mp h56
            have hgk : a1.toNatClampNeg ≤ k + 1 := by have := pf_gc_le (M 0) mk a0.toNatClampNeg (k + 1); omega
            refine lv_iload hx hb dO_recovers_59 (lv_at hl 4 rfl) ?_
            refine lv_iload_n hx hb dO_recovers_61 rfl (lv_at hl 3 rfl) ?_
            refine qr_topi (y := nI a1.toNatClampNeg) (hp1.1) ?_
            refine lv_isub hx hb dO_recovers_62 ?_
            refine qr_topi (y := nI (k + 1 - a1.toNatClampNeg)) (pk_sub hgk) ?_
            refine lv_iconst (v := 1) hx hb dO_recovers_63 (by decide) ?_
            refine lv_iadd hx hb dO_recovers_64 ?_
            refine qr_topi (y := nI (k + 1 - a1.toNatClampNeg + 1)) (nI_1 _) ?_
            exact hret hP hD hS (Nat.le_of_ble_eq_true rfl) (Nat.le_of_ble_eq_true rfl) (px_n hn1 (px_n hn12 hn19)) (pf_rc_at hlk hyr hv hgs) dO_recovers_65
        · refine lv_iconst (v := 0) hx hb dO_recovers_46 (by decide) ?_
          refine qr_topi (y := nI (pf_gc (M 0) mk a0.toNatClampNeg (k + 1))) (by rw [show pf_gc (M 0) mk a0.toNatClampNeg (k + 1) = 0 from if_neg h43]; rfl) ?_
          refine lv_goto (tgt := 53) hx hb dO_recovers_47 (by decide) ?_
          refine lv_istore_n (lv' := [(3, .int (nI (pf_gc (M 0) mk a0.toNatClampNeg (k + 1)))), (0, .ref o0), (1, .int a0), (2, .int a1), (4, .int (nI (k + 1)))]) hx hb dO_recovers_53 rfl hl (by decide) rfl (fun ls hl => ?_)
          refine lv_iload_n hx hb dO_recovers_54 rfl (lv_at hl 0 rfl) ?_
          refine lv_iload_n hx hb dO_recovers_55 rfl (lv_at hl 3 rfl) ?_
          refine qr_topi (y := nI a1.toNatClampNeg) (hp1.1) ?_
          refine lv_icmp_ne (tgt := 66) hx hb dO_recovers_56 (by decide) (fun h56 => ?_) (fun h56 => ?_)
          · refine lv_iinc (v := nI ((k + 1) + 1)) (lv' := [(4, .int (nI ((k + 1) + 1))), (3, .int (nI (pf_gc (M 0) mk a0.toNatClampNeg (k + 1)))), (0, .ref o0), (1, .int a0), (2, .int a1)]) hx hb dO_recovers_66 hl (k := 4) rfl (nI_1 _) (by decide) rfl (fun ls hl => ?_)
            refine lv_goto (tgt := 27) hx hb dO_recovers_69 (by decide) ?_
            exact ih_27 (k + 1) (by omega) (by omega) (pf_rc_old hv (fun q => h56 (by rw [q]))) _ _ hP hD hS ls (lv_sub hl [2, 3, 4, 1, 0] rfl)
          · have hgs : pf_gc (M 0) mk a0.toNatClampNeg (k + 1) = a1.toNatClampNeg := (nI_eq (by have := pf_gc_le (M 0) mk a0.toNatClampNeg (k + 1); omega) (by omega)).mp h56
            have hgk : a1.toNatClampNeg ≤ k + 1 := by have := pf_gc_le (M 0) mk a0.toNatClampNeg (k + 1); omega
            refine lv_iload hx hb dO_recovers_59 (lv_at hl 4 rfl) ?_
            refine lv_iload_n hx hb dO_recovers_61 rfl (lv_at hl 3 rfl) ?_
            refine qr_topi (y := nI a1.toNatClampNeg) (hp1.1) ?_
            refine lv_isub hx hb dO_recovers_62 ?_
            refine qr_topi (y := nI (k + 1 - a1.toNatClampNeg)) (pk_sub hgk) ?_
            refine lv_iconst (v := 1) hx hb dO_recovers_63 (by decide) ?_
            refine lv_iadd hx hb dO_recovers_64 ?_
            refine qr_topi (y := nI (k + 1 - a1.toNatClampNeg + 1)) (nI_1 _) ?_
            exact hret hP hD hS (Nat.le_of_ble_eq_true rfl) (Nat.le_of_ble_eq_true rfl) (px_n hn1 (px_n hn12 hn19)) (pf_rc_at hlk hyr hv hgs) dO_recovers_65
  exact lp_27 ((yr - 0) + 1) 0 (by omega) (by omega) rfl _ _ hP hD hS ls (lv_sub hl [2, 3, 4, 1, 0] rfl)

set_option maxHeartbeats 4000000 in
set_option maxRecDepth 100000 in
theorem c_rank (o0 o1 o2 o3 o4 o5 o6 o7 ru sp dl rr yr sd rn : Nat) (yg ch mk : Int32) (qg : Nat) (qr : Nat → Nat) (M : Nat → Nat → Int64) (od : Nat → Int64) (a0 a1 : Int32) (hst : l.stackTraces = false) (hrn : rn < 2 ^ 31) (hsd : sd ≤ 16) (hyr : yr ≤ 20) (hro : rn = 0 ∨ (1 ≤ sd ∧ 1 ≤ yr ∧ rr < 6)) : qXl qZ l yO_rank (wO_rank) ({ frames := 7, cells := 3, slots := 18, locals := 104 } : Room) (dC, dI) qCl [(cI, .int), (cJ, .long), (cG, .array .long)] [.ref o0, .int a0, .int a1] [(o0, .inr (0, [.ref o1, .ref o2, .ref o3, .ref o4, .int (nI ru), .int yg, .int ch, .int (nI sp), .int (nI dl), .int mk, .ref o5, .ref o6, .ref o7, .int (nI rr), .int (nI yr), .int (nI sd), .int (nI rn)])), (o5, .inr (2, [.ref qg])), (qg, .inl (cG, 4, .inr (.inr (.inr (.inr (pf_gf qr)))))), (qr 0, .inl (cJ, 320, .inr (.inl (M 0)))), (qr 1, .inl (cJ, 320, .inr (.inl (M 1)))), (qr 2, .inl (cJ, 320, .inr (.inl (M 2)))), (qr 3, .inl (cJ, 320, .inr (.inl (M 3)))), (o7, .inl (cJ, 16, .inr (.inl od)))] [(o0, .inr (0, [.ref o1, .ref o2, .ref o3, .ref o4, .int (nI ru), .int yg, .int ch, .int (nI sp), .int (nI dl), .int mk, .ref o5, .ref o6, .ref o7, .int (nI rr), .int (nI yr), .int (nI sd), .int (nI rn)])), (o5, .inr (2, [.ref qg])), (qg, .inl (cG, 4, .inr (.inr (.inr (.inr (pf_gf qr)))))), (qr 0, .inl (cJ, 320, .inr (.inl (M 0)))), (qr 1, .inl (cJ, 320, .inr (.inl (M 1)))), (qr 2, .inl (cJ, 320, .inr (.inl (M 2)))), (qr 3, .inl (cJ, 320, .inr (.inl (M 3)))), (o7, .inl (cJ, 16, .inr (.inl (pf_srt (M 0) a0.toNatClampNeg od sd))))] (px_or (px_run (nI rn)) (px_or (px_place a0 1 (nI yr)) (px_place a1 0 ((nI sd) - 1)))) (pf_srt (M 0) a0.toNatClampNeg od sd a1.toNatClampNeg) 3 18 := by
  refine qx_l (cc := prog_1_method_14_code) (maxL := 4) (by decide) rfl (Nat.le_of_ble_eq_true rfl) ?_
  intro p e s m args below meth c Q A ls hx hb hml hown hnm hts hA hK hP hD hS hl hZ hret hout hfin
  have hl : lv_has ls 4 [(0, .ref o0), (1, .int a0), (2, .int a1)] := hl
  refine lv_aload_n hx hb dO_rank_0 rfl (lv_at hl 0 rfl) ?_
  refine qx_callVv (As := []) (rest := []) (wr := [(o5, .inr (2, [.ref qg])), (qg, .inl (cG, 4, .inr (.inr (.inr (.inr (pf_gf qr)))))), (qr 0, .inl (cJ, 320, .inr (.inl (M 0)))), (qr 1, .inl (cJ, 320, .inr (.inl (M 1)))), (qr 2, .inl (cJ, 320, .inr (.inl (M 2)))), (qr 3, .inl (cJ, 320, .inr (.inl (M 3)))), (o7, .inl (cJ, 16, .inr (.inl od)))]) (ws2 := [(o0, .inr (0, [.ref o1, .ref o2, .ref o3, .ref o4, .int (nI ru), .int yg, .int ch, .int (nI sp), .int (nI dl), .int mk, .ref o5, .ref o6, .ref o7, .int (nI rr), .int (nI yr), .int (nI sd), .int (nI rn)])), (o5, .inr (2, [.ref qg])), (qg, .inl (cG, 4, .inr (.inr (.inr (.inr (pf_gf qr)))))), (qr 0, .inl (cJ, 320, .inr (.inl (M 0)))), (qr 1, .inl (cJ, 320, .inr (.inl (M 1)))), (qr 2, .inl (cJ, 320, .inr (.inl (M 2)))), (qr 3, .inl (cJ, 320, .inr (.inl (M 3)))), (o7, .inl (cJ, 16, .inr (.inl od)))]) qZ_ok hZ ⟨hx, hb, hml, hown, hts⟩ (c_requireRun l dC dI cI cJ cG o0 o1 o2 o3 o4 o5 o6 o7 ru sp dl rr yr sd rn yg ch mk hst) (cwV 0 hts (qg_V mq_2_130 mq_2_132 mq_p_10 mq_1_1 mq_2_133) rfl rfl rfl (by decide +kernel) ⟨Nat.le_of_ble_eq_true rfl, Nat.le_of_ble_eq_true rfl⟩) hK hP hD hS hA (ci := 0) (q0 := 0) rfl rfl [0] [1, 2, 3, 4, 5, 6, 7] [7, 0, 1, 2, 3, 4, 5, 6] rfl rfl (by decide) (by decide) rfl rfl (by decide) rfl hl.1 rfl (Nat.le_of_ble_eq_true rfl) dO_rank_1 ⟨Nat.le_of_ble_eq_true rfl, Nat.le_of_ble_eq_true rfl⟩ (fun E ce q9 H locs hex hP hD hS hce hcv hcl => hout hP hD hS (Nat.le_of_ble_eq_true rfl) (Nat.le_of_ble_eq_true rfl) (px_s hex) hce hcv hcl) (fun H locs hn1 hP hD hS => ?_)
  have hr1 := qn_run hn1 hrn hro
  refine lv_iload_n hx hb dO_rank_4 rfl (lv_at hl 1 rfl) ?_
  refine lv_iconst (v := 1) hx hb dO_rank_5 (by decide) ?_
  refine lv_aload_n hx hb dO_rank_6 rfl (lv_at hl 0 rfl) ?_
  refine va_get (D := (dC, dI)) (ci := 0) (v := .int (nI yr)) (C := "OutlookOdds") (T := TO) (N := 17) hx hb hts inO hown hK hP 0 rfl rfl 14 (by decide) (hts _ mq_1_70) (fun _ h9 => h9) rfl dO_rank_7 ?_
  refine qx_callSv (As := [.int a0, .int 1, .int (nI yr)]) (rest := []) (wr := [(o0, .inr (0, [.ref o1, .ref o2, .ref o3, .ref o4, .int (nI ru), .int yg, .int ch, .int (nI sp), .int (nI dl), .int mk, .ref o5, .ref o6, .ref o7, .int (nI rr), .int (nI yr), .int (nI sd), .int (nI rn)])), (o5, .inr (2, [.ref qg])), (qg, .inl (cG, 4, .inr (.inr (.inr (.inr (pf_gf qr)))))), (qr 0, .inl (cJ, 320, .inr (.inl (M 0)))), (qr 1, .inl (cJ, 320, .inr (.inl (M 1)))), (qr 2, .inl (cJ, 320, .inr (.inl (M 2)))), (qr 3, .inl (cJ, 320, .inr (.inl (M 3)))), (o7, .inl (cJ, 16, .inr (.inl od)))]) (ws2 := [(o0, .inr (0, [.ref o1, .ref o2, .ref o3, .ref o4, .int (nI ru), .int yg, .int ch, .int (nI sp), .int (nI dl), .int mk, .ref o5, .ref o6, .ref o7, .int (nI rr), .int (nI yr), .int (nI sd), .int (nI rn)])), (o5, .inr (2, [.ref qg])), (qg, .inl (cG, 4, .inr (.inr (.inr (.inr (pf_gf qr)))))), (qr 0, .inl (cJ, 320, .inr (.inl (M 0)))), (qr 1, .inl (cJ, 320, .inr (.inl (M 1)))), (qr 2, .inl (cJ, 320, .inr (.inl (M 2)))), (qr 3, .inl (cJ, 320, .inr (.inl (M 3)))), (o7, .inl (cJ, 16, .inr (.inl od)))]) qZ_ok hZ ⟨hx, hb, hml, hown, hts⟩ (c_requirePlace l dC dI cI cJ cG a0 1 (nI yr) hst) (va_cwS 3 hts (qg_S mq_1_126 mq_1_127 mq_1_1 mq_1_128) rfl rfl rfl (by decide +kernel) ⟨Nat.le_of_ble_eq_true rfl, Nat.le_of_ble_eq_true rfl⟩) hK hP hD hS hA [] [0, 1, 2, 3, 4, 5, 6, 7] [0, 1, 2, 3, 4, 5, 6, 7] rfl rfl (by decide) (by decide) rfl rfl (by decide) rfl hl.1 rfl (Nat.le_of_ble_eq_true rfl) dO_rank_10 ⟨Nat.le_of_ble_eq_true rfl, Nat.le_of_ble_eq_true rfl⟩ (fun E ce q9 H locs hex hP hD hS hce hcv hcl => hout hP hD hS (Nat.le_of_ble_eq_true rfl) (Nat.le_of_ble_eq_true rfl) (px_n hn1 (px_s hex)) hce hcv hcl) (fun H locs hn10 hP hD hS => ?_)
  refine lv_iload_n hx hb dO_rank_13 rfl (lv_at hl 2 rfl) ?_
  refine lv_iconst (v := 0) hx hb dO_rank_14 (by decide) ?_
  refine lv_aload_n hx hb dO_rank_15 rfl (lv_at hl 0 rfl) ?_
  refine va_get (D := (dC, dI)) (ci := 0) (v := .int (nI sd)) (C := "OutlookOdds") (T := TO) (N := 17) hx hb hts inO hown hK hP 0 rfl rfl 15 (by decide) (hts _ mq_1_71) (fun _ h9 => h9) rfl dO_rank_16 ?_
  refine lv_iconst (v := 1) hx hb dO_rank_19 (by decide) ?_
  refine lv_isub hx hb dO_rank_20 ?_
  refine qx_callSv (As := [.int a1, .int 0, .int ((nI sd) - 1)]) (rest := []) (wr := [(o0, .inr (0, [.ref o1, .ref o2, .ref o3, .ref o4, .int (nI ru), .int yg, .int ch, .int (nI sp), .int (nI dl), .int mk, .ref o5, .ref o6, .ref o7, .int (nI rr), .int (nI yr), .int (nI sd), .int (nI rn)])), (o5, .inr (2, [.ref qg])), (qg, .inl (cG, 4, .inr (.inr (.inr (.inr (pf_gf qr)))))), (qr 0, .inl (cJ, 320, .inr (.inl (M 0)))), (qr 1, .inl (cJ, 320, .inr (.inl (M 1)))), (qr 2, .inl (cJ, 320, .inr (.inl (M 2)))), (qr 3, .inl (cJ, 320, .inr (.inl (M 3)))), (o7, .inl (cJ, 16, .inr (.inl od)))]) (ws2 := [(o0, .inr (0, [.ref o1, .ref o2, .ref o3, .ref o4, .int (nI ru), .int yg, .int ch, .int (nI sp), .int (nI dl), .int mk, .ref o5, .ref o6, .ref o7, .int (nI rr), .int (nI yr), .int (nI sd), .int (nI rn)])), (o5, .inr (2, [.ref qg])), (qg, .inl (cG, 4, .inr (.inr (.inr (.inr (pf_gf qr)))))), (qr 0, .inl (cJ, 320, .inr (.inl (M 0)))), (qr 1, .inl (cJ, 320, .inr (.inl (M 1)))), (qr 2, .inl (cJ, 320, .inr (.inl (M 2)))), (qr 3, .inl (cJ, 320, .inr (.inl (M 3)))), (o7, .inl (cJ, 16, .inr (.inl od)))]) qZ_ok hZ ⟨hx, hb, hml, hown, hts⟩ (c_requirePlace l dC dI cI cJ cG a1 0 ((nI sd) - 1) hst) (va_cwS 3 hts (qg_S mq_1_126 mq_1_127 mq_1_1 mq_1_128) rfl rfl rfl (by decide +kernel) ⟨Nat.le_of_ble_eq_true rfl, Nat.le_of_ble_eq_true rfl⟩) hK hP hD hS hA [] [0, 1, 2, 3, 4, 5, 6, 7] [0, 1, 2, 3, 4, 5, 6, 7] rfl rfl (by decide) (by decide) rfl rfl (by decide) rfl hl.1 rfl (Nat.le_of_ble_eq_true rfl) dO_rank_21 ⟨Nat.le_of_ble_eq_true rfl, Nat.le_of_ble_eq_true rfl⟩ (fun E ce q9 H locs hex hP hD hS hce hcv hcl => hout hP hD hS (Nat.le_of_ble_eq_true rfl) (Nat.le_of_ble_eq_true rfl) (px_n hn1 (px_n hn10 hex)) hce hcv hcl) (fun H locs hn21 hP hD hS => ?_)
  have hp0 := qn_pl (f := 1) (t := yr) hn10 (by omega) (by decide)
  have hp1 := qn_plm hn21 (by omega)
  refine lv_iconst (v := 0) hx hb dO_rank_24 (by decide) ?_
  refine lv_istore_n (lv' := [(3, .int 0), (0, .ref o0), (1, .int a0), (2, .int a1)]) hx hb dO_rank_25 rfl hl (by decide) rfl (fun ls hl => ?_)
  have lp_26 : ∀ (n : Nat) (j : Nat), sd - j < n → j ≤ sd → ∀ (H : Heap) (locs : List Loc), va_P (dC, dI) qCl [(o0, .inr (0, [.ref o1, .ref o2, .ref o3, .ref o4, .int (nI ru), .int yg, .int ch, .int (nI sp), .int (nI dl), .int mk, .ref o5, .ref o6, .ref o7, .int (nI rr), .int (nI yr), .int (nI sd), .int (nI rn)])), (o5, .inr (2, [.ref qg])), (qg, .inl (cG, 4, .inr (.inr (.inr (.inr (pf_gf qr)))))), (qr 0, .inl (cJ, 320, .inr (.inl (M 0)))), (qr 1, .inl (cJ, 320, .inr (.inl (M 1)))), (qr 2, .inl (cJ, 320, .inr (.inl (M 2)))), (qr 3, .inl (cJ, 320, .inr (.inl (M 3)))), (o7, .inl (cJ, 16, .inr (.inl (pf_srt (M 0) a0.toNatClampNeg od j))))] H → va_D A [(o0, .inr (0, [.ref o1, .ref o2, .ref o3, .ref o4, .int (nI ru), .int yg, .int ch, .int (nI sp), .int (nI dl), .int mk, .ref o5, .ref o6, .ref o7, .int (nI rr), .int (nI yr), .int (nI sd), .int (nI rn)])), (o5, .inr (2, [.ref qg])), (qg, .inl (cG, 4, .inr (.inr (.inr (.inr (pf_gf qr)))))), (qr 0, .inl (cJ, 320, .inr (.inl (M 0)))), (qr 1, .inl (cJ, 320, .inr (.inl (M 1)))), (qr 2, .inl (cJ, 320, .inr (.inl (M 2)))), (qr 3, .inl (cJ, 320, .inr (.inl (M 3)))), (o7, .inl (cJ, 16, .inr (.inl (pf_srt (M 0) a0.toNatClampNeg od j))))] → va_S A s.heap H locs → ∀ (ls : Array Slot), lv_has ls 4 [(0, .ref o0), (1, .int a0), (2, .int a1), (3, .int (nI j))] → W p l e ({ frames := 7, cells := 3, slots := 18, locals := 104 } : Room) s m args below meth c H locs 3 18 Q (F0 m 26 ls []) := by
    intro n_26
    induction n_26 with
    | zero => intro j hm; exact absurd hm (Nat.not_lt_zero _)
    | succ n_26 ih_26 =>
      intro j hm_26 hj H locs hP hD hS ls hl
      refine lv_iload_n hx hb dO_rank_26 rfl (lv_at hl 3 rfl) ?_
      refine lv_aload_n hx hb dO_rank_27 rfl (lv_at hl 0 rfl) ?_
      refine va_get (D := (dC, dI)) (ci := 0) (v := .int (nI sd)) (C := "OutlookOdds") (T := TO) (N := 17) hx hb hts inO hown hK hP 0 rfl rfl 15 (by decide) (hts _ mq_1_71) (fun _ h9 => h9) rfl dO_rank_28 ?_
      refine lv_icmp_ge (tgt := 55) hx hb dO_rank_31 (by decide) (fun h31 => ?_) (fun h31 => ?_)
      · have e_j : j = sd := qn_ge h31 hj (by omega)
        have hP : va_P (dC, dI) qCl [(o0, .inr (0, [.ref o1, .ref o2, .ref o3, .ref o4, .int (nI ru), .int yg, .int ch, .int (nI sp), .int (nI dl), .int mk, .ref o5, .ref o6, .ref o7, .int (nI rr), .int (nI yr), .int (nI sd), .int (nI rn)])), (o5, .inr (2, [.ref qg])), (qg, .inl (cG, 4, .inr (.inr (.inr (.inr (pf_gf qr)))))), (qr 0, .inl (cJ, 320, .inr (.inl (M 0)))), (qr 1, .inl (cJ, 320, .inr (.inl (M 1)))), (qr 2, .inl (cJ, 320, .inr (.inl (M 2)))), (qr 3, .inl (cJ, 320, .inr (.inl (M 3)))), (o7, .inl (cJ, 16, .inr (.inl (pf_srt (M 0) a0.toNatClampNeg od sd))))] H := by first | exact hP | (rw [e_j] at hP; exact hP)
        have hD : va_D A [(o0, .inr (0, [.ref o1, .ref o2, .ref o3, .ref o4, .int (nI ru), .int yg, .int ch, .int (nI sp), .int (nI dl), .int mk, .ref o5, .ref o6, .ref o7, .int (nI rr), .int (nI yr), .int (nI sd), .int (nI rn)])), (o5, .inr (2, [.ref qg])), (qg, .inl (cG, 4, .inr (.inr (.inr (.inr (pf_gf qr)))))), (qr 0, .inl (cJ, 320, .inr (.inl (M 0)))), (qr 1, .inl (cJ, 320, .inr (.inl (M 1)))), (qr 2, .inl (cJ, 320, .inr (.inl (M 2)))), (qr 3, .inl (cJ, 320, .inr (.inl (M 3)))), (o7, .inl (cJ, 16, .inr (.inl (pf_srt (M 0) a0.toNatClampNeg od sd))))] := by first | exact hD | (rw [e_j] at hD; exact hD)
        have hl : lv_has ls 4 [(0, .ref o0), (1, .int a0), (2, .int a1), (3, .int (nI sd))] := by first | exact hl | (rw [e_j] at hl; exact hl)
        refine lv_aload_n hx hb dO_rank_55 rfl (lv_at hl 0 rfl) ?_
        refine va_get (D := (dC, dI)) (ci := 0) (v := .ref o7) (C := "OutlookOdds") (T := TO) (N := 17) hx hb hts inO hown hK hP 0 rfl rfl 12 (by decide) (hts _ mq_1_68) (fun _ h9 => h9) rfl dO_rank_56 ?_
        refine lv_iload_n hx hb dO_rank_59 rfl (lv_at hl 2 rfl) ?_
        refine qr_topi (y := nI a1.toNatClampNeg) (hp1.1) ?_
        refine qr_lald (k := a1.toNatClampNeg) hx hb hK hP 7 1 rfl rfl (rfl) (by omega) (by decide) dO_rank_60 ?_
        exact hret hP hD hS (Nat.le_of_ble_eq_true rfl) (Nat.le_of_ble_eq_true rfl) (px_n hn1 (px_n hn10 hn21)) (rfl) dO_rank_61
      · have hlt : j < sd := qn_nge h31 (by omega)
        refine lv_aload_n hx hb dO_rank_34 rfl (lv_at hl 0 rfl) ?_
        refine lv_iload_n hx hb dO_rank_35 rfl (lv_at hl 3 rfl) ?_
        refine lv_aload_n hx hb dO_rank_36 rfl (lv_at hl 0 rfl) ?_
        refine va_get (D := (dC, dI)) (ci := 0) (v := .ref o5) (C := "OutlookOdds") (T := TO) (N := 17) hx hb hts inO hown hK hP 0 rfl rfl 10 (by decide) (hts _ mq_1_66) (fun _ h9 => h9) rfl dO_rank_37 ?_
        refine lv_iconst (v := 0) hx hb dO_rank_40 (by decide) ?_
        refine lv_iload_n hx hb dO_rank_41 rfl (lv_at hl 3 rfl) ?_
        refine lv_iload_n hx hb dO_rank_42 rfl (lv_at hl 1 rfl) ?_
        refine qr_topi (y := nI a0.toNatClampNeg) (hp0.1) ?_
        refine qr_callVl (As := [.int 0, .int (nI j), .int (nI a0.toNatClampNeg)]) (rest := [.int (nI j), .ref o0]) (wr := [(o0, .inr (0, [.ref o1, .ref o2, .ref o3, .ref o4, .int (nI ru), .int yg, .int ch, .int (nI sp), .int (nI dl), .int mk, .ref o5, .ref o6, .ref o7, .int (nI rr), .int (nI yr), .int (nI sd), .int (nI rn)])), (o7, .inl (cJ, 16, .inr (.inl (pf_srt (M 0) a0.toNatClampNeg od j))))]) (ws2 := [(o0, .inr (0, [.ref o1, .ref o2, .ref o3, .ref o4, .int (nI ru), .int yg, .int ch, .int (nI sp), .int (nI dl), .int mk, .ref o5, .ref o6, .ref o7, .int (nI rr), .int (nI yr), .int (nI sd), .int (nI rn)])), (o5, .inr (2, [.ref qg])), (qg, .inl (cG, 4, .inr (.inr (.inr (.inr (pf_gf qr)))))), (qr 0, .inl (cJ, 320, .inr (.inl (M 0)))), (qr 1, .inl (cJ, 320, .inr (.inl (M 1)))), (qr 2, .inl (cJ, 320, .inr (.inl (M 2)))), (qr 3, .inl (cJ, 320, .inr (.inl (M 3)))), (o7, .inl (cJ, 16, .inr (.inl (pf_srt (M 0) a0.toNatClampNeg od j))))]) ⟨hx, hb, hml, hown, hts⟩ (c_Story_get l dC dI cI cJ cG o5 qg qr M 0 j a0.toNatClampNeg (by omega) (by omega) (by omega) (by omega)) (cwV 3 hts (qg_V mq_2_71 mq_2_72 mq_2_73 mq_1_3 mq_2_74) rfl rfl rfl (by decide +kernel) ⟨Nat.le_of_ble_eq_true rfl, Nat.le_of_ble_eq_true rfl⟩) hK hP hD hS hA (ci := 2) (q0 := 1) rfl rfl [1, 2, 3, 4, 5, 6] [0, 7] [0, 2, 3, 4, 5, 6, 7, 1] rfl rfl (by decide) (by decide) rfl (by decide) rfl hl.1 rfl (Nat.le_of_ble_eq_true rfl) dO_rank_43 ⟨Nat.le_of_ble_eq_true rfl, Nat.le_of_ble_eq_true rfl⟩ (fun H locs hP hD hS => ?_)
        refine qr_callVv (As := [.int (nI j), .long (M 0 (pf_ix j a0.toNatClampNeg))]) (rest := []) (wr := [(o5, .inr (2, [.ref qg])), (qg, .inl (cG, 4, .inr (.inr (.inr (.inr (pf_gf qr)))))), (qr 0, .inl (cJ, 320, .inr (.inl (M 0)))), (qr 1, .inl (cJ, 320, .inr (.inl (M 1)))), (qr 2, .inl (cJ, 320, .inr (.inl (M 2)))), (qr 3, .inl (cJ, 320, .inr (.inl (M 3))))]) (ws2 := [(o0, .inr (0, [.ref o1, .ref o2, .ref o3, .ref o4, .int (nI ru), .int yg, .int ch, .int (nI sp), .int (nI dl), .int mk, .ref o5, .ref o6, .ref o7, .int (nI rr), .int (nI yr), .int (nI sd), .int (nI rn)])), (o5, .inr (2, [.ref qg])), (qg, .inl (cG, 4, .inr (.inr (.inr (.inr (pf_gf qr)))))), (qr 0, .inl (cJ, 320, .inr (.inl (M 0)))), (qr 1, .inl (cJ, 320, .inr (.inl (M 1)))), (qr 2, .inl (cJ, 320, .inr (.inl (M 2)))), (qr 3, .inl (cJ, 320, .inr (.inl (M 3)))), (o7, .inl (cJ, 16, .inr (.inl (pf_ins (M 0 (pf_ix j a0.toNatClampNeg)) j (pf_srt (M 0) a0.toNatClampNeg od j)))))]) ⟨hx, hb, hml, hown, hts⟩ (c_putInOrder l dC dI cI cJ cG o0 o1 o2 o3 o4 o5 o6 o7 ru sp dl rr yr sd rn yg ch mk (pf_srt (M 0) a0.toNatClampNeg od j) j (M 0 (pf_ix j a0.toNatClampNeg)) (by omega)) (cwV 2 hts (qg_V mq_2_172 mq_2_174 mq_p_11 mq_1_1 mq_2_175) rfl rfl rfl (by decide +kernel) ⟨Nat.le_of_ble_eq_true rfl, Nat.le_of_ble_eq_true rfl⟩) hK hP hD hS hA (ci := 0) (q0 := 0) rfl rfl [0, 7] [1, 2, 3, 4, 5, 6] [6, 0, 1, 2, 3, 4, 5, 7] rfl rfl (by decide) (by decide) rfl (by decide) rfl hl.1 rfl (Nat.le_of_ble_eq_true rfl) dO_rank_46 ⟨Nat.le_of_ble_eq_true rfl, Nat.le_of_ble_eq_true rfl⟩ (fun H locs hP hD hS => ?_)
        refine lv_iinc (v := nI (j + 1)) (lv' := [(3, .int (nI (j + 1))), (0, .ref o0), (1, .int a0), (2, .int a1)]) hx hb dO_rank_49 hl (k := 3) rfl (nI_1 _) (by decide) rfl (fun ls hl => ?_)
        refine lv_goto (tgt := 26) hx hb dO_rank_52 (by decide) ?_
        exact ih_26 (j + 1) (by omega) (by omega) _ _ hP hD hS ls (lv_sub hl [1, 2, 3, 0] rfl)
  exact lp_26 ((sd - 0) + 1) 0 (by omega) (by omega) _ _ hP hD hS ls (lv_sub hl [1, 2, 3, 0] rfl)

set_option maxHeartbeats 4000000 in
set_option maxRecDepth 100000 in
theorem c_mean (o0 o1 o2 o3 o4 o5 o6 o7 ru sp dl rr yr sd rn : Nat) (yg ch mk : Int32) (qg : Nat) (qr : Nat → Nat) (M : Nat → Nat → Int64) (a0 a1 : Int32) (hst : l.stackTraces = false) (hrn : rn < 2 ^ 31) (hsd : sd ≤ 16) (hyr : yr ≤ 20) (hro : rn = 0 ∨ (1 ≤ sd ∧ 1 ≤ yr ∧ rr < 6)) : qXl qZ l yO_mean (wO_mean) ({ frames := 7, cells := 3, slots := 18, locals := 104 } : Room) (dC, dI) qCl [(cI, .int), (cJ, .long), (cG, .array .long)] [.ref o0, .int a0, .int a1] [(o0, .inr (0, [.ref o1, .ref o2, .ref o3, .ref o4, .int (nI ru), .int yg, .int ch, .int (nI sp), .int (nI dl), .int mk, .ref o5, .ref o6, .ref o7, .int (nI rr), .int (nI yr), .int (nI sd), .int (nI rn)])), (o5, .inr (2, [.ref qg])), (qg, .inl (cG, 4, .inr (.inr (.inr (.inr (pf_gf qr)))))), (qr 0, .inl (cJ, 320, .inr (.inl (M 0)))), (qr 1, .inl (cJ, 320, .inr (.inl (M 1)))), (qr 2, .inl (cJ, 320, .inr (.inl (M 2)))), (qr 3, .inl (cJ, 320, .inr (.inl (M 3))))] [(o0, .inr (0, [.ref o1, .ref o2, .ref o3, .ref o4, .int (nI ru), .int yg, .int ch, .int (nI sp), .int (nI dl), .int mk, .ref o5, .ref o6, .ref o7, .int (nI rr), .int (nI yr), .int (nI sd), .int (nI rn)])), (o5, .inr (2, [.ref qg])), (qg, .inl (cG, 4, .inr (.inr (.inr (.inr (pf_gf qr)))))), (qr 0, .inl (cJ, 320, .inr (.inl (M 0)))), (qr 1, .inl (cJ, 320, .inr (.inl (M 1)))), (qr 2, .inl (cJ, 320, .inr (.inl (M 2)))), (qr 3, .inl (cJ, 320, .inr (.inl (M 3))))] (px_or (px_run (nI rn)) (px_or (px_place a0 0 1) (px_place a1 0 1))) (pf_mean M yr sd a0 a1) 3 18 := by
  refine qx_l (cc := prog_1_method_15_code) (maxL := 3) (by decide) rfl (Nat.le_of_ble_eq_true rfl) ?_
  intro p e s m args below meth c Q A ls hx hb hml hown hnm hts hA hK hP hD hS hl hZ hret hout hfin
  have hl : lv_has ls 3 [(0, .ref o0), (1, .int a0), (2, .int a1)] := hl
  refine lv_aload_n hx hb dO_mean_0 rfl (lv_at hl 0 rfl) ?_
  refine qx_callVv (As := []) (rest := []) (wr := [(o5, .inr (2, [.ref qg])), (qg, .inl (cG, 4, .inr (.inr (.inr (.inr (pf_gf qr)))))), (qr 0, .inl (cJ, 320, .inr (.inl (M 0)))), (qr 1, .inl (cJ, 320, .inr (.inl (M 1)))), (qr 2, .inl (cJ, 320, .inr (.inl (M 2)))), (qr 3, .inl (cJ, 320, .inr (.inl (M 3))))]) (ws2 := [(o0, .inr (0, [.ref o1, .ref o2, .ref o3, .ref o4, .int (nI ru), .int yg, .int ch, .int (nI sp), .int (nI dl), .int mk, .ref o5, .ref o6, .ref o7, .int (nI rr), .int (nI yr), .int (nI sd), .int (nI rn)])), (o5, .inr (2, [.ref qg])), (qg, .inl (cG, 4, .inr (.inr (.inr (.inr (pf_gf qr)))))), (qr 0, .inl (cJ, 320, .inr (.inl (M 0)))), (qr 1, .inl (cJ, 320, .inr (.inl (M 1)))), (qr 2, .inl (cJ, 320, .inr (.inl (M 2)))), (qr 3, .inl (cJ, 320, .inr (.inl (M 3))))]) qZ_ok hZ ⟨hx, hb, hml, hown, hts⟩ (c_requireRun l dC dI cI cJ cG o0 o1 o2 o3 o4 o5 o6 o7 ru sp dl rr yr sd rn yg ch mk hst) (cwV 0 hts (qg_V mq_2_130 mq_2_132 mq_p_10 mq_1_1 mq_2_133) rfl rfl rfl (by decide +kernel) ⟨Nat.le_of_ble_eq_true rfl, Nat.le_of_ble_eq_true rfl⟩) hK hP hD hS hA (ci := 0) (q0 := 0) rfl rfl [0] [1, 2, 3, 4, 5, 6] [6, 0, 1, 2, 3, 4, 5] rfl rfl (by decide) (by decide) rfl rfl (by decide) rfl hl.1 rfl (Nat.le_of_ble_eq_true rfl) dO_mean_1 ⟨Nat.le_of_ble_eq_true rfl, Nat.le_of_ble_eq_true rfl⟩ (fun E ce q9 H locs hex hP hD hS hce hcv hcl => hout hP hD hS (Nat.le_of_ble_eq_true rfl) (Nat.le_of_ble_eq_true rfl) (px_s hex) hce hcv hcl) (fun H locs hn1 hP hD hS => ?_)
  have hr1 := qn_run hn1 hrn hro
  refine lv_iload_n hx hb dO_mean_4 rfl (lv_at hl 1 rfl) ?_
  refine lv_iconst (v := 0) hx hb dO_mean_5 (by decide) ?_
  refine lv_iconst (v := 1) hx hb dO_mean_6 (by decide) ?_
  refine qx_callSv (As := [.int a0, .int 0, .int 1]) (rest := []) (wr := [(o0, .inr (0, [.ref o1, .ref o2, .ref o3, .ref o4, .int (nI ru), .int yg, .int ch, .int (nI sp), .int (nI dl), .int mk, .ref o5, .ref o6, .ref o7, .int (nI rr), .int (nI yr), .int (nI sd), .int (nI rn)])), (o5, .inr (2, [.ref qg])), (qg, .inl (cG, 4, .inr (.inr (.inr (.inr (pf_gf qr)))))), (qr 0, .inl (cJ, 320, .inr (.inl (M 0)))), (qr 1, .inl (cJ, 320, .inr (.inl (M 1)))), (qr 2, .inl (cJ, 320, .inr (.inl (M 2)))), (qr 3, .inl (cJ, 320, .inr (.inl (M 3))))]) (ws2 := [(o0, .inr (0, [.ref o1, .ref o2, .ref o3, .ref o4, .int (nI ru), .int yg, .int ch, .int (nI sp), .int (nI dl), .int mk, .ref o5, .ref o6, .ref o7, .int (nI rr), .int (nI yr), .int (nI sd), .int (nI rn)])), (o5, .inr (2, [.ref qg])), (qg, .inl (cG, 4, .inr (.inr (.inr (.inr (pf_gf qr)))))), (qr 0, .inl (cJ, 320, .inr (.inl (M 0)))), (qr 1, .inl (cJ, 320, .inr (.inl (M 1)))), (qr 2, .inl (cJ, 320, .inr (.inl (M 2)))), (qr 3, .inl (cJ, 320, .inr (.inl (M 3))))]) qZ_ok hZ ⟨hx, hb, hml, hown, hts⟩ (c_requirePlace l dC dI cI cJ cG a0 0 1 hst) (va_cwS 3 hts (qg_S mq_1_126 mq_1_127 mq_1_1 mq_1_128) rfl rfl rfl (by decide +kernel) ⟨Nat.le_of_ble_eq_true rfl, Nat.le_of_ble_eq_true rfl⟩) hK hP hD hS hA [] [0, 1, 2, 3, 4, 5, 6] [0, 1, 2, 3, 4, 5, 6] rfl rfl (by decide) (by decide) rfl rfl (by decide) rfl hl.1 rfl (Nat.le_of_ble_eq_true rfl) dO_mean_7 ⟨Nat.le_of_ble_eq_true rfl, Nat.le_of_ble_eq_true rfl⟩ (fun E ce q9 H locs hex hP hD hS hce hcv hcl => hout hP hD hS (Nat.le_of_ble_eq_true rfl) (Nat.le_of_ble_eq_true rfl) (px_n hn1 (px_s hex)) hce hcv hcl) (fun H locs hn7 hP hD hS => ?_)
  refine lv_iload_n hx hb dO_mean_10 rfl (lv_at hl 2 rfl) ?_
  refine lv_iconst (v := 0) hx hb dO_mean_11 (by decide) ?_
  refine lv_iconst (v := 1) hx hb dO_mean_12 (by decide) ?_
  refine qx_callSv (As := [.int a1, .int 0, .int 1]) (rest := []) (wr := [(o0, .inr (0, [.ref o1, .ref o2, .ref o3, .ref o4, .int (nI ru), .int yg, .int ch, .int (nI sp), .int (nI dl), .int mk, .ref o5, .ref o6, .ref o7, .int (nI rr), .int (nI yr), .int (nI sd), .int (nI rn)])), (o5, .inr (2, [.ref qg])), (qg, .inl (cG, 4, .inr (.inr (.inr (.inr (pf_gf qr)))))), (qr 0, .inl (cJ, 320, .inr (.inl (M 0)))), (qr 1, .inl (cJ, 320, .inr (.inl (M 1)))), (qr 2, .inl (cJ, 320, .inr (.inl (M 2)))), (qr 3, .inl (cJ, 320, .inr (.inl (M 3))))]) (ws2 := [(o0, .inr (0, [.ref o1, .ref o2, .ref o3, .ref o4, .int (nI ru), .int yg, .int ch, .int (nI sp), .int (nI dl), .int mk, .ref o5, .ref o6, .ref o7, .int (nI rr), .int (nI yr), .int (nI sd), .int (nI rn)])), (o5, .inr (2, [.ref qg])), (qg, .inl (cG, 4, .inr (.inr (.inr (.inr (pf_gf qr)))))), (qr 0, .inl (cJ, 320, .inr (.inl (M 0)))), (qr 1, .inl (cJ, 320, .inr (.inl (M 1)))), (qr 2, .inl (cJ, 320, .inr (.inl (M 2)))), (qr 3, .inl (cJ, 320, .inr (.inl (M 3))))]) qZ_ok hZ ⟨hx, hb, hml, hown, hts⟩ (c_requirePlace l dC dI cI cJ cG a1 0 1 hst) (va_cwS 3 hts (qg_S mq_1_126 mq_1_127 mq_1_1 mq_1_128) rfl rfl rfl (by decide +kernel) ⟨Nat.le_of_ble_eq_true rfl, Nat.le_of_ble_eq_true rfl⟩) hK hP hD hS hA [] [0, 1, 2, 3, 4, 5, 6] [0, 1, 2, 3, 4, 5, 6] rfl rfl (by decide) (by decide) rfl rfl (by decide) rfl hl.1 rfl (Nat.le_of_ble_eq_true rfl) dO_mean_13 ⟨Nat.le_of_ble_eq_true rfl, Nat.le_of_ble_eq_true rfl⟩ (fun E ce q9 H locs hex hP hD hS hce hcv hcl => hout hP hD hS (Nat.le_of_ble_eq_true rfl) (Nat.le_of_ble_eq_true rfl) (px_n hn1 (px_n hn7 hex)) hce hcv hcl) (fun H locs hn13 hP hD hS => ?_)
  refine lv_iload_n hx hb dO_mean_16 rfl (lv_at hl 1 rfl) ?_
  refine lv_if_ne (tgt := 45) hx hb dO_mean_17 (by decide) (fun h17 => ?_) (fun h17 => ?_)
  · refine lv_aload_n hx hb dO_mean_45 rfl (lv_at hl 0 rfl) ?_
    refine lv_aload_n hx hb dO_mean_46 rfl (lv_at hl 0 rfl) ?_
    refine va_get (D := (dC, dI)) (ci := 0) (v := .ref o5) (C := "OutlookOdds") (T := TO) (N := 17) hx hb hts inO hown hK hP 0 rfl rfl 10 (by decide) (hts _ mq_1_66) (fun _ h9 => h9) rfl dO_mean_47 ?_
    refine lv_iconst (v := 0) hx hb dO_mean_50 (by decide) ?_
    refine lv_aload_n hx hb dO_mean_51 rfl (lv_at hl 0 rfl) ?_
    refine va_get (D := (dC, dI)) (ci := 0) (v := .int (nI yr)) (C := "OutlookOdds") (T := TO) (N := 17) hx hb hts inO hown hK hP 0 rfl rfl 14 (by decide) (hts _ mq_1_70) (fun _ h9 => h9) rfl dO_mean_52 ?_
    refine qr_callVl (As := [.ref o5, .int 0, .int (nI yr)]) (rest := []) (wr := []) (ws2 := [(o0, .inr (0, [.ref o1, .ref o2, .ref o3, .ref o4, .int (nI ru), .int yg, .int ch, .int (nI sp), .int (nI dl), .int mk, .ref o5, .ref o6, .ref o7, .int (nI rr), .int (nI yr), .int (nI sd), .int (nI rn)])), (o5, .inr (2, [.ref qg])), (qg, .inl (cG, 4, .inr (.inr (.inr (.inr (pf_gf qr)))))), (qr 0, .inl (cJ, 320, .inr (.inl (M 0)))), (qr 1, .inl (cJ, 320, .inr (.inl (M 1)))), (qr 2, .inl (cJ, 320, .inr (.inl (M 2)))), (qr 3, .inl (cJ, 320, .inr (.inl (M 3))))]) ⟨hx, hb, hml, hown, hts⟩ (c_sumOf l dC dI cI cJ cG o0 o1 o2 o3 o4 o5 o6 o7 ru sp dl rr yr sd rn yg ch mk o5 qg qr M 0 yr (by omega) (by omega) (by omega) (by omega) (by omega)) (cwV 3 hts (qg_V mq_2_183 mq_2_185 mq_p_12 mq_1_1 mq_2_186) rfl rfl rfl (by decide +kernel) ⟨Nat.le_of_ble_eq_true rfl, Nat.le_of_ble_eq_true rfl⟩) hK hP hD hS hA (ci := 0) (q0 := 0) rfl rfl [0, 1, 2, 3, 4, 5, 6] [] [0, 1, 2, 3, 4, 5, 6] rfl rfl (by decide) (by decide) rfl (by decide) rfl hl.1 rfl (Nat.le_of_ble_eq_true rfl) dO_mean_55 ⟨Nat.le_of_ble_eq_true rfl, Nat.le_of_ble_eq_true rfl⟩ (fun H locs hP hD hS => ?_)
    refine lv_aload_n hx hb dO_mean_58 rfl (lv_at hl 0 rfl) ?_
    refine va_get (D := (dC, dI)) (ci := 0) (v := .int (nI sd)) (C := "OutlookOdds") (T := TO) (N := 17) hx hb hts inO hown hK hP 0 rfl rfl 15 (by decide) (hts _ mq_1_71) (fun _ h9 => h9) rfl dO_mean_59 ?_
    refine lv_i2l hx hb dO_mean_62 rfl ?_
    refine lv_iload_n hx hb dO_mean_63 rfl (lv_at hl 2 rfl) ?_
    refine qr_callSl (As := [.long (pf_sumA (M 0) yr yr sd), .long ((nI sd).toInt64), .int a1]) (rest := []) (wr := [(o0, .inr (0, [.ref o1, .ref o2, .ref o3, .ref o4, .int (nI ru), .int yg, .int ch, .int (nI sp), .int (nI dl), .int mk, .ref o5, .ref o6, .ref o7, .int (nI rr), .int (nI yr), .int (nI sd), .int (nI rn)])), (o5, .inr (2, [.ref qg])), (qg, .inl (cG, 4, .inr (.inr (.inr (.inr (pf_gf qr)))))), (qr 0, .inl (cJ, 320, .inr (.inl (M 0)))), (qr 1, .inl (cJ, 320, .inr (.inl (M 1)))), (qr 2, .inl (cJ, 320, .inr (.inl (M 2)))), (qr 3, .inl (cJ, 320, .inr (.inl (M 3))))]) (ws2 := [(o0, .inr (0, [.ref o1, .ref o2, .ref o3, .ref o4, .int (nI ru), .int yg, .int ch, .int (nI sp), .int (nI dl), .int mk, .ref o5, .ref o6, .ref o7, .int (nI rr), .int (nI yr), .int (nI sd), .int (nI rn)])), (o5, .inr (2, [.ref qg])), (qg, .inl (cG, 4, .inr (.inr (.inr (.inr (pf_gf qr)))))), (qr 0, .inl (cJ, 320, .inr (.inl (M 0)))), (qr 1, .inl (cJ, 320, .inr (.inl (M 1)))), (qr 2, .inl (cJ, 320, .inr (.inl (M 2)))), (qr 3, .inl (cJ, 320, .inr (.inl (M 3))))]) ⟨hx, hb, hml, hown, hts⟩ (c_partOfFraction l dC dI cI cJ cG (pf_sumA (M 0) yr yr sd) ((nI sd).toInt64) a1 ) (va_cwS 3 hts (qg_S mq_2_142 mq_2_143 mq_1_1 mq_2_144) rfl rfl rfl (by decide +kernel) ⟨Nat.le_of_ble_eq_true rfl, Nat.le_of_ble_eq_true rfl⟩) hK hP hD hS hA [] [0, 1, 2, 3, 4, 5, 6] [0, 1, 2, 3, 4, 5, 6] rfl rfl (by decide) (by decide) rfl (by decide) rfl hl.1 rfl (Nat.le_of_ble_eq_true rfl) dO_mean_64 ⟨Nat.le_of_ble_eq_true rfl, Nat.le_of_ble_eq_true rfl⟩ (fun H locs hP hD hS => ?_)
    exact hret hP hD hS (Nat.le_of_ble_eq_true rfl) (Nat.le_of_ble_eq_true rfl) (px_n hn1 (px_n hn7 hn13)) (by unfold pf_mean; rw [if_neg h17]) dO_mean_67
  · refine lv_aload_n hx hb dO_mean_20 rfl (lv_at hl 0 rfl) ?_
    refine lv_aload_n hx hb dO_mean_21 rfl (lv_at hl 0 rfl) ?_
    refine va_get (D := (dC, dI)) (ci := 0) (v := .ref o5) (C := "OutlookOdds") (T := TO) (N := 17) hx hb hts inO hown hK hP 0 rfl rfl 10 (by decide) (hts _ mq_1_66) (fun _ h9 => h9) rfl dO_mean_22 ?_
    refine lv_iconst (v := 1) hx hb dO_mean_25 (by decide) ?_
    refine lv_iconst (v := 1) hx hb dO_mean_26 (by decide) ?_
    refine qr_callVl (As := [.ref o5, .int 1, .int 1]) (rest := []) (wr := []) (ws2 := [(o0, .inr (0, [.ref o1, .ref o2, .ref o3, .ref o4, .int (nI ru), .int yg, .int ch, .int (nI sp), .int (nI dl), .int mk, .ref o5, .ref o6, .ref o7, .int (nI rr), .int (nI yr), .int (nI sd), .int (nI rn)])), (o5, .inr (2, [.ref qg])), (qg, .inl (cG, 4, .inr (.inr (.inr (.inr (pf_gf qr)))))), (qr 0, .inl (cJ, 320, .inr (.inl (M 0)))), (qr 1, .inl (cJ, 320, .inr (.inl (M 1)))), (qr 2, .inl (cJ, 320, .inr (.inl (M 2)))), (qr 3, .inl (cJ, 320, .inr (.inl (M 3))))]) ⟨hx, hb, hml, hown, hts⟩ (c_sumOf l dC dI cI cJ cG o0 o1 o2 o3 o4 o5 o6 o7 ru sp dl rr yr sd rn yg ch mk o5 qg qr M 1 1 (by omega) (by omega) (by omega) (by omega) (by omega)) (cwV 3 hts (qg_V mq_2_183 mq_2_185 mq_p_12 mq_1_1 mq_2_186) rfl rfl rfl (by decide +kernel) ⟨Nat.le_of_ble_eq_true rfl, Nat.le_of_ble_eq_true rfl⟩) hK hP hD hS hA (ci := 0) (q0 := 0) rfl rfl [0, 1, 2, 3, 4, 5, 6] [] [0, 1, 2, 3, 4, 5, 6] rfl rfl (by decide) (by decide) rfl (by decide) rfl hl.1 rfl (Nat.le_of_ble_eq_true rfl) dO_mean_27 ⟨Nat.le_of_ble_eq_true rfl, Nat.le_of_ble_eq_true rfl⟩ (fun H locs hP hD hS => ?_)
    refine lv_aload_n hx hb dO_mean_30 rfl (lv_at hl 0 rfl) ?_
    refine va_get (D := (dC, dI)) (ci := 0) (v := .int (nI sd)) (C := "OutlookOdds") (T := TO) (N := 17) hx hb hts inO hown hK hP 0 rfl rfl 15 (by decide) (hts _ mq_1_71) (fun _ h9 => h9) rfl dO_mean_31 ?_
    refine lv_aload_n hx hb dO_mean_34 rfl (lv_at hl 0 rfl) ?_
    refine va_get (D := (dC, dI)) (ci := 0) (v := .int (nI yr)) (C := "OutlookOdds") (T := TO) (N := 17) hx hb hts inO hown hK hP 0 rfl rfl 14 (by decide) (hts _ mq_1_70) (fun _ h9 => h9) rfl dO_mean_35 ?_
    refine lv_imul hx hb dO_mean_38 ?_
    refine lv_i2l hx hb dO_mean_39 rfl ?_
    refine lv_iload_n hx hb dO_mean_40 rfl (lv_at hl 2 rfl) ?_
    refine qr_callSl (As := [.long (pf_sumA (M 1) 1 yr sd), .long (((nI sd) * (nI yr)).toInt64), .int a1]) (rest := []) (wr := [(o0, .inr (0, [.ref o1, .ref o2, .ref o3, .ref o4, .int (nI ru), .int yg, .int ch, .int (nI sp), .int (nI dl), .int mk, .ref o5, .ref o6, .ref o7, .int (nI rr), .int (nI yr), .int (nI sd), .int (nI rn)])), (o5, .inr (2, [.ref qg])), (qg, .inl (cG, 4, .inr (.inr (.inr (.inr (pf_gf qr)))))), (qr 0, .inl (cJ, 320, .inr (.inl (M 0)))), (qr 1, .inl (cJ, 320, .inr (.inl (M 1)))), (qr 2, .inl (cJ, 320, .inr (.inl (M 2)))), (qr 3, .inl (cJ, 320, .inr (.inl (M 3))))]) (ws2 := [(o0, .inr (0, [.ref o1, .ref o2, .ref o3, .ref o4, .int (nI ru), .int yg, .int ch, .int (nI sp), .int (nI dl), .int mk, .ref o5, .ref o6, .ref o7, .int (nI rr), .int (nI yr), .int (nI sd), .int (nI rn)])), (o5, .inr (2, [.ref qg])), (qg, .inl (cG, 4, .inr (.inr (.inr (.inr (pf_gf qr)))))), (qr 0, .inl (cJ, 320, .inr (.inl (M 0)))), (qr 1, .inl (cJ, 320, .inr (.inl (M 1)))), (qr 2, .inl (cJ, 320, .inr (.inl (M 2)))), (qr 3, .inl (cJ, 320, .inr (.inl (M 3))))]) ⟨hx, hb, hml, hown, hts⟩ (c_partOfFraction l dC dI cI cJ cG (pf_sumA (M 1) 1 yr sd) (((nI sd) * (nI yr)).toInt64) a1 ) (va_cwS 3 hts (qg_S mq_2_142 mq_2_143 mq_1_1 mq_2_144) rfl rfl rfl (by decide +kernel) ⟨Nat.le_of_ble_eq_true rfl, Nat.le_of_ble_eq_true rfl⟩) hK hP hD hS hA [] [0, 1, 2, 3, 4, 5, 6] [0, 1, 2, 3, 4, 5, 6] rfl rfl (by decide) (by decide) rfl (by decide) rfl hl.1 rfl (Nat.le_of_ble_eq_true rfl) dO_mean_41 ⟨Nat.le_of_ble_eq_true rfl, Nat.le_of_ble_eq_true rfl⟩ (fun H locs hP hD hS => ?_)
    exact hret hP hD hS (Nat.le_of_ble_eq_true rfl) (Nat.le_of_ble_eq_true rfl) (px_n hn1 (px_n hn7 hn13)) (by unfold pf_mean; rw [if_pos h17]) dO_mean_44

set_option maxHeartbeats 4000000 in
set_option maxRecDepth 100000 in
theorem c_table (o0 o1 o2 o3 o4 o5 o6 o7 ru sp dl rr yr sd rn : Nat) (yg ch mk : Int32) (z1 z2 z3 z4 z5 : Nat) (qg : Nat) (qr : Nat → Nat) (M : Nat → Nat → Int64) (nu wt rp di lo hi : Nat → Int32) (lv : Nat → Int64) (a0 : Int32) (hst : l.stackTraces = false) (hrn : rn < 2 ^ 31) (hsd : sd ≤ 16) (hyr : yr ≤ 20) (hro : rn = 0 ∨ (1 ≤ sd ∧ 1 ≤ yr ∧ rr < 6)) (hsp : sp ≤ 50) (hdl : dl ≤ 3) : qXl qZ l yO_table (wO_table) ({ frames := 7, cells := 2, slots := 12, locals := 129 } : Room) (dC, dI) qCl [(cI, .int), (cJ, .long), (cG, .array .long)] [.ref o0, .int a0] [(o0, .inr (0, [.ref o1, .ref o2, .ref o3, .ref o4, .int (nI ru), .int yg, .int ch, .int (nI sp), .int (nI dl), .int mk, .ref o5, .ref o6, .ref o7, .int (nI rr), .int (nI yr), .int (nI sd), .int (nI rn)])), (o1, .inr (1, [.ref z1, .ref z2, .ref z3, .ref z4, .ref z5])), (z1, .inl (cI, 6, .inl nu)), (z2, .inl (cI, 6, .inl wt)), (z3, .inl (cI, 6, .inl rp)), (z4, .inl (cI, 6, .inl di)), (z5, .inl (cJ, 6, .inr (.inl lv))), (o2, .inl (cI, 6, .inl lo)), (o3, .inl (cI, 6, .inl hi)), (o6, .inr (2, [.ref qg])), (qg, .inl (cG, 4, .inr (.inr (.inr (.inr (pf_gf qr)))))), (qr 0, .inl (cJ, 320, .inr (.inl (M 0)))), (qr 1, .inl (cJ, 320, .inr (.inl (M 1)))), (qr 2, .inl (cJ, 320, .inr (.inl (M 2)))), (qr 3, .inl (cJ, 320, .inr (.inl (M 3))))] [(o0, .inr (0, [.ref o1, .ref o2, .ref o3, .ref o4, .int (nI ru), .int yg, .int ch, .int (nI sp), .int (nI dl), .int mk, .ref o5, .ref o6, .ref o7, .int (nI rr), .int (nI yr), .int (nI sd), .int (nI rn)])), (o1, .inr (1, [.ref z1, .ref z2, .ref z3, .ref z4, .ref z5])), (z1, .inl (cI, 6, .inl nu)), (z2, .inl (cI, 6, .inl wt)), (z3, .inl (cI, 6, .inl rp)), (z4, .inl (cI, 6, .inl di)), (z5, .inl (cJ, 6, .inr (.inl ((pf_all nu wt rp di (lo rr).toInt64 (hi rr).toInt64 (50 * a0) sp dl yg ch yr lv M sd).1)))), (o2, .inl (cI, 6, .inl lo)), (o3, .inl (cI, 6, .inl hi)), (o6, .inr (2, [.ref qg])), (qg, .inl (cG, 4, .inr (.inr (.inr (.inr (pf_gf qr)))))), (qr 0, .inl (cJ, 320, .inr (.inl (((pf_all nu wt rp di (lo rr).toInt64 (hi rr).toInt64 (50 * a0) sp dl yg ch yr lv M sd).2) 0)))), (qr 1, .inl (cJ, 320, .inr (.inl (((pf_all nu wt rp di (lo rr).toInt64 (hi rr).toInt64 (50 * a0) sp dl yg ch yr lv M sd).2) 1)))), (qr 2, .inl (cJ, 320, .inr (.inl (((pf_all nu wt rp di (lo rr).toInt64 (hi rr).toInt64 (50 * a0) sp dl yg ch yr lv M sd).2) 2)))), (qr 3, .inl (cJ, 320, .inr (.inl (((pf_all nu wt rp di (lo rr).toInt64 (hi rr).toInt64 (50 * a0) sp dl yg ch yr lv M sd).2) 3))))] (px_or (px_run (nI rn)) (px_place a0 0 18)) (pf_sumA ((pf_all nu wt rp di (lo rr).toInt64 (hi rr).toInt64 (50 * a0) sp dl yg ch yr lv M sd).2 1) 1 yr sd) 2 12 := by
  refine qx_l (cc := prog_1_method_16_code) (maxL := 2) (by decide) rfl (Nat.le_of_ble_eq_true rfl) ?_
  intro p e s m args below meth c Q A ls hx hb hml hown hnm hts hA hK hP hD hS hl hZ hret hout hfin
  have hl : lv_has ls 2 [(0, .ref o0), (1, .int a0)] := hl
  refine lv_aload_n hx hb dO_table_0 rfl (lv_at hl 0 rfl) ?_
  refine qx_callVv (As := []) (rest := []) (wr := [(o1, .inr (1, [.ref z1, .ref z2, .ref z3, .ref z4, .ref z5])), (z1, .inl (cI, 6, .inl nu)), (z2, .inl (cI, 6, .inl wt)), (z3, .inl (cI, 6, .inl rp)), (z4, .inl (cI, 6, .inl di)), (z5, .inl (cJ, 6, .inr (.inl lv))), (o2, .inl (cI, 6, .inl lo)), (o3, .inl (cI, 6, .inl hi)), (o6, .inr (2, [.ref qg])), (qg, .inl (cG, 4, .inr (.inr (.inr (.inr (pf_gf qr)))))), (qr 0, .inl (cJ, 320, .inr (.inl (M 0)))), (qr 1, .inl (cJ, 320, .inr (.inl (M 1)))), (qr 2, .inl (cJ, 320, .inr (.inl (M 2)))), (qr 3, .inl (cJ, 320, .inr (.inl (M 3))))]) (ws2 := [(o0, .inr (0, [.ref o1, .ref o2, .ref o3, .ref o4, .int (nI ru), .int yg, .int ch, .int (nI sp), .int (nI dl), .int mk, .ref o5, .ref o6, .ref o7, .int (nI rr), .int (nI yr), .int (nI sd), .int (nI rn)])), (o1, .inr (1, [.ref z1, .ref z2, .ref z3, .ref z4, .ref z5])), (z1, .inl (cI, 6, .inl nu)), (z2, .inl (cI, 6, .inl wt)), (z3, .inl (cI, 6, .inl rp)), (z4, .inl (cI, 6, .inl di)), (z5, .inl (cJ, 6, .inr (.inl lv))), (o2, .inl (cI, 6, .inl lo)), (o3, .inl (cI, 6, .inl hi)), (o6, .inr (2, [.ref qg])), (qg, .inl (cG, 4, .inr (.inr (.inr (.inr (pf_gf qr)))))), (qr 0, .inl (cJ, 320, .inr (.inl (M 0)))), (qr 1, .inl (cJ, 320, .inr (.inl (M 1)))), (qr 2, .inl (cJ, 320, .inr (.inl (M 2)))), (qr 3, .inl (cJ, 320, .inr (.inl (M 3))))]) qZ_ok hZ ⟨hx, hb, hml, hown, hts⟩ (c_requireRun l dC dI cI cJ cG o0 o1 o2 o3 o4 o5 o6 o7 ru sp dl rr yr sd rn yg ch mk hst) (cwV 0 hts (qg_V mq_2_130 mq_2_132 mq_p_10 mq_1_1 mq_2_133) rfl rfl rfl (by decide +kernel) ⟨Nat.le_of_ble_eq_true rfl, Nat.le_of_ble_eq_true rfl⟩) hK hP hD hS hA (ci := 0) (q0 := 0) rfl rfl [0] [1, 2, 3, 4, 5, 6, 7, 8, 9, 10, 11, 12, 13, 14] [14, 0, 1, 2, 3, 4, 5, 6, 7, 8, 9, 10, 11, 12, 13] rfl rfl (by decide) (by decide) rfl rfl (by decide) rfl hl.1 rfl (Nat.le_of_ble_eq_true rfl) dO_table_1 ⟨Nat.le_of_ble_eq_true rfl, Nat.le_of_ble_eq_true rfl⟩ (fun E ce q9 H locs hex hP hD hS hce hcv hcl => hout hP hD hS (Nat.le_of_ble_eq_true rfl) (Nat.le_of_ble_eq_true rfl) (px_s hex) hce hcv hcl) (fun H locs hn1 hP hD hS => ?_)
  have hr1 := qn_run hn1 hrn hro
  refine lv_iload_n hx hb dO_table_4 rfl (lv_at hl 1 rfl) ?_
  refine lv_iconst (v := 0) hx hb dO_table_5 (by decide) ?_
  refine lv_bipush (v := 18) hx hb dO_table_6 (by decide) ?_
  refine qx_callSv (As := [.int a0, .int 0, .int 18]) (rest := []) (wr := [(o0, .inr (0, [.ref o1, .ref o2, .ref o3, .ref o4, .int (nI ru), .int yg, .int ch, .int (nI sp), .int (nI dl), .int mk, .ref o5, .ref o6, .ref o7, .int (nI rr), .int (nI yr), .int (nI sd), .int (nI rn)])), (o1, .inr (1, [.ref z1, .ref z2, .ref z3, .ref z4, .ref z5])), (z1, .inl (cI, 6, .inl nu)), (z2, .inl (cI, 6, .inl wt)), (z3, .inl (cI, 6, .inl rp)), (z4, .inl (cI, 6, .inl di)), (z5, .inl (cJ, 6, .inr (.inl lv))), (o2, .inl (cI, 6, .inl lo)), (o3, .inl (cI, 6, .inl hi)), (o6, .inr (2, [.ref qg])), (qg, .inl (cG, 4, .inr (.inr (.inr (.inr (pf_gf qr)))))), (qr 0, .inl (cJ, 320, .inr (.inl (M 0)))), (qr 1, .inl (cJ, 320, .inr (.inl (M 1)))), (qr 2, .inl (cJ, 320, .inr (.inl (M 2)))), (qr 3, .inl (cJ, 320, .inr (.inl (M 3))))]) (ws2 := [(o0, .inr (0, [.ref o1, .ref o2, .ref o3, .ref o4, .int (nI ru), .int yg, .int ch, .int (nI sp), .int (nI dl), .int mk, .ref o5, .ref o6, .ref o7, .int (nI rr), .int (nI yr), .int (nI sd), .int (nI rn)])), (o1, .inr (1, [.ref z1, .ref z2, .ref z3, .ref z4, .ref z5])), (z1, .inl (cI, 6, .inl nu)), (z2, .inl (cI, 6, .inl wt)), (z3, .inl (cI, 6, .inl rp)), (z4, .inl (cI, 6, .inl di)), (z5, .inl (cJ, 6, .inr (.inl lv))), (o2, .inl (cI, 6, .inl lo)), (o3, .inl (cI, 6, .inl hi)), (o6, .inr (2, [.ref qg])), (qg, .inl (cG, 4, .inr (.inr (.inr (.inr (pf_gf qr)))))), (qr 0, .inl (cJ, 320, .inr (.inl (M 0)))), (qr 1, .inl (cJ, 320, .inr (.inl (M 1)))), (qr 2, .inl (cJ, 320, .inr (.inl (M 2)))), (qr 3, .inl (cJ, 320, .inr (.inl (M 3))))]) qZ_ok hZ ⟨hx, hb, hml, hown, hts⟩ (c_requirePlace l dC dI cI cJ cG a0 0 18 hst) (va_cwS 3 hts (qg_S mq_1_126 mq_1_127 mq_1_1 mq_1_128) rfl rfl rfl (by decide +kernel) ⟨Nat.le_of_ble_eq_true rfl, Nat.le_of_ble_eq_true rfl⟩) hK hP hD hS hA [] [0, 1, 2, 3, 4, 5, 6, 7, 8, 9, 10, 11, 12, 13, 14] [0, 1, 2, 3, 4, 5, 6, 7, 8, 9, 10, 11, 12, 13, 14] rfl rfl (by decide) (by decide) rfl rfl (by decide) rfl hl.1 rfl (Nat.le_of_ble_eq_true rfl) dO_table_8 ⟨Nat.le_of_ble_eq_true rfl, Nat.le_of_ble_eq_true rfl⟩ (fun E ce q9 H locs hex hP hD hS hce hcv hcl => hout hP hD hS (Nat.le_of_ble_eq_true rfl) (Nat.le_of_ble_eq_true rfl) (px_n hn1 hex) hce hcv hcl) (fun H locs hn8 hP hD hS => ?_)
  refine lv_aload_n hx hb dO_table_11 rfl (lv_at hl 0 rfl) ?_
  refine lv_bipush (v := 50) hx hb dO_table_12 (by decide) ?_
  refine lv_iload_n hx hb dO_table_14 rfl (lv_at hl 1 rfl) ?_
  refine lv_imul hx hb dO_table_15 ?_
  refine qr_callVl (As := [.int (50 * a0)]) (rest := []) (wr := []) (ws2 := [(o0, .inr (0, [.ref o1, .ref o2, .ref o3, .ref o4, .int (nI ru), .int yg, .int ch, .int (nI sp), .int (nI dl), .int mk, .ref o5, .ref o6, .ref o7, .int (nI rr), .int (nI yr), .int (nI sd), .int (nI rn)])), (o1, .inr (1, [.ref z1, .ref z2, .ref z3, .ref z4, .ref z5])), (z1, .inl (cI, 6, .inl nu)), (z2, .inl (cI, 6, .inl wt)), (z3, .inl (cI, 6, .inl rp)), (z4, .inl (cI, 6, .inl di)), (z5, .inl (cJ, 6, .inr (.inl ((pf_all nu wt rp di (lo rr).toInt64 (hi rr).toInt64 (50 * a0) sp dl yg ch yr lv M sd).1)))), (o2, .inl (cI, 6, .inl lo)), (o3, .inl (cI, 6, .inl hi)), (o6, .inr (2, [.ref qg])), (qg, .inl (cG, 4, .inr (.inr (.inr (.inr (pf_gf qr)))))), (qr 0, .inl (cJ, 320, .inr (.inl (((pf_all nu wt rp di (lo rr).toInt64 (hi rr).toInt64 (50 * a0) sp dl yg ch yr lv M sd).2) 0)))), (qr 1, .inl (cJ, 320, .inr (.inl (((pf_all nu wt rp di (lo rr).toInt64 (hi rr).toInt64 (50 * a0) sp dl yg ch yr lv M sd).2) 1)))), (qr 2, .inl (cJ, 320, .inr (.inl (((pf_all nu wt rp di (lo rr).toInt64 (hi rr).toInt64 (50 * a0) sp dl yg ch yr lv M sd).2) 2)))), (qr 3, .inl (cJ, 320, .inr (.inl (((pf_all nu wt rp di (lo rr).toInt64 (hi rr).toInt64 (50 * a0) sp dl yg ch yr lv M sd).2) 3))))]) ⟨hx, hb, hml, hown, hts⟩ (c_caughtAtRate l dC dI cI cJ cG o0 o1 o2 o3 o4 o5 o6 o7 ru sp dl rr yr sd rn yg ch mk z1 z2 z3 z4 z5 qg qr M nu wt rp di lo hi lv (50 * a0) (by omega) (by omega) (by omega) (by omega) (by omega) (by omega)) (cwV 1 hts (qg_V mq_2_194 mq_2_196 mq_p_13 mq_1_1 mq_2_197) rfl rfl rfl (by decide +kernel) ⟨Nat.le_of_ble_eq_true rfl, Nat.le_of_ble_eq_true rfl⟩) hK hP hD hS hA (ci := 0) (q0 := 0) rfl rfl [0, 1, 2, 3, 4, 5, 6, 7, 8, 9, 10, 11, 12, 13, 14] [] [0, 1, 2, 3, 4, 5, 6, 7, 8, 9, 10, 11, 12, 13, 14] rfl rfl (by decide) (by decide) rfl (by decide) rfl hl.1 rfl (Nat.le_of_ble_eq_true rfl) dO_table_16 ⟨Nat.le_of_ble_eq_true rfl, Nat.le_of_ble_eq_true rfl⟩ (fun H locs hP hD hS => ?_)
  exact hret hP hD hS (Nat.le_of_ble_eq_true rfl) (Nat.le_of_ble_eq_true rfl) (px_n hn1 hn8) (rfl) dO_table_19

set_option maxHeartbeats 4000000 in
set_option maxRecDepth 100000 in
theorem c_top (o0 o1 o2 o3 o4 o5 o6 o7 ru sp dl rr yr sd rn : Nat) (yg ch mk : Int32) (z1 z2 z3 z4 z5 : Nat) (qg : Nat) (qr : Nat → Nat) (M : Nat → Nat → Int64) (nu wt rp di lo hi : Nat → Int32) (lv : Nat → Int64) (hst : l.stackTraces = false) (hrn : rn < 2 ^ 31) (hsd : sd ≤ 16) (hyr : yr ≤ 20) (hro : rn = 0 ∨ (1 ≤ sd ∧ 1 ≤ yr ∧ rr < 6)) (hsp : sp ≤ 50) (hdl : dl ≤ 3) : qXi qZ l yO_top (wO_top) ({ frames := 7, cells := 1, slots := 6, locals := 129 } : Room) (dC, dI) qCl [(cI, .int), (cJ, .long), (cG, .array .long)] [.ref o0] [(o0, .inr (0, [.ref o1, .ref o2, .ref o3, .ref o4, .int (nI ru), .int yg, .int ch, .int (nI sp), .int (nI dl), .int mk, .ref o5, .ref o6, .ref o7, .int (nI rr), .int (nI yr), .int (nI sd), .int (nI rn)])), (o1, .inr (1, [.ref z1, .ref z2, .ref z3, .ref z4, .ref z5])), (z1, .inl (cI, 6, .inl nu)), (z2, .inl (cI, 6, .inl wt)), (z3, .inl (cI, 6, .inl rp)), (z4, .inl (cI, 6, .inl di)), (z5, .inl (cJ, 6, .inr (.inl lv))), (o2, .inl (cI, 6, .inl lo)), (o3, .inl (cI, 6, .inl hi)), (o6, .inr (2, [.ref qg])), (qg, .inl (cG, 4, .inr (.inr (.inr (.inr (pf_gf qr)))))), (qr 0, .inl (cJ, 320, .inr (.inl (M 0)))), (qr 1, .inl (cJ, 320, .inr (.inl (M 1)))), (qr 2, .inl (cJ, 320, .inr (.inl (M 2)))), (qr 3, .inl (cJ, 320, .inr (.inl (M 3))))] [(o0, .inr (0, [.ref o1, .ref o2, .ref o3, .ref o4, .int (nI ru), .int yg, .int ch, .int (nI sp), .int (nI dl), .int mk, .ref o5, .ref o6, .ref o7, .int (nI rr), .int (nI yr), .int (nI sd), .int (nI rn)])), (o1, .inr (1, [.ref z1, .ref z2, .ref z3, .ref z4, .ref z5])), (z1, .inl (cI, 6, .inl nu)), (z2, .inl (cI, 6, .inl wt)), (z3, .inl (cI, 6, .inl rp)), (z4, .inl (cI, 6, .inl di)), (z5, .inl (cJ, 6, .inr (.inl ((pf_tst nu wt rp di (lo rr).toInt64 (hi rr).toInt64 sp dl yg ch yr sd lv M 19).1)))), (o2, .inl (cI, 6, .inl lo)), (o3, .inl (cI, 6, .inl hi)), (o6, .inr (2, [.ref qg])), (qg, .inl (cG, 4, .inr (.inr (.inr (.inr (pf_gf qr)))))), (qr 0, .inl (cJ, 320, .inr (.inl (((pf_tst nu wt rp di (lo rr).toInt64 (hi rr).toInt64 sp dl yg ch yr sd lv M 19).2) 0)))), (qr 1, .inl (cJ, 320, .inr (.inl (((pf_tst nu wt rp di (lo rr).toInt64 (hi rr).toInt64 sp dl yg ch yr sd lv M 19).2) 1)))), (qr 2, .inl (cJ, 320, .inr (.inl (((pf_tst nu wt rp di (lo rr).toInt64 (hi rr).toInt64 sp dl yg ch yr sd lv M 19).2) 2)))), (qr 3, .inl (cJ, 320, .inr (.inl (((pf_tst nu wt rp di (lo rr).toInt64 (hi rr).toInt64 sp dl yg ch yr sd lv M 19).2) 3))))] (px_run (nI rn)) ((pf_tp (pf_tv nu wt rp di (lo rr).toInt64 (hi rr).toInt64 sp dl yg ch yr sd lv M) 18).1) 1 6 := by
  refine qx_i (cc := prog_1_method_17_code) (maxL := 7) (by decide) rfl (Nat.le_of_ble_eq_true rfl) ?_
  intro p e s m args below meth c Q A ls hx hb hml hown hnm hts hA hK hP hD hS hl hZ hret hout hfin
  have hl : lv_has ls 7 [(0, .ref o0)] := hl
  refine lv_aload_n hx hb dO_top_0 rfl (lv_at hl 0 rfl) ?_
  refine qx_callVv (As := []) (rest := []) (wr := [(o1, .inr (1, [.ref z1, .ref z2, .ref z3, .ref z4, .ref z5])), (z1, .inl (cI, 6, .inl nu)), (z2, .inl (cI, 6, .inl wt)), (z3, .inl (cI, 6, .inl rp)), (z4, .inl (cI, 6, .inl di)), (z5, .inl (cJ, 6, .inr (.inl lv))), (o2, .inl (cI, 6, .inl lo)), (o3, .inl (cI, 6, .inl hi)), (o6, .inr (2, [.ref qg])), (qg, .inl (cG, 4, .inr (.inr (.inr (.inr (pf_gf qr)))))), (qr 0, .inl (cJ, 320, .inr (.inl (M 0)))), (qr 1, .inl (cJ, 320, .inr (.inl (M 1)))), (qr 2, .inl (cJ, 320, .inr (.inl (M 2)))), (qr 3, .inl (cJ, 320, .inr (.inl (M 3))))]) (ws2 := [(o0, .inr (0, [.ref o1, .ref o2, .ref o3, .ref o4, .int (nI ru), .int yg, .int ch, .int (nI sp), .int (nI dl), .int mk, .ref o5, .ref o6, .ref o7, .int (nI rr), .int (nI yr), .int (nI sd), .int (nI rn)])), (o1, .inr (1, [.ref z1, .ref z2, .ref z3, .ref z4, .ref z5])), (z1, .inl (cI, 6, .inl nu)), (z2, .inl (cI, 6, .inl wt)), (z3, .inl (cI, 6, .inl rp)), (z4, .inl (cI, 6, .inl di)), (z5, .inl (cJ, 6, .inr (.inl lv))), (o2, .inl (cI, 6, .inl lo)), (o3, .inl (cI, 6, .inl hi)), (o6, .inr (2, [.ref qg])), (qg, .inl (cG, 4, .inr (.inr (.inr (.inr (pf_gf qr)))))), (qr 0, .inl (cJ, 320, .inr (.inl (M 0)))), (qr 1, .inl (cJ, 320, .inr (.inl (M 1)))), (qr 2, .inl (cJ, 320, .inr (.inl (M 2)))), (qr 3, .inl (cJ, 320, .inr (.inl (M 3))))]) qZ_ok hZ ⟨hx, hb, hml, hown, hts⟩ (c_requireRun l dC dI cI cJ cG o0 o1 o2 o3 o4 o5 o6 o7 ru sp dl rr yr sd rn yg ch mk hst) (cwV 0 hts (qg_V mq_2_130 mq_2_132 mq_p_10 mq_1_1 mq_2_133) rfl rfl rfl (by decide +kernel) ⟨Nat.le_of_ble_eq_true rfl, Nat.le_of_ble_eq_true rfl⟩) hK hP hD hS hA (ci := 0) (q0 := 0) rfl rfl [0] [1, 2, 3, 4, 5, 6, 7, 8, 9, 10, 11, 12, 13, 14] [14, 0, 1, 2, 3, 4, 5, 6, 7, 8, 9, 10, 11, 12, 13] rfl rfl (by decide) (by decide) rfl rfl (by decide) rfl hl.1 rfl (Nat.le_of_ble_eq_true rfl) dO_top_1 ⟨Nat.le_of_ble_eq_true rfl, Nat.le_of_ble_eq_true rfl⟩ (fun E ce q9 H locs hex hP hD hS hce hcv hcl => hout hP hD hS (Nat.le_of_ble_eq_true rfl) (Nat.le_of_ble_eq_true rfl) (hex) hce hcv hcl) (fun H locs hn1 hP hD hS => ?_)
  have hr1 := qn_run hn1 hrn hro
  refine lv_iconst (v := 0) hx hb dO_top_4 (by decide) ?_
  refine lv_istore_n (lv' := [(1, .int 0), (0, .ref o0)]) hx hb dO_top_5 rfl hl (by decide) rfl (fun ls hl => ?_)
  refine lv_aload_n hx hb dO_top_6 rfl (lv_at hl 1 rfl) ?_
  refine lv_iconst (v := 0) hx hb dO_top_7 (by decide) ?_
  refine qr_topi (y := 50 * nI 0) (by decide) ?_
  refine qr_callVl (As := [.int (50 * nI 0)]) (rest := []) (wr := []) (ws2 := [(o0, .inr (0, [.ref o1, .ref o2, .ref o3, .ref o4, .int (nI ru), .int yg, .int ch, .int (nI sp), .int (nI dl), .int mk, .ref o5, .ref o6, .ref o7, .int (nI rr), .int (nI yr), .int (nI sd), .int (nI rn)])), (o1, .inr (1, [.ref z1, .ref z2, .ref z3, .ref z4, .ref z5])), (z1, .inl (cI, 6, .inl nu)), (z2, .inl (cI, 6, .inl wt)), (z3, .inl (cI, 6, .inl rp)), (z4, .inl (cI, 6, .inl di)), (z5, .inl (cJ, 6, .inr (.inl ((pf_all nu wt rp di (lo rr).toInt64 (hi rr).toInt64 (50 * nI 0) sp dl yg ch yr lv M sd).1)))), (o2, .inl (cI, 6, .inl lo)), (o3, .inl (cI, 6, .inl hi)), (o6, .inr (2, [.ref qg])), (qg, .inl (cG, 4, .inr (.inr (.inr (.inr (pf_gf qr)))))), (qr 0, .inl (cJ, 320, .inr (.inl (((pf_all nu wt rp di (lo rr).toInt64 (hi rr).toInt64 (50 * nI 0) sp dl yg ch yr lv M sd).2) 0)))), (qr 1, .inl (cJ, 320, .inr (.inl (((pf_all nu wt rp di (lo rr).toInt64 (hi rr).toInt64 (50 * nI 0) sp dl yg ch yr lv M sd).2) 1)))), (qr 2, .inl (cJ, 320, .inr (.inl (((pf_all nu wt rp di (lo rr).toInt64 (hi rr).toInt64 (50 * nI 0) sp dl yg ch yr lv M sd).2) 2)))), (qr 3, .inl (cJ, 320, .inr (.inl (((pf_all nu wt rp di (lo rr).toInt64 (hi rr).toInt64 (50 * nI 0) sp dl yg ch yr lv M sd).2) 3))))]) ⟨hx, hb, hml, hown, hts⟩ (c_caughtAtRate l dC dI cI cJ cG o0 o1 o2 o3 o4 o5 o6 o7 ru sp dl rr yr sd rn yg ch mk z1 z2 z3 z4 z5 qg qr M nu wt rp di lo hi lv (50 * nI 0) (by omega) (by omega) (by omega) (by omega) (by omega) (by omega)) (cwV 1 hts (qg_V mq_2_194 mq_2_196 mq_p_13 mq_1_1 mq_2_197) rfl rfl rfl (by decide +kernel) ⟨Nat.le_of_ble_eq_true rfl, Nat.le_of_ble_eq_true rfl⟩) hK hP hD hS hA (ci := 0) (q0 := 0) rfl rfl [0, 1, 2, 3, 4, 5, 6, 7, 8, 9, 10, 11, 12, 13, 14] [] [0, 1, 2, 3, 4, 5, 6, 7, 8, 9, 10, 11, 12, 13, 14] rfl rfl (by decide) (by decide) rfl (by decide) rfl hl.1 rfl (Nat.le_of_ble_eq_true rfl) dO_top_8 ⟨Nat.le_of_ble_eq_true rfl, Nat.le_of_ble_eq_true rfl⟩ (fun H locs hP hD hS => ?_)
  have hP : va_P (dC, dI) qCl [(o0, .inr (0, [.ref o1, .ref o2, .ref o3, .ref o4, .int (nI ru), .int yg, .int ch, .int (nI sp), .int (nI dl), .int mk, .ref o5, .ref o6, .ref o7, .int (nI rr), .int (nI yr), .int (nI sd), .int (nI rn)])), (o1, .inr (1, [.ref z1, .ref z2, .ref z3, .ref z4, .ref z5])), (z1, .inl (cI, 6, .inl nu)), (z2, .inl (cI, 6, .inl wt)), (z3, .inl (cI, 6, .inl rp)), (z4, .inl (cI, 6, .inl di)), (z5, .inl (cJ, 6, .inr (.inl ((pf_tst nu wt rp di (lo rr).toInt64 (hi rr).toInt64 sp dl yg ch yr sd lv M 1).1)))), (o2, .inl (cI, 6, .inl lo)), (o3, .inl (cI, 6, .inl hi)), (o6, .inr (2, [.ref qg])), (qg, .inl (cG, 4, .inr (.inr (.inr (.inr (pf_gf qr)))))), (qr 0, .inl (cJ, 320, .inr (.inl (((pf_tst nu wt rp di (lo rr).toInt64 (hi rr).toInt64 sp dl yg ch yr sd lv M 1).2) 0)))), (qr 1, .inl (cJ, 320, .inr (.inl (((pf_tst nu wt rp di (lo rr).toInt64 (hi rr).toInt64 sp dl yg ch yr sd lv M 1).2) 1)))), (qr 2, .inl (cJ, 320, .inr (.inl (((pf_tst nu wt rp di (lo rr).toInt64 (hi rr).toInt64 sp dl yg ch yr sd lv M 1).2) 2)))), (qr 3, .inl (cJ, 320, .inr (.inl (((pf_tst nu wt rp di (lo rr).toInt64 (hi rr).toInt64 sp dl yg ch yr sd lv M 1).2) 3))))] H := hP
  have hD : va_D A [(o0, .inr (0, [.ref o1, .ref o2, .ref o3, .ref o4, .int (nI ru), .int yg, .int ch, .int (nI sp), .int (nI dl), .int mk, .ref o5, .ref o6, .ref o7, .int (nI rr), .int (nI yr), .int (nI sd), .int (nI rn)])), (o1, .inr (1, [.ref z1, .ref z2, .ref z3, .ref z4, .ref z5])), (z1, .inl (cI, 6, .inl nu)), (z2, .inl (cI, 6, .inl wt)), (z3, .inl (cI, 6, .inl rp)), (z4, .inl (cI, 6, .inl di)), (z5, .inl (cJ, 6, .inr (.inl ((pf_tst nu wt rp di (lo rr).toInt64 (hi rr).toInt64 sp dl yg ch yr sd lv M 1).1)))), (o2, .inl (cI, 6, .inl lo)), (o3, .inl (cI, 6, .inl hi)), (o6, .inr (2, [.ref qg])), (qg, .inl (cG, 4, .inr (.inr (.inr (.inr (pf_gf qr)))))), (qr 0, .inl (cJ, 320, .inr (.inl (((pf_tst nu wt rp di (lo rr).toInt64 (hi rr).toInt64 sp dl yg ch yr sd lv M 1).2) 0)))), (qr 1, .inl (cJ, 320, .inr (.inl (((pf_tst nu wt rp di (lo rr).toInt64 (hi rr).toInt64 sp dl yg ch yr sd lv M 1).2) 1)))), (qr 2, .inl (cJ, 320, .inr (.inl (((pf_tst nu wt rp di (lo rr).toInt64 (hi rr).toInt64 sp dl yg ch yr sd lv M 1).2) 2)))), (qr 3, .inl (cJ, 320, .inr (.inl (((pf_tst nu wt rp di (lo rr).toInt64 (hi rr).toInt64 sp dl yg ch yr sd lv M 1).2) 3))))] := hD
  refine lv_lstore_n (lv' := [(2, .long (pf_sumA ((pf_all nu wt rp di (lo rr).toInt64 (hi rr).toInt64 (50 * nI 0) sp dl yg ch yr lv M sd).2 1) 1 yr sd)), (1, .int 0), (0, .ref o0)]) hx hb dO_top_11 rfl hl (by decide) rfl (fun ls hl => ?_)
  have hl : lv_has ls 7 [(2, .long ((pf_tp (pf_tv nu wt rp di (lo rr).toInt64 (hi rr).toInt64 sp dl yg ch yr sd lv M) 0).2)), (1, .int 0), (0, .ref o0)] := hl
  refine lv_iconst (v := 1) hx hb dO_top_12 (by decide) ?_
  refine lv_istore (lv' := [(4, .int 1), (2, .long ((pf_tp (pf_tv nu wt rp di (lo rr).toInt64 (hi rr).toInt64 sp dl yg ch yr sd lv M) 0).2)), (1, .int 0), (0, .ref o0)]) hx hb dO_top_13 hl (by decide) rfl (fun ls hl => ?_)
  have hl : lv_has ls 7 [(4, .int 1), (2, .long ((pf_tp (pf_tv nu wt rp di (lo rr).toInt64 (hi rr).toInt64 sp dl yg ch yr sd lv M) 0).2)), (1, .int ((pf_tp (pf_tv nu wt rp di (lo rr).toInt64 (hi rr).toInt64 sp dl yg ch yr sd lv M) 0).1)), (0, .ref o0)] := hl
  have lp_15 : ∀ (n : Nat) (j : Nat), 19 - j < n → j ≤ 18 → ∀ (H : Heap) (locs : List Loc), va_P (dC, dI) qCl [(o0, .inr (0, [.ref o1, .ref o2, .ref o3, .ref o4, .int (nI ru), .int yg, .int ch, .int (nI sp), .int (nI dl), .int mk, .ref o5, .ref o6, .ref o7, .int (nI rr), .int (nI yr), .int (nI sd), .int (nI rn)])), (o1, .inr (1, [.ref z1, .ref z2, .ref z3, .ref z4, .ref z5])), (z1, .inl (cI, 6, .inl nu)), (z2, .inl (cI, 6, .inl wt)), (z3, .inl (cI, 6, .inl rp)), (z4, .inl (cI, 6, .inl di)), (z5, .inl (cJ, 6, .inr (.inl ((pf_tst nu wt rp di (lo rr).toInt64 (hi rr).toInt64 sp dl yg ch yr sd lv M (j + 1)).1)))), (o2, .inl (cI, 6, .inl lo)), (o3, .inl (cI, 6, .inl hi)), (o6, .inr (2, [.ref qg])), (qg, .inl (cG, 4, .inr (.inr (.inr (.inr (pf_gf qr)))))), (qr 0, .inl (cJ, 320, .inr (.inl (((pf_tst nu wt rp di (lo rr).toInt64 (hi rr).toInt64 sp dl yg ch yr sd lv M (j + 1)).2) 0)))), (qr 1, .inl (cJ, 320, .inr (.inl (((pf_tst nu wt rp di (lo rr).toInt64 (hi rr).toInt64 sp dl yg ch yr sd lv M (j + 1)).2) 1)))), (qr 2, .inl (cJ, 320, .inr (.inl (((pf_tst nu wt rp di (lo rr).toInt64 (hi rr).toInt64 sp dl yg ch yr sd lv M (j + 1)).2) 2)))), (qr 3, .inl (cJ, 320, .inr (.inl (((pf_tst nu wt rp di (lo rr).toInt64 (hi rr).toInt64 sp dl yg ch yr sd lv M (j + 1)).2) 3))))] H → va_D A [(o0, .inr (0, [.ref o1, .ref o2, .ref o3, .ref o4, .int (nI ru), .int yg, .int ch, .int (nI sp), .int (nI dl), .int mk, .ref o5, .ref o6, .ref o7, .int (nI rr), .int (nI yr), .int (nI sd), .int (nI rn)])), (o1, .inr (1, [.ref z1, .ref z2, .ref z3, .ref z4, .ref z5])), (z1, .inl (cI, 6, .inl nu)), (z2, .inl (cI, 6, .inl wt)), (z3, .inl (cI, 6, .inl rp)), (z4, .inl (cI, 6, .inl di)), (z5, .inl (cJ, 6, .inr (.inl ((pf_tst nu wt rp di (lo rr).toInt64 (hi rr).toInt64 sp dl yg ch yr sd lv M (j + 1)).1)))), (o2, .inl (cI, 6, .inl lo)), (o3, .inl (cI, 6, .inl hi)), (o6, .inr (2, [.ref qg])), (qg, .inl (cG, 4, .inr (.inr (.inr (.inr (pf_gf qr)))))), (qr 0, .inl (cJ, 320, .inr (.inl (((pf_tst nu wt rp di (lo rr).toInt64 (hi rr).toInt64 sp dl yg ch yr sd lv M (j + 1)).2) 0)))), (qr 1, .inl (cJ, 320, .inr (.inl (((pf_tst nu wt rp di (lo rr).toInt64 (hi rr).toInt64 sp dl yg ch yr sd lv M (j + 1)).2) 1)))), (qr 2, .inl (cJ, 320, .inr (.inl (((pf_tst nu wt rp di (lo rr).toInt64 (hi rr).toInt64 sp dl yg ch yr sd lv M (j + 1)).2) 2)))), (qr 3, .inl (cJ, 320, .inr (.inl (((pf_tst nu wt rp di (lo rr).toInt64 (hi rr).toInt64 sp dl yg ch yr sd lv M (j + 1)).2) 3))))] → va_S A s.heap H locs → ∀ (ls : Array Slot), lv_has ls 7 [(0, .ref o0), (1, .int ((pf_tp (pf_tv nu wt rp di (lo rr).toInt64 (hi rr).toInt64 sp dl yg ch yr sd lv M) j).1)), (2, .long ((pf_tp (pf_tv nu wt rp di (lo rr).toInt64 (hi rr).toInt64 sp dl yg ch yr sd lv M) j).2)), (4, .int (nI (j + 1)))] → W p l e ({ frames := 7, cells := 1, slots := 6, locals := 129 } : Room) s m args below meth c H locs 1 6 Q (F0 m 15 ls []) := by
    intro n_15
    induction n_15 with
    | zero => intro j hm; exact absurd hm (Nat.not_lt_zero _)
    | succ n_15 ih_15 =>
      intro j hm_15 hj H locs hP hD hS ls hl
      refine lv_iload hx hb dO_top_15 (lv_at hl 3 rfl) ?_
      refine lv_bipush (v := 19) hx hb dO_top_17 (by decide) ?_
      refine lv_icmp_ge (tgt := 52) hx hb dO_top_19 (by decide) (fun h19 => ?_) (fun h19 => ?_)
      · have e_j : j = 18 := by have := qn_ge (b := 19) h19 (by omega) (by decide); omega
        have hP : va_P (dC, dI) qCl [(o0, .inr (0, [.ref o1, .ref o2, .ref o3, .ref o4, .int (nI ru), .int yg, .int ch, .int (nI sp), .int (nI dl), .int mk, .ref o5, .ref o6, .ref o7, .int (nI rr), .int (nI yr), .int (nI sd), .int (nI rn)])), (o1, .inr (1, [.ref z1, .ref z2, .ref z3, .ref z4, .ref z5])), (z1, .inl (cI, 6, .inl nu)), (z2, .inl (cI, 6, .inl wt)), (z3, .inl (cI, 6, .inl rp)), (z4, .inl (cI, 6, .inl di)), (z5, .inl (cJ, 6, .inr (.inl ((pf_tst nu wt rp di (lo rr).toInt64 (hi rr).toInt64 sp dl yg ch yr sd lv M (18 + 1)).1)))), (o2, .inl (cI, 6, .inl lo)), (o3, .inl (cI, 6, .inl hi)), (o6, .inr (2, [.ref qg])), (qg, .inl (cG, 4, .inr (.inr (.inr (.inr (pf_gf qr)))))), (qr 0, .inl (cJ, 320, .inr (.inl (((pf_tst nu wt rp di (lo rr).toInt64 (hi rr).toInt64 sp dl yg ch yr sd lv M (18 + 1)).2) 0)))), (qr 1, .inl (cJ, 320, .inr (.inl (((pf_tst nu wt rp di (lo rr).toInt64 (hi rr).toInt64 sp dl yg ch yr sd lv M (18 + 1)).2) 1)))), (qr 2, .inl (cJ, 320, .inr (.inl (((pf_tst nu wt rp di (lo rr).toInt64 (hi rr).toInt64 sp dl yg ch yr sd lv M (18 + 1)).2) 2)))), (qr 3, .inl (cJ, 320, .inr (.inl (((pf_tst nu wt rp di (lo rr).toInt64 (hi rr).toInt64 sp dl yg ch yr sd lv M (18 + 1)).2) 3))))] H := by first | exact hP | (rw [e_j] at hP; exact hP)
        have hD : va_D A [(o0, .inr (0, [.ref o1, .ref o2, .ref o3, .ref o4, .int (nI ru), .int yg, .int ch, .int (nI sp), .int (nI dl), .int mk, .ref o5, .ref o6, .ref o7, .int (nI rr), .int (nI yr), .int (nI sd), .int (nI rn)])), (o1, .inr (1, [.ref z1, .ref z2, .ref z3, .ref z4, .ref z5])), (z1, .inl (cI, 6, .inl nu)), (z2, .inl (cI, 6, .inl wt)), (z3, .inl (cI, 6, .inl rp)), (z4, .inl (cI, 6, .inl di)), (z5, .inl (cJ, 6, .inr (.inl ((pf_tst nu wt rp di (lo rr).toInt64 (hi rr).toInt64 sp dl yg ch yr sd lv M (18 + 1)).1)))), (o2, .inl (cI, 6, .inl lo)), (o3, .inl (cI, 6, .inl hi)), (o6, .inr (2, [.ref qg])), (qg, .inl (cG, 4, .inr (.inr (.inr (.inr (pf_gf qr)))))), (qr 0, .inl (cJ, 320, .inr (.inl (((pf_tst nu wt rp di (lo rr).toInt64 (hi rr).toInt64 sp dl yg ch yr sd lv M (18 + 1)).2) 0)))), (qr 1, .inl (cJ, 320, .inr (.inl (((pf_tst nu wt rp di (lo rr).toInt64 (hi rr).toInt64 sp dl yg ch yr sd lv M (18 + 1)).2) 1)))), (qr 2, .inl (cJ, 320, .inr (.inl (((pf_tst nu wt rp di (lo rr).toInt64 (hi rr).toInt64 sp dl yg ch yr sd lv M (18 + 1)).2) 2)))), (qr 3, .inl (cJ, 320, .inr (.inl (((pf_tst nu wt rp di (lo rr).toInt64 (hi rr).toInt64 sp dl yg ch yr sd lv M (18 + 1)).2) 3))))] := by first | exact hD | (rw [e_j] at hD; exact hD)
        have hl : lv_has ls 7 [(0, .ref o0), (1, .int ((pf_tp (pf_tv nu wt rp di (lo rr).toInt64 (hi rr).toInt64 sp dl yg ch yr sd lv M) 18).1)), (2, .long ((pf_tp (pf_tv nu wt rp di (lo rr).toInt64 (hi rr).toInt64 sp dl yg ch yr sd lv M) 18).2)), (4, .int (nI (18 + 1)))] := by first | exact hl | (rw [e_j] at hl; exact hl)
        refine lv_iload_n hx hb dO_top_52 rfl (lv_at hl 1 rfl) ?_
        exact hret hP hD hS (Nat.le_of_ble_eq_true rfl) (Nat.le_of_ble_eq_true rfl) (hn1) (rfl) dO_top_53
      · have hlt : j < 18 := by have := qn_nge (b := 19) h19 (by omega); omega
        refine lv_aload_n hx hb dO_top_22 rfl (lv_at hl 0 rfl) ?_
        refine lv_bipush (v := 50) hx hb dO_top_23 (by decide) ?_
        refine lv_iload hx hb dO_top_25 (lv_at hl 3 rfl) ?_
        refine lv_imul hx hb dO_top_27 ?_
        refine qr_callVl (As := [.int (50 * (nI (j + 1)))]) (rest := []) (wr := []) (ws2 := [(o0, .inr (0, [.ref o1, .ref o2, .ref o3, .ref o4, .int (nI ru), .int yg, .int ch, .int (nI sp), .int (nI dl), .int mk, .ref o5, .ref o6, .ref o7, .int (nI rr), .int (nI yr), .int (nI sd), .int (nI rn)])), (o1, .inr (1, [.ref z1, .ref z2, .ref z3, .ref z4, .ref z5])), (z1, .inl (cI, 6, .inl nu)), (z2, .inl (cI, 6, .inl wt)), (z3, .inl (cI, 6, .inl rp)), (z4, .inl (cI, 6, .inl di)), (z5, .inl (cJ, 6, .inr (.inl ((pf_all nu wt rp di (lo rr).toInt64 (hi rr).toInt64 (50 * (nI (j + 1))) sp dl yg ch yr ((pf_tst nu wt rp di (lo rr).toInt64 (hi rr).toInt64 sp dl yg ch yr sd lv M (j + 1)).1) ((pf_tst nu wt rp di (lo rr).toInt64 (hi rr).toInt64 sp dl yg ch yr sd lv M (j + 1)).2) sd).1)))), (o2, .inl (cI, 6, .inl lo)), (o3, .inl (cI, 6, .inl hi)), (o6, .inr (2, [.ref qg])), (qg, .inl (cG, 4, .inr (.inr (.inr (.inr (pf_gf qr)))))), (qr 0, .inl (cJ, 320, .inr (.inl (((pf_all nu wt rp di (lo rr).toInt64 (hi rr).toInt64 (50 * (nI (j + 1))) sp dl yg ch yr ((pf_tst nu wt rp di (lo rr).toInt64 (hi rr).toInt64 sp dl yg ch yr sd lv M (j + 1)).1) ((pf_tst nu wt rp di (lo rr).toInt64 (hi rr).toInt64 sp dl yg ch yr sd lv M (j + 1)).2) sd).2) 0)))), (qr 1, .inl (cJ, 320, .inr (.inl (((pf_all nu wt rp di (lo rr).toInt64 (hi rr).toInt64 (50 * (nI (j + 1))) sp dl yg ch yr ((pf_tst nu wt rp di (lo rr).toInt64 (hi rr).toInt64 sp dl yg ch yr sd lv M (j + 1)).1) ((pf_tst nu wt rp di (lo rr).toInt64 (hi rr).toInt64 sp dl yg ch yr sd lv M (j + 1)).2) sd).2) 1)))), (qr 2, .inl (cJ, 320, .inr (.inl (((pf_all nu wt rp di (lo rr).toInt64 (hi rr).toInt64 (50 * (nI (j + 1))) sp dl yg ch yr ((pf_tst nu wt rp di (lo rr).toInt64 (hi rr).toInt64 sp dl yg ch yr sd lv M (j + 1)).1) ((pf_tst nu wt rp di (lo rr).toInt64 (hi rr).toInt64 sp dl yg ch yr sd lv M (j + 1)).2) sd).2) 2)))), (qr 3, .inl (cJ, 320, .inr (.inl (((pf_all nu wt rp di (lo rr).toInt64 (hi rr).toInt64 (50 * (nI (j + 1))) sp dl yg ch yr ((pf_tst nu wt rp di (lo rr).toInt64 (hi rr).toInt64 sp dl yg ch yr sd lv M (j + 1)).1) ((pf_tst nu wt rp di (lo rr).toInt64 (hi rr).toInt64 sp dl yg ch yr sd lv M (j + 1)).2) sd).2) 3))))]) ⟨hx, hb, hml, hown, hts⟩ (c_caughtAtRate l dC dI cI cJ cG o0 o1 o2 o3 o4 o5 o6 o7 ru sp dl rr yr sd rn yg ch mk z1 z2 z3 z4 z5 qg qr ((pf_tst nu wt rp di (lo rr).toInt64 (hi rr).toInt64 sp dl yg ch yr sd lv M (j + 1)).2) nu wt rp di lo hi ((pf_tst nu wt rp di (lo rr).toInt64 (hi rr).toInt64 sp dl yg ch yr sd lv M (j + 1)).1) (50 * (nI (j + 1))) (by omega) (by omega) (by omega) (by omega) (by omega) (by omega)) (cwV 1 hts (qg_V mq_2_194 mq_2_196 mq_p_13 mq_1_1 mq_2_197) rfl rfl rfl (by decide +kernel) ⟨Nat.le_of_ble_eq_true rfl, Nat.le_of_ble_eq_true rfl⟩) hK hP hD hS hA (ci := 0) (q0 := 0) rfl rfl [0, 1, 2, 3, 4, 5, 6, 7, 8, 9, 10, 11, 12, 13, 14] [] [0, 1, 2, 3, 4, 5, 6, 7, 8, 9, 10, 11, 12, 13, 14] rfl rfl (by decide) (by decide) rfl (by decide) rfl hl.1 rfl (Nat.le_of_ble_eq_true rfl) dO_top_28 ⟨Nat.le_of_ble_eq_true rfl, Nat.le_of_ble_eq_true rfl⟩ (fun H locs hP hD hS => ?_)
        have hP : va_P (dC, dI) qCl [(o0, .inr (0, [.ref o1, .ref o2, .ref o3, .ref o4, .int (nI ru), .int yg, .int ch, .int (nI sp), .int (nI dl), .int mk, .ref o5, .ref o6, .ref o7, .int (nI rr), .int (nI yr), .int (nI sd), .int (nI rn)])), (o1, .inr (1, [.ref z1, .ref z2, .ref z3, .ref z4, .ref z5])), (z1, .inl (cI, 6, .inl nu)), (z2, .inl (cI, 6, .inl wt)), (z3, .inl (cI, 6, .inl rp)), (z4, .inl (cI, 6, .inl di)), (z5, .inl (cJ, 6, .inr (.inl ((pf_tst nu wt rp di (lo rr).toInt64 (hi rr).toInt64 sp dl yg ch yr sd lv M (j + 1 + 1)).1)))), (o2, .inl (cI, 6, .inl lo)), (o3, .inl (cI, 6, .inl hi)), (o6, .inr (2, [.ref qg])), (qg, .inl (cG, 4, .inr (.inr (.inr (.inr (pf_gf qr)))))), (qr 0, .inl (cJ, 320, .inr (.inl (((pf_tst nu wt rp di (lo rr).toInt64 (hi rr).toInt64 sp dl yg ch yr sd lv M (j + 1 + 1)).2) 0)))), (qr 1, .inl (cJ, 320, .inr (.inl (((pf_tst nu wt rp di (lo rr).toInt64 (hi rr).toInt64 sp dl yg ch yr sd lv M (j + 1 + 1)).2) 1)))), (qr 2, .inl (cJ, 320, .inr (.inl (((pf_tst nu wt rp di (lo rr).toInt64 (hi rr).toInt64 sp dl yg ch yr sd lv M (j + 1 + 1)).2) 2)))), (qr 3, .inl (cJ, 320, .inr (.inl (((pf_tst nu wt rp di (lo rr).toInt64 (hi rr).toInt64 sp dl yg ch yr sd lv M (j + 1 + 1)).2) 3))))] H := hP
        have hD : va_D A [(o0, .inr (0, [.ref o1, .ref o2, .ref o3, .ref o4, .int (nI ru), .int yg, .int ch, .int (nI sp), .int (nI dl), .int mk, .ref o5, .ref o6, .ref o7, .int (nI rr), .int (nI yr), .int (nI sd), .int (nI rn)])), (o1, .inr (1, [.ref z1, .ref z2, .ref z3, .ref z4, .ref z5])), (z1, .inl (cI, 6, .inl nu)), (z2, .inl (cI, 6, .inl wt)), (z3, .inl (cI, 6, .inl rp)), (z4, .inl (cI, 6, .inl di)), (z5, .inl (cJ, 6, .inr (.inl ((pf_tst nu wt rp di (lo rr).toInt64 (hi rr).toInt64 sp dl yg ch yr sd lv M (j + 1 + 1)).1)))), (o2, .inl (cI, 6, .inl lo)), (o3, .inl (cI, 6, .inl hi)), (o6, .inr (2, [.ref qg])), (qg, .inl (cG, 4, .inr (.inr (.inr (.inr (pf_gf qr)))))), (qr 0, .inl (cJ, 320, .inr (.inl (((pf_tst nu wt rp di (lo rr).toInt64 (hi rr).toInt64 sp dl yg ch yr sd lv M (j + 1 + 1)).2) 0)))), (qr 1, .inl (cJ, 320, .inr (.inl (((pf_tst nu wt rp di (lo rr).toInt64 (hi rr).toInt64 sp dl yg ch yr sd lv M (j + 1 + 1)).2) 1)))), (qr 2, .inl (cJ, 320, .inr (.inl (((pf_tst nu wt rp di (lo rr).toInt64 (hi rr).toInt64 sp dl yg ch yr sd lv M (j + 1 + 1)).2) 2)))), (qr 3, .inl (cJ, 320, .inr (.inl (((pf_tst nu wt rp di (lo rr).toInt64 (hi rr).toInt64 sp dl yg ch yr sd lv M (j + 1 + 1)).2) 3))))] := hD
        refine lv_lstore (lv' := [(5, .long (pf_sumA ((pf_all nu wt rp di (lo rr).toInt64 (hi rr).toInt64 (50 * (nI (j + 1))) sp dl yg ch yr ((pf_tst nu wt rp di (lo rr).toInt64 (hi rr).toInt64 sp dl yg ch yr sd lv M (j + 1)).1) ((pf_tst nu wt rp di (lo rr).toInt64 (hi rr).toInt64 sp dl yg ch yr sd lv M (j + 1)).2) sd).2 1) 1 yr sd)), (0, .ref o0), (1, .int ((pf_tp (pf_tv nu wt rp di (lo rr).toInt64 (hi rr).toInt64 sp dl yg ch yr sd lv M) j).1)), (2, .long ((pf_tp (pf_tv nu wt rp di (lo rr).toInt64 (hi rr).toInt64 sp dl yg ch yr sd lv M) j).2)), (4, .int (nI (j + 1)))]) hx hb dO_top_31 hl (by decide) rfl (fun ls hl => ?_)
        have hl : lv_has ls 7 [(5, .long ((pf_tv nu wt rp di (lo rr).toInt64 (hi rr).toInt64 sp dl yg ch yr sd lv M) (j + 1))), (0, .ref o0), (1, .int ((pf_tp (pf_tv nu wt rp di (lo rr).toInt64 (hi rr).toInt64 sp dl yg ch yr sd lv M) j).1)), (2, .long ((pf_tp (pf_tv nu wt rp di (lo rr).toInt64 (hi rr).toInt64 sp dl yg ch yr sd lv M) j).2)), (4, .int (nI (j + 1)))] := hl
        refine lv_lload hx hb dO_top_33 (lv_at hl 0 rfl) ?_
        refine lv_lload_n hx hb dO_top_35 rfl (lv_at hl 3 rfl) ?_
        refine W.lcmp hx hb dO_top_36 ?_
        refine lv_if_le (tgt := 46) hx hb dO_top_37 (by decide) (fun h37 => ?_) (fun h37 => ?_)
        · have h37 := (lg_cmp_le _ _).mp h37
          have h37 : ¬ (pf_tp (pf_tv nu wt rp di (lo rr).toInt64 (hi rr).toInt64 sp dl yg ch yr sd lv M) j).2 < (pf_tv nu wt rp di (lo rr).toInt64 (hi rr).toInt64 sp dl yg ch yr sd lv M) (j + 1) := Int64.not_lt.mpr h37
          have hl : lv_has ls 7 [(5, .long ((pf_tv nu wt rp di (lo rr).toInt64 (hi rr).toInt64 sp dl yg ch yr sd lv M) (j + 1))), (0, .ref o0), (1, .int ((pf_tp (pf_tv nu wt rp di (lo rr).toInt64 (hi rr).toInt64 sp dl yg ch yr sd lv M) (j + 1)).1)), (2, .long ((pf_tp (pf_tv nu wt rp di (lo rr).toInt64 (hi rr).toInt64 sp dl yg ch yr sd lv M) j).2)), (4, .int (nI (j + 1)))] := by have e9 : (pf_tp (pf_tv nu wt rp di (lo rr).toInt64 (hi rr).toInt64 sp dl yg ch yr sd lv M) j).1 = (pf_tp (pf_tv nu wt rp di (lo rr).toInt64 (hi rr).toInt64 sp dl yg ch yr sd lv M) (j + 1)).1 := (by rw [pf_tp_n h37]); first | (rw [← e9]; exact hl) | (rw [e9] at hl; exact hl)
          have hl : lv_has ls 7 [(5, .long ((pf_tv nu wt rp di (lo rr).toInt64 (hi rr).toInt64 sp dl yg ch yr sd lv M) (j + 1))), (0, .ref o0), (1, .int ((pf_tp (pf_tv nu wt rp di (lo rr).toInt64 (hi rr).toInt64 sp dl yg ch yr sd lv M) (j + 1)).1)), (2, .long ((pf_tp (pf_tv nu wt rp di (lo rr).toInt64 (hi rr).toInt64 sp dl yg ch yr sd lv M) (j + 1)).2)), (4, .int (nI (j + 1)))] := by have e9 : (pf_tp (pf_tv nu wt rp di (lo rr).toInt64 (hi rr).toInt64 sp dl yg ch yr sd lv M) j).2 = (pf_tp (pf_tv nu wt rp di (lo rr).toInt64 (hi rr).toInt64 sp dl yg ch yr sd lv M) (j + 1)).2 := (by rw [pf_tp_n h37]); first | (rw [← e9]; exact hl) | (rw [e9] at hl; exact hl)
          refine lv_iinc (v := nI ((j + 1) + 1)) (lv' := [(4, .int (nI ((j + 1) + 1))), (5, .long ((pf_tv nu wt rp di (lo rr).toInt64 (hi rr).toInt64 sp dl yg ch yr sd lv M) (j + 1))), (0, .ref o0), (1, .int ((pf_tp (pf_tv nu wt rp di (lo rr).toInt64 (hi rr).toInt64 sp dl yg ch yr sd lv M) (j + 1)).1)), (2, .long ((pf_tp (pf_tv nu wt rp di (lo rr).toInt64 (hi rr).toInt64 sp dl yg ch yr sd lv M) (j + 1)).2))]) hx hb dO_top_46 hl (k := 4) rfl (nI_1 _) (by decide) rfl (fun ls hl => ?_)
          refine lv_goto (tgt := 15) hx hb dO_top_49 (by decide) ?_
          exact ih_15 (j + 1) (by omega) (by omega) _ _ hP hD hS ls (lv_sub hl [2, 3, 4, 0] rfl)
        · have h37 := mt (lg_cmp_le _ _).mpr h37
          have h37 : (pf_tp (pf_tv nu wt rp di (lo rr).toInt64 (hi rr).toInt64 sp dl yg ch yr sd lv M) j).2 < (pf_tv nu wt rp di (lo rr).toInt64 (hi rr).toInt64 sp dl yg ch yr sd lv M) (j + 1) := Int64.not_le.mp h37
          refine lv_iload hx hb dO_top_40 (lv_at hl 4 rfl) ?_
          refine qr_topi (y := (pf_tp (pf_tv nu wt rp di (lo rr).toInt64 (hi rr).toInt64 sp dl yg ch yr sd lv M) (j + 1)).1) (by rw [pf_tp_y h37]) ?_
          refine lv_istore_n (lv' := [(1, .int ((pf_tp (pf_tv nu wt rp di (lo rr).toInt64 (hi rr).toInt64 sp dl yg ch yr sd lv M) (j + 1)).1)), (5, .long ((pf_tv nu wt rp di (lo rr).toInt64 (hi rr).toInt64 sp dl yg ch yr sd lv M) (j + 1))), (0, .ref o0), (2, .long ((pf_tp (pf_tv nu wt rp di (lo rr).toInt64 (hi rr).toInt64 sp dl yg ch yr sd lv M) j).2)), (4, .int (nI (j + 1)))]) hx hb dO_top_42 rfl hl (by decide) rfl (fun ls hl => ?_)
          refine lv_lload hx hb dO_top_43 (lv_at hl 1 rfl) ?_
          refine qr_topl (y := (pf_tp (pf_tv nu wt rp di (lo rr).toInt64 (hi rr).toInt64 sp dl yg ch yr sd lv M) (j + 1)).2) (by rw [pf_tp_y h37]) ?_
          refine lv_lstore_n (lv' := [(2, .long ((pf_tp (pf_tv nu wt rp di (lo rr).toInt64 (hi rr).toInt64 sp dl yg ch yr sd lv M) (j + 1)).2)), (1, .int ((pf_tp (pf_tv nu wt rp di (lo rr).toInt64 (hi rr).toInt64 sp dl yg ch yr sd lv M) (j + 1)).1)), (5, .long ((pf_tv nu wt rp di (lo rr).toInt64 (hi rr).toInt64 sp dl yg ch yr sd lv M) (j + 1))), (0, .ref o0), (4, .int (nI (j + 1)))]) hx hb dO_top_45 rfl hl (by decide) rfl (fun ls hl => ?_)
          refine lv_iinc (v := nI ((j + 1) + 1)) (lv' := [(4, .int (nI ((j + 1) + 1))), (2, .long ((pf_tp (pf_tv nu wt rp di (lo rr).toInt64 (hi rr).toInt64 sp dl yg ch yr sd lv M) (j + 1)).2)), (1, .int ((pf_tp (pf_tv nu wt rp di (lo rr).toInt64 (hi rr).toInt64 sp dl yg ch yr sd lv M) (j + 1)).1)), (5, .long ((pf_tv nu wt rp di (lo rr).toInt64 (hi rr).toInt64 sp dl yg ch yr sd lv M) (j + 1))), (0, .ref o0)]) hx hb dO_top_46 hl (k := 4) rfl (nI_1 _) (by decide) rfl (fun ls hl => ?_)
          refine lv_goto (tgt := 15) hx hb dO_top_49 (by decide) ?_
          exact ih_15 (j + 1) (by omega) (by omega) _ _ hP hD hS ls (lv_sub hl [4, 2, 1, 0] rfl)
  exact lp_15 ((19 - 0) + 1) 0 (by omega) (by omega) _ _ hP hD hS ls (lv_sub hl [3, 2, 1, 0] rfl)

set_option maxHeartbeats 4000000 in
set_option maxRecDepth 100000 in
theorem c_count (o0 o1 o2 o3 o4 o5 o6 o7 ru sp dl rr yr sd rn : Nat) (yg ch mk : Int32) (a0 : Int32) : qMi l yO_count (wO_count) ({ frames := 0, cells := 0, slots := 0, locals := 0 } : Room) (dC, dI) qCl [(cI, .int), (cJ, .long), (cG, .array .long)] [.ref o0, .int a0] [(o0, .inr (0, [.ref o1, .ref o2, .ref o3, .ref o4, .int (nI ru), .int yg, .int ch, .int (nI sp), .int (nI dl), .int mk, .ref o5, .ref o6, .ref o7, .int (nI rr), .int (nI yr), .int (nI sd), .int (nI rn)]))] [(o0, .inr (0, [.ref o1, .ref o2, .ref o3, .ref o4, .int (nI ru), .int yg, .int ch, .int (nI sp), .int (nI dl), .int mk, .ref o5, .ref o6, .ref o7, .int (nI rr), .int (nI yr), .int (nI sd), .int (nI rn)]))] (pf_count a0 ru yr sd rn) 0 0 := by
  refine qm_i (cc := prog_1_method_18_code) (maxL := 2) (by decide) rfl (Nat.le_of_ble_eq_true rfl) ?_
  intro p e s m args below meth c Q A ls hx hb hml hown hnm hts hA hK hP hD hS hl hret
  have hl : lv_has ls 2 [(0, .ref o0), (1, .int a0)] := hl
  refine lv_iload_n hx hb dO_count_0 rfl (lv_at hl 1 rfl) ?_
  by_cases h1_0 : a0 = 0
  · refine lv_tableIn (tgt := 32) hx hb dO_count_1 (by rw [h1_0]; decide) (by rw [h1_0]; decide) (by rw [h1_0]; rfl) (by decide) ?_
    refine lv_aload_n hx hb dO_count_32 rfl (lv_at hl 0 rfl) ?_
    refine va_get (D := (dC, dI)) (ci := 0) (v := .int (nI ru)) (C := "OutlookOdds") (T := TO) (N := 17) hx hb hts inO hown hK hP 0 rfl rfl 4 (by decide) (hts _ mq_1_60) (fun _ h9 => h9) rfl dO_count_33 ?_
    exact hret hP hD hS (Nat.le_of_ble_eq_true rfl) (Nat.le_of_ble_eq_true rfl) (by unfold pf_count; rw [if_pos h1_0]) dO_count_36
  by_cases h1_1 : a0 = 1
  · refine lv_tableIn (tgt := 37) hx hb dO_count_1 (by rw [h1_1]; decide) (by rw [h1_1]; decide) (by rw [h1_1]; rfl) (by decide) ?_
    refine lv_aload_n hx hb dO_count_37 rfl (lv_at hl 0 rfl) ?_
    refine va_get (D := (dC, dI)) (ci := 0) (v := .int (nI yr)) (C := "OutlookOdds") (T := TO) (N := 17) hx hb hts inO hown hK hP 0 rfl rfl 14 (by decide) (hts _ mq_1_70) (fun _ h9 => h9) rfl dO_count_38 ?_
    exact hret hP hD hS (Nat.le_of_ble_eq_true rfl) (Nat.le_of_ble_eq_true rfl) (by unfold pf_count; rw [if_neg h1_0, if_pos h1_1]) dO_count_41
  by_cases h1_2 : a0 = 2
  · refine lv_tableIn (tgt := 42) hx hb dO_count_1 (by rw [h1_2]; decide) (by rw [h1_2]; decide) (by rw [h1_2]; rfl) (by decide) ?_
    refine lv_aload_n hx hb dO_count_42 rfl (lv_at hl 0 rfl) ?_
    refine va_get (D := (dC, dI)) (ci := 0) (v := .int (nI sd)) (C := "OutlookOdds") (T := TO) (N := 17) hx hb hts inO hown hK hP 0 rfl rfl 15 (by decide) (hts _ mq_1_71) (fun _ h9 => h9) rfl dO_count_43 ?_
    exact hret hP hD hS (Nat.le_of_ble_eq_true rfl) (Nat.le_of_ble_eq_true rfl) (by unfold pf_count; rw [if_neg h1_0, if_neg h1_1, if_pos h1_2]) dO_count_46
  by_cases h1_3 : a0 = 3
  · refine lv_tableIn (tgt := 47) hx hb dO_count_1 (by rw [h1_3]; decide) (by rw [h1_3]; decide) (by rw [h1_3]; rfl) (by decide) ?_
    refine lv_aload_n hx hb dO_count_47 rfl (lv_at hl 0 rfl) ?_
    refine va_get (D := (dC, dI)) (ci := 0) (v := .int (nI rn)) (C := "OutlookOdds") (T := TO) (N := 17) hx hb hts inO hown hK hP 0 rfl rfl 16 (by decide) (hts _ mq_1_72) (fun _ h9 => h9) rfl dO_count_48 ?_
    exact hret hP hD hS (Nat.le_of_ble_eq_true rfl) (Nat.le_of_ble_eq_true rfl) (by unfold pf_count; rw [if_neg h1_0, if_neg h1_1, if_neg h1_2, if_pos h1_3]) dO_count_51
  refine lv_tableOut (tgt := 52) hx hb dO_count_1 (qs_out4 h1_0 h1_1 h1_2 h1_3) (by decide) ?_
  refine lv_iconst (v := -1) hx hb dO_count_52 (by decide) ?_
  exact hret hP hD hS (Nat.le_of_ble_eq_true rfl) (Nat.le_of_ble_eq_true rfl) (by unfold pf_count; rw [if_neg h1_0, if_neg h1_1, if_neg h1_2, if_neg h1_3]) dO_count_53

end QO2
end
section
section QCT
def qZc (_ : Nat → Prop) (U : State) (_ : Heap) : Prop := va_AOA .long U ∧ va_Nw (.methodLinkNest "OutlookOdds" 9 yS_init "OutlookOdds") U ∧ va_Nw (.methodLinkNest "OutlookOdds" 32 yY_init "OutlookOdds") U
theorem qZc_ok : qZok qZc := ⟨fun A u U H hW h => ⟨over_moved hW.alike h.1, va_Nw.warmM hW h.2.1, va_Nw.warmM hW h.2.2⟩, fun _ _ _ _ _ h => h, fun _ _ _ _ _ h => h⟩
/-- a constructor: behind it the cells are W1 u, u being where the new ones lie -/
def qMc (l : Launch) (y : MethodName) (ws : List Cond) (rm : Room) (D : va_G) (cl : List vw_C) (tys : List (ClassId × FieldType)) (av : List Value) (w : va_W) (W1 : (Nat → Nat → Nat) → va_W) (mc ms : Nat) : Prop :=
  ∀ sz : Nat, Met l y ws rm (qPx qZc D cl tys av sz w) (va_Qv (fun (_ : Nat → Nat → Nat) => True) (fun u t => va_P D cl (W1 u) t.heap ∧ va_K D cl tys t ∧ va_D (va_A w sz) (W1 u)) (va_A w sz)) mc ms (va_A w sz)
theorem qm_c {l : Launch} {D : va_G} {cl : List vw_C} {tys : List (ClassId × FieldType)} {y : MethodName} {ws ws' : List Cond} {rm : Room} {cc : ByteArray} {maxL mc ms : Nat} {av : List Value} {w : va_W} {W1 : (Nat → Nat → Nat) → va_W} (hy : plainName y.cls = true) (hw : ws = Cond.code y cc maxL none :: ws') (hn : (lg_sl av).length ≤ maxL)
    (body : ∀ (p : Program) (e : Env) (s : State) (m : MethodId) (args : Array Value) (below : List Frame) (meth : Method) (c : Code) (Q : State → Prop) (A : Nat → Prop) (ls : Array Slot),
      p.tables.exec = Jvm.exec → c.code = cc → c.maxLocals = maxL → s.vm.findClass y.cls = some m.cls → meth.name = y.name → (∀ w ∈ ws', w.before args s = true) → (∀ q, s.heap.size ≤ q → A q) → va_K D cl tys s → va_P D cl w s.heap → va_D A w → va_S A s.heap s.heap [] → lv_has ls maxL (lv_args 0 av) → qZc A s s.heap →
      (∀ (u : Nat → Nat → Nat) {H : Heap} {locs : List Loc} {cells slots pc : Nat} {ls : Array Slot}, va_P D cl (W1 u) H → va_D A (W1 u) → va_S A s.heap H locs → cells ≤ mc → slots ≤ ms → decode cc pc = .ok (.return_, 1) → W p l e rm s m args below meth c H locs cells slots Q (F0 m pc ls [])) →
      W p l e rm s m args below meth c s.heap [] 0 0 Q (F0 m 0 ls [])) : qMc l y ws rm D cl tys av w W1 mc ms := by
  intro sz
  refine Met.ofW (cc := cc) (maxL := maxL) (ret := none) hy hw ?_
  intro p e s m args below meth c s₁ B hml hv
  obtain ⟨rfl, rfl, hP, hK, hD0, hZ⟩ := hv
  have hlocks := B.notSynchronized
  have hr := B.returns
  have hl := lv_entry av (n := maxL) hn
  rw [lg_entry_eq]
  refine body p e s m av.toArray below meth c _ (va_A w s.heap.size) _ B.exec B.bytes hml (findClass_of_methodNamed B.named) (name_of_methodNamed B.named B.method).1 (fun w h => atoms_spec (ws := ws) B.pre w (by rw [hw]; exact List.mem_cons_of_mem _ h)) (fun q h => Or.inr h) hK hP hD0.self va_S.rf hl hZ ?_
  intro u H locs cells slots pc ls hP hD hS h1 h2 hd
  refine W.widen (k := mc) (n := ms) h1 h2 ?_
  exact W.vret B.exec B.bytes hr (fun t ht hW => ⟨⟨u, rfl, trivial, by rw [ht]; exact hP, va_K.moved hW.alike hK, hD⟩, hS.F ht⟩) hS.2.2 hd
section Rows
variable {p : Program} {l : Launch} {e : Env} {R : Room} {s : State} {m : MethodId} {args : Array Value} {below : List Frame} {meth : Method} {c : Code} {H : Heap} {locs : List Loc} {cells slots : Nat} {Q : State → Prop}
variable {cc : ByteArray} {pc : Nat} {ls : Array Slot} {rest : List Value} {D : va_G} {cl : List vw_C} {A : Nat → Prop} {a : Nat} {tys : List (ClassId × FieldType)} {ws : va_W} {H0 : Heap}
theorem qr_same {cA cT : ClassId} {ty : FieldType} {t0 : Nat} (hK : va_K D cl tys s) (hK' : va_K D cl (tys ++ [(cA, ty)]) s) (ht : tys[t0]? = some (cT, ty)) (h : ∀ c, va_RA s c ty → s.vm.findClass ("[" ++ ty.toString) = some c) : cA = cT := by
  have h1 := h _ (hK.2 t0 _ ht).2
  have h2 := h _ (hK'.2 tys.length (cA, ty) (by rw [List.getElem?_append_right (Nat.le_refl _), Nat.sub_self]; rfl)).2
  exact Option.some.inj (h2.symm.trans h1)
theorem qr_newI (hexec : p.tables.exec = Jvm.exec) (hb : c.code = cc) (harr : (Cond.arrayClass .int).before args s = true) (hK : va_K D cl tys s) (hP : va_P D cl ws H) (hD : va_D A ws) (hS : va_S A H0 H locs) (hA : ∀ q, H0.size ≤ q → A q) {cT : ClassId} (t0 : Nat) (ht : tys[t0]? = some (cT, .int))
    {n : Int32} {N' : Nat} (hn : ¬ n < 0) (hN : n.toNatClampNeg = N') (hbytes : N' * componentBytes .int ≤ 536870912) (hcells : cells + 1 ≤ R.cells) (hslots : slots + N' ≤ R.slots) (hdg : decode cc pc = .ok (.newarray .int, 2))
    (kk : ∀ (q : Nat) (H1 : Heap), va_P D cl (ws ++ [(q, .inl (cT, N', .inl (fun _ => 0)))]) H1 → va_D A (ws ++ [(q, .inl (cT, N', .inl (fun _ => 0)))]) → va_S A H0 H1 locs →
      W p l e R s m args below meth c H1 locs (cells + 1) (slots + N') Q (F0 m (pc + 2) ls (.ref q :: rest))) : W p l e R s m args below meth c H locs cells slots Q (F0 m pc ls (.int n :: rest)) := by
  refine va_newa (atype := .int) (ty := .int) (a0 := (N', .inl (fun _ => 0))) hexec hb harr rfl hK hP hD hS hA (fun cA => rfl) hn hN hbytes hcells hslots hdg (fun q cA H1 hK' hP hD hS => ?_)
  have e := qr_same hK hK' ht (fun c h => h)
  subst e
  exact kk q H1 hP hD hS
theorem qr_newJ (hexec : p.tables.exec = Jvm.exec) (hb : c.code = cc) (harr : (Cond.arrayClass .long).before args s = true) (hK : va_K D cl tys s) (hP : va_P D cl ws H) (hD : va_D A ws) (hS : va_S A H0 H locs) (hA : ∀ q, H0.size ≤ q → A q) {cT : ClassId} (t0 : Nat) (ht : tys[t0]? = some (cT, .long))
    {n : Int32} {N' : Nat} (hn : ¬ n < 0) (hN : n.toNatClampNeg = N') (hbytes : N' * componentBytes .long ≤ 536870912) (hcells : cells + 1 ≤ R.cells) (hslots : slots + N' ≤ R.slots) (hdg : decode cc pc = .ok (.newarray .long, 2))
    (kk : ∀ (q : Nat) (H1 : Heap), va_P D cl (ws ++ [(q, .inl (cT, N', .inr (.inl (fun _ => 0))))]) H1 → va_D A (ws ++ [(q, .inl (cT, N', .inr (.inl (fun _ => 0))))]) → va_S A H0 H1 locs →
      W p l e R s m args below meth c H1 locs (cells + 1) (slots + N') Q (F0 m (pc + 2) ls (.ref q :: rest))) : W p l e R s m args below meth c H locs cells slots Q (F0 m pc ls (.int n :: rest)) := by
  refine va_newa (atype := .long) (ty := .long) (a0 := (N', .inr (.inl (fun _ => 0)))) hexec hb harr rfl hK hP hD hS hA (fun cA => rfl) hn hN hbytes hcells hslots hdg (fun q cA H1 hK' hP hD hS => ?_)
  have e := qr_same hK hK' ht (fun c h => h)
  subst e
  exact kk q H1 hP hD hS
theorem qr_mna (hexec : p.tables.exec = Jvm.exec) (hb : c.code = cc) {own : String} {index : Nat} {cR cG : ClassId} (hown : s.vm.findClass own = some m.cls) (hclink : (Cond.classLink own index "[[J").before args s = true) (hover : va_AOA .long s) (harr : (Cond.arrayClass .long).before args s = true)
    (hK : va_K D cl tys s) (hP : va_P D cl ws H) (hD : va_D A ws) (hS : va_S A H0 H locs) (hA : ∀ q, H0.size ≤ q → A q) (t1 t2 : Nat) (ht1 : tys[t1]? = some (cR, .long)) (ht2 : tys[t2]? = some (cG, .array .long)) (hcells : cells + 5 ≤ R.cells) (hslots : slots + 1284 ≤ R.slots) (hdg : decode cc pc = .ok (.multianewarray index 2, 4))
    (kk : ∀ (q : Nat) (r : Nat → Nat) (H1 : Heap), va_P D cl (ws ++ [(q, .inl (cG, 4, .inr (.inr (.inr (.inr (pf_gf r)))))), (r 0, .inl (cR, 320, .inr (.inl (fun _ => 0)))), (r 1, .inl (cR, 320, .inr (.inl (fun _ => 0)))), (r 2, .inl (cR, 320, .inr (.inl (fun _ => 0)))), (r 3, .inl (cR, 320, .inr (.inl (fun _ => 0))))]) H1 → va_D A (ws ++ [(q, .inl (cG, 4, .inr (.inr (.inr (.inr (pf_gf r)))))), (r 0, .inl (cR, 320, .inr (.inl (fun _ => 0)))), (r 1, .inl (cR, 320, .inr (.inl (fun _ => 0)))), (r 2, .inl (cR, 320, .inr (.inl (fun _ => 0)))), (r 3, .inl (cR, 320, .inr (.inl (fun _ => 0))))]) → va_S A H0 H1 locs →
      W p l e R s m args below meth c H1 locs (cells + 5) (slots + 1284) Q (F0 m (pc + 4) ls (.ref q :: rest))) : W p l e R s m args below meth c H locs cells slots Q (F0 m pc ls (.int 320 :: .int 4 :: rest)) := by
  have hP0 : va_P D cl (ws ++ va_pl [] (fun _ => .inl (cR, 320, .inr (.inl (fun _ => 0))))) H := by rw [show va_pl [] (fun _ => .inl (cR, 320, .inr (.inl (fun _ => 0)))) = ([] : va_W) from rfl, List.append_nil]; exact hP
  have hD0 : va_D A (ws ++ va_pl [] (fun _ => .inl (cR, 320, .inr (.inl (fun _ => 0))))) := by rw [show va_pl [] (fun _ => .inl (cR, 320, .inr (.inl (fun _ => 0)))) = ([] : va_W) from rfl, List.append_nil]; exact hD
  have hcy : s.vm.findClass (FieldType.array .long).toString = some cR := (hK.2 t1 _ ht1).2
  refine va_mna (ty := .long) (cy := cR) (z := (320, .inr (.inl (fun _ => 0)))) (N' := 4) (K' := 320) hexec hb hown hclink hover harr hcy hK hP0 hD0 hS hA (by decide) (by decide) (by decide) (by decide) (by decide) (by decide) (by decide) rfl rfl hcells hslots (fun c => by show ({ cls := c, slots := Array.replicate 320 (defaultValue .long), vm := .none } : Cell) = _; rw [arrV_new]; rfl) hdg ?_
  intro q r cA H1 hinj hnl hK' hP1 hD1 hS1
  have e := qr_same hK hK' ht2 (fun c h => h)
  subst e
  have hu : vr_up (fun _ => (.inl (cR, 320, .inr (.inl (fun _ => 0))) : va_E)) ((List.range 4).map r) (.inl (cR, 320, .inr (.inl (fun _ => 0)))) = fun _ => .inl (cR, 320, .inr (.inl (fun _ => 0))) := funext fun a => by unfold vr_up; split <;> rfl
  rw [hu, List.append_assoc] at hP1 hD1
  exact kk q r H1 hP1 hD1 hS1
theorem qr_ctor {wc wr : va_W} {W1 : (Nat → Nat → Nat) → va_W} {a : Array Value} {st0 : List Value} {mc ms : Nat} (hr : va_Run p l e R s m args below meth c H locs cells slots mc ms (F0 m pc ls st0) rest (va_Qv (fun (_ : Nat → Nat → Nat) => True) (fun u t => va_P D cl (W1 u) t.heap ∧ va_K D cl tys t ∧ va_D (va_A wc H.size) (W1 u)) (va_A wc H.size) a) (va_A wc H.size)) (hP : va_P D cl ws H) (hD : va_D A ws) (hS : va_S A H0 H locs) (hA : ∀ q, H0.size ≤ q → A q) (isC isR : List Nat) (hC : isC.map (fun i => ws[i]?) = wc.map some) (hR : isR.map (fun i => ws[i]?) = wr.map some) (hn : va_nd isR = true ∧ ∀ i ∈ isR, i ∉ isC)
    (kk : ∀ (u : Nat → Nat → Nat) (H1 : Heap) (locs1 : List Loc), va_P D cl (wr ++ W1 u) H1 → va_D A (wr ++ W1 u) → va_S A H0 H1 locs1 → W p l e R s m args below meth c H1 locs1 (cells + mc) (slots + ms) Q (F0 m (pc + 3) ls rest)) : W p l e R s m args below meth c H locs cells slots Q (F0 m pc ls st0) := by
  have hFc := va_free (wc := wc) hD hS hA isC hC
  refine va_callv hr hS (fun q _ h => hFc q h) hFc (fun u t H1 locs1 ht hvm hw hB hz1 hk1 hS1 => ?_)
  obtain ⟨hP1, hK1, hD1⟩ := hB
  rw [ht] at hP1
  obtain ⟨h1, h2⟩ := va_join hP hD isC isR hC hR hn.1 hn.2 hk1 hFc hP1 hD1
  exact kk u H1 locs1 h1 h2 hS1
end Rows
end QCT
end
section
section QO3
variable (l : Launch) (dC : Nat → ClassId) (dI : Nat → Nat → Nat) (cI cJ cG : ClassId)
set_option maxHeartbeats 4000000 in
set_option maxRecDepth 100000 in
theorem c_Stock_init (z0 : Nat) : qMc l yS_init (wS_init) ({ frames := 1, cells := 5, slots := 30, locals := 12 } : Room) (dC, dI) qCl [(cI, .int), (cJ, .long), (cG, .array .long)] [.ref z0] [(z0, .inr (1, [.null, .null, .null, .null, .null]))] (fun u => [(z0, .inr (1, [.ref (u 0 0), .ref (u 0 1), .ref (u 0 2), .ref (u 0 3), .ref (u 0 4)])), (u 0 0, .inl (cI, 6, .inl (fun _ => 0))), (u 0 1, .inl (cI, 6, .inl (fun _ => 0))), (u 0 2, .inl (cI, 6, .inl (fun _ => 0))), (u 0 3, .inl (cI, 6, .inl (fun _ => 0))), (u 0 4, .inl (cJ, 6, .inr (.inl (fun _ => 0))))]) 5 30 := by
  refine qm_c (cc := prog_2_method_1_code) (maxL := 1) (by decide) rfl (Nat.le_of_ble_eq_true rfl) ?_
  intro p e s m args below meth c Q A ls hx hb hml hown hnm hts hA hK hP hD hS hl hZ hret
  have hl : lv_has ls 1 [(0, .ref z0)] := hl
  refine lv_aload_n hx hb dS_init_0 rfl (lv_at hl 0 rfl) ?_
  refine W.objInit hx hb hown (hts _ mq_1_25) (hts _ mq_1_18) (hts _ mq_1_19) rfl (by rw [hml]; exact hl.1) rfl dS_init_1 (Nat.le_of_ble_eq_true rfl) (Nat.le_of_ble_eq_true rfl) ?_
  refine W.eq (g2 := F0 m 4 ls []) rfl ?_
  refine lv_aload_n hx hb dS_init_4 rfl (lv_at hl 0 rfl) ?_
  refine lv_bipush (v := 6) hx hb dS_init_5 (by decide) ?_
  refine qr_newI (N' := 6) hx hb (hts _ mq_1_42) hK hP hD hS hA 0 rfl (by decide) (by decide) (by decide) (Nat.le_of_ble_eq_true rfl) (Nat.le_of_ble_eq_true rfl) dS_init_7 (fun q7 H hP hD hS => ?_)
  refine qr_putF (D := (dC, dI)) (ci := 1) (v := .ref q7) (ty := .array .int) (C := "OutlookOdds$Stock") (T := TS) (N := 5) (ws2 := [(z0, .inr (1, [.ref q7, .null, .null, .null, .null])), (q7, .inl (cI, 6, .inl (fun _ => 0)))]) hx hb hts inS tyS tyS_ok nmS hown hK hP hD hS 0 rfl rfl 0 (by decide) (hts _ mq_1_26) (fun _ h9 => h9) rfl hnm rfl (by decide +kernel) rfl rfl (Nat.le_of_ble_eq_true rfl) rfl dS_init_9 (fun H locs hP hD hS => ?_)
  refine lv_aload_n hx hb dS_init_12 rfl (lv_at hl 0 rfl) ?_
  refine lv_bipush (v := 6) hx hb dS_init_13 (by decide) ?_
  refine qr_newI (N' := 6) hx hb (hts _ mq_1_42) hK hP hD hS hA 0 rfl (by decide) (by decide) (by decide) (Nat.le_of_ble_eq_true rfl) (Nat.le_of_ble_eq_true rfl) dS_init_15 (fun q15 H hP hD hS => ?_)
  refine qr_putF (D := (dC, dI)) (ci := 1) (v := .ref q15) (ty := .array .int) (C := "OutlookOdds$Stock") (T := TS) (N := 5) (ws2 := [(z0, .inr (1, [.ref q7, .ref q15, .null, .null, .null])), (q7, .inl (cI, 6, .inl (fun _ => 0))), (q15, .inl (cI, 6, .inl (fun _ => 0)))]) hx hb hts inS tyS tyS_ok nmS hown hK hP hD hS 0 rfl rfl 1 (by decide) (hts _ mq_1_27) (fun _ h9 => h9) rfl hnm rfl (by decide +kernel) rfl rfl (Nat.le_of_ble_eq_true rfl) rfl dS_init_17 (fun H locs hP hD hS => ?_)
  refine lv_aload_n hx hb dS_init_20 rfl (lv_at hl 0 rfl) ?_
  refine lv_bipush (v := 6) hx hb dS_init_21 (by decide) ?_
  refine qr_newI (N' := 6) hx hb (hts _ mq_1_42) hK hP hD hS hA 0 rfl (by decide) (by decide) (by decide) (Nat.le_of_ble_eq_true rfl) (Nat.le_of_ble_eq_true rfl) dS_init_23 (fun q23 H hP hD hS => ?_)
  refine qr_putF (D := (dC, dI)) (ci := 1) (v := .ref q23) (ty := .array .int) (C := "OutlookOdds$Stock") (T := TS) (N := 5) (ws2 := [(z0, .inr (1, [.ref q7, .ref q15, .ref q23, .null, .null])), (q7, .inl (cI, 6, .inl (fun _ => 0))), (q15, .inl (cI, 6, .inl (fun _ => 0))), (q23, .inl (cI, 6, .inl (fun _ => 0)))]) hx hb hts inS tyS tyS_ok nmS hown hK hP hD hS 0 rfl rfl 2 (by decide) (hts _ mq_1_28) (fun _ h9 => h9) rfl hnm rfl (by decide +kernel) rfl rfl (Nat.le_of_ble_eq_true rfl) rfl dS_init_25 (fun H locs hP hD hS => ?_)
  refine lv_aload_n hx hb dS_init_28 rfl (lv_at hl 0 rfl) ?_
  refine lv_bipush (v := 6) hx hb dS_init_29 (by decide) ?_
  refine qr_newI (N' := 6) hx hb (hts _ mq_1_42) hK hP hD hS hA 0 rfl (by decide) (by decide) (by decide) (Nat.le_of_ble_eq_true rfl) (Nat.le_of_ble_eq_true rfl) dS_init_31 (fun q31 H hP hD hS => ?_)
  refine qr_putF (D := (dC, dI)) (ci := 1) (v := .ref q31) (ty := .array .int) (C := "OutlookOdds$Stock") (T := TS) (N := 5) (ws2 := [(z0, .inr (1, [.ref q7, .ref q15, .ref q23, .ref q31, .null])), (q7, .inl (cI, 6, .inl (fun _ => 0))), (q15, .inl (cI, 6, .inl (fun _ => 0))), (q23, .inl (cI, 6, .inl (fun _ => 0))), (q31, .inl (cI, 6, .inl (fun _ => 0)))]) hx hb hts inS tyS tyS_ok nmS hown hK hP hD hS 0 rfl rfl 3 (by decide) (hts _ mq_1_29) (fun _ h9 => h9) rfl hnm rfl (by decide +kernel) rfl rfl (Nat.le_of_ble_eq_true rfl) rfl dS_init_33 (fun H locs hP hD hS => ?_)
  refine lv_aload_n hx hb dS_init_36 rfl (lv_at hl 0 rfl) ?_
  refine lv_bipush (v := 6) hx hb dS_init_37 (by decide) ?_
  refine qr_newJ (N' := 6) hx hb (hts _ mq_1_43) hK hP hD hS hA 1 rfl (by decide) (by decide) (by decide) (Nat.le_of_ble_eq_true rfl) (Nat.le_of_ble_eq_true rfl) dS_init_39 (fun q39 H hP hD hS => ?_)
  refine qr_putF (D := (dC, dI)) (ci := 1) (v := .ref q39) (ty := .array .long) (C := "OutlookOdds$Stock") (T := TS) (N := 5) (ws2 := [(z0, .inr (1, [.ref q7, .ref q15, .ref q23, .ref q31, .ref q39])), (q7, .inl (cI, 6, .inl (fun _ => 0))), (q15, .inl (cI, 6, .inl (fun _ => 0))), (q23, .inl (cI, 6, .inl (fun _ => 0))), (q31, .inl (cI, 6, .inl (fun _ => 0))), (q39, .inl (cJ, 6, .inr (.inl (fun _ => 0))))]) hx hb hts inS tyS tyS_ok nmS hown hK hP hD hS 0 rfl rfl 4 (by decide) (hts _ mq_1_30) (fun _ h9 => h9) rfl hnm rfl (by decide +kernel) rfl rfl (Nat.le_of_ble_eq_true rfl) rfl dS_init_41 (fun H locs hP hD hS => ?_)
  exact hret (fun j k => match j with | _ => (match k with | 0 => q7 | 1 => q15 | 2 => q23 | 3 => q31 | _ => q39)) hP hD hS (Nat.le_of_ble_eq_true rfl) (Nat.le_of_ble_eq_true rfl) dS_init_44

set_option maxHeartbeats 4000000 in
set_option maxRecDepth 100000 in
theorem c_Story_init (q0 : Nat) : qMc l yY_init (wY_init) ({ frames := 1, cells := 5, slots := 1284, locals := 12 } : Room) (dC, dI) qCl [(cI, .int), (cJ, .long), (cG, .array .long)] [.ref q0] [(q0, .inr (2, [.null]))] (fun u => [(q0, .inr (2, [.ref (u 0 0)])), (u 0 0, .inl (cG, 4, .inr (.inr (.inr (.inr (pf_gf (u 1))))))), (u 1 0, .inl (cJ, 320, .inr (.inl (fun _ => 0)))), (u 1 1, .inl (cJ, 320, .inr (.inl (fun _ => 0)))), (u 1 2, .inl (cJ, 320, .inr (.inl (fun _ => 0)))), (u 1 3, .inl (cJ, 320, .inr (.inl (fun _ => 0))))]) 5 1284 := by
  refine qm_c (cc := prog_3_method_1_code) (maxL := 1) (by decide) rfl (Nat.le_of_ble_eq_true rfl) ?_
  intro p e s m args below meth c Q A ls hx hb hml hown hnm hts hA hK hP hD hS hl hZ hret
  have hl : lv_has ls 1 [(0, .ref q0)] := hl
  refine lv_aload_n hx hb dY_init_0 rfl (lv_at hl 0 rfl) ?_
  refine W.objInit hx hb hown (hts _ mq_1_49) (hts _ mq_1_18) (hts _ mq_1_19) rfl (by rw [hml]; exact hl.1) rfl dY_init_1 (Nat.le_of_ble_eq_true rfl) (Nat.le_of_ble_eq_true rfl) ?_
  refine W.eq (g2 := F0 m 4 ls []) rfl ?_
  refine lv_aload_n hx hb dY_init_4 rfl (lv_at hl 0 rfl) ?_
  refine lv_iconst (v := 4) hx hb dY_init_5 (by decide) ?_
  refine lv_sipush (v := 320) hx hb dY_init_6 (by decide) ?_
  refine qr_mna hx hb hown (hts _ mq_1_50) hZ.1 (hts _ mq_1_43) hK hP hD hS hA 1 2 rfl rfl (Nat.le_of_ble_eq_true rfl) (Nat.le_of_ble_eq_true rfl) dY_init_9 (fun q9 r9 H hP hD hS => ?_)
  refine qr_putF (D := (dC, dI)) (ci := 2) (v := .ref q9) (ty := .array (.array .long)) (C := "OutlookOdds$Story") (T := TY) (N := 1) (ws2 := [(q0, .inr (2, [.ref q9])), (q9, .inl (cG, 4, .inr (.inr (.inr (.inr (pf_gf r9)))))), (r9 0, .inl (cJ, 320, .inr (.inl (fun _ => 0)))), (r9 1, .inl (cJ, 320, .inr (.inl (fun _ => 0)))), (r9 2, .inl (cJ, 320, .inr (.inl (fun _ => 0)))), (r9 3, .inl (cJ, 320, .inr (.inl (fun _ => 0))))]) hx hb hts inY tyY tyY_ok nmY hown hK hP hD hS 0 rfl rfl 0 (by decide) (hts _ mq_1_52) (fun _ h9 => h9) rfl hnm rfl (by decide +kernel) rfl rfl (Nat.le_of_ble_eq_true rfl) rfl dY_init_13 (fun H locs hP hD hS => ?_)
  exact hret (fun j k => match j with | 0 => (match k with | _ => q9) | _ => r9 k) hP hD hS (Nat.le_of_ble_eq_true rfl) (Nat.le_of_ble_eq_true rfl) dY_init_16

set_option maxHeartbeats 4000000 in
set_option maxRecDepth 100000 in
theorem c_O_init (o0 : Nat) : qMc l yO_init (wO_init) ({ frames := 2, cells := 22, slots := 2639, locals := 32 } : Room) (dC, dI) qCl [(cI, .int), (cJ, .long), (cG, .array .long)] [.ref o0] [(o0, .inr (0, [.null, .null, .null, .null, .int 0, .int 0, .int 0, .int 0, .int 0, .int 0, .null, .null, .null, .int 0, .int 0, .int 0, .int 0]))] (fun u => [(o0, .inr (0, [.ref (u 0 0), .ref (u 0 6), .ref (u 0 7), .ref (u 0 8), .int 0, .int 0, .int 1000, .int 0, .int 0, .int 0, .ref (u 0 9), .ref (u 0 11), .ref (u 0 13), .int 0, .int 0, .int 0, .int 0])), (u 0 0, .inr (1, [.ref (u 0 1), .ref (u 0 2), .ref (u 0 3), .ref (u 0 4), .ref (u 0 5)])), (u 0 1, .inl (cI, 6, .inl (fun _ => 0))), (u 0 2, .inl (cI, 6, .inl (fun _ => 0))), (u 0 3, .inl (cI, 6, .inl (fun _ => 0))), (u 0 4, .inl (cI, 6, .inl (fun _ => 0))), (u 0 5, .inl (cJ, 6, .inr (.inl (fun _ => 0)))), (u 0 6, .inl (cI, 6, .inl (fun _ => 0))), (u 0 7, .inl (cI, 6, .inl (fun _ => 0))), (u 0 8, .inl (cI, 6, .inl (fun _ => 0))), (u 0 9, .inr (2, [.ref (u 0 10)])), (u 0 10, .inl (cG, 4, .inr (.inr (.inr (.inr (pf_gf (u 1))))))), (u 1 0, .inl (cJ, 320, .inr (.inl (fun _ => 0)))), (u 1 1, .inl (cJ, 320, .inr (.inl (fun _ => 0)))), (u 1 2, .inl (cJ, 320, .inr (.inl (fun _ => 0)))), (u 1 3, .inl (cJ, 320, .inr (.inl (fun _ => 0)))), (u 0 11, .inr (2, [.ref (u 0 12)])), (u 0 12, .inl (cG, 4, .inr (.inr (.inr (.inr (pf_gf (u 2))))))), (u 2 0, .inl (cJ, 320, .inr (.inl (fun _ => 0)))), (u 2 1, .inl (cJ, 320, .inr (.inl (fun _ => 0)))), (u 2 2, .inl (cJ, 320, .inr (.inl (fun _ => 0)))), (u 2 3, .inl (cJ, 320, .inr (.inl (fun _ => 0)))), (u 0 13, .inl (cJ, 16, .inr (.inl (fun _ => 0))))]) 22 2639 := by
  refine qm_c (cc := prog_1_method_1_code) (maxL := 1) (by decide) rfl (Nat.le_of_ble_eq_true rfl) ?_
  intro p e s m args below meth c Q A ls hx hb hml hown hnm hts hA hK hP hD hS hl hZ hret
  have hl : lv_has ls 1 [(0, .ref o0)] := hl
  refine lv_aload_n hx hb dO_init_0 rfl (lv_at hl 0 rfl) ?_
  refine W.objInit hx hb hown (hts _ mq_1_17) (hts _ mq_1_18) (hts _ mq_1_19) rfl (by rw [hml]; exact hl.1) rfl dO_init_1 (Nat.le_of_ble_eq_true rfl) (Nat.le_of_ble_eq_true rfl) ?_
  refine W.eq (g2 := F0 m 4 ls []) rfl ?_
  refine lv_aload_n hx hb dO_init_4 rfl (lv_at hl 0 rfl) ?_
  refine va_new (ci := 1) (fs := [.null, .null, .null, .null, .null]) (C := "OutlookOdds$Stock") (T := TS) (N := 5) hx hb hts inS tyS tyS_ok hown (hts _ mq_1_20) (hts _ mq_1_21) (hts _ mq_1_2) hK hP hD hS hA rfl (by decide +kernel) (Nat.le_of_ble_eq_true rfl) (Nat.le_of_ble_eq_true rfl) dO_init_5 (fun q5 H hP hD hS => ?_)
  refine lv_dup hx hb dO_init_8 rfl ?_
  refine qr_ctor (wr := [(o0, .inr (0, [.null, .null, .null, .null, .int 0, .int 0, .int 0, .int 0, .int 0, .int 0, .null, .null, .null, .int 0, .int 0, .int 0, .int 0]))]) (va_runIN (As := []) (rest := [.ref q5, .ref o0]) ⟨hx, hb, hml, hown, hts⟩ (c_Stock_init l dC dI cI cJ cG q5 H.size) ⟨va_cnB 0 hts (qg_C mq_1_24) rfl rfl rfl hZ.2.1 (hts _ mq_1_2) (by decide +kernel) ⟨Nat.le_of_ble_eq_true rfl, Nat.le_of_ble_eq_true rfl⟩, rfl, hts _ mq_1_23⟩ (qx_pre qZc_ok hK hP hD (va_free hD hS hA [1] rfl) hZ [1] rfl (by decide)) rfl rfl hl.1 rfl (lv_room (Nat.le_of_ble_eq_true rfl)) dO_init_9 ⟨Nat.le_of_ble_eq_true rfl, Nat.le_of_ble_eq_true rfl⟩) hP hD hS hA [1] [0] rfl rfl (by decide) (fun u9 H locs hP hD hS => ?_)
  refine qr_putF (D := (dC, dI)) (ci := 0) (v := .ref q5) (ty := .object "OutlookOdds$Stock") (C := "OutlookOdds") (T := TO) (N := 17) (ws2 := [(o0, .inr (0, [.ref q5, .null, .null, .null, .int 0, .int 0, .int 0, .int 0, .int 0, .int 0, .null, .null, .null, .int 0, .int 0, .int 0, .int 0])), (q5, .inr (1, [.ref (u9 0 0), .ref (u9 0 1), .ref (u9 0 2), .ref (u9 0 3), .ref (u9 0 4)])), (u9 0 0, .inl (cI, 6, .inl (fun _ => 0))), (u9 0 1, .inl (cI, 6, .inl (fun _ => 0))), (u9 0 2, .inl (cI, 6, .inl (fun _ => 0))), (u9 0 3, .inl (cI, 6, .inl (fun _ => 0))), (u9 0 4, .inl (cJ, 6, .inr (.inl (fun _ => 0))))]) hx hb hts inO tyO tyO_ok nmO hown hK hP hD hS 0 rfl rfl 0 (by decide) (hts _ mq_1_56) (fun _ h9 => h9) rfl hnm rfl (by decide +kernel) rfl rfl (Nat.le_of_ble_eq_true rfl) rfl dO_init_12 (fun H locs hP hD hS => ?_)
  refine lv_aload_n hx hb dO_init_15 rfl (lv_at hl 0 rfl) ?_
  refine lv_bipush (v := 6) hx hb dO_init_16 (by decide) ?_
  refine qr_newI (N' := 6) hx hb (hts _ mq_1_42) hK hP hD hS hA 0 rfl (by decide) (by decide) (by decide) (Nat.le_of_ble_eq_true rfl) (Nat.le_of_ble_eq_true rfl) dO_init_18 (fun q18 H hP hD hS => ?_)
  refine qr_putF (D := (dC, dI)) (ci := 0) (v := .ref q18) (ty := .array .int) (C := "OutlookOdds") (T := TO) (N := 17) (ws2 := [(o0, .inr (0, [.ref q5, .ref q18, .null, .null, .int 0, .int 0, .int 0, .int 0, .int 0, .int 0, .null, .null, .null, .int 0, .int 0, .int 0, .int 0])), (q5, .inr (1, [.ref (u9 0 0), .ref (u9 0 1), .ref (u9 0 2), .ref (u9 0 3), .ref (u9 0 4)])), (u9 0 0, .inl (cI, 6, .inl (fun _ => 0))), (u9 0 1, .inl (cI, 6, .inl (fun _ => 0))), (u9 0 2, .inl (cI, 6, .inl (fun _ => 0))), (u9 0 3, .inl (cI, 6, .inl (fun _ => 0))), (u9 0 4, .inl (cJ, 6, .inr (.inl (fun _ => 0)))), (q18, .inl (cI, 6, .inl (fun _ => 0)))]) hx hb hts inO tyO tyO_ok nmO hown hK hP hD hS 0 rfl rfl 1 (by decide) (hts _ mq_1_57) (fun _ h9 => h9) rfl hnm rfl (by decide +kernel) rfl rfl (Nat.le_of_ble_eq_true rfl) rfl dO_init_20 (fun H locs hP hD hS => ?_)
  refine lv_aload_n hx hb dO_init_23 rfl (lv_at hl 0 rfl) ?_
  refine lv_bipush (v := 6) hx hb dO_init_24 (by decide) ?_
  refine qr_newI (N' := 6) hx hb (hts _ mq_1_42) hK hP hD hS hA 0 rfl (by decide) (by decide) (by decide) (Nat.le_of_ble_eq_true rfl) (Nat.le_of_ble_eq_true rfl) dO_init_26 (fun q26 H hP hD hS => ?_)
  refine qr_putF (D := (dC, dI)) (ci := 0) (v := .ref q26) (ty := .array .int) (C := "OutlookOdds") (T := TO) (N := 17) (ws2 := [(o0, .inr (0, [.ref q5, .ref q18, .ref q26, .null, .int 0, .int 0, .int 0, .int 0, .int 0, .int 0, .null, .null, .null, .int 0, .int 0, .int 0, .int 0])), (q5, .inr (1, [.ref (u9 0 0), .ref (u9 0 1), .ref (u9 0 2), .ref (u9 0 3), .ref (u9 0 4)])), (u9 0 0, .inl (cI, 6, .inl (fun _ => 0))), (u9 0 1, .inl (cI, 6, .inl (fun _ => 0))), (u9 0 2, .inl (cI, 6, .inl (fun _ => 0))), (u9 0 3, .inl (cI, 6, .inl (fun _ => 0))), (u9 0 4, .inl (cJ, 6, .inr (.inl (fun _ => 0)))), (q18, .inl (cI, 6, .inl (fun _ => 0))), (q26, .inl (cI, 6, .inl (fun _ => 0)))]) hx hb hts inO tyO tyO_ok nmO hown hK hP hD hS 0 rfl rfl 2 (by decide) (hts _ mq_1_58) (fun _ h9 => h9) rfl hnm rfl (by decide +kernel) rfl rfl (Nat.le_of_ble_eq_true rfl) rfl dO_init_28 (fun H locs hP hD hS => ?_)
  refine lv_aload_n hx hb dO_init_31 rfl (lv_at hl 0 rfl) ?_
  refine lv_bipush (v := 6) hx hb dO_init_32 (by decide) ?_
  refine qr_newI (N' := 6) hx hb (hts _ mq_1_42) hK hP hD hS hA 0 rfl (by decide) (by decide) (by decide) (Nat.le_of_ble_eq_true rfl) (Nat.le_of_ble_eq_true rfl) dO_init_34 (fun q34 H hP hD hS => ?_)
  refine qr_putF (D := (dC, dI)) (ci := 0) (v := .ref q34) (ty := .array .int) (C := "OutlookOdds") (T := TO) (N := 17) (ws2 := [(o0, .inr (0, [.ref q5, .ref q18, .ref q26, .ref q34, .int 0, .int 0, .int 0, .int 0, .int 0, .int 0, .null, .null, .null, .int 0, .int 0, .int 0, .int 0])), (q5, .inr (1, [.ref (u9 0 0), .ref (u9 0 1), .ref (u9 0 2), .ref (u9 0 3), .ref (u9 0 4)])), (u9 0 0, .inl (cI, 6, .inl (fun _ => 0))), (u9 0 1, .inl (cI, 6, .inl (fun _ => 0))), (u9 0 2, .inl (cI, 6, .inl (fun _ => 0))), (u9 0 3, .inl (cI, 6, .inl (fun _ => 0))), (u9 0 4, .inl (cJ, 6, .inr (.inl (fun _ => 0)))), (q18, .inl (cI, 6, .inl (fun _ => 0))), (q26, .inl (cI, 6, .inl (fun _ => 0))), (q34, .inl (cI, 6, .inl (fun _ => 0)))]) hx hb hts inO tyO tyO_ok nmO hown hK hP hD hS 0 rfl rfl 3 (by decide) (hts _ mq_1_59) (fun _ h9 => h9) rfl hnm rfl (by decide +kernel) rfl rfl (Nat.le_of_ble_eq_true rfl) rfl dO_init_36 (fun H locs hP hD hS => ?_)
  refine lv_aload_n hx hb dO_init_39 rfl (lv_at hl 0 rfl) ?_
  refine lv_sipush (v := 1000) hx hb dO_init_40 (by decide) ?_
  refine qr_put (D := (dC, dI)) (ci := 0) (v := .int 1000) (ty := .int) (C := "OutlookOdds") (T := TO) (N := 17) (ws2 := [(o0, .inr (0, [.ref q5, .ref q18, .ref q26, .ref q34, .int 0, .int 0, .int 1000, .int 0, .int 0, .int 0, .null, .null, .null, .int 0, .int 0, .int 0, .int 0])), (q5, .inr (1, [.ref (u9 0 0), .ref (u9 0 1), .ref (u9 0 2), .ref (u9 0 3), .ref (u9 0 4)])), (u9 0 0, .inl (cI, 6, .inl (fun _ => 0))), (u9 0 1, .inl (cI, 6, .inl (fun _ => 0))), (u9 0 2, .inl (cI, 6, .inl (fun _ => 0))), (u9 0 3, .inl (cI, 6, .inl (fun _ => 0))), (u9 0 4, .inl (cJ, 6, .inr (.inl (fun _ => 0)))), (q18, .inl (cI, 6, .inl (fun _ => 0))), (q26, .inl (cI, 6, .inl (fun _ => 0))), (q34, .inl (cI, 6, .inl (fun _ => 0)))]) hx hb hts inO tyO tyO_ok nmO hown hK hP hD hS 0 rfl rfl 6 (by decide) (hts _ mq_1_62) (fun _ h9 => h9) rfl (by decide +kernel) rfl rfl (Nat.le_of_ble_eq_true rfl) rfl dO_init_43 (fun H locs hP hD hS => ?_)
  refine lv_aload_n hx hb dO_init_46 rfl (lv_at hl 0 rfl) ?_
  refine va_new (ci := 2) (fs := [.null]) (C := "OutlookOdds$Story") (T := TY) (N := 1) hx hb hts inY tyY tyY_ok hown (hts _ mq_1_44) (hts _ mq_1_45) (hts _ mq_1_3) hK hP hD hS hA rfl (by decide +kernel) (Nat.le_of_ble_eq_true rfl) (Nat.le_of_ble_eq_true rfl) dO_init_47 (fun q47 H hP hD hS => ?_)
  refine lv_dup hx hb dO_init_50 rfl ?_
  refine qr_ctor (wr := [(o0, .inr (0, [.ref q5, .ref q18, .ref q26, .ref q34, .int 0, .int 0, .int 1000, .int 0, .int 0, .int 0, .null, .null, .null, .int 0, .int 0, .int 0, .int 0])), (q5, .inr (1, [.ref (u9 0 0), .ref (u9 0 1), .ref (u9 0 2), .ref (u9 0 3), .ref (u9 0 4)])), (u9 0 0, .inl (cI, 6, .inl (fun _ => 0))), (u9 0 1, .inl (cI, 6, .inl (fun _ => 0))), (u9 0 2, .inl (cI, 6, .inl (fun _ => 0))), (u9 0 3, .inl (cI, 6, .inl (fun _ => 0))), (u9 0 4, .inl (cJ, 6, .inr (.inl (fun _ => 0)))), (q18, .inl (cI, 6, .inl (fun _ => 0))), (q26, .inl (cI, 6, .inl (fun _ => 0))), (q34, .inl (cI, 6, .inl (fun _ => 0)))]) (va_runIN (As := []) (rest := [.ref q47, .ref o0]) ⟨hx, hb, hml, hown, hts⟩ (c_Story_init l dC dI cI cJ cG q47 H.size) ⟨va_cnB 0 hts (qg_C mq_1_48) rfl rfl rfl hZ.2.2 (hts _ mq_1_3) (by decide +kernel) ⟨Nat.le_of_ble_eq_true rfl, Nat.le_of_ble_eq_true rfl⟩, rfl, hts _ mq_1_47⟩ (qx_pre qZc_ok hK hP hD (va_free hD hS hA [10] rfl) hZ [10] rfl (by decide)) rfl rfl hl.1 rfl (lv_room (Nat.le_of_ble_eq_true rfl)) dO_init_51 ⟨Nat.le_of_ble_eq_true rfl, Nat.le_of_ble_eq_true rfl⟩) hP hD hS hA [10] [0, 1, 2, 3, 4, 5, 6, 7, 8, 9] rfl rfl (by decide) (fun u51 H locs hP hD hS => ?_)
  refine qr_putF (D := (dC, dI)) (ci := 0) (v := .ref q47) (ty := .object "OutlookOdds$Story") (C := "OutlookOdds") (T := TO) (N := 17) (ws2 := [(o0, .inr (0, [.ref q5, .ref q18, .ref q26, .ref q34, .int 0, .int 0, .int 1000, .int 0, .int 0, .int 0, .ref q47, .null, .null, .int 0, .int 0, .int 0, .int 0])), (q5, .inr (1, [.ref (u9 0 0), .ref (u9 0 1), .ref (u9 0 2), .ref (u9 0 3), .ref (u9 0 4)])), (u9 0 0, .inl (cI, 6, .inl (fun _ => 0))), (u9 0 1, .inl (cI, 6, .inl (fun _ => 0))), (u9 0 2, .inl (cI, 6, .inl (fun _ => 0))), (u9 0 3, .inl (cI, 6, .inl (fun _ => 0))), (u9 0 4, .inl (cJ, 6, .inr (.inl (fun _ => 0)))), (q18, .inl (cI, 6, .inl (fun _ => 0))), (q26, .inl (cI, 6, .inl (fun _ => 0))), (q34, .inl (cI, 6, .inl (fun _ => 0))), (q47, .inr (2, [.ref (u51 0 0)])), (u51 0 0, .inl (cG, 4, .inr (.inr (.inr (.inr (pf_gf (u51 1))))))), (u51 1 0, .inl (cJ, 320, .inr (.inl (fun _ => 0)))), (u51 1 1, .inl (cJ, 320, .inr (.inl (fun _ => 0)))), (u51 1 2, .inl (cJ, 320, .inr (.inl (fun _ => 0)))), (u51 1 3, .inl (cJ, 320, .inr (.inl (fun _ => 0))))]) hx hb hts inO tyO tyO_ok nmO hown hK hP hD hS 0 rfl rfl 10 (by decide) (hts _ mq_1_66) (fun _ h9 => h9) rfl hnm rfl (by decide +kernel) rfl rfl (Nat.le_of_ble_eq_true rfl) rfl dO_init_54 (fun H locs hP hD hS => ?_)
  refine lv_aload_n hx hb dO_init_57 rfl (lv_at hl 0 rfl) ?_
  refine va_new (ci := 2) (fs := [.null]) (C := "OutlookOdds$Story") (T := TY) (N := 1) hx hb hts inY tyY tyY_ok hown (hts _ mq_1_44) (hts _ mq_1_45) (hts _ mq_1_3) hK hP hD hS hA rfl (by decide +kernel) (Nat.le_of_ble_eq_true rfl) (Nat.le_of_ble_eq_true rfl) dO_init_58 (fun q58 H hP hD hS => ?_)
  refine lv_dup hx hb dO_init_61 rfl ?_
  refine qr_ctor (wr := [(o0, .inr (0, [.ref q5, .ref q18, .ref q26, .ref q34, .int 0, .int 0, .int 1000, .int 0, .int 0, .int 0, .ref q47, .null, .null, .int 0, .int 0, .int 0, .int 0])), (q5, .inr (1, [.ref (u9 0 0), .ref (u9 0 1), .ref (u9 0 2), .ref (u9 0 3), .ref (u9 0 4)])), (u9 0 0, .inl (cI, 6, .inl (fun _ => 0))), (u9 0 1, .inl (cI, 6, .inl (fun _ => 0))), (u9 0 2, .inl (cI, 6, .inl (fun _ => 0))), (u9 0 3, .inl (cI, 6, .inl (fun _ => 0))), (u9 0 4, .inl (cJ, 6, .inr (.inl (fun _ => 0)))), (q18, .inl (cI, 6, .inl (fun _ => 0))), (q26, .inl (cI, 6, .inl (fun _ => 0))), (q34, .inl (cI, 6, .inl (fun _ => 0))), (q47, .inr (2, [.ref (u51 0 0)])), (u51 0 0, .inl (cG, 4, .inr (.inr (.inr (.inr (pf_gf (u51 1))))))), (u51 1 0, .inl (cJ, 320, .inr (.inl (fun _ => 0)))), (u51 1 1, .inl (cJ, 320, .inr (.inl (fun _ => 0)))), (u51 1 2, .inl (cJ, 320, .inr (.inl (fun _ => 0)))), (u51 1 3, .inl (cJ, 320, .inr (.inl (fun _ => 0))))]) (va_runIN (As := []) (rest := [.ref q58, .ref o0]) ⟨hx, hb, hml, hown, hts⟩ (c_Story_init l dC dI cI cJ cG q58 H.size) ⟨va_cnB 0 hts (qg_C mq_1_48) rfl rfl rfl hZ.2.2 (hts _ mq_1_3) (by decide +kernel) ⟨Nat.le_of_ble_eq_true rfl, Nat.le_of_ble_eq_true rfl⟩, rfl, hts _ mq_1_47⟩ (qx_pre qZc_ok hK hP hD (va_free hD hS hA [16] rfl) hZ [16] rfl (by decide)) rfl rfl hl.1 rfl (lv_room (Nat.le_of_ble_eq_true rfl)) dO_init_62 ⟨Nat.le_of_ble_eq_true rfl, Nat.le_of_ble_eq_true rfl⟩) hP hD hS hA [16] [0, 1, 2, 3, 4, 5, 6, 7, 8, 9, 10, 11, 12, 13, 14, 15] rfl rfl (by decide) (fun u62 H locs hP hD hS => ?_)
  refine qr_putF (D := (dC, dI)) (ci := 0) (v := .ref q58) (ty := .object "OutlookOdds$Story") (C := "OutlookOdds") (T := TO) (N := 17) (ws2 := [(o0, .inr (0, [.ref q5, .ref q18, .ref q26, .ref q34, .int 0, .int 0, .int 1000, .int 0, .int 0, .int 0, .ref q47, .ref q58, .null, .int 0, .int 0, .int 0, .int 0])), (q5, .inr (1, [.ref (u9 0 0), .ref (u9 0 1), .ref (u9 0 2), .ref (u9 0 3), .ref (u9 0 4)])), (u9 0 0, .inl (cI, 6, .inl (fun _ => 0))), (u9 0 1, .inl (cI, 6, .inl (fun _ => 0))), (u9 0 2, .inl (cI, 6, .inl (fun _ => 0))), (u9 0 3, .inl (cI, 6, .inl (fun _ => 0))), (u9 0 4, .inl (cJ, 6, .inr (.inl (fun _ => 0)))), (q18, .inl (cI, 6, .inl (fun _ => 0))), (q26, .inl (cI, 6, .inl (fun _ => 0))), (q34, .inl (cI, 6, .inl (fun _ => 0))), (q47, .inr (2, [.ref (u51 0 0)])), (u51 0 0, .inl (cG, 4, .inr (.inr (.inr (.inr (pf_gf (u51 1))))))), (u51 1 0, .inl (cJ, 320, .inr (.inl (fun _ => 0)))), (u51 1 1, .inl (cJ, 320, .inr (.inl (fun _ => 0)))), (u51 1 2, .inl (cJ, 320, .inr (.inl (fun _ => 0)))), (u51 1 3, .inl (cJ, 320, .inr (.inl (fun _ => 0)))), (q58, .inr (2, [.ref (u62 0 0)])), (u62 0 0, .inl (cG, 4, .inr (.inr (.inr (.inr (pf_gf (u62 1))))))), (u62 1 0, .inl (cJ, 320, .inr (.inl (fun _ => 0)))), (u62 1 1, .inl (cJ, 320, .inr (.inl (fun _ => 0)))), (u62 1 2, .inl (cJ, 320, .inr (.inl (fun _ => 0)))), (u62 1 3, .inl (cJ, 320, .inr (.inl (fun _ => 0))))]) hx hb hts inO tyO tyO_ok nmO hown hK hP hD hS 0 rfl rfl 11 (by decide) (hts _ mq_1_67) (fun _ h9 => h9) rfl hnm rfl (by decide +kernel) rfl rfl (Nat.le_of_ble_eq_true rfl) rfl dO_init_65 (fun H locs hP hD hS => ?_)
  refine lv_aload_n hx hb dO_init_68 rfl (lv_at hl 0 rfl) ?_
  refine lv_bipush (v := 16) hx hb dO_init_69 (by decide) ?_
  refine qr_newJ (N' := 16) hx hb (hts _ mq_1_43) hK hP hD hS hA 1 rfl (by decide) (by decide) (by decide) (Nat.le_of_ble_eq_true rfl) (Nat.le_of_ble_eq_true rfl) dO_init_71 (fun q71 H hP hD hS => ?_)
  refine qr_putF (D := (dC, dI)) (ci := 0) (v := .ref q71) (ty := .array .long) (C := "OutlookOdds") (T := TO) (N := 17) (ws2 := [(o0, .inr (0, [.ref q5, .ref q18, .ref q26, .ref q34, .int 0, .int 0, .int 1000, .int 0, .int 0, .int 0, .ref q47, .ref q58, .ref q71, .int 0, .int 0, .int 0, .int 0])), (q5, .inr (1, [.ref (u9 0 0), .ref (u9 0 1), .ref (u9 0 2), .ref (u9 0 3), .ref (u9 0 4)])), (u9 0 0, .inl (cI, 6, .inl (fun _ => 0))), (u9 0 1, .inl (cI, 6, .inl (fun _ => 0))), (u9 0 2, .inl (cI, 6, .inl (fun _ => 0))), (u9 0 3, .inl (cI, 6, .inl (fun _ => 0))), (u9 0 4, .inl (cJ, 6, .inr (.inl (fun _ => 0)))), (q18, .inl (cI, 6, .inl (fun _ => 0))), (q26, .inl (cI, 6, .inl (fun _ => 0))), (q34, .inl (cI, 6, .inl (fun _ => 0))), (q47, .inr (2, [.ref (u51 0 0)])), (u51 0 0, .inl (cG, 4, .inr (.inr (.inr (.inr (pf_gf (u51 1))))))), (u51 1 0, .inl (cJ, 320, .inr (.inl (fun _ => 0)))), (u51 1 1, .inl (cJ, 320, .inr (.inl (fun _ => 0)))), (u51 1 2, .inl (cJ, 320, .inr (.inl (fun _ => 0)))), (u51 1 3, .inl (cJ, 320, .inr (.inl (fun _ => 0)))), (q58, .inr (2, [.ref (u62 0 0)])), (u62 0 0, .inl (cG, 4, .inr (.inr (.inr (.inr (pf_gf (u62 1))))))), (u62 1 0, .inl (cJ, 320, .inr (.inl (fun _ => 0)))), (u62 1 1, .inl (cJ, 320, .inr (.inl (fun _ => 0)))), (u62 1 2, .inl (cJ, 320, .inr (.inl (fun _ => 0)))), (u62 1 3, .inl (cJ, 320, .inr (.inl (fun _ => 0)))), (q71, .inl (cJ, 16, .inr (.inl (fun _ => 0))))]) hx hb hts inO tyO tyO_ok nmO hown hK hP hD hS 0 rfl rfl 12 (by decide) (hts _ mq_1_68) (fun _ h9 => h9) rfl hnm rfl (by decide +kernel) rfl rfl (Nat.le_of_ble_eq_true rfl) rfl dO_init_73 (fun H locs hP hD hS => ?_)
  exact hret (fun j k => match j with | 0 => (match k with | 0 => q5 | 1 => u9 0 0 | 2 => u9 0 1 | 3 => u9 0 2 | 4 => u9 0 3 | 5 => u9 0 4 | 6 => q18 | 7 => q26 | 8 => q34 | 9 => q47 | 10 => u51 0 0 | 11 => q58 | 12 => u62 0 0 | _ => q71) | 1 => u51 1 k | _ => u62 1 k) hP hD hS (Nat.le_of_ble_eq_true rfl) (Nat.le_of_ble_eq_true rfl) dO_init_76

end QO3
end
