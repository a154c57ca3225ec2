section QNM
def qT : List Cond := lw_tbl.filter goodWord
theorem qT_good : GoodIn qT qT := fun w h => ⟨h, good_of_word (List.mem_filter.mp h).2⟩
theorem qT_1 {k : Nat} {w : Cond} (h : tables_1_1[k]? = some w) (g : goodWord w = true) : w ∈ qT := List.mem_filter.mpr ⟨List.mem_append_right _ (List.mem_append_left _ (List.mem_of_getElem? h)), g⟩
theorem qT_2 {k : Nat} {w : Cond} (h : tables_1_2[k]? = some w) (g : goodWord w = true) : w ∈ qT := List.mem_filter.mpr ⟨List.mem_append_right _ (List.mem_append_right _ (List.mem_append_left _ (List.mem_of_getElem? h))), g⟩
theorem qT_3 {k : Nat} {w : Cond} (h : tables_1_3[k]? = some w) (g : goodWord w = true) : w ∈ qT := List.mem_filter.mpr ⟨List.mem_append_right _ (List.mem_append_right _ (List.mem_append_right _ (List.mem_of_getElem? h))), g⟩
theorem qT_p {k : Nat} {w : Cond} (h : (k2_sels lw_privs)[k]? = some w) (g : goodWord w = true) : w ∈ qT := List.mem_filter.mpr ⟨List.mem_append_left _ (List.mem_of_getElem? h), g⟩
def TO : u_T := fun k => match k with
  | 0 => ("OutlookOdds", "stock", "LOutlookOdds$Stock;", true)
  | 1 => ("OutlookOdds", "lows", "[I", true)
  | 2 => ("OutlookOdds", "highs", "[I", true)
  | 3 => ("OutlookOdds", "rates", "[I", true)
  | 4 => ("OutlookOdds", "rules", "I", false)
  | 5 => ("OutlookOdds", "youngFish", "I", false)
  | 6 => ("OutlookOdds", "mostChange", "I", false)
  | 7 => ("OutlookOdds", "errorSpread", "I", false)
  | 8 => ("OutlookOdds", "seeingDelay", "I", false)
  | 9 => ("OutlookOdds", "massMark", "I", false)
  | 10 => ("OutlookOdds", "story", "LOutlookOdds$Story;", true)
  | 11 => ("OutlookOdds", "trial", "LOutlookOdds$Story;", true)
  | 12 => ("OutlookOdds", "ordered", "[J", true)
  | 13 => ("OutlookOdds", "ranRule", "I", false)
  | 14 => ("OutlookOdds", "years", "I", false)
  | 15 => ("OutlookOdds", "seeds", "I", false)
  | _ => ("OutlookOdds", "runs", "I", false)
def tyO : Nat → FieldType := fun k => match k with
  | 0 => .object "OutlookOdds$Stock"
  | 1 => .array .int
  | 2 => .array .int
  | 3 => .array .int
  | 4 => .int
  | 5 => .int
  | 6 => .int
  | 7 => .int
  | 8 => .int
  | 9 => .int
  | 10 => .object "OutlookOdds$Story"
  | 11 => .object "OutlookOdds$Story"
  | 12 => .array .long
  | 13 => .int
  | 14 => .int
  | 15 => .int
  | _ => .int
theorem nmO : ∀ a, a < 17 → ∀ b, b < 17 → a ≠ b → (TO a).2.1 ≠ (TO b).2.1 := by decide +kernel
theorem tyO_ok : ∀ k, k < 17 → parseFieldDescriptor (TO k).2.2.1 = some (tyO k) := by decide +kernel
theorem inO_0 : ∀ w ∈ u_ws "OutlookOdds" TO 17, w ∈ lw_tbl := by decide +kernel
theorem inO_1 : (u_ws "OutlookOdds" TO 17).all goodWord = true := by decide +kernel
theorem inO : ∀ w ∈ u_ws "OutlookOdds" TO 17, w ∈ qT := fun w h => List.mem_filter.mpr ⟨inO_0 w h, List.all_eq_true.mp inO_1 w h⟩
def TS : u_T := fun k => match k with
  | 0 => ("OutlookOdds$Stock", "numbers", "[I", true)
  | 1 => ("OutlookOdds$Stock", "weights", "[I", true)
  | 2 => ("OutlookOdds$Stock", "ripes", "[I", true)
  | 3 => ("OutlookOdds$Stock", "dies", "[I", true)
  | _ => ("OutlookOdds$Stock", "living", "[J", true)
def tyS : Nat → FieldType := fun k => match k with
  | 0 => .array .int
  | 1 => .array .int
  | 2 => .array .int
  | 3 => .array .int
  | _ => .array .long
theorem nmS : ∀ a, a < 5 → ∀ b, b < 5 → a ≠ b → (TS a).2.1 ≠ (TS b).2.1 := by decide +kernel
theorem tyS_ok : ∀ k, k < 5 → parseFieldDescriptor (TS k).2.2.1 = some (tyS k) := by decide +kernel
theorem inS_0 : ∀ w ∈ u_ws "OutlookOdds$Stock" TS 5, w ∈ lw_tbl := by decide +kernel
theorem inS_1 : (u_ws "OutlookOdds$Stock" TS 5).all goodWord = true := by decide +kernel
theorem inS : ∀ w ∈ u_ws "OutlookOdds$Stock" TS 5, w ∈ qT := fun w h => List.mem_filter.mpr ⟨inS_0 w h, List.all_eq_true.mp inS_1 w h⟩
def TY : u_T := fun k => match k with
  | _ => ("OutlookOdds$Story", "rows", "[[J", true)
def tyY : Nat → FieldType := fun k => match k with
  | _ => .array (.array .long)
theorem nmY : ∀ a, a < 1 → ∀ b, b < 1 → a ≠ b → (TY a).2.1 ≠ (TY b).2.1 := by decide +kernel
theorem tyY_ok : ∀ k, k < 1 → parseFieldDescriptor (TY k).2.2.1 = some (tyY k) := by decide +kernel
theorem inY_0 : ∀ w ∈ u_ws "OutlookOdds$Story" TY 1, w ∈ lw_tbl := by decide +kernel
theorem inY_1 : (u_ws "OutlookOdds$Story" TY 1).all goodWord = true := by decide +kernel
theorem inY : ∀ w ∈ u_ws "OutlookOdds$Story" TY 1, w ∈ qT := fun w h => List.mem_filter.mpr ⟨inY_0 w h, List.all_eq_true.mp inY_1 w h⟩
def TM : u_T := fun k => match k with
  | 0 => ("OutlookOddsModel", "thrown", "I", false)
  | 1 => ("OutlookOddsModel", "numbers", "[J", true)
  | 2 => ("OutlookOddsModel", "weights", "[J", true)
  | 3 => ("OutlookOddsModel", "ripe", "[J", true)
  | 4 => ("OutlookOddsModel", "dies", "[J", true)
  | 5 => ("OutlookOddsModel", "young", "I", false)
  | 6 => ("OutlookOddsModel", "rules", "I", false)
  | 7 => ("OutlookOddsModel", "lows", "[J", true)
  | 8 => ("OutlookOddsModel", "highs", "[J", true)
  | 9 => ("OutlookOddsModel", "rates", "[I", true)
  | 10 => ("OutlookOddsModel", "change", "I", false)
  | 11 => ("OutlookOddsModel", "spread", "I", false)
  | 12 => ("OutlookOddsModel", "delay", "I", false)
  | 13 => ("OutlookOddsModel", "mark", "I", false)
  | 14 => ("OutlookOddsModel", "runs", "I", false)
  | 15 => ("OutlookOddsModel", "ranRule", "I", false)
  | 16 => ("OutlookOddsModel", "ranYears", "I", false)
  | 17 => ("OutlookOddsModel", "ranSeeds", "I", false)
  | 18 => ("OutlookOddsModel", "masses", "[J", true)
  | 19 => ("OutlookOddsModel", "caught", "[J", true)
  | 20 => ("OutlookOddsModel", "catches", "[J", true)
  | 21 => ("OutlookOddsModel", "seen", "[J", true)
  | _ => ("OutlookOddsModel", "now", "[J", true)
def tyM : Nat → FieldType := fun k => match k with
  | 0 => .int
  | 1 => .array .long
  | 2 => .array .long
  | 3 => .array .long
  | 4 => .array .long
  | 5 => .int
  | 6 => .int
  | 7 => .array .long
  | 8 => .array .long
  | 9 => .array .int
  | 10 => .int
  | 11 => .int
  | 12 => .int
  | 13 => .int
  | 14 => .int
  | 15 => .int
  | 16 => .int
  | 17 => .int
  | 18 => .array .long
  | 19 => .array .long
  | 20 => .array .long
  | 21 => .array .long
  | _ => .array .long
theorem nmM : ∀ a, a < 23 → ∀ b, b < 23 → a ≠ b → (TM a).2.1 ≠ (TM b).2.1 := by decide +kernel
theorem tyM_ok : ∀ k, k < 23 → parseFieldDescriptor (TM k).2.2.1 = some (tyM k) := by decide +kernel
theorem inM_0 : ∀ w ∈ u_ws "OutlookOddsModel" TM 23, w ∈ lw_tbl := by decide +kernel
theorem inM_1 : (u_ws "OutlookOddsModel" TM 23).all goodWord = true := by decide +kernel
theorem inM : ∀ w ∈ u_ws "OutlookOddsModel" TM 23, w ∈ qT := fun w h => List.mem_filter.mpr ⟨inM_0 w h, List.all_eq_true.mp inM_1 w h⟩
abbrev qCl : List vw_C := [("OutlookOdds", TO, 17), ("OutlookOdds$Stock", TS, 5), ("OutlookOdds$Story", TY, 1), ("OutlookOddsModel", TM, 23)]
abbrev yO_init : MethodName := { cls := "OutlookOdds", name := "<init>", desc := "()V" }
abbrev wO_init : List Cond := (Jvm.Cond.code ({ cls := "OutlookOdds", name := "<init>", desc := "()V" } : Jvm.MethodName) prog_1_method_1_code (1 : Nat) (Option.none : Option Jvm.ClassFile.FieldType)) :: qT
abbrev yS_init : MethodName := { cls := "OutlookOdds$Stock", name := "<init>", desc := "()V" }
abbrev wS_init : List Cond := (Jvm.Cond.code ({ cls := "OutlookOdds$Stock", name := "<init>", desc := "()V" } : Jvm.MethodName) prog_2_method_1_code (1 : Nat) (Option.none : Option Jvm.ClassFile.FieldType)) :: qT
abbrev yY_init : MethodName := { cls := "OutlookOdds$Story", name := "<init>", desc := "()V" }
abbrev wY_init : List Cond := (Jvm.Cond.code ({ cls := "OutlookOdds$Story", name := "<init>", desc := "()V" } : Jvm.MethodName) prog_3_method_1_code (1 : Nat) (Option.none : Option Jvm.ClassFile.FieldType)) :: qT
abbrev yO_draw : MethodName := { cls := "OutlookOdds", name := "draw", desc := "(III)I" }
abbrev wO_draw : List Cond := (Jvm.Cond.code ({ cls := "OutlookOdds", name := "draw", desc := "(III)I" } : Jvm.MethodName) prog_1_method_8_code (5 : Nat) (Option.some Jvm.ClassFile.FieldType.int)) :: qT
abbrev yO_count : MethodName := { cls := "OutlookOdds", name := "count", desc := "(I)I" }
abbrev wO_count : List Cond := (Jvm.Cond.code ({ cls := "OutlookOdds", name := "count", desc := "(I)I" } : Jvm.MethodName) prog_1_method_18_code (2 : Nat) (Option.some Jvm.ClassFile.FieldType.int)) :: qT
abbrev yL_age : MethodName := { cls := "OutlookOddsLaw", name := "age", desc := "(LOutlookOdds;IIIII)I" }
abbrev wL_age : List Cond := (Jvm.Cond.codeWith ({ cls := "OutlookOddsLaw", name := "age", desc := "(LOutlookOdds;IIIII)I" } : Jvm.MethodName) method_3_code (7 : Nat) (Option.some Jvm.ClassFile.FieldType.int) [((0 : Nat), (11 : Nat), (14 : Nat), (13 : Nat)), ((0 : Nat), (11 : Nat), (18 : Nat), (15 : Nat))]) :: qT
abbrev yO_age : MethodName := { cls := "OutlookOdds", name := "age", desc := "(IIIII)V" }
abbrev wO_age : List Cond := (Jvm.Cond.code ({ cls := "OutlookOdds", name := "age", desc := "(IIIII)V" } : Jvm.MethodName) prog_1_method_2_code (6 : Nat) (Option.none : Option Jvm.ClassFile.FieldType)) :: qT
abbrev yO_requirePlace : MethodName := { cls := "OutlookOdds", name := "requirePlace", desc := "(III)V" }
abbrev wO_requirePlace : List Cond := (Jvm.Cond.code ({ cls := "OutlookOdds", name := "requirePlace", desc := "(III)V" } : Jvm.MethodName) prog_1_method_34_code (3 : Nat) (Option.none : Option Jvm.ClassFile.FieldType)) :: qT
abbrev yO_requireNumber : MethodName := { cls := "OutlookOdds", name := "requireNumber", desc := "(III)V" }
abbrev wO_requireNumber : List Cond := (Jvm.Cond.code ({ cls := "OutlookOdds", name := "requireNumber", desc := "(III)V" } : Jvm.MethodName) prog_1_method_35_code (3 : Nat) (Option.none : Option Jvm.ClassFile.FieldType)) :: qT
abbrev yS_setAge : MethodName := { cls := "OutlookOdds$Stock", name := "setAge", desc := "(IIIII)V" }
abbrev wS_setAge : List Cond := (Jvm.Cond.code ({ cls := "OutlookOdds$Stock", name := "setAge", desc := "(IIIII)V" } : Jvm.MethodName) prog_2_method_2_code (6 : Nat) (Option.none : Option Jvm.ClassFile.FieldType)) :: qT
abbrev yL_young : MethodName := { cls := "OutlookOddsLaw", name := "young", desc := "(LOutlookOdds;I[J)I" }
abbrev wL_young : List Cond := (Jvm.Cond.codeWith ({ cls := "OutlookOddsLaw", name := "young", desc := "(LOutlookOdds;I[J)I" } : Jvm.MethodName) method_4_code (4 : Nat) (Option.some Jvm.ClassFile.FieldType.int) [((0 : Nat), (9 : Nat), (12 : Nat), (15 : Nat))]) :: qT
abbrev yO_young : MethodName := { cls := "OutlookOdds", name := "young", desc := "(I)I" }
abbrev wO_young : List Cond := (Jvm.Cond.code ({ cls := "OutlookOdds", name := "young", desc := "(I)I" } : Jvm.MethodName) prog_1_method_3_code (3 : Nat) (Option.some Jvm.ClassFile.FieldType.int)) :: qT
abbrev yL_rule : MethodName := { cls := "OutlookOddsLaw", name := "rule", desc := "(LOutlookOdds;III[J)I" }
abbrev wL_rule : List Cond := (Jvm.Cond.codeWith ({ cls := "OutlookOddsLaw", name := "rule", desc := "(LOutlookOdds;III[J)I" } : Jvm.MethodName) method_5_code (6 : Nat) (Option.some Jvm.ClassFile.FieldType.int) [((0 : Nat), (12 : Nat), (15 : Nat), (15 : Nat)), ((0 : Nat), (12 : Nat), (19 : Nat), (25 : Nat))]) :: qT
abbrev yO_rule : MethodName := { cls := "OutlookOdds", name := "rule", desc := "(III)I" }
abbrev wO_rule : List Cond := (Jvm.Cond.code ({ cls := "OutlookOdds", name := "rule", desc := "(III)I" } : Jvm.MethodName) prog_1_method_4_code (5 : Nat) (Option.some Jvm.ClassFile.FieldType.int)) :: qT
abbrev yL_change : MethodName := { cls := "OutlookOddsLaw", name := "change", desc := "(LOutlookOdds;I[J)I" }
abbrev wL_change : List Cond := (Jvm.Cond.codeWith ({ cls := "OutlookOddsLaw", name := "change", desc := "(LOutlookOdds;I[J)I" } : Jvm.MethodName) method_6_code (4 : Nat) (Option.some Jvm.ClassFile.FieldType.int) [((0 : Nat), (9 : Nat), (12 : Nat), (15 : Nat))]) :: qT
abbrev yO_change : MethodName := { cls := "OutlookOdds", name := "change", desc := "(I)I" }
abbrev wO_change : List Cond := (Jvm.Cond.code ({ cls := "OutlookOdds", name := "change", desc := "(I)I" } : Jvm.MethodName) prog_1_method_5_code (3 : Nat) (Option.some Jvm.ClassFile.FieldType.int)) :: qT
abbrev yL_error : MethodName := { cls := "OutlookOddsLaw", name := "error", desc := "(LOutlookOdds;II)I" }
abbrev wL_error : List Cond := (Jvm.Cond.codeWith ({ cls := "OutlookOddsLaw", name := "error", desc := "(LOutlookOdds;II)I" } : Jvm.MethodName) method_7_code (4 : Nat) (Option.some Jvm.ClassFile.FieldType.int) [((0 : Nat), (6 : Nat), (9 : Nat), (15 : Nat))]) :: qT
abbrev yO_error : MethodName := { cls := "OutlookOdds", name := "error", desc := "(II)V" }
abbrev wO_error : List Cond := (Jvm.Cond.code ({ cls := "OutlookOdds", name := "error", desc := "(II)V" } : Jvm.MethodName) prog_1_method_6_code (3 : Nat) (Option.none : Option Jvm.ClassFile.FieldType)) :: qT
abbrev yL_mark : MethodName := { cls := "OutlookOddsLaw", name := "mark", desc := "(LOutlookOdds;I[J)I" }
abbrev wL_mark : List Cond := (Jvm.Cond.codeWith ({ cls := "OutlookOddsLaw", name := "mark", desc := "(LOutlookOdds;I[J)I" } : Jvm.MethodName) method_8_code (4 : Nat) (Option.some Jvm.ClassFile.FieldType.int) [((0 : Nat), (9 : Nat), (12 : Nat), (15 : Nat))]) :: qT
abbrev yO_mark : MethodName := { cls := "OutlookOdds", name := "mark", desc := "(I)I" }
abbrev wO_mark : List Cond := (Jvm.Cond.code ({ cls := "OutlookOdds", name := "mark", desc := "(I)I" } : Jvm.MethodName) prog_1_method_7_code (3 : Nat) (Option.some Jvm.ClassFile.FieldType.int)) :: qT
abbrev yL_run : MethodName := { cls := "OutlookOddsLaw", name := "run", desc := "(LOutlookOdds;III[J)I" }
abbrev wL_run : List Cond := (Jvm.Cond.codeWith ({ cls := "OutlookOddsLaw", name := "run", desc := "(LOutlookOdds;III[J)I" } : Jvm.MethodName) method_9_code (6 : Nat) (Option.some Jvm.ClassFile.FieldType.int) [((0 : Nat), (12 : Nat), (15 : Nat), (13 : Nat)), ((0 : Nat), (12 : Nat), (19 : Nat), (15 : Nat))]) :: qT
abbrev yO_run : MethodName := { cls := "OutlookOdds", name := "run", desc := "(III)I" }
abbrev wO_run : List Cond := (Jvm.Cond.code ({ cls := "OutlookOdds", name := "run", desc := "(III)I" } : Jvm.MethodName) prog_1_method_9_code (4 : Nat) (Option.some Jvm.ClassFile.FieldType.int)) :: qT
abbrev yO_runAllSeeds : MethodName := { cls := "OutlookOdds", name := "runAllSeeds", desc := "(LOutlookOdds$Story;I)V" }
abbrev wO_runAllSeeds : List Cond := (Jvm.Cond.code ({ cls := "OutlookOdds", name := "runAllSeeds", desc := "(LOutlookOdds$Story;I)V" } : Jvm.MethodName) prog_1_method_19_code (5 : Nat) (Option.none : Option Jvm.ClassFile.FieldType)) :: qT
abbrev yS_begin : MethodName := { cls := "OutlookOdds$Stock", name := "begin", desc := "()V" }
abbrev wS_begin : List Cond := (Jvm.Cond.code ({ cls := "OutlookOdds$Stock", name := "begin", desc := "()V" } : Jvm.MethodName) prog_2_method_3_code (2 : Nat) (Option.none : Option Jvm.ClassFile.FieldType)) :: qT
abbrev yO_runYear : MethodName := { cls := "OutlookOdds", name := "runYear", desc := "(LOutlookOdds$Story;III)V" }
abbrev wO_runYear : List Cond := (Jvm.Cond.code ({ cls := "OutlookOdds", name := "runYear", desc := "(LOutlookOdds$Story;III)V" } : Jvm.MethodName) prog_1_method_20_code (13 : Nat) (Option.none : Option Jvm.ClassFile.FieldType)) :: qT
abbrev yS_ripeMass : MethodName := { cls := "OutlookOdds$Stock", name := "ripeMass", desc := "()J" }
abbrev wS_ripeMass : List Cond := (Jvm.Cond.code ({ cls := "OutlookOdds$Stock", name := "ripeMass", desc := "()J" } : Jvm.MethodName) prog_2_method_4_code (4 : Nat) (Option.some Jvm.ClassFile.FieldType.long)) :: qT
abbrev yY_put : MethodName := { cls := "OutlookOdds$Story", name := "put", desc := "(IIIJ)V" }
abbrev wY_put : List Cond := (Jvm.Cond.code ({ cls := "OutlookOdds$Story", name := "put", desc := "(IIIJ)V" } : Jvm.MethodName) prog_3_method_3_code (6 : Nat) (Option.none : Option Jvm.ClassFile.FieldType)) :: qT
abbrev yO_massSeen : MethodName := { cls := "OutlookOdds", name := "massSeen", desc := "(LOutlookOdds$Story;II)J" }
abbrev wO_massSeen : List Cond := (Jvm.Cond.code ({ cls := "OutlookOdds", name := "massSeen", desc := "(LOutlookOdds$Story;II)J" } : Jvm.MethodName) prog_1_method_21_code (6 : Nat) (Option.some Jvm.ClassFile.FieldType.long)) :: qT
abbrev yY_get : MethodName := { cls := "OutlookOdds$Story", name := "get", desc := "(III)J" }
abbrev wY_get : List Cond := (Jvm.Cond.code ({ cls := "OutlookOdds$Story", name := "get", desc := "(III)J" } : Jvm.MethodName) prog_3_method_2_code (4 : Nat) (Option.some Jvm.ClassFile.FieldType.long)) :: qT
abbrev yS_totalMass : MethodName := { cls := "OutlookOdds$Stock", name := "totalMass", desc := "()J" }
abbrev wS_totalMass : List Cond := (Jvm.Cond.code ({ cls := "OutlookOdds$Stock", name := "totalMass", desc := "()J" } : Jvm.MethodName) prog_2_method_5_code (4 : Nat) (Option.some Jvm.ClassFile.FieldType.long)) :: qT
abbrev yO_rateAllowed : MethodName := { cls := "OutlookOdds", name := "rateAllowed", desc := "(JI)J" }
abbrev wO_rateAllowed : List Cond := (Jvm.Cond.code ({ cls := "OutlookOdds", name := "rateAllowed", desc := "(JI)J" } : Jvm.MethodName) prog_1_method_22_code (8 : Nat) (Option.some Jvm.ClassFile.FieldType.long)) :: qT
abbrev yO_limitChange : MethodName := { cls := "OutlookOdds", name := "limitChange", desc := "(LOutlookOdds$Story;JII)J" }
abbrev wO_limitChange : List Cond := (Jvm.Cond.code ({ cls := "OutlookOdds", name := "limitChange", desc := "(LOutlookOdds$Story;JII)J" } : Jvm.MethodName) prog_1_method_23_code (10 : Nat) (Option.some Jvm.ClassFile.FieldType.long)) :: qT
abbrev yS_takeOut : MethodName := { cls := "OutlookOdds$Stock", name := "takeOut", desc := "(JJ)J" }
abbrev wS_takeOut : List Cond := (Jvm.Cond.code ({ cls := "OutlookOdds$Stock", name := "takeOut", desc := "(JJ)J" } : Jvm.MethodName) prog_2_method_6_code (10 : Nat) (Option.some Jvm.ClassFile.FieldType.long)) :: qT
abbrev yS_loseDead : MethodName := { cls := "OutlookOdds$Stock", name := "loseDead", desc := "()V" }
abbrev wS_loseDead : List Cond := (Jvm.Cond.code ({ cls := "OutlookOdds$Stock", name := "loseDead", desc := "()V" } : Jvm.MethodName) prog_2_method_7_code (2 : Nat) (Option.none : Option Jvm.ClassFile.FieldType)) :: qT
abbrev yO_youngBorn : MethodName := { cls := "OutlookOdds", name := "youngBorn", desc := "(II)J" }
abbrev wO_youngBorn : List Cond := (Jvm.Cond.code ({ cls := "OutlookOdds", name := "youngBorn", desc := "(II)J" } : Jvm.MethodName) prog_1_method_24_code (3 : Nat) (Option.some Jvm.ClassFile.FieldType.long)) :: qT
abbrev yS_growOlder : MethodName := { cls := "OutlookOdds$Stock", name := "growOlder", desc := "(J)V" }
abbrev wS_growOlder : List Cond := (Jvm.Cond.code ({ cls := "OutlookOdds$Stock", name := "growOlder", desc := "(J)V" } : Jvm.MethodName) prog_2_method_8_code (5 : Nat) (Option.none : Option Jvm.ClassFile.FieldType)) :: qT
abbrev yO_seedsEverBelowMark : MethodName := { cls := "OutlookOdds", name := "seedsEverBelowMark", desc := "()I" }
abbrev wO_seedsEverBelowMark : List Cond := (Jvm.Cond.code ({ cls := "OutlookOdds", name := "seedsEverBelowMark", desc := "()I" } : Jvm.MethodName) prog_1_method_28_code (3 : Nat) (Option.some Jvm.ClassFile.FieldType.int)) :: qT
abbrev yO_isEverBelowMark : MethodName := { cls := "OutlookOdds", name := "isEverBelowMark", desc := "(I)Z" }
abbrev wO_isEverBelowMark : List Cond := (Jvm.Cond.code ({ cls := "OutlookOdds", name := "isEverBelowMark", desc := "(I)Z" } : Jvm.MethodName) prog_1_method_29_code (3 : Nat) (Option.some Jvm.ClassFile.FieldType.boolean)) :: qT
abbrev yO_isBelowMark : MethodName := { cls := "OutlookOdds", name := "isBelowMark", desc := "(II)Z" }
abbrev wO_isBelowMark : List Cond := (Jvm.Cond.code ({ cls := "OutlookOdds", name := "isBelowMark", desc := "(II)Z" } : Jvm.MethodName) prog_1_method_27_code (3 : Nat) (Option.some Jvm.ClassFile.FieldType.boolean)) :: qT
abbrev yL_told : MethodName := { cls := "OutlookOddsLaw", name := "told", desc := "(LOutlookOdds;III[J)I" }
abbrev wL_told : List Cond := (Jvm.Cond.codeWith ({ cls := "OutlookOddsLaw", name := "told", desc := "(LOutlookOdds;III[J)I" } : Jvm.MethodName) method_10_code (6 : Nat) (Option.some Jvm.ClassFile.FieldType.int) [((0 : Nat), (11 : Nat), (14 : Nat), (25 : Nat)), ((0 : Nat), (11 : Nat), (18 : Nat), (13 : Nat))]) :: qT
abbrev yO_told : MethodName := { cls := "OutlookOdds", name := "told", desc := "(III)J" }
abbrev wO_told : List Cond := (Jvm.Cond.code ({ cls := "OutlookOdds", name := "told", desc := "(III)J" } : Jvm.MethodName) prog_1_method_10_code (4 : Nat) (Option.some Jvm.ClassFile.FieldType.long)) :: qT
abbrev yO_requireRun : MethodName := { cls := "OutlookOdds", name := "requireRun", desc := "()V" }
abbrev wO_requireRun : List Cond := (Jvm.Cond.code ({ cls := "OutlookOdds", name := "requireRun", desc := "()V" } : Jvm.MethodName) prog_1_method_33_code (1 : Nat) (Option.none : Option Jvm.ClassFile.FieldType)) :: qT
abbrev yL_below : MethodName := { cls := "OutlookOddsLaw", name := "below", desc := "(LOutlookOdds;II[J)I" }
abbrev wL_below : List Cond := (Jvm.Cond.codeWith ({ cls := "OutlookOddsLaw", name := "below", desc := "(LOutlookOdds;II[J)I" } : Jvm.MethodName) method_11_code (5 : Nat) (Option.some Jvm.ClassFile.FieldType.int) [((0 : Nat), (10 : Nat), (13 : Nat), (25 : Nat)), ((0 : Nat), (10 : Nat), (17 : Nat), (13 : Nat))]) :: qT
abbrev yO_below : MethodName := { cls := "OutlookOdds", name := "below", desc := "(II)I" }
abbrev wO_below : List Cond := (Jvm.Cond.code ({ cls := "OutlookOdds", name := "below", desc := "(II)I" } : Jvm.MethodName) prog_1_method_11_code (5 : Nat) (Option.some Jvm.ClassFile.FieldType.int)) :: qT
abbrev yO_partOfFraction : MethodName := { cls := "OutlookOdds", name := "partOfFraction", desc := "(JJI)J" }
abbrev wO_partOfFraction : List Cond := (Jvm.Cond.code ({ cls := "OutlookOdds", name := "partOfFraction", desc := "(JJI)J" } : Jvm.MethodName) prog_1_method_31_code (7 : Nat) (Option.some Jvm.ClassFile.FieldType.long)) :: qT
abbrev yO_commonDivisor : MethodName := { cls := "OutlookOdds", name := "commonDivisor", desc := "(JJ)J" }
abbrev wO_commonDivisor : List Cond := (Jvm.Cond.code ({ cls := "OutlookOdds", name := "commonDivisor", desc := "(JJ)J" } : Jvm.MethodName) prog_1_method_32_code (11 : Nat) (Option.some Jvm.ClassFile.FieldType.long)) :: qT
abbrev yL_steady : MethodName := { cls := "OutlookOddsLaw", name := "steady", desc := "(LOutlookOdds;I[J)I" }
abbrev wL_steady : List Cond := (Jvm.Cond.codeWith ({ cls := "OutlookOddsLaw", name := "steady", desc := "(LOutlookOdds;I[J)I" } : Jvm.MethodName) method_12_code (4 : Nat) (Option.some Jvm.ClassFile.FieldType.int) [((0 : Nat), (8 : Nat), (11 : Nat), (25 : Nat)), ((0 : Nat), (8 : Nat), (14 : Nat), (13 : Nat))]) :: qT
abbrev yO_steady : MethodName := { cls := "OutlookOdds", name := "steady", desc := "(I)J" }
abbrev wO_steady : List Cond := (Jvm.Cond.code ({ cls := "OutlookOdds", name := "steady", desc := "(I)J" } : Jvm.MethodName) prog_1_method_12_code (5 : Nat) (Option.some Jvm.ClassFile.FieldType.long)) :: qT
abbrev yL_recovers : MethodName := { cls := "OutlookOddsLaw", name := "recovers", desc := "(LOutlookOdds;II[J)I" }
abbrev wL_recovers : List Cond := (Jvm.Cond.codeWith ({ cls := "OutlookOddsLaw", name := "recovers", desc := "(LOutlookOdds;II[J)I" } : Jvm.MethodName) method_13_code (5 : Nat) (Option.some Jvm.ClassFile.FieldType.int) [((0 : Nat), (10 : Nat), (13 : Nat), (25 : Nat)), ((0 : Nat), (10 : Nat), (17 : Nat), (13 : Nat)), ((0 : Nat), (10 : Nat), (21 : Nat), (15 : Nat))]) :: qT
abbrev yO_recovers : MethodName := { cls := "OutlookOdds", name := "recovers", desc := "(II)I" }
abbrev wO_recovers : List Cond := (Jvm.Cond.code ({ cls := "OutlookOdds", name := "recovers", desc := "(II)I" } : Jvm.MethodName) prog_1_method_13_code (5 : Nat) (Option.some Jvm.ClassFile.FieldType.int)) :: qT
abbrev yL_rank : MethodName := { cls := "OutlookOddsLaw", name := "rank", desc := "(LOutlookOdds;II[J)I" }
abbrev wL_rank : List Cond := (Jvm.Cond.codeWith ({ cls := "OutlookOddsLaw", name := "rank", desc := "(LOutlookOdds;II[J)I" } : Jvm.MethodName) method_14_code (5 : Nat) (Option.some Jvm.ClassFile.FieldType.int) [((0 : Nat), (9 : Nat), (12 : Nat), (25 : Nat)), ((0 : Nat), (9 : Nat), (16 : Nat), (13 : Nat))]) :: qT
abbrev yO_rank : MethodName := { cls := "OutlookOdds", name := "rank", desc := "(II)J" }
abbrev wO_rank : List Cond := (Jvm.Cond.code ({ cls := "OutlookOdds", name := "rank", desc := "(II)J" } : Jvm.MethodName) prog_1_method_14_code (4 : Nat) (Option.some Jvm.ClassFile.FieldType.long)) :: qT
abbrev yO_putInOrder : MethodName := { cls := "OutlookOdds", name := "putInOrder", desc := "(IJ)V" }
abbrev wO_putInOrder : List Cond := (Jvm.Cond.code ({ cls := "OutlookOdds", name := "putInOrder", desc := "(IJ)V" } : Jvm.MethodName) prog_1_method_30_code (5 : Nat) (Option.none : Option Jvm.ClassFile.FieldType)) :: qT
abbrev yL_mean : MethodName := { cls := "OutlookOddsLaw", name := "mean", desc := "(LOutlookOdds;II[J)I" }
abbrev wL_mean : List Cond := (Jvm.Cond.codeWith ({ cls := "OutlookOddsLaw", name := "mean", desc := "(LOutlookOdds;II[J)I" } : Jvm.MethodName) method_15_code (5 : Nat) (Option.some Jvm.ClassFile.FieldType.int) [((0 : Nat), (9 : Nat), (12 : Nat), (25 : Nat)), ((0 : Nat), (9 : Nat), (16 : Nat), (13 : Nat))]) :: qT
abbrev yO_mean : MethodName := { cls := "OutlookOdds", name := "mean", desc := "(II)J" }
abbrev wO_mean : List Cond := (Jvm.Cond.code ({ cls := "OutlookOdds", name := "mean", desc := "(II)J" } : Jvm.MethodName) prog_1_method_15_code (3 : Nat) (Option.some Jvm.ClassFile.FieldType.long)) :: qT
abbrev yO_sumOf : MethodName := { cls := "OutlookOdds", name := "sumOf", desc := "(LOutlookOdds$Story;II)J" }
abbrev wO_sumOf : List Cond := (Jvm.Cond.code ({ cls := "OutlookOdds", name := "sumOf", desc := "(LOutlookOdds$Story;II)J" } : Jvm.MethodName) prog_1_method_26_code (8 : Nat) (Option.some Jvm.ClassFile.FieldType.long)) :: qT
abbrev yL_table : MethodName := { cls := "OutlookOddsLaw", name := "table", desc := "(LOutlookOdds;I[J)I" }
abbrev wL_table : List Cond := (Jvm.Cond.codeWith ({ cls := "OutlookOddsLaw", name := "table", desc := "(LOutlookOdds;I[J)I" } : Jvm.MethodName) method_16_code (4 : Nat) (Option.some Jvm.ClassFile.FieldType.int) [((0 : Nat), (8 : Nat), (11 : Nat), (25 : Nat)), ((0 : Nat), (8 : Nat), (14 : Nat), (13 : Nat))]) :: qT
abbrev yO_table : MethodName := { cls := "OutlookOdds", name := "table", desc := "(I)J" }
abbrev wO_table : List Cond := (Jvm.Cond.code ({ cls := "OutlookOdds", name := "table", desc := "(I)J" } : Jvm.MethodName) prog_1_method_16_code (2 : Nat) (Option.some Jvm.ClassFile.FieldType.long)) :: qT
abbrev yO_caughtAtRate : MethodName := { cls := "OutlookOdds", name := "caughtAtRate", desc := "(I)J" }
abbrev wO_caughtAtRate : List Cond := (Jvm.Cond.code ({ cls := "OutlookOdds", name := "caughtAtRate", desc := "(I)J" } : Jvm.MethodName) prog_1_method_25_code (2 : Nat) (Option.some Jvm.ClassFile.FieldType.long)) :: qT
abbrev yL_top : MethodName := { cls := "OutlookOddsLaw", name := "top", desc := "(LOutlookOdds;[J)I" }
abbrev wL_top : List Cond := (Jvm.Cond.codeWith ({ cls := "OutlookOddsLaw", name := "top", desc := "(LOutlookOdds;[J)I" } : Jvm.MethodName) method_17_code (3 : Nat) (Option.some Jvm.ClassFile.FieldType.int) [((0 : Nat), (8 : Nat), (11 : Nat), (25 : Nat))]) :: qT
abbrev yO_top : MethodName := { cls := "OutlookOdds", name := "top", desc := "()I" }
abbrev wO_top : List Cond := (Jvm.Cond.code ({ cls := "OutlookOdds", name := "top", desc := "()I" } : Jvm.MethodName) prog_1_method_17_code (7 : Nat) (Option.some Jvm.ClassFile.FieldType.int)) :: qT
abbrev yM_init : MethodName := { cls := "OutlookOddsModel", name := "<init>", desc := "()V" }
abbrev wM_init : List Cond := (Jvm.Cond.code ({ cls := "OutlookOddsModel", name := "<init>", desc := "()V" } : Jvm.MethodName) prog_5_method_1_code (1 : Nat) (Option.none : Option Jvm.ClassFile.FieldType)) :: qT
abbrev yM_thrown : MethodName := { cls := "OutlookOddsModel", name := "thrown", desc := "()I" }
abbrev wM_thrown : List Cond := (Jvm.Cond.code ({ cls := "OutlookOddsModel", name := "thrown", desc := "()I" } : Jvm.MethodName) prog_5_method_2_code (1 : Nat) (Option.some Jvm.ClassFile.FieldType.int)) :: qT
abbrev yM_age : MethodName := { cls := "OutlookOddsModel", name := "age", desc := "(IIIII)V" }
abbrev wM_age : List Cond := (Jvm.Cond.code ({ cls := "OutlookOddsModel", name := "age", desc := "(IIIII)V" } : Jvm.MethodName) prog_5_method_4_code (7 : Nat) (Option.none : Option Jvm.ClassFile.FieldType)) :: qT
abbrev yM_isIn : MethodName := { cls := "OutlookOddsModel", name := "isIn", desc := "(III)Z" }
abbrev wM_isIn : List Cond := (Jvm.Cond.code ({ cls := "OutlookOddsModel", name := "isIn", desc := "(III)Z" } : Jvm.MethodName) prog_5_method_3_code (3 : Nat) (Option.some Jvm.ClassFile.FieldType.boolean)) :: qT
abbrev yM_young : MethodName := { cls := "OutlookOddsModel", name := "young", desc := "(I)I" }
abbrev wM_young : List Cond := (Jvm.Cond.code ({ cls := "OutlookOddsModel", name := "young", desc := "(I)I" } : Jvm.MethodName) prog_5_method_5_code (3 : Nat) (Option.some Jvm.ClassFile.FieldType.int)) :: qT
abbrev yM_rule : MethodName := { cls := "OutlookOddsModel", name := "rule", desc := "(III)I" }
abbrev wM_rule : List Cond := (Jvm.Cond.code ({ cls := "OutlookOddsModel", name := "rule", desc := "(III)I" } : Jvm.MethodName) prog_5_method_6_code (5 : Nat) (Option.some Jvm.ClassFile.FieldType.int)) :: qT
abbrev yM_change : MethodName := { cls := "OutlookOddsModel", name := "change", desc := "(I)I" }
abbrev wM_change : List Cond := (Jvm.Cond.code ({ cls := "OutlookOddsModel", name := "change", desc := "(I)I" } : Jvm.MethodName) prog_5_method_7_code (3 : Nat) (Option.some Jvm.ClassFile.FieldType.int)) :: qT
abbrev yM_error : MethodName := { cls := "OutlookOddsModel", name := "error", desc := "(II)V" }
abbrev wM_error : List Cond := (Jvm.Cond.code ({ cls := "OutlookOddsModel", name := "error", desc := "(II)V" } : Jvm.MethodName) prog_5_method_8_code (3 : Nat) (Option.none : Option Jvm.ClassFile.FieldType)) :: qT
abbrev yM_mark : MethodName := { cls := "OutlookOddsModel", name := "mark", desc := "(I)I" }
abbrev wM_mark : List Cond := (Jvm.Cond.code ({ cls := "OutlookOddsModel", name := "mark", desc := "(I)I" } : Jvm.MethodName) prog_5_method_9_code (3 : Nat) (Option.some Jvm.ClassFile.FieldType.int)) :: qT
abbrev yM_draw : MethodName := { cls := "OutlookOddsModel", name := "draw", desc := "(III)I" }
abbrev wM_draw : List Cond := (Jvm.Cond.code ({ cls := "OutlookOddsModel", name := "draw", desc := "(III)I" } : Jvm.MethodName) prog_5_method_11_code (4 : Nat) (Option.some Jvm.ClassFile.FieldType.int)) :: qT
abbrev yM_drawn : MethodName := { cls := "OutlookOddsModel", name := "drawn", desc := "(III)I" }
abbrev wM_drawn : List Cond := (Jvm.Cond.code ({ cls := "OutlookOddsModel", name := "drawn", desc := "(III)I" } : Jvm.MethodName) prog_5_method_10_code (5 : Nat) (Option.some Jvm.ClassFile.FieldType.int)) :: qT
abbrev yM_run : MethodName := { cls := "OutlookOddsModel", name := "run", desc := "(III)I" }
abbrev wM_run : List Cond := (Jvm.Cond.code ({ cls := "OutlookOddsModel", name := "run", desc := "(III)I" } : Jvm.MethodName) prog_5_method_15_code (8 : Nat) (Option.some Jvm.ClassFile.FieldType.int)) :: qT
abbrev yM_go : MethodName := { cls := "OutlookOddsModel", name := "go", desc := "(IIIII)V" }
abbrev wM_go : List Cond := (Jvm.Cond.code ({ cls := "OutlookOddsModel", name := "go", desc := "(IIIII)V" } : Jvm.MethodName) prog_5_method_14_code (8 : Nat) (Option.none : Option Jvm.ClassFile.FieldType)) :: qT
abbrev yM_year : MethodName := { cls := "OutlookOddsModel", name := "year", desc := "(IIIII)V" }
abbrev wM_year : List Cond := (Jvm.Cond.code ({ cls := "OutlookOddsModel", name := "year", desc := "(IIIII)V" } : Jvm.MethodName) prog_5_method_13_code (18 : Nat) (Option.none : Option Jvm.ClassFile.FieldType)) :: qT
abbrev yM_allowed : MethodName := { cls := "OutlookOddsModel", name := "allowed", desc := "(IIJ)J" }
abbrev wM_allowed : List Cond := (Jvm.Cond.code ({ cls := "OutlookOddsModel", name := "allowed", desc := "(IIJ)J" } : Jvm.MethodName) prog_5_method_12_code (5 : Nat) (Option.some Jvm.ClassFile.FieldType.long)) :: qT
abbrev yM_told : MethodName := { cls := "OutlookOddsModel", name := "told", desc := "(III)J" }
abbrev wM_told : List Cond := (Jvm.Cond.code ({ cls := "OutlookOddsModel", name := "told", desc := "(III)J" } : Jvm.MethodName) prog_5_method_18_code (5 : Nat) (Option.some Jvm.ClassFile.FieldType.long)) :: qT
abbrev yM_noSeed : MethodName := { cls := "OutlookOddsModel", name := "noSeed", desc := "(I)Z" }
abbrev wM_noSeed : List Cond := (Jvm.Cond.code ({ cls := "OutlookOddsModel", name := "noSeed", desc := "(I)Z" } : Jvm.MethodName) prog_5_method_17_code (2 : Nat) (Option.some Jvm.ClassFile.FieldType.boolean)) :: qT
abbrev yM_noYear : MethodName := { cls := "OutlookOddsModel", name := "noYear", desc := "(I)Z" }
abbrev wM_noYear : List Cond := (Jvm.Cond.code ({ cls := "OutlookOddsModel", name := "noYear", desc := "(I)Z" } : Jvm.MethodName) prog_5_method_16_code (2 : Nat) (Option.some Jvm.ClassFile.FieldType.boolean)) :: qT
abbrev yM_below : MethodName := { cls := "OutlookOddsModel", name := "below", desc := "(II)I" }
abbrev wM_below : List Cond := (Jvm.Cond.code ({ cls := "OutlookOddsModel", name := "below", desc := "(II)I" } : Jvm.MethodName) prog_5_method_20_code (5 : Nat) (Option.some Jvm.ClassFile.FieldType.int)) :: qT
abbrev yM_part : MethodName := { cls := "OutlookOddsModel", name := "part", desc := "(JJI)J" }
abbrev wM_part : List Cond := (Jvm.Cond.code ({ cls := "OutlookOddsModel", name := "part", desc := "(JJI)J" } : Jvm.MethodName) prog_5_method_19_code (11 : Nat) (Option.some Jvm.ClassFile.FieldType.long)) :: qT
abbrev yM_steady : MethodName := { cls := "OutlookOddsModel", name := "steady", desc := "(I)J" }
abbrev wM_steady : List Cond := (Jvm.Cond.code ({ cls := "OutlookOddsModel", name := "steady", desc := "(I)J" } : Jvm.MethodName) prog_5_method_21_code (7 : Nat) (Option.some Jvm.ClassFile.FieldType.long)) :: qT
abbrev yM_recovers : MethodName := { cls := "OutlookOddsModel", name := "recovers", desc := "(II)I" }
abbrev wM_recovers : List Cond := (Jvm.Cond.code ({ cls := "OutlookOddsModel", name := "recovers", desc := "(II)I" } : Jvm.MethodName) prog_5_method_22_code (6 : Nat) (Option.some Jvm.ClassFile.FieldType.int)) :: qT
abbrev yM_rank : MethodName := { cls := "OutlookOddsModel", name := "rank", desc := "(II)J" }
abbrev wM_rank : List Cond := (Jvm.Cond.code ({ cls := "OutlookOddsModel", name := "rank", desc := "(II)J" } : Jvm.MethodName) prog_5_method_23_code (8 : Nat) (Option.some Jvm.ClassFile.FieldType.long)) :: qT
abbrev yM_mean : MethodName := { cls := "OutlookOddsModel", name := "mean", desc := "(II)J" }
abbrev wM_mean : List Cond := (Jvm.Cond.code ({ cls := "OutlookOddsModel", name := "mean", desc := "(II)J" } : Jvm.MethodName) prog_5_method_25_code (6 : Nat) (Option.some Jvm.ClassFile.FieldType.long)) :: qT
abbrev yM_allCaught : MethodName := { cls := "OutlookOddsModel", name := "allCaught", desc := "(I)J" }
abbrev wM_allCaught : List Cond := (Jvm.Cond.code ({ cls := "OutlookOddsModel", name := "allCaught", desc := "(I)J" } : Jvm.MethodName) prog_5_method_24_code (6 : Nat) (Option.some Jvm.ClassFile.FieldType.long)) :: qT
abbrev yM_table : MethodName := { cls := "OutlookOddsModel", name := "table", desc := "(I)J" }
abbrev wM_table : List Cond := (Jvm.Cond.code ({ cls := "OutlookOddsModel", name := "table", desc := "(I)J" } : Jvm.MethodName) prog_5_method_27_code (2 : Nat) (Option.some Jvm.ClassFile.FieldType.long)) :: qT
abbrev yM_tableOf : MethodName := { cls := "OutlookOddsModel", name := "tableOf", desc := "(I)J" }
abbrev wM_tableOf : List Cond := (Jvm.Cond.code ({ cls := "OutlookOddsModel", name := "tableOf", desc := "(I)J" } : Jvm.MethodName) prog_5_method_26_code (2 : Nat) (Option.some Jvm.ClassFile.FieldType.long)) :: qT
abbrev yM_top : MethodName := { cls := "OutlookOddsModel", name := "top", desc := "()I" }
abbrev wM_top : List Cond := (Jvm.Cond.code ({ cls := "OutlookOddsModel", name := "top", desc := "()I" } : Jvm.MethodName) prog_5_method_28_code (7 : Nat) (Option.some Jvm.ClassFile.FieldType.int)) :: qT
abbrev yM_count : MethodName := { cls := "OutlookOddsModel", name := "count", desc := "(I)I" }
abbrev wM_count : List Cond := (Jvm.Cond.code ({ cls := "OutlookOddsModel", name := "count", desc := "(I)I" } : Jvm.MethodName) prog_5_method_29_code (2 : Nat) (Option.some Jvm.ClassFile.FieldType.int)) :: qT
theorem mq_1_0 : (Jvm.Cond.initialized "OutlookOddsLaw") ∈ qT := qT_1 (k := 0) rfl rfl
theorem mq_1_1 : (Jvm.Cond.initialized "OutlookOdds") ∈ qT := qT_1 (k := 1) rfl rfl
theorem mq_1_2 : (Jvm.Cond.initialized "OutlookOdds$Stock") ∈ qT := qT_1 (k := 2) rfl rfl
theorem mq_1_3 : (Jvm.Cond.initialized "OutlookOdds$Story") ∈ qT := qT_1 (k := 3) rfl rfl
theorem mq_1_4 : (Jvm.Cond.initialized "OutlookOddsModel") ∈ qT := qT_1 (k := 4) rfl rfl
theorem mq_1_5 : (Jvm.Cond.initialized "java/lang/Throwable") ∈ qT := qT_1 (k := 5) rfl rfl
theorem mq_1_6 : (Jvm.Cond.initialized "java/lang/Exception") ∈ qT := qT_1 (k := 6) rfl rfl
theorem mq_1_7 : (Jvm.Cond.initialized "java/lang/RuntimeException") ∈ qT := qT_1 (k := 7) rfl rfl
theorem mq_1_8 : (Jvm.Cond.initialized "java/lang/IndexOutOfBoundsException") ∈ qT := qT_1 (k := 8) rfl rfl
theorem mq_1_9 : (Jvm.Cond.initialized "java/lang/IllegalArgumentException") ∈ qT := qT_1 (k := 9) rfl rfl
theorem mq_1_10 : (Jvm.Cond.initialized "java/lang/IllegalStateException") ∈ qT := qT_1 (k := 10) rfl rfl
theorem mq_1_11 : (Jvm.Cond.initialized "java/lang/Math") ∈ qT := qT_1 (k := 11) rfl rfl
theorem mq_1_12 : (Jvm.Cond.classLink "OutlookOddsLaw" (8 : Nat) "OutlookOdds") ∈ qT := qT_1 (k := 12) rfl rfl
theorem mq_1_13 : (Jvm.Cond.instantiable "OutlookOdds" (17 : Nat)) ∈ qT := qT_1 (k := 13) rfl rfl
theorem mq_1_14 : (Jvm.Cond.methodLink "OutlookOddsLaw" (69 : Nat) ({ cls := "OutlookOdds", name := "<init>", desc := "()V" } : Jvm.MethodName)) ∈ qT := qT_1 (k := 14) rfl rfl
theorem mq_1_15 : (Jvm.Cond.instanceMethod ({ cls := "OutlookOdds", name := "<init>", desc := "()V" } : Jvm.MethodName)) ∈ qT := qT_1 (k := 15) rfl rfl
theorem mq_1_16 : (Jvm.Cond.code ({ cls := "OutlookOdds", name := "<init>", desc := "()V" } : Jvm.MethodName) prog_1_method_1_code (1 : Nat) (Option.none : Option Jvm.ClassFile.FieldType)) ∈ qT := qT_1 (k := 16) rfl rfl
theorem mq_1_17 : (Jvm.Cond.methodLink "OutlookOdds" (1 : Nat) ({ cls := "java/lang/Object", name := "<init>", desc := "()V" } : Jvm.MethodName)) ∈ qT := qT_1 (k := 17) rfl rfl
theorem mq_1_18 : (Jvm.Cond.instanceMethod ({ cls := "java/lang/Object", name := "<init>", desc := "()V" } : Jvm.MethodName)) ∈ qT := qT_1 (k := 18) rfl rfl
theorem mq_1_19 : (Jvm.Cond.code ({ cls := "java/lang/Object", name := "<init>", desc := "()V" } : Jvm.MethodName) object_method_1_code (1 : Nat) (Option.none : Option Jvm.ClassFile.FieldType)) ∈ qT := qT_1 (k := 19) rfl rfl
theorem mq_1_20 : (Jvm.Cond.classLink "OutlookOdds" (7 : Nat) "OutlookOdds$Stock") ∈ qT := qT_1 (k := 20) rfl rfl
theorem mq_1_21 : (Jvm.Cond.instantiable "OutlookOdds$Stock" (5 : Nat)) ∈ qT := qT_1 (k := 21) rfl rfl
theorem mq_1_23 : (Jvm.Cond.instanceMethod ({ cls := "OutlookOdds$Stock", name := "<init>", desc := "()V" } : Jvm.MethodName)) ∈ qT := qT_1 (k := 23) rfl rfl
theorem mq_1_24 : (Jvm.Cond.code ({ cls := "OutlookOdds$Stock", name := "<init>", desc := "()V" } : Jvm.MethodName) prog_2_method_1_code (1 : Nat) (Option.none : Option Jvm.ClassFile.FieldType)) ∈ qT := qT_1 (k := 24) rfl rfl
theorem mq_1_25 : (Jvm.Cond.methodLink "OutlookOdds$Stock" (3 : Nat) ({ cls := "java/lang/Object", name := "<init>", desc := "()V" } : Jvm.MethodName)) ∈ qT := qT_1 (k := 25) rfl rfl
theorem mq_1_26 : (Jvm.Cond.fieldLink "OutlookOdds$Stock" (9 : Nat) "OutlookOdds$Stock" "numbers" "[I") ∈ qT := qT_1 (k := 26) rfl rfl
theorem mq_1_27 : (Jvm.Cond.fieldLink "OutlookOdds$Stock" (15 : Nat) "OutlookOdds$Stock" "weights" "[I") ∈ qT := qT_1 (k := 27) rfl rfl
theorem mq_1_28 : (Jvm.Cond.fieldLink "OutlookOdds$Stock" (18 : Nat) "OutlookOdds$Stock" "ripes" "[I") ∈ qT := qT_1 (k := 28) rfl rfl
theorem mq_1_29 : (Jvm.Cond.fieldLink "OutlookOdds$Stock" (21 : Nat) "OutlookOdds$Stock" "dies" "[I") ∈ qT := qT_1 (k := 29) rfl rfl
theorem mq_1_30 : (Jvm.Cond.fieldLink "OutlookOdds$Stock" (24 : Nat) "OutlookOdds$Stock" "living" "[J") ∈ qT := qT_1 (k := 30) rfl rfl
theorem mq_1_31 : (Jvm.Cond.laysFinal "OutlookOdds$Stock" "OutlookOdds$Stock" "numbers" "[I") ∈ qT := qT_1 (k := 31) rfl rfl
theorem mq_1_32 : (Jvm.Cond.soleField "OutlookOdds$Stock" "numbers") ∈ qT := qT_1 (k := 32) rfl rfl
theorem mq_1_33 : (Jvm.Cond.laysFinal "OutlookOdds$Stock" "OutlookOdds$Stock" "weights" "[I") ∈ qT := qT_1 (k := 33) rfl rfl
theorem mq_1_34 : (Jvm.Cond.soleField "OutlookOdds$Stock" "weights") ∈ qT := qT_1 (k := 34) rfl rfl
theorem mq_1_35 : (Jvm.Cond.laysFinal "OutlookOdds$Stock" "OutlookOdds$Stock" "ripes" "[I") ∈ qT := qT_1 (k := 35) rfl rfl
theorem mq_1_36 : (Jvm.Cond.soleField "OutlookOdds$Stock" "ripes") ∈ qT := qT_1 (k := 36) rfl rfl
theorem mq_1_37 : (Jvm.Cond.laysFinal "OutlookOdds$Stock" "OutlookOdds$Stock" "dies" "[I") ∈ qT := qT_1 (k := 37) rfl rfl
theorem mq_1_38 : (Jvm.Cond.soleField "OutlookOdds$Stock" "dies") ∈ qT := qT_1 (k := 38) rfl rfl
theorem mq_1_39 : (Jvm.Cond.laysFinal "OutlookOdds$Stock" "OutlookOdds$Stock" "living" "[J") ∈ qT := qT_1 (k := 39) rfl rfl
theorem mq_1_40 : (Jvm.Cond.soleField "OutlookOdds$Stock" "living") ∈ qT := qT_1 (k := 40) rfl rfl
theorem mq_1_42 : (Jvm.Cond.arrayClass Jvm.ClassFile.FieldType.int) ∈ qT := qT_1 (k := 42) rfl rfl
theorem mq_1_43 : (Jvm.Cond.arrayClass Jvm.ClassFile.FieldType.long) ∈ qT := qT_1 (k := 43) rfl rfl
theorem mq_1_44 : (Jvm.Cond.classLink "OutlookOdds" (30 : Nat) "OutlookOdds$Story") ∈ qT := qT_1 (k := 44) rfl rfl
theorem mq_1_45 : (Jvm.Cond.instantiable "OutlookOdds$Story" (1 : Nat)) ∈ qT := qT_1 (k := 45) rfl rfl
theorem mq_1_47 : (Jvm.Cond.instanceMethod ({ cls := "OutlookOdds$Story", name := "<init>", desc := "()V" } : Jvm.MethodName)) ∈ qT := qT_1 (k := 47) rfl rfl
theorem mq_1_48 : (Jvm.Cond.code ({ cls := "OutlookOdds$Story", name := "<init>", desc := "()V" } : Jvm.MethodName) prog_3_method_1_code (1 : Nat) (Option.none : Option Jvm.ClassFile.FieldType)) ∈ qT := qT_1 (k := 48) rfl rfl
theorem mq_1_49 : (Jvm.Cond.methodLink "OutlookOdds$Story" (3 : Nat) ({ cls := "java/lang/Object", name := "<init>", desc := "()V" } : Jvm.MethodName)) ∈ qT := qT_1 (k := 49) rfl rfl
theorem mq_1_50 : (Jvm.Cond.classLink "OutlookOdds$Story" (9 : Nat) "[[J") ∈ qT := qT_1 (k := 50) rfl rfl
theorem mq_1_52 : (Jvm.Cond.fieldLink "OutlookOdds$Story" (11 : Nat) "OutlookOdds$Story" "rows" "[[J") ∈ qT := qT_1 (k := 52) rfl rfl
theorem mq_1_53 : (Jvm.Cond.laysFinal "OutlookOdds$Story" "OutlookOdds$Story" "rows" "[[J") ∈ qT := qT_1 (k := 53) rfl rfl
theorem mq_1_54 : (Jvm.Cond.soleField "OutlookOdds$Story" "rows") ∈ qT := qT_1 (k := 54) rfl rfl
theorem mq_1_56 : (Jvm.Cond.fieldLink "OutlookOdds" (10 : Nat) "OutlookOdds" "stock" "LOutlookOdds$Stock;") ∈ qT := qT_1 (k := 56) rfl rfl
theorem mq_1_57 : (Jvm.Cond.fieldLink "OutlookOdds" (16 : Nat) "OutlookOdds" "lows" "[I") ∈ qT := qT_1 (k := 57) rfl rfl
theorem mq_1_58 : (Jvm.Cond.fieldLink "OutlookOdds" (20 : Nat) "OutlookOdds" "highs" "[I") ∈ qT := qT_1 (k := 58) rfl rfl
theorem mq_1_59 : (Jvm.Cond.fieldLink "OutlookOdds" (23 : Nat) "OutlookOdds" "rates" "[I") ∈ qT := qT_1 (k := 59) rfl rfl
theorem mq_1_60 : (Jvm.Cond.fieldLink "OutlookOdds" (60 : Nat) "OutlookOdds" "rules" "I") ∈ qT := qT_1 (k := 60) rfl rfl
theorem mq_1_61 : (Jvm.Cond.fieldLink "OutlookOdds" (56 : Nat) "OutlookOdds" "youngFish" "I") ∈ qT := qT_1 (k := 61) rfl rfl
theorem mq_1_62 : (Jvm.Cond.fieldLink "OutlookOdds" (26 : Nat) "OutlookOdds" "mostChange" "I") ∈ qT := qT_1 (k := 62) rfl rfl
theorem mq_1_63 : (Jvm.Cond.fieldLink "OutlookOdds" (70 : Nat) "OutlookOdds" "errorSpread" "I") ∈ qT := qT_1 (k := 63) rfl rfl
theorem mq_1_64 : (Jvm.Cond.fieldLink "OutlookOdds" (73 : Nat) "OutlookOdds" "seeingDelay" "I") ∈ qT := qT_1 (k := 64) rfl rfl
theorem mq_1_65 : (Jvm.Cond.fieldLink "OutlookOdds" (77 : Nat) "OutlookOdds" "massMark" "I") ∈ qT := qT_1 (k := 65) rfl rfl
theorem mq_1_66 : (Jvm.Cond.fieldLink "OutlookOdds" (33 : Nat) "OutlookOdds" "story" "LOutlookOdds$Story;") ∈ qT := qT_1 (k := 66) rfl rfl
theorem mq_1_67 : (Jvm.Cond.fieldLink "OutlookOdds" (37 : Nat) "OutlookOdds" "trial" "LOutlookOdds$Story;") ∈ qT := qT_1 (k := 67) rfl rfl
theorem mq_1_68 : (Jvm.Cond.fieldLink "OutlookOdds" (40 : Nat) "OutlookOdds" "ordered" "[J") ∈ qT := qT_1 (k := 68) rfl rfl
theorem mq_1_69 : (Jvm.Cond.fieldLink "OutlookOdds" (81 : Nat) "OutlookOdds" "ranRule" "I") ∈ qT := qT_1 (k := 69) rfl rfl
theorem mq_1_70 : (Jvm.Cond.fieldLink "OutlookOdds" (84 : Nat) "OutlookOdds" "years" "I") ∈ qT := qT_1 (k := 70) rfl rfl
theorem mq_1_71 : (Jvm.Cond.fieldLink "OutlookOdds" (87 : Nat) "OutlookOdds" "seeds" "I") ∈ qT := qT_1 (k := 71) rfl rfl
theorem mq_1_72 : (Jvm.Cond.fieldLink "OutlookOdds" (90 : Nat) "OutlookOdds" "runs" "I") ∈ qT := qT_1 (k := 72) rfl rfl
theorem mq_1_73 : (Jvm.Cond.laysFinal "OutlookOdds" "OutlookOdds" "stock" "LOutlookOdds$Stock;") ∈ qT := qT_1 (k := 73) rfl rfl
theorem mq_1_74 : (Jvm.Cond.soleField "OutlookOdds" "stock") ∈ qT := qT_1 (k := 74) rfl rfl
theorem mq_1_75 : (Jvm.Cond.laysFinal "OutlookOdds" "OutlookOdds" "lows" "[I") ∈ qT := qT_1 (k := 75) rfl rfl
theorem mq_1_76 : (Jvm.Cond.soleField "OutlookOdds" "lows") ∈ qT := qT_1 (k := 76) rfl rfl
theorem mq_1_77 : (Jvm.Cond.laysFinal "OutlookOdds" "OutlookOdds" "highs" "[I") ∈ qT := qT_1 (k := 77) rfl rfl
theorem mq_1_78 : (Jvm.Cond.soleField "OutlookOdds" "highs") ∈ qT := qT_1 (k := 78) rfl rfl
theorem mq_1_79 : (Jvm.Cond.laysFinal "OutlookOdds" "OutlookOdds" "rates" "[I") ∈ qT := qT_1 (k := 79) rfl rfl
theorem mq_1_80 : (Jvm.Cond.soleField "OutlookOdds" "rates") ∈ qT := qT_1 (k := 80) rfl rfl
theorem mq_1_81 : (Jvm.Cond.lays "OutlookOdds" "OutlookOdds" "rules" "I") ∈ qT := qT_1 (k := 81) rfl rfl
theorem mq_1_82 : (Jvm.Cond.soleField "OutlookOdds" "rules") ∈ qT := qT_1 (k := 82) rfl rfl
theorem mq_1_83 : (Jvm.Cond.lays "OutlookOdds" "OutlookOdds" "youngFish" "I") ∈ qT := qT_1 (k := 83) rfl rfl
theorem mq_1_84 : (Jvm.Cond.soleField "OutlookOdds" "youngFish") ∈ qT := qT_1 (k := 84) rfl rfl
theorem mq_1_85 : (Jvm.Cond.lays "OutlookOdds" "OutlookOdds" "mostChange" "I") ∈ qT := qT_1 (k := 85) rfl rfl
theorem mq_1_86 : (Jvm.Cond.soleField "OutlookOdds" "mostChange") ∈ qT := qT_1 (k := 86) rfl rfl
theorem mq_1_87 : (Jvm.Cond.lays "OutlookOdds" "OutlookOdds" "errorSpread" "I") ∈ qT := qT_1 (k := 87) rfl rfl
theorem mq_1_88 : (Jvm.Cond.soleField "OutlookOdds" "errorSpread") ∈ qT := qT_1 (k := 88) rfl rfl
theorem mq_1_89 : (Jvm.Cond.lays "OutlookOdds" "OutlookOdds" "seeingDelay" "I") ∈ qT := qT_1 (k := 89) rfl rfl
theorem mq_1_90 : (Jvm.Cond.soleField "OutlookOdds" "seeingDelay") ∈ qT := qT_1 (k := 90) rfl rfl
theorem mq_1_91 : (Jvm.Cond.lays "OutlookOdds" "OutlookOdds" "massMark" "I") ∈ qT := qT_1 (k := 91) rfl rfl
theorem mq_1_92 : (Jvm.Cond.soleField "OutlookOdds" "massMark") ∈ qT := qT_1 (k := 92) rfl rfl
theorem mq_1_93 : (Jvm.Cond.laysFinal "OutlookOdds" "OutlookOdds" "story" "LOutlookOdds$Story;") ∈ qT := qT_1 (k := 93) rfl rfl
theorem mq_1_94 : (Jvm.Cond.soleField "OutlookOdds" "story") ∈ qT := qT_1 (k := 94) rfl rfl
theorem mq_1_95 : (Jvm.Cond.laysFinal "OutlookOdds" "OutlookOdds" "trial" "LOutlookOdds$Story;") ∈ qT := qT_1 (k := 95) rfl rfl
theorem mq_1_96 : (Jvm.Cond.soleField "OutlookOdds" "trial") ∈ qT := qT_1 (k := 96) rfl rfl
theorem mq_1_97 : (Jvm.Cond.laysFinal "OutlookOdds" "OutlookOdds" "ordered" "[J") ∈ qT := qT_1 (k := 97) rfl rfl
theorem mq_1_98 : (Jvm.Cond.soleField "OutlookOdds" "ordered") ∈ qT := qT_1 (k := 98) rfl rfl
theorem mq_1_99 : (Jvm.Cond.lays "OutlookOdds" "OutlookOdds" "ranRule" "I") ∈ qT := qT_1 (k := 99) rfl rfl
theorem mq_1_100 : (Jvm.Cond.soleField "OutlookOdds" "ranRule") ∈ qT := qT_1 (k := 100) rfl rfl
theorem mq_1_101 : (Jvm.Cond.lays "OutlookOdds" "OutlookOdds" "years" "I") ∈ qT := qT_1 (k := 101) rfl rfl
theorem mq_1_102 : (Jvm.Cond.soleField "OutlookOdds" "years") ∈ qT := qT_1 (k := 102) rfl rfl
theorem mq_1_103 : (Jvm.Cond.lays "OutlookOdds" "OutlookOdds" "seeds" "I") ∈ qT := qT_1 (k := 103) rfl rfl
theorem mq_1_104 : (Jvm.Cond.soleField "OutlookOdds" "seeds") ∈ qT := qT_1 (k := 104) rfl rfl
theorem mq_1_105 : (Jvm.Cond.lays "OutlookOdds" "OutlookOdds" "runs" "I") ∈ qT := qT_1 (k := 105) rfl rfl
theorem mq_1_106 : (Jvm.Cond.soleField "OutlookOdds" "runs") ∈ qT := qT_1 (k := 106) rfl rfl
theorem mq_1_108 : (Jvm.Cond.methodLink "OutlookOddsLaw" (100 : Nat) ({ cls := "OutlookOdds", name := "draw", desc := "(III)I" } : Jvm.MethodName)) ∈ qT := qT_1 (k := 108) rfl rfl
theorem mq_1_109 : (Jvm.Cond.instanceMethod ({ cls := "OutlookOdds", name := "draw", desc := "(III)I" } : Jvm.MethodName)) ∈ qT := qT_1 (k := 109) rfl rfl
theorem mq_1_110 : (Jvm.Cond.selects "OutlookOdds" ({ cls := "OutlookOdds", name := "draw", desc := "(III)I" } : Jvm.MethodName) ({ cls := "OutlookOdds", name := "draw", desc := "(III)I" } : Jvm.MethodName)) ∈ qT := qT_1 (k := 110) rfl rfl
theorem mq_1_111 : (Jvm.Cond.code ({ cls := "OutlookOdds", name := "draw", desc := "(III)I" } : Jvm.MethodName) prog_1_method_8_code (5 : Nat) (Option.some Jvm.ClassFile.FieldType.int)) ∈ qT := qT_1 (k := 111) rfl rfl
theorem mq_1_112 : (Jvm.Cond.constant "OutlookOdds" (80 : Nat) (1103515245 : Int32)) ∈ qT := qT_1 (k := 112) rfl rfl
theorem mq_1_113 : (Jvm.Cond.methodLink "OutlookOddsLaw" (133 : Nat) ({ cls := "OutlookOdds", name := "count", desc := "(I)I" } : Jvm.MethodName)) ∈ qT := qT_1 (k := 113) rfl rfl
theorem mq_1_114 : (Jvm.Cond.instanceMethod ({ cls := "OutlookOdds", name := "count", desc := "(I)I" } : Jvm.MethodName)) ∈ qT := qT_1 (k := 114) rfl rfl
theorem mq_1_115 : (Jvm.Cond.selects "OutlookOdds" ({ cls := "OutlookOdds", name := "count", desc := "(I)I" } : Jvm.MethodName) ({ cls := "OutlookOdds", name := "count", desc := "(I)I" } : Jvm.MethodName)) ∈ qT := qT_1 (k := 115) rfl rfl
theorem mq_1_116 : (Jvm.Cond.code ({ cls := "OutlookOdds", name := "count", desc := "(I)I" } : Jvm.MethodName) prog_1_method_18_code (2 : Nat) (Option.some Jvm.ClassFile.FieldType.int)) ∈ qT := qT_1 (k := 116) rfl rfl
theorem mq_1_117 : (Jvm.Cond.methodLink "OutlookOddsLaw" (73 : Nat) ({ cls := "OutlookOddsLaw", name := "age", desc := "(LOutlookOdds;IIIII)I" } : Jvm.MethodName)) ∈ qT := qT_1 (k := 117) rfl rfl
theorem mq_1_118 : (Jvm.Cond.static ({ cls := "OutlookOddsLaw", name := "age", desc := "(LOutlookOdds;IIIII)I" } : Jvm.MethodName)) ∈ qT := qT_1 (k := 118) rfl rfl
theorem mq_1_119 : (Jvm.Cond.codeWith ({ cls := "OutlookOddsLaw", name := "age", desc := "(LOutlookOdds;IIIII)I" } : Jvm.MethodName) method_3_code (7 : Nat) (Option.some Jvm.ClassFile.FieldType.int) [((0 : Nat), (11 : Nat), (14 : Nat), (13 : Nat)), ((0 : Nat), (11 : Nat), (18 : Nat), (15 : Nat))]) ∈ qT := qT_1 (k := 119) rfl rfl
theorem mq_1_120 : (Jvm.Cond.classLink "OutlookOddsLaw" (13 : Nat) "java/lang/IndexOutOfBoundsException") ∈ qT := qT_1 (k := 120) rfl rfl
theorem mq_1_121 : (Jvm.Cond.classLink "OutlookOddsLaw" (15 : Nat) "java/lang/IllegalArgumentException") ∈ qT := qT_1 (k := 121) rfl rfl
theorem mq_1_122 : (Jvm.Cond.methodLink "OutlookOddsLaw" (7 : Nat) ({ cls := "OutlookOdds", name := "age", desc := "(IIIII)V" } : Jvm.MethodName)) ∈ qT := qT_1 (k := 122) rfl rfl
theorem mq_1_123 : (Jvm.Cond.instanceMethod ({ cls := "OutlookOdds", name := "age", desc := "(IIIII)V" } : Jvm.MethodName)) ∈ qT := qT_1 (k := 123) rfl rfl
theorem mq_1_124 : (Jvm.Cond.selects "OutlookOdds" ({ cls := "OutlookOdds", name := "age", desc := "(IIIII)V" } : Jvm.MethodName) ({ cls := "OutlookOdds", name := "age", desc := "(IIIII)V" } : Jvm.MethodName)) ∈ qT := qT_1 (k := 124) rfl rfl
theorem mq_1_125 : (Jvm.Cond.code ({ cls := "OutlookOdds", name := "age", desc := "(IIIII)V" } : Jvm.MethodName) prog_1_method_2_code (6 : Nat) (Option.none : Option Jvm.ClassFile.FieldType)) ∈ qT := qT_1 (k := 125) rfl rfl
theorem mq_1_126 : (Jvm.Cond.methodLink "OutlookOdds" (44 : Nat) ({ cls := "OutlookOdds", name := "requirePlace", desc := "(III)V" } : Jvm.MethodName)) ∈ qT := qT_1 (k := 126) rfl rfl
theorem mq_1_127 : (Jvm.Cond.static ({ cls := "OutlookOdds", name := "requirePlace", desc := "(III)V" } : Jvm.MethodName)) ∈ qT := qT_1 (k := 127) rfl rfl
theorem mq_1_128 : (Jvm.Cond.code ({ cls := "OutlookOdds", name := "requirePlace", desc := "(III)V" } : Jvm.MethodName) prog_1_method_34_code (3 : Nat) (Option.none : Option Jvm.ClassFile.FieldType)) ∈ qT := qT_1 (k := 128) rfl rfl
theorem mq_1_129 : (Jvm.Cond.classLink "OutlookOdds" (204 : Nat) "java/lang/IndexOutOfBoundsException") ∈ qT := qT_1 (k := 129) rfl rfl
theorem mq_1_130 : (Jvm.Cond.instantiable "java/lang/IndexOutOfBoundsException" (6 : Nat)) ∈ qT := qT_1 (k := 130) rfl rfl
theorem mq_1_138 : (Jvm.Cond.selects "java/lang/IndexOutOfBoundsException" ({ cls := "java/lang/Throwable", name := "fillInStackTrace", desc := "(I)Ljava/lang/Throwable;" } : Jvm.MethodName) ({ cls := "java/lang/Throwable", name := "fillInStackTrace", desc := "(I)Ljava/lang/Throwable;" } : Jvm.MethodName)) ∈ qT := qT_1 (k := 138) rfl rfl
theorem mq_1_139 : (Jvm.Cond.selects "java/lang/IndexOutOfBoundsException" ({ cls := "java/lang/Throwable", name := "fillInStackTrace", desc := "()Ljava/lang/Throwable;" } : Jvm.MethodName) ({ cls := "java/lang/Throwable", name := "fillInStackTrace", desc := "()Ljava/lang/Throwable;" } : Jvm.MethodName)) ∈ qT := qT_1 (k := 139) rfl rfl
theorem mq_1_140 : (Jvm.Cond.lays "java/lang/IndexOutOfBoundsException" "java/lang/Throwable" "cause" "Ljava/lang/Throwable;") ∈ qT := qT_1 (k := 140) rfl rfl
theorem mq_1_141 : (Jvm.Cond.lays "java/lang/Throwable" "java/lang/Throwable" "cause" "Ljava/lang/Throwable;") ∈ qT := qT_1 (k := 141) rfl rfl
theorem mq_1_142 : (Jvm.Cond.lays "java/lang/IndexOutOfBoundsException" "java/lang/Throwable" "stackTrace" "[Ljava/lang/StackTraceElement;") ∈ qT := qT_1 (k := 142) rfl rfl
theorem mq_1_143 : (Jvm.Cond.lays "java/lang/Throwable" "java/lang/Throwable" "stackTrace" "[Ljava/lang/StackTraceElement;") ∈ qT := qT_1 (k := 143) rfl rfl
theorem mq_1_144 : (Jvm.Cond.lays "java/lang/IndexOutOfBoundsException" "java/lang/Throwable" "suppressedExceptions" "Ljava/util/List;") ∈ qT := qT_1 (k := 144) rfl rfl
theorem mq_1_145 : (Jvm.Cond.lays "java/lang/Throwable" "java/lang/Throwable" "suppressedExceptions" "Ljava/util/List;") ∈ qT := qT_1 (k := 145) rfl rfl
theorem mq_1_146 : (Jvm.Cond.lays "java/lang/IndexOutOfBoundsException" "java/lang/Throwable" "detailMessage" "Ljava/lang/String;") ∈ qT := qT_1 (k := 146) rfl rfl
theorem mq_1_147 : (Jvm.Cond.lays "java/lang/Throwable" "java/lang/Throwable" "detailMessage" "Ljava/lang/String;") ∈ qT := qT_1 (k := 147) rfl rfl
theorem mq_1_148 : (Jvm.Cond.lays "java/lang/IndexOutOfBoundsException" "java/lang/Throwable" "backtrace" "Ljava/lang/Object;") ∈ qT := qT_1 (k := 148) rfl rfl
theorem mq_1_149 : (Jvm.Cond.lays "java/lang/Throwable" "java/lang/Throwable" "backtrace" "Ljava/lang/Object;") ∈ qT := qT_1 (k := 149) rfl rfl
theorem mq_1_150 : (Jvm.Cond.fieldLink "java/lang/Throwable" (198 : Nat) "java/lang/Throwable" "backtrace" "Ljava/lang/Object;") ∈ qT := qT_1 (k := 150) rfl rfl
theorem mq_1_152 : (Jvm.Cond.instanceMethod ({ cls := "java/lang/Throwable", name := "<init>", desc := "()V" } : Jvm.MethodName)) ∈ qT := qT_1 (k := 152) rfl rfl
theorem mq_1_153 : (Jvm.Cond.code ({ cls := "java/lang/Throwable", name := "<init>", desc := "()V" } : Jvm.MethodName) prog_13_method_1_code (1 : Nat) (Option.none : Option Jvm.ClassFile.FieldType)) ∈ qT := qT_1 (k := 153) rfl rfl
theorem mq_1_154 : (Jvm.Cond.methodLink "java/lang/Throwable" (1 : Nat) ({ cls := "java/lang/Object", name := "<init>", desc := "()V" } : Jvm.MethodName)) ∈ qT := qT_1 (k := 154) rfl rfl
theorem mq_1_155 : (Jvm.Cond.fieldLink "java/lang/Throwable" (13 : Nat) "java/lang/Throwable" "UNASSIGNED_STACK" "[Ljava/lang/StackTraceElement;") ∈ qT := qT_1 (k := 155) rfl rfl
theorem mq_1_157 : (Jvm.Cond.fieldLink "java/lang/Throwable" (20 : Nat) "java/lang/Throwable" "SUPPRESSED_SENTINEL" "Ljava/util/List;") ∈ qT := qT_1 (k := 157) rfl rfl
theorem mq_1_159 : (Jvm.Cond.methodLink "java/lang/Throwable" (27 : Nat) ({ cls := "java/lang/Throwable", name := "fillInStackTrace", desc := "()Ljava/lang/Throwable;" } : Jvm.MethodName)) ∈ qT := qT_1 (k := 159) rfl rfl
theorem mq_1_160 : (Jvm.Cond.instanceMethod ({ cls := "java/lang/Throwable", name := "fillInStackTrace", desc := "()Ljava/lang/Throwable;" } : Jvm.MethodName)) ∈ qT := qT_1 (k := 160) rfl rfl
theorem mq_1_162 : (Jvm.Cond.selects "java/lang/IllegalArgumentException" ({ cls := "java/lang/Throwable", name := "fillInStackTrace", desc := "()Ljava/lang/Throwable;" } : Jvm.MethodName) ({ cls := "java/lang/Throwable", name := "fillInStackTrace", desc := "()Ljava/lang/Throwable;" } : Jvm.MethodName)) ∈ qT := qT_1 (k := 162) rfl rfl
theorem mq_1_163 : (Jvm.Cond.selects "java/lang/IllegalStateException" ({ cls := "java/lang/Throwable", name := "fillInStackTrace", desc := "()Ljava/lang/Throwable;" } : Jvm.MethodName) ({ cls := "java/lang/Throwable", name := "fillInStackTrace", desc := "()Ljava/lang/Throwable;" } : Jvm.MethodName)) ∈ qT := qT_1 (k := 163) rfl rfl
theorem mq_1_165 : (Jvm.Cond.methodLink "java/lang/Throwable" (202 : Nat) ({ cls := "java/lang/Throwable", name := "fillInStackTrace", desc := "(I)Ljava/lang/Throwable;" } : Jvm.MethodName)) ∈ qT := qT_1 (k := 165) rfl rfl
theorem mq_1_167 : (Jvm.Cond.instanceMethod ({ cls := "java/lang/Throwable", name := "fillInStackTrace", desc := "(I)Ljava/lang/Throwable;" } : Jvm.MethodName)) ∈ qT := qT_1 (k := 167) rfl rfl
theorem mq_1_168 : (Jvm.Cond.instantiable "java/lang/Throwable" (6 : Nat)) ∈ qT := qT_1 (k := 168) rfl rfl
theorem mq_1_171 : (Jvm.Cond.methodLink "OutlookOdds" (208 : Nat) ({ cls := "java/lang/IndexOutOfBoundsException", name := "<init>", desc := "(Ljava/lang/String;)V" } : Jvm.MethodName)) ∈ qT := qT_1 (k := 171) rfl rfl
theorem mq_1_172 : (Jvm.Cond.instanceMethod ({ cls := "java/lang/IndexOutOfBoundsException", name := "<init>", desc := "(Ljava/lang/String;)V" } : Jvm.MethodName)) ∈ qT := qT_1 (k := 172) rfl rfl
theorem mq_1_173 : (Jvm.Cond.code ({ cls := "java/lang/IndexOutOfBoundsException", name := "<init>", desc := "(Ljava/lang/String;)V" } : Jvm.MethodName) prog_9_method_2_code (2 : Nat) (Option.none : Option Jvm.ClassFile.FieldType)) ∈ qT := qT_1 (k := 173) rfl rfl
theorem mq_1_174 : (Jvm.Cond.methodLink "java/lang/IndexOutOfBoundsException" (7 : Nat) ({ cls := "java/lang/RuntimeException", name := "<init>", desc := "(Ljava/lang/String;)V" } : Jvm.MethodName)) ∈ qT := qT_1 (k := 174) rfl rfl
theorem mq_1_175 : (Jvm.Cond.instanceMethod ({ cls := "java/lang/RuntimeException", name := "<init>", desc := "(Ljava/lang/String;)V" } : Jvm.MethodName)) ∈ qT := qT_1 (k := 175) rfl rfl
theorem mq_1_176 : (Jvm.Cond.code ({ cls := "java/lang/RuntimeException", name := "<init>", desc := "(Ljava/lang/String;)V" } : Jvm.MethodName) prog_11_method_2_code (2 : Nat) (Option.none : Option Jvm.ClassFile.FieldType)) ∈ qT := qT_1 (k := 176) rfl rfl
theorem mq_1_177 : (Jvm.Cond.methodLink "java/lang/RuntimeException" (7 : Nat) ({ cls := "java/lang/Exception", name := "<init>", desc := "(Ljava/lang/String;)V" } : Jvm.MethodName)) ∈ qT := qT_1 (k := 177) rfl rfl
theorem mq_1_178 : (Jvm.Cond.instanceMethod ({ cls := "java/lang/Exception", name := "<init>", desc := "(Ljava/lang/String;)V" } : Jvm.MethodName)) ∈ qT := qT_1 (k := 178) rfl rfl
theorem mq_1_179 : (Jvm.Cond.code ({ cls := "java/lang/Exception", name := "<init>", desc := "(Ljava/lang/String;)V" } : Jvm.MethodName) prog_6_method_2_code (2 : Nat) (Option.none : Option Jvm.ClassFile.FieldType)) ∈ qT := qT_1 (k := 179) rfl rfl
theorem mq_1_180 : (Jvm.Cond.methodLink "java/lang/Exception" (7 : Nat) ({ cls := "java/lang/Throwable", name := "<init>", desc := "(Ljava/lang/String;)V" } : Jvm.MethodName)) ∈ qT := qT_1 (k := 180) rfl rfl
theorem mq_1_181 : (Jvm.Cond.instanceMethod ({ cls := "java/lang/Throwable", name := "<init>", desc := "(Ljava/lang/String;)V" } : Jvm.MethodName)) ∈ qT := qT_1 (k := 181) rfl rfl
theorem mq_1_182 : (Jvm.Cond.code ({ cls := "java/lang/Throwable", name := "<init>", desc := "(Ljava/lang/String;)V" } : Jvm.MethodName) prog_13_method_2_code (2 : Nat) (Option.none : Option Jvm.ClassFile.FieldType)) ∈ qT := qT_1 (k := 182) rfl rfl
theorem mq_1_183 : (Jvm.Cond.fieldLink "java/lang/Throwable" (198 : Nat) "java/lang/Throwable" "backtrace" "Ljava/lang/Object;") ∈ qT := qT_1 (k := 183) rfl rfl
theorem mq_1_184 : (Jvm.Cond.fieldLink "java/lang/Throwable" (31 : Nat) "java/lang/Throwable" "detailMessage" "Ljava/lang/String;") ∈ qT := qT_1 (k := 184) rfl rfl
theorem mq_1_185 : (Jvm.Cond.fieldLink "java/lang/Throwable" (7 : Nat) "java/lang/Throwable" "cause" "Ljava/lang/Throwable;") ∈ qT := qT_1 (k := 185) rfl rfl
theorem mq_1_186 : (Jvm.Cond.fieldLink "java/lang/Throwable" (17 : Nat) "java/lang/Throwable" "stackTrace" "[Ljava/lang/StackTraceElement;") ∈ qT := qT_1 (k := 186) rfl rfl
theorem mq_1_187 : (Jvm.Cond.fieldLink "java/lang/Throwable" (24 : Nat) "java/lang/Throwable" "suppressedExceptions" "Ljava/util/List;") ∈ qT := qT_1 (k := 187) rfl rfl
theorem mq_1_188 : (Jvm.Cond.soleField "java/lang/Throwable" "backtrace") ∈ qT := qT_1 (k := 188) rfl rfl
theorem mq_1_189 : (Jvm.Cond.soleField "java/lang/Throwable" "detailMessage") ∈ qT := qT_1 (k := 189) rfl rfl
theorem mq_1_190 : (Jvm.Cond.soleField "java/lang/Throwable" "cause") ∈ qT := qT_1 (k := 190) rfl rfl
theorem mq_1_191 : (Jvm.Cond.soleField "java/lang/Throwable" "stackTrace") ∈ qT := qT_1 (k := 191) rfl rfl
theorem mq_1_192 : (Jvm.Cond.lays "java/lang/IndexOutOfBoundsException" "java/lang/Throwable" "depth" "I") ∈ qT := qT_1 (k := 192) rfl rfl
theorem mq_1_193 : (Jvm.Cond.soleField "java/lang/Throwable" "depth") ∈ qT := qT_1 (k := 193) rfl rfl
theorem mq_1_194 : (Jvm.Cond.soleField "java/lang/Throwable" "suppressedExceptions") ∈ qT := qT_1 (k := 194) rfl rfl
theorem mq_1_196 : (Jvm.Cond.arrayClass Jvm.ClassFile.FieldType.byte) ∈ qT := qT_1 (k := 196) rfl rfl
theorem mq_1_197 : (Jvm.Cond.constant "OutlookOdds" (48 : Nat) (100000 : Int32)) ∈ qT := qT_1 (k := 197) rfl rfl
theorem mq_1_198 : (Jvm.Cond.methodLink "OutlookOdds" (49 : Nat) ({ cls := "OutlookOdds", name := "requireNumber", desc := "(III)V" } : Jvm.MethodName)) ∈ qT := qT_1 (k := 198) rfl rfl
theorem mq_1_199 : (Jvm.Cond.static ({ cls := "OutlookOdds", name := "requireNumber", desc := "(III)V" } : Jvm.MethodName)) ∈ qT := qT_1 (k := 199) rfl rfl
theorem mq_1_200 : (Jvm.Cond.code ({ cls := "OutlookOdds", name := "requireNumber", desc := "(III)V" } : Jvm.MethodName) prog_1_method_35_code (3 : Nat) (Option.none : Option Jvm.ClassFile.FieldType)) ∈ qT := qT_1 (k := 200) rfl rfl
theorem mq_1_201 : (Jvm.Cond.classLink "OutlookOdds" (209 : Nat) "java/lang/IllegalArgumentException") ∈ qT := qT_1 (k := 201) rfl rfl
theorem mq_1_202 : (Jvm.Cond.instantiable "java/lang/IllegalArgumentException" (6 : Nat)) ∈ qT := qT_1 (k := 202) rfl rfl
theorem mq_1_204 : (Jvm.Cond.selects "java/lang/IllegalArgumentException" ({ cls := "java/lang/Throwable", name := "fillInStackTrace", desc := "(I)Ljava/lang/Throwable;" } : Jvm.MethodName) ({ cls := "java/lang/Throwable", name := "fillInStackTrace", desc := "(I)Ljava/lang/Throwable;" } : Jvm.MethodName)) ∈ qT := qT_1 (k := 204) rfl rfl
theorem mq_1_205 : (Jvm.Cond.lays "java/lang/IllegalArgumentException" "java/lang/Throwable" "cause" "Ljava/lang/Throwable;") ∈ qT := qT_1 (k := 205) rfl rfl
theorem mq_1_206 : (Jvm.Cond.lays "java/lang/IllegalArgumentException" "java/lang/Throwable" "stackTrace" "[Ljava/lang/StackTraceElement;") ∈ qT := qT_1 (k := 206) rfl rfl
theorem mq_1_207 : (Jvm.Cond.lays "java/lang/IllegalArgumentException" "java/lang/Throwable" "suppressedExceptions" "Ljava/util/List;") ∈ qT := qT_1 (k := 207) rfl rfl
theorem mq_1_208 : (Jvm.Cond.lays "java/lang/IllegalArgumentException" "java/lang/Throwable" "detailMessage" "Ljava/lang/String;") ∈ qT := qT_1 (k := 208) rfl rfl
theorem mq_1_209 : (Jvm.Cond.lays "java/lang/IllegalArgumentException" "java/lang/Throwable" "backtrace" "Ljava/lang/Object;") ∈ qT := qT_1 (k := 209) rfl rfl
theorem mq_1_211 : (Jvm.Cond.methodLink "OutlookOdds" (213 : Nat) ({ cls := "java/lang/IllegalArgumentException", name := "<init>", desc := "(Ljava/lang/String;)V" } : Jvm.MethodName)) ∈ qT := qT_1 (k := 211) rfl rfl
theorem mq_1_212 : (Jvm.Cond.instanceMethod ({ cls := "java/lang/IllegalArgumentException", name := "<init>", desc := "(Ljava/lang/String;)V" } : Jvm.MethodName)) ∈ qT := qT_1 (k := 212) rfl rfl
theorem mq_1_213 : (Jvm.Cond.code ({ cls := "java/lang/IllegalArgumentException", name := "<init>", desc := "(Ljava/lang/String;)V" } : Jvm.MethodName) prog_7_method_2_code (2 : Nat) (Option.none : Option Jvm.ClassFile.FieldType)) ∈ qT := qT_1 (k := 213) rfl rfl
theorem mq_1_214 : (Jvm.Cond.methodLink "java/lang/IllegalArgumentException" (7 : Nat) ({ cls := "java/lang/RuntimeException", name := "<init>", desc := "(Ljava/lang/String;)V" } : Jvm.MethodName)) ∈ qT := qT_1 (k := 214) rfl rfl
theorem mq_1_215 : (Jvm.Cond.lays "java/lang/IllegalArgumentException" "java/lang/Throwable" "depth" "I") ∈ qT := qT_1 (k := 215) rfl rfl
theorem mq_1_217 : (Jvm.Cond.methodLink "OutlookOdds" (52 : Nat) ({ cls := "OutlookOdds$Stock", name := "setAge", desc := "(IIIII)V" } : Jvm.MethodName)) ∈ qT := qT_1 (k := 217) rfl rfl
theorem mq_1_218 : (Jvm.Cond.instanceMethod ({ cls := "OutlookOdds$Stock", name := "setAge", desc := "(IIIII)V" } : Jvm.MethodName)) ∈ qT := qT_1 (k := 218) rfl rfl
theorem mq_1_219 : (Jvm.Cond.selects "OutlookOdds$Stock" ({ cls := "OutlookOdds$Stock", name := "setAge", desc := "(IIIII)V" } : Jvm.MethodName) ({ cls := "OutlookOdds$Stock", name := "setAge", desc := "(IIIII)V" } : Jvm.MethodName)) ∈ qT := qT_1 (k := 219) rfl rfl
theorem mq_1_220 : (Jvm.Cond.code ({ cls := "OutlookOdds$Stock", name := "setAge", desc := "(IIIII)V" } : Jvm.MethodName) prog_2_method_2_code (6 : Nat) (Option.none : Option Jvm.ClassFile.FieldType)) ∈ qT := qT_1 (k := 220) rfl rfl
theorem mq_1_221 : (Jvm.Cond.methodLink "OutlookOddsLaw" (82 : Nat) ({ cls := "OutlookOddsLaw", name := "young", desc := "(LOutlookOdds;I[J)I" } : Jvm.MethodName)) ∈ qT := qT_1 (k := 221) rfl rfl
theorem mq_1_222 : (Jvm.Cond.static ({ cls := "OutlookOddsLaw", name := "young", desc := "(LOutlookOdds;I[J)I" } : Jvm.MethodName)) ∈ qT := qT_1 (k := 222) rfl rfl
theorem mq_1_223 : (Jvm.Cond.codeWith ({ cls := "OutlookOddsLaw", name := "young", desc := "(LOutlookOdds;I[J)I" } : Jvm.MethodName) method_4_code (4 : Nat) (Option.some Jvm.ClassFile.FieldType.int) [((0 : Nat), (9 : Nat), (12 : Nat), (15 : Nat))]) ∈ qT := qT_1 (k := 223) rfl rfl
theorem mq_1_224 : (Jvm.Cond.methodLink "OutlookOddsLaw" (17 : Nat) ({ cls := "OutlookOdds", name := "young", desc := "(I)I" } : Jvm.MethodName)) ∈ qT := qT_1 (k := 224) rfl rfl
theorem mq_1_225 : (Jvm.Cond.instanceMethod ({ cls := "OutlookOdds", name := "young", desc := "(I)I" } : Jvm.MethodName)) ∈ qT := qT_1 (k := 225) rfl rfl
theorem mq_1_226 : (Jvm.Cond.selects "OutlookOdds" ({ cls := "OutlookOdds", name := "young", desc := "(I)I" } : Jvm.MethodName) ({ cls := "OutlookOdds", name := "young", desc := "(I)I" } : Jvm.MethodName)) ∈ qT := qT_1 (k := 226) rfl rfl
theorem mq_1_227 : (Jvm.Cond.code ({ cls := "OutlookOdds", name := "young", desc := "(I)I" } : Jvm.MethodName) prog_1_method_3_code (3 : Nat) (Option.some Jvm.ClassFile.FieldType.int)) ∈ qT := qT_1 (k := 227) rfl rfl
theorem mq_1_228 : (Jvm.Cond.methodLink "OutlookOddsLaw" (86 : Nat) ({ cls := "OutlookOddsLaw", name := "rule", desc := "(LOutlookOdds;III[J)I" } : Jvm.MethodName)) ∈ qT := qT_1 (k := 228) rfl rfl
theorem mq_1_229 : (Jvm.Cond.static ({ cls := "OutlookOddsLaw", name := "rule", desc := "(LOutlookOdds;III[J)I" } : Jvm.MethodName)) ∈ qT := qT_1 (k := 229) rfl rfl
theorem mq_1_230 : (Jvm.Cond.codeWith ({ cls := "OutlookOddsLaw", name := "rule", desc := "(LOutlookOdds;III[J)I" } : Jvm.MethodName) method_5_code (6 : Nat) (Option.some Jvm.ClassFile.FieldType.int) [((0 : Nat), (12 : Nat), (15 : Nat), (15 : Nat)), ((0 : Nat), (12 : Nat), (19 : Nat), (25 : Nat))]) ∈ qT := qT_1 (k := 230) rfl rfl
theorem mq_1_231 : (Jvm.Cond.classLink "OutlookOddsLaw" (25 : Nat) "java/lang/IllegalStateException") ∈ qT := qT_1 (k := 231) rfl rfl
theorem mq_1_232 : (Jvm.Cond.methodLink "OutlookOddsLaw" (21 : Nat) ({ cls := "OutlookOdds", name := "rule", desc := "(III)I" } : Jvm.MethodName)) ∈ qT := qT_1 (k := 232) rfl rfl
theorem mq_1_233 : (Jvm.Cond.instanceMethod ({ cls := "OutlookOdds", name := "rule", desc := "(III)I" } : Jvm.MethodName)) ∈ qT := qT_1 (k := 233) rfl rfl
theorem mq_1_234 : (Jvm.Cond.selects "OutlookOdds" ({ cls := "OutlookOdds", name := "rule", desc := "(III)I" } : Jvm.MethodName) ({ cls := "OutlookOdds", name := "rule", desc := "(III)I" } : Jvm.MethodName)) ∈ qT := qT_1 (k := 234) rfl rfl
theorem mq_1_235 : (Jvm.Cond.code ({ cls := "OutlookOdds", name := "rule", desc := "(III)I" } : Jvm.MethodName) prog_1_method_4_code (5 : Nat) (Option.some Jvm.ClassFile.FieldType.int)) ∈ qT := qT_1 (k := 235) rfl rfl
theorem mq_1_236 : (Jvm.Cond.constant "OutlookOdds" (59 : Nat) (2000000000 : Int32)) ∈ qT := qT_1 (k := 236) rfl rfl
theorem mq_1_237 : (Jvm.Cond.classLink "OutlookOdds" (63 : Nat) "java/lang/IllegalStateException") ∈ qT := qT_1 (k := 237) rfl rfl
theorem mq_1_238 : (Jvm.Cond.instantiable "java/lang/IllegalStateException" (6 : Nat)) ∈ qT := qT_1 (k := 238) rfl rfl
theorem mq_2_0 : (Jvm.Cond.selects "java/lang/IllegalStateException" ({ cls := "java/lang/Throwable", name := "fillInStackTrace", desc := "(I)Ljava/lang/Throwable;" } : Jvm.MethodName) ({ cls := "java/lang/Throwable", name := "fillInStackTrace", desc := "(I)Ljava/lang/Throwable;" } : Jvm.MethodName)) ∈ qT := qT_2 (k := 0) rfl rfl
theorem mq_2_1 : (Jvm.Cond.lays "java/lang/IllegalStateException" "java/lang/Throwable" "cause" "Ljava/lang/Throwable;") ∈ qT := qT_2 (k := 1) rfl rfl
theorem mq_2_2 : (Jvm.Cond.lays "java/lang/IllegalStateException" "java/lang/Throwable" "stackTrace" "[Ljava/lang/StackTraceElement;") ∈ qT := qT_2 (k := 2) rfl rfl
theorem mq_2_3 : (Jvm.Cond.lays "java/lang/IllegalStateException" "java/lang/Throwable" "suppressedExceptions" "Ljava/util/List;") ∈ qT := qT_2 (k := 3) rfl rfl
theorem mq_2_4 : (Jvm.Cond.lays "java/lang/IllegalStateException" "java/lang/Throwable" "detailMessage" "Ljava/lang/String;") ∈ qT := qT_2 (k := 4) rfl rfl
theorem mq_2_5 : (Jvm.Cond.lays "java/lang/IllegalStateException" "java/lang/Throwable" "backtrace" "Ljava/lang/Object;") ∈ qT := qT_2 (k := 5) rfl rfl
theorem mq_2_7 : (Jvm.Cond.methodLink "OutlookOdds" (67 : Nat) ({ cls := "java/lang/IllegalStateException", name := "<init>", desc := "(Ljava/lang/String;)V" } : Jvm.MethodName)) ∈ qT := qT_2 (k := 7) rfl rfl
theorem mq_2_8 : (Jvm.Cond.instanceMethod ({ cls := "java/lang/IllegalStateException", name := "<init>", desc := "(Ljava/lang/String;)V" } : Jvm.MethodName)) ∈ qT := qT_2 (k := 8) rfl rfl
theorem mq_2_9 : (Jvm.Cond.code ({ cls := "java/lang/IllegalStateException", name := "<init>", desc := "(Ljava/lang/String;)V" } : Jvm.MethodName) prog_8_method_2_code (2 : Nat) (Option.none : Option Jvm.ClassFile.FieldType)) ∈ qT := qT_2 (k := 9) rfl rfl
theorem mq_2_10 : (Jvm.Cond.methodLink "java/lang/IllegalStateException" (7 : Nat) ({ cls := "java/lang/RuntimeException", name := "<init>", desc := "(Ljava/lang/String;)V" } : Jvm.MethodName)) ∈ qT := qT_2 (k := 10) rfl rfl
theorem mq_2_11 : (Jvm.Cond.lays "java/lang/IllegalStateException" "java/lang/Throwable" "depth" "I") ∈ qT := qT_2 (k := 11) rfl rfl
theorem mq_2_13 : (Jvm.Cond.methodLink "OutlookOddsLaw" (90 : Nat) ({ cls := "OutlookOddsLaw", name := "change", desc := "(LOutlookOdds;I[J)I" } : Jvm.MethodName)) ∈ qT := qT_2 (k := 13) rfl rfl
theorem mq_2_14 : (Jvm.Cond.static ({ cls := "OutlookOddsLaw", name := "change", desc := "(LOutlookOdds;I[J)I" } : Jvm.MethodName)) ∈ qT := qT_2 (k := 14) rfl rfl
theorem mq_2_15 : (Jvm.Cond.codeWith ({ cls := "OutlookOddsLaw", name := "change", desc := "(LOutlookOdds;I[J)I" } : Jvm.MethodName) method_6_code (4 : Nat) (Option.some Jvm.ClassFile.FieldType.int) [((0 : Nat), (9 : Nat), (12 : Nat), (15 : Nat))]) ∈ qT := qT_2 (k := 15) rfl rfl
theorem mq_2_16 : (Jvm.Cond.methodLink "OutlookOddsLaw" (27 : Nat) ({ cls := "OutlookOdds", name := "change", desc := "(I)I" } : Jvm.MethodName)) ∈ qT := qT_2 (k := 16) rfl rfl
theorem mq_2_17 : (Jvm.Cond.instanceMethod ({ cls := "OutlookOdds", name := "change", desc := "(I)I" } : Jvm.MethodName)) ∈ qT := qT_2 (k := 17) rfl rfl
theorem mq_2_18 : (Jvm.Cond.selects "OutlookOdds" ({ cls := "OutlookOdds", name := "change", desc := "(I)I" } : Jvm.MethodName) ({ cls := "OutlookOdds", name := "change", desc := "(I)I" } : Jvm.MethodName)) ∈ qT := qT_2 (k := 18) rfl rfl
theorem mq_2_19 : (Jvm.Cond.code ({ cls := "OutlookOdds", name := "change", desc := "(I)I" } : Jvm.MethodName) prog_1_method_5_code (3 : Nat) (Option.some Jvm.ClassFile.FieldType.int)) ∈ qT := qT_2 (k := 19) rfl rfl
theorem mq_2_20 : (Jvm.Cond.methodLink "OutlookOddsLaw" (93 : Nat) ({ cls := "OutlookOddsLaw", name := "error", desc := "(LOutlookOdds;II)I" } : Jvm.MethodName)) ∈ qT := qT_2 (k := 20) rfl rfl
theorem mq_2_21 : (Jvm.Cond.static ({ cls := "OutlookOddsLaw", name := "error", desc := "(LOutlookOdds;II)I" } : Jvm.MethodName)) ∈ qT := qT_2 (k := 21) rfl rfl
theorem mq_2_22 : (Jvm.Cond.codeWith ({ cls := "OutlookOddsLaw", name := "error", desc := "(LOutlookOdds;II)I" } : Jvm.MethodName) method_7_code (4 : Nat) (Option.some Jvm.ClassFile.FieldType.int) [((0 : Nat), (6 : Nat), (9 : Nat), (15 : Nat))]) ∈ qT := qT_2 (k := 22) rfl rfl
theorem mq_2_23 : (Jvm.Cond.methodLink "OutlookOddsLaw" (30 : Nat) ({ cls := "OutlookOdds", name := "error", desc := "(II)V" } : Jvm.MethodName)) ∈ qT := qT_2 (k := 23) rfl rfl
theorem mq_2_24 : (Jvm.Cond.instanceMethod ({ cls := "OutlookOdds", name := "error", desc := "(II)V" } : Jvm.MethodName)) ∈ qT := qT_2 (k := 24) rfl rfl
theorem mq_2_25 : (Jvm.Cond.selects "OutlookOdds" ({ cls := "OutlookOdds", name := "error", desc := "(II)V" } : Jvm.MethodName) ({ cls := "OutlookOdds", name := "error", desc := "(II)V" } : Jvm.MethodName)) ∈ qT := qT_2 (k := 25) rfl rfl
theorem mq_2_26 : (Jvm.Cond.code ({ cls := "OutlookOdds", name := "error", desc := "(II)V" } : Jvm.MethodName) prog_1_method_6_code (3 : Nat) (Option.none : Option Jvm.ClassFile.FieldType)) ∈ qT := qT_2 (k := 26) rfl rfl
theorem mq_2_27 : (Jvm.Cond.methodLink "OutlookOddsLaw" (97 : Nat) ({ cls := "OutlookOddsLaw", name := "mark", desc := "(LOutlookOdds;I[J)I" } : Jvm.MethodName)) ∈ qT := qT_2 (k := 27) rfl rfl
theorem mq_2_28 : (Jvm.Cond.static ({ cls := "OutlookOddsLaw", name := "mark", desc := "(LOutlookOdds;I[J)I" } : Jvm.MethodName)) ∈ qT := qT_2 (k := 28) rfl rfl
theorem mq_2_29 : (Jvm.Cond.codeWith ({ cls := "OutlookOddsLaw", name := "mark", desc := "(LOutlookOdds;I[J)I" } : Jvm.MethodName) method_8_code (4 : Nat) (Option.some Jvm.ClassFile.FieldType.int) [((0 : Nat), (9 : Nat), (12 : Nat), (15 : Nat))]) ∈ qT := qT_2 (k := 29) rfl rfl
theorem mq_2_30 : (Jvm.Cond.methodLink "OutlookOddsLaw" (34 : Nat) ({ cls := "OutlookOdds", name := "mark", desc := "(I)I" } : Jvm.MethodName)) ∈ qT := qT_2 (k := 30) rfl rfl
theorem mq_2_31 : (Jvm.Cond.instanceMethod ({ cls := "OutlookOdds", name := "mark", desc := "(I)I" } : Jvm.MethodName)) ∈ qT := qT_2 (k := 31) rfl rfl
theorem mq_2_32 : (Jvm.Cond.selects "OutlookOdds" ({ cls := "OutlookOdds", name := "mark", desc := "(I)I" } : Jvm.MethodName) ({ cls := "OutlookOdds", name := "mark", desc := "(I)I" } : Jvm.MethodName)) ∈ qT := qT_2 (k := 32) rfl rfl
theorem mq_2_33 : (Jvm.Cond.code ({ cls := "OutlookOdds", name := "mark", desc := "(I)I" } : Jvm.MethodName) prog_1_method_7_code (3 : Nat) (Option.some Jvm.ClassFile.FieldType.int)) ∈ qT := qT_2 (k := 33) rfl rfl
theorem mq_2_34 : (Jvm.Cond.constant "OutlookOdds" (76 : Nat) (2147483647 : Int32)) ∈ qT := qT_2 (k := 34) rfl rfl
theorem mq_2_35 : (Jvm.Cond.methodLink "OutlookOddsLaw" (104 : Nat) ({ cls := "OutlookOddsLaw", name := "run", desc := "(LOutlookOdds;III[J)I" } : Jvm.MethodName)) ∈ qT := qT_2 (k := 35) rfl rfl
theorem mq_2_36 : (Jvm.Cond.static ({ cls := "OutlookOddsLaw", name := "run", desc := "(LOutlookOdds;III[J)I" } : Jvm.MethodName)) ∈ qT := qT_2 (k := 36) rfl rfl
theorem mq_2_37 : (Jvm.Cond.codeWith ({ cls := "OutlookOddsLaw", name := "run", desc := "(LOutlookOdds;III[J)I" } : Jvm.MethodName) method_9_code (6 : Nat) (Option.some Jvm.ClassFile.FieldType.int) [((0 : Nat), (12 : Nat), (15 : Nat), (13 : Nat)), ((0 : Nat), (12 : Nat), (19 : Nat), (15 : Nat))]) ∈ qT := qT_2 (k := 37) rfl rfl
theorem mq_2_38 : (Jvm.Cond.methodLink "OutlookOddsLaw" (37 : Nat) ({ cls := "OutlookOdds", name := "run", desc := "(III)I" } : Jvm.MethodName)) ∈ qT := qT_2 (k := 38) rfl rfl
theorem mq_2_39 : (Jvm.Cond.instanceMethod ({ cls := "OutlookOdds", name := "run", desc := "(III)I" } : Jvm.MethodName)) ∈ qT := qT_2 (k := 39) rfl rfl
theorem mq_2_40 : (Jvm.Cond.selects "OutlookOdds" ({ cls := "OutlookOdds", name := "run", desc := "(III)I" } : Jvm.MethodName) ({ cls := "OutlookOdds", name := "run", desc := "(III)I" } : Jvm.MethodName)) ∈ qT := qT_2 (k := 40) rfl rfl
theorem mq_2_41 : (Jvm.Cond.code ({ cls := "OutlookOdds", name := "run", desc := "(III)I" } : Jvm.MethodName) prog_1_method_9_code (4 : Nat) (Option.some Jvm.ClassFile.FieldType.int)) ∈ qT := qT_2 (k := 41) rfl rfl
theorem mq_2_42 : (Jvm.Cond.methodLink "OutlookOdds" (93 : Nat) ({ cls := "OutlookOdds", name := "runAllSeeds", desc := "(LOutlookOdds$Story;I)V" } : Jvm.MethodName)) ∈ qT := qT_2 (k := 42) rfl rfl
theorem mq_2_44 : (Jvm.Cond.instanceMethod ({ cls := "OutlookOdds", name := "runAllSeeds", desc := "(LOutlookOdds$Story;I)V" } : Jvm.MethodName)) ∈ qT := qT_2 (k := 44) rfl rfl
theorem mq_2_45 : (Jvm.Cond.code ({ cls := "OutlookOdds", name := "runAllSeeds", desc := "(LOutlookOdds$Story;I)V" } : Jvm.MethodName) prog_1_method_19_code (5 : Nat) (Option.none : Option Jvm.ClassFile.FieldType)) ∈ qT := qT_2 (k := 45) rfl rfl
theorem mq_2_46 : (Jvm.Cond.methodLink "OutlookOdds" (134 : Nat) ({ cls := "OutlookOdds$Stock", name := "begin", desc := "()V" } : Jvm.MethodName)) ∈ qT := qT_2 (k := 46) rfl rfl
theorem mq_2_47 : (Jvm.Cond.instanceMethod ({ cls := "OutlookOdds$Stock", name := "begin", desc := "()V" } : Jvm.MethodName)) ∈ qT := qT_2 (k := 47) rfl rfl
theorem mq_2_48 : (Jvm.Cond.selects "OutlookOdds$Stock" ({ cls := "OutlookOdds$Stock", name := "begin", desc := "()V" } : Jvm.MethodName) ({ cls := "OutlookOdds$Stock", name := "begin", desc := "()V" } : Jvm.MethodName)) ∈ qT := qT_2 (k := 48) rfl rfl
theorem mq_2_49 : (Jvm.Cond.code ({ cls := "OutlookOdds$Stock", name := "begin", desc := "()V" } : Jvm.MethodName) prog_2_method_3_code (2 : Nat) (Option.none : Option Jvm.ClassFile.FieldType)) ∈ qT := qT_2 (k := 49) rfl rfl
theorem mq_2_50 : (Jvm.Cond.methodLink "OutlookOdds" (137 : Nat) ({ cls := "OutlookOdds", name := "runYear", desc := "(LOutlookOdds$Story;III)V" } : Jvm.MethodName)) ∈ qT := qT_2 (k := 50) rfl rfl
theorem mq_2_52 : (Jvm.Cond.instanceMethod ({ cls := "OutlookOdds", name := "runYear", desc := "(LOutlookOdds$Story;III)V" } : Jvm.MethodName)) ∈ qT := qT_2 (k := 52) rfl rfl
theorem mq_2_53 : (Jvm.Cond.code ({ cls := "OutlookOdds", name := "runYear", desc := "(LOutlookOdds$Story;III)V" } : Jvm.MethodName) prog_1_method_20_code (13 : Nat) (Option.none : Option Jvm.ClassFile.FieldType)) ∈ qT := qT_2 (k := 53) rfl rfl
theorem mq_2_54 : (Jvm.Cond.methodLink "OutlookOdds" (141 : Nat) ({ cls := "OutlookOdds$Stock", name := "ripeMass", desc := "()J" } : Jvm.MethodName)) ∈ qT := qT_2 (k := 54) rfl rfl
theorem mq_2_55 : (Jvm.Cond.instanceMethod ({ cls := "OutlookOdds$Stock", name := "ripeMass", desc := "()J" } : Jvm.MethodName)) ∈ qT := qT_2 (k := 55) rfl rfl
theorem mq_2_56 : (Jvm.Cond.selects "OutlookOdds$Stock" ({ cls := "OutlookOdds$Stock", name := "ripeMass", desc := "()J" } : Jvm.MethodName) ({ cls := "OutlookOdds$Stock", name := "ripeMass", desc := "()J" } : Jvm.MethodName)) ∈ qT := qT_2 (k := 56) rfl rfl
theorem mq_2_57 : (Jvm.Cond.code ({ cls := "OutlookOdds$Stock", name := "ripeMass", desc := "()J" } : Jvm.MethodName) prog_2_method_4_code (4 : Nat) (Option.some Jvm.ClassFile.FieldType.long)) ∈ qT := qT_2 (k := 57) rfl rfl
theorem mq_2_58 : (Jvm.Cond.constantLong "OutlookOdds$Stock" (28 : Nat) (1000 : Int64)) ∈ qT := qT_2 (k := 58) rfl rfl
theorem mq_2_59 : (Jvm.Cond.methodLink "OutlookOdds" (145 : Nat) ({ cls := "OutlookOdds$Story", name := "put", desc := "(IIIJ)V" } : Jvm.MethodName)) ∈ qT := qT_2 (k := 59) rfl rfl
theorem mq_2_60 : (Jvm.Cond.instanceMethod ({ cls := "OutlookOdds$Story", name := "put", desc := "(IIIJ)V" } : Jvm.MethodName)) ∈ qT := qT_2 (k := 60) rfl rfl
theorem mq_2_61 : (Jvm.Cond.selects "OutlookOdds$Story" ({ cls := "OutlookOdds$Story", name := "put", desc := "(IIIJ)V" } : Jvm.MethodName) ({ cls := "OutlookOdds$Story", name := "put", desc := "(IIIJ)V" } : Jvm.MethodName)) ∈ qT := qT_2 (k := 61) rfl rfl
theorem mq_2_62 : (Jvm.Cond.code ({ cls := "OutlookOdds$Story", name := "put", desc := "(IIIJ)V" } : Jvm.MethodName) prog_3_method_3_code (6 : Nat) (Option.none : Option Jvm.ClassFile.FieldType)) ∈ qT := qT_2 (k := 62) rfl rfl
theorem mq_2_63 : (Jvm.Cond.methodLink "OutlookOdds" (149 : Nat) ({ cls := "OutlookOdds", name := "massSeen", desc := "(LOutlookOdds$Story;II)J" } : Jvm.MethodName)) ∈ qT := qT_2 (k := 63) rfl rfl
theorem mq_2_65 : (Jvm.Cond.instanceMethod ({ cls := "OutlookOdds", name := "massSeen", desc := "(LOutlookOdds$Story;II)J" } : Jvm.MethodName)) ∈ qT := qT_2 (k := 65) rfl rfl
theorem mq_2_66 : (Jvm.Cond.code ({ cls := "OutlookOdds", name := "massSeen", desc := "(LOutlookOdds$Story;II)J" } : Jvm.MethodName) prog_1_method_21_code (6 : Nat) (Option.some Jvm.ClassFile.FieldType.long)) ∈ qT := qT_2 (k := 66) rfl rfl
theorem mq_2_67 : (Jvm.Cond.methodLink "OutlookOdds" (183 : Nat) ({ cls := "java/lang/Math", name := "max", desc := "(II)I" } : Jvm.MethodName)) ∈ qT := qT_2 (k := 67) rfl rfl
theorem mq_2_68 : (Jvm.Cond.static ({ cls := "java/lang/Math", name := "max", desc := "(II)I" } : Jvm.MethodName)) ∈ qT := qT_2 (k := 68) rfl rfl
theorem mq_2_69 : (Jvm.Cond.code ({ cls := "java/lang/Math", name := "max", desc := "(II)I" } : Jvm.MethodName) prog_10_method_65_code (2 : Nat) (Option.some Jvm.ClassFile.FieldType.int)) ∈ qT := qT_2 (k := 69) rfl rfl
theorem mq_2_70 : (Jvm.Cond.methodLink "OutlookOdds" (187 : Nat) ({ cls := "OutlookOdds", name := "draw", desc := "(III)I" } : Jvm.MethodName)) ∈ qT := qT_2 (k := 70) rfl rfl
theorem mq_2_71 : (Jvm.Cond.methodLink "OutlookOdds" (104 : Nat) ({ cls := "OutlookOdds$Story", name := "get", desc := "(III)J" } : Jvm.MethodName)) ∈ qT := qT_2 (k := 71) rfl rfl
theorem mq_2_72 : (Jvm.Cond.instanceMethod ({ cls := "OutlookOdds$Story", name := "get", desc := "(III)J" } : Jvm.MethodName)) ∈ qT := qT_2 (k := 72) rfl rfl
theorem mq_2_73 : (Jvm.Cond.selects "OutlookOdds$Story" ({ cls := "OutlookOdds$Story", name := "get", desc := "(III)J" } : Jvm.MethodName) ({ cls := "OutlookOdds$Story", name := "get", desc := "(III)J" } : Jvm.MethodName)) ∈ qT := qT_2 (k := 73) rfl rfl
theorem mq_2_74 : (Jvm.Cond.code ({ cls := "OutlookOdds$Story", name := "get", desc := "(III)J" } : Jvm.MethodName) prog_3_method_2_code (4 : Nat) (Option.some Jvm.ClassFile.FieldType.long)) ∈ qT := qT_2 (k := 74) rfl rfl
theorem mq_2_75 : (Jvm.Cond.constantLong "OutlookOdds" (191 : Nat) (100 : Int64)) ∈ qT := qT_2 (k := 75) rfl rfl
theorem mq_2_76 : (Jvm.Cond.methodLink "OutlookOdds" (152 : Nat) ({ cls := "OutlookOdds$Stock", name := "totalMass", desc := "()J" } : Jvm.MethodName)) ∈ qT := qT_2 (k := 76) rfl rfl
theorem mq_2_77 : (Jvm.Cond.instanceMethod ({ cls := "OutlookOdds$Stock", name := "totalMass", desc := "()J" } : Jvm.MethodName)) ∈ qT := qT_2 (k := 77) rfl rfl
theorem mq_2_78 : (Jvm.Cond.selects "OutlookOdds$Stock" ({ cls := "OutlookOdds$Stock", name := "totalMass", desc := "()J" } : Jvm.MethodName) ({ cls := "OutlookOdds$Stock", name := "totalMass", desc := "()J" } : Jvm.MethodName)) ∈ qT := qT_2 (k := 78) rfl rfl
theorem mq_2_79 : (Jvm.Cond.code ({ cls := "OutlookOdds$Stock", name := "totalMass", desc := "()J" } : Jvm.MethodName) prog_2_method_5_code (4 : Nat) (Option.some Jvm.ClassFile.FieldType.long)) ∈ qT := qT_2 (k := 79) rfl rfl
theorem mq_2_80 : (Jvm.Cond.methodLink "OutlookOdds" (155 : Nat) ({ cls := "OutlookOdds", name := "rateAllowed", desc := "(JI)J" } : Jvm.MethodName)) ∈ qT := qT_2 (k := 80) rfl rfl
theorem mq_2_82 : (Jvm.Cond.instanceMethod ({ cls := "OutlookOdds", name := "rateAllowed", desc := "(JI)J" } : Jvm.MethodName)) ∈ qT := qT_2 (k := 82) rfl rfl
theorem mq_2_83 : (Jvm.Cond.code ({ cls := "OutlookOdds", name := "rateAllowed", desc := "(JI)J" } : Jvm.MethodName) prog_1_method_22_code (8 : Nat) (Option.some Jvm.ClassFile.FieldType.long)) ∈ qT := qT_2 (k := 83) rfl rfl
theorem mq_2_84 : (Jvm.Cond.constantLong "OutlookOdds" (159 : Nat) (1000 : Int64)) ∈ qT := qT_2 (k := 84) rfl rfl
theorem mq_2_85 : (Jvm.Cond.methodLink "OutlookOdds" (161 : Nat) ({ cls := "OutlookOdds", name := "limitChange", desc := "(LOutlookOdds$Story;JII)J" } : Jvm.MethodName)) ∈ qT := qT_2 (k := 85) rfl rfl
theorem mq_2_87 : (Jvm.Cond.instanceMethod ({ cls := "OutlookOdds", name := "limitChange", desc := "(LOutlookOdds$Story;JII)J" } : Jvm.MethodName)) ∈ qT := qT_2 (k := 87) rfl rfl
theorem mq_2_88 : (Jvm.Cond.code ({ cls := "OutlookOdds", name := "limitChange", desc := "(LOutlookOdds$Story;JII)J" } : Jvm.MethodName) prog_1_method_23_code (10 : Nat) (Option.some Jvm.ClassFile.FieldType.long)) ∈ qT := qT_2 (k := 88) rfl rfl
theorem mq_2_89 : (Jvm.Cond.methodLink "OutlookOdds" (165 : Nat) ({ cls := "java/lang/Math", name := "min", desc := "(JJ)J" } : Jvm.MethodName)) ∈ qT := qT_2 (k := 89) rfl rfl
theorem mq_2_90 : (Jvm.Cond.static ({ cls := "java/lang/Math", name := "min", desc := "(JJ)J" } : Jvm.MethodName)) ∈ qT := qT_2 (k := 90) rfl rfl
theorem mq_2_91 : (Jvm.Cond.code ({ cls := "java/lang/Math", name := "min", desc := "(JJ)J" } : Jvm.MethodName) prog_10_method_70_code (4 : Nat) (Option.some Jvm.ClassFile.FieldType.long)) ∈ qT := qT_2 (k := 91) rfl rfl
theorem mq_2_92 : (Jvm.Cond.methodLink "OutlookOdds" (193 : Nat) ({ cls := "java/lang/Math", name := "max", desc := "(JJ)J" } : Jvm.MethodName)) ∈ qT := qT_2 (k := 92) rfl rfl
theorem mq_2_93 : (Jvm.Cond.static ({ cls := "java/lang/Math", name := "max", desc := "(JJ)J" } : Jvm.MethodName)) ∈ qT := qT_2 (k := 93) rfl rfl
theorem mq_2_94 : (Jvm.Cond.code ({ cls := "java/lang/Math", name := "max", desc := "(JJ)J" } : Jvm.MethodName) prog_10_method_66_code (4 : Nat) (Option.some Jvm.ClassFile.FieldType.long)) ∈ qT := qT_2 (k := 94) rfl rfl
theorem mq_2_95 : (Jvm.Cond.methodLink "OutlookOdds" (169 : Nat) ({ cls := "OutlookOdds$Stock", name := "takeOut", desc := "(JJ)J" } : Jvm.MethodName)) ∈ qT := qT_2 (k := 95) rfl rfl
theorem mq_2_96 : (Jvm.Cond.instanceMethod ({ cls := "OutlookOdds$Stock", name := "takeOut", desc := "(JJ)J" } : Jvm.MethodName)) ∈ qT := qT_2 (k := 96) rfl rfl
theorem mq_2_97 : (Jvm.Cond.selects "OutlookOdds$Stock" ({ cls := "OutlookOdds$Stock", name := "takeOut", desc := "(JJ)J" } : Jvm.MethodName) ({ cls := "OutlookOdds$Stock", name := "takeOut", desc := "(JJ)J" } : Jvm.MethodName)) ∈ qT := qT_2 (k := 97) rfl rfl
theorem mq_2_98 : (Jvm.Cond.code ({ cls := "OutlookOdds$Stock", name := "takeOut", desc := "(JJ)J" } : Jvm.MethodName) prog_2_method_6_code (10 : Nat) (Option.some Jvm.ClassFile.FieldType.long)) ∈ qT := qT_2 (k := 98) rfl rfl
theorem mq_2_99 : (Jvm.Cond.methodLink "OutlookOdds" (172 : Nat) ({ cls := "OutlookOdds$Stock", name := "loseDead", desc := "()V" } : Jvm.MethodName)) ∈ qT := qT_2 (k := 99) rfl rfl
theorem mq_2_100 : (Jvm.Cond.instanceMethod ({ cls := "OutlookOdds$Stock", name := "loseDead", desc := "()V" } : Jvm.MethodName)) ∈ qT := qT_2 (k := 100) rfl rfl
theorem mq_2_101 : (Jvm.Cond.selects "OutlookOdds$Stock" ({ cls := "OutlookOdds$Stock", name := "loseDead", desc := "()V" } : Jvm.MethodName) ({ cls := "OutlookOdds$Stock", name := "loseDead", desc := "()V" } : Jvm.MethodName)) ∈ qT := qT_2 (k := 101) rfl rfl
theorem mq_2_102 : (Jvm.Cond.code ({ cls := "OutlookOdds$Stock", name := "loseDead", desc := "()V" } : Jvm.MethodName) prog_2_method_7_code (2 : Nat) (Option.none : Option Jvm.ClassFile.FieldType)) ∈ qT := qT_2 (k := 102) rfl rfl
theorem mq_2_103 : (Jvm.Cond.methodLink "OutlookOdds" (175 : Nat) ({ cls := "OutlookOdds", name := "youngBorn", desc := "(II)J" } : Jvm.MethodName)) ∈ qT := qT_2 (k := 103) rfl rfl
theorem mq_2_105 : (Jvm.Cond.instanceMethod ({ cls := "OutlookOdds", name := "youngBorn", desc := "(II)J" } : Jvm.MethodName)) ∈ qT := qT_2 (k := 105) rfl rfl
theorem mq_2_106 : (Jvm.Cond.code ({ cls := "OutlookOdds", name := "youngBorn", desc := "(II)J" } : Jvm.MethodName) prog_1_method_24_code (3 : Nat) (Option.some Jvm.ClassFile.FieldType.long)) ∈ qT := qT_2 (k := 106) rfl rfl
theorem mq_2_107 : (Jvm.Cond.methodLink "OutlookOdds" (179 : Nat) ({ cls := "OutlookOdds$Stock", name := "growOlder", desc := "(J)V" } : Jvm.MethodName)) ∈ qT := qT_2 (k := 107) rfl rfl
theorem mq_2_108 : (Jvm.Cond.instanceMethod ({ cls := "OutlookOdds$Stock", name := "growOlder", desc := "(J)V" } : Jvm.MethodName)) ∈ qT := qT_2 (k := 108) rfl rfl
theorem mq_2_109 : (Jvm.Cond.selects "OutlookOdds$Stock" ({ cls := "OutlookOdds$Stock", name := "growOlder", desc := "(J)V" } : Jvm.MethodName) ({ cls := "OutlookOdds$Stock", name := "growOlder", desc := "(J)V" } : Jvm.MethodName)) ∈ qT := qT_2 (k := 109) rfl rfl
theorem mq_2_110 : (Jvm.Cond.code ({ cls := "OutlookOdds$Stock", name := "growOlder", desc := "(J)V" } : Jvm.MethodName) prog_2_method_8_code (5 : Nat) (Option.none : Option Jvm.ClassFile.FieldType)) ∈ qT := qT_2 (k := 110) rfl rfl
theorem mq_2_111 : (Jvm.Cond.methodLink "OutlookOdds" (97 : Nat) ({ cls := "OutlookOdds", name := "seedsEverBelowMark", desc := "()I" } : Jvm.MethodName)) ∈ qT := qT_2 (k := 111) rfl rfl
theorem mq_2_113 : (Jvm.Cond.instanceMethod ({ cls := "OutlookOdds", name := "seedsEverBelowMark", desc := "()I" } : Jvm.MethodName)) ∈ qT := qT_2 (k := 113) rfl rfl
theorem mq_2_114 : (Jvm.Cond.code ({ cls := "OutlookOdds", name := "seedsEverBelowMark", desc := "()I" } : Jvm.MethodName) prog_1_method_28_code (3 : Nat) (Option.some Jvm.ClassFile.FieldType.int)) ∈ qT := qT_2 (k := 114) rfl rfl
theorem mq_2_115 : (Jvm.Cond.methodLink "OutlookOdds" (195 : Nat) ({ cls := "OutlookOdds", name := "isEverBelowMark", desc := "(I)Z" } : Jvm.MethodName)) ∈ qT := qT_2 (k := 115) rfl rfl
theorem mq_2_117 : (Jvm.Cond.instanceMethod ({ cls := "OutlookOdds", name := "isEverBelowMark", desc := "(I)Z" } : Jvm.MethodName)) ∈ qT := qT_2 (k := 117) rfl rfl
theorem mq_2_118 : (Jvm.Cond.code ({ cls := "OutlookOdds", name := "isEverBelowMark", desc := "(I)Z" } : Jvm.MethodName) prog_1_method_29_code (3 : Nat) (Option.some Jvm.ClassFile.FieldType.boolean)) ∈ qT := qT_2 (k := 118) rfl rfl
theorem mq_2_119 : (Jvm.Cond.methodLink "OutlookOdds" (108 : Nat) ({ cls := "OutlookOdds", name := "isBelowMark", desc := "(II)Z" } : Jvm.MethodName)) ∈ qT := qT_2 (k := 119) rfl rfl
theorem mq_2_121 : (Jvm.Cond.instanceMethod ({ cls := "OutlookOdds", name := "isBelowMark", desc := "(II)Z" } : Jvm.MethodName)) ∈ qT := qT_2 (k := 121) rfl rfl
theorem mq_2_122 : (Jvm.Cond.code ({ cls := "OutlookOdds", name := "isBelowMark", desc := "(II)Z" } : Jvm.MethodName) prog_1_method_27_code (3 : Nat) (Option.some Jvm.ClassFile.FieldType.boolean)) ∈ qT := qT_2 (k := 122) rfl rfl
theorem mq_2_123 : (Jvm.Cond.methodLink "OutlookOddsLaw" (107 : Nat) ({ cls := "OutlookOddsLaw", name := "told", desc := "(LOutlookOdds;III[J)I" } : Jvm.MethodName)) ∈ qT := qT_2 (k := 123) rfl rfl
theorem mq_2_124 : (Jvm.Cond.static ({ cls := "OutlookOddsLaw", name := "told", desc := "(LOutlookOdds;III[J)I" } : Jvm.MethodName)) ∈ qT := qT_2 (k := 124) rfl rfl
theorem mq_2_125 : (Jvm.Cond.codeWith ({ cls := "OutlookOddsLaw", name := "told", desc := "(LOutlookOdds;III[J)I" } : Jvm.MethodName) method_10_code (6 : Nat) (Option.some Jvm.ClassFile.FieldType.int) [((0 : Nat), (11 : Nat), (14 : Nat), (25 : Nat)), ((0 : Nat), (11 : Nat), (18 : Nat), (13 : Nat))]) ∈ qT := qT_2 (k := 125) rfl rfl
theorem mq_2_126 : (Jvm.Cond.methodLink "OutlookOddsLaw" (40 : Nat) ({ cls := "OutlookOdds", name := "told", desc := "(III)J" } : Jvm.MethodName)) ∈ qT := qT_2 (k := 126) rfl rfl
theorem mq_2_127 : (Jvm.Cond.instanceMethod ({ cls := "OutlookOdds", name := "told", desc := "(III)J" } : Jvm.MethodName)) ∈ qT := qT_2 (k := 127) rfl rfl
theorem mq_2_128 : (Jvm.Cond.selects "OutlookOdds" ({ cls := "OutlookOdds", name := "told", desc := "(III)J" } : Jvm.MethodName) ({ cls := "OutlookOdds", name := "told", desc := "(III)J" } : Jvm.MethodName)) ∈ qT := qT_2 (k := 128) rfl rfl
theorem mq_2_129 : (Jvm.Cond.code ({ cls := "OutlookOdds", name := "told", desc := "(III)J" } : Jvm.MethodName) prog_1_method_10_code (4 : Nat) (Option.some Jvm.ClassFile.FieldType.long)) ∈ qT := qT_2 (k := 129) rfl rfl
theorem mq_2_130 : (Jvm.Cond.methodLink "OutlookOdds" (101 : Nat) ({ cls := "OutlookOdds", name := "requireRun", desc := "()V" } : Jvm.MethodName)) ∈ qT := qT_2 (k := 130) rfl rfl
theorem mq_2_132 : (Jvm.Cond.instanceMethod ({ cls := "OutlookOdds", name := "requireRun", desc := "()V" } : Jvm.MethodName)) ∈ qT := qT_2 (k := 132) rfl rfl
theorem mq_2_133 : (Jvm.Cond.code ({ cls := "OutlookOdds", name := "requireRun", desc := "()V" } : Jvm.MethodName) prog_1_method_33_code (1 : Nat) (Option.none : Option Jvm.ClassFile.FieldType)) ∈ qT := qT_2 (k := 133) rfl rfl
theorem mq_2_135 : (Jvm.Cond.methodLink "OutlookOddsLaw" (110 : Nat) ({ cls := "OutlookOddsLaw", name := "below", desc := "(LOutlookOdds;II[J)I" } : Jvm.MethodName)) ∈ qT := qT_2 (k := 135) rfl rfl
theorem mq_2_136 : (Jvm.Cond.static ({ cls := "OutlookOddsLaw", name := "below", desc := "(LOutlookOdds;II[J)I" } : Jvm.MethodName)) ∈ qT := qT_2 (k := 136) rfl rfl
theorem mq_2_137 : (Jvm.Cond.codeWith ({ cls := "OutlookOddsLaw", name := "below", desc := "(LOutlookOdds;II[J)I" } : Jvm.MethodName) method_11_code (5 : Nat) (Option.some Jvm.ClassFile.FieldType.int) [((0 : Nat), (10 : Nat), (13 : Nat), (25 : Nat)), ((0 : Nat), (10 : Nat), (17 : Nat), (13 : Nat))]) ∈ qT := qT_2 (k := 137) rfl rfl
theorem mq_2_138 : (Jvm.Cond.methodLink "OutlookOddsLaw" (44 : Nat) ({ cls := "OutlookOdds", name := "below", desc := "(II)I" } : Jvm.MethodName)) ∈ qT := qT_2 (k := 138) rfl rfl
theorem mq_2_139 : (Jvm.Cond.instanceMethod ({ cls := "OutlookOdds", name := "below", desc := "(II)I" } : Jvm.MethodName)) ∈ qT := qT_2 (k := 139) rfl rfl
theorem mq_2_140 : (Jvm.Cond.selects "OutlookOdds" ({ cls := "OutlookOdds", name := "below", desc := "(II)I" } : Jvm.MethodName) ({ cls := "OutlookOdds", name := "below", desc := "(II)I" } : Jvm.MethodName)) ∈ qT := qT_2 (k := 140) rfl rfl
theorem mq_2_141 : (Jvm.Cond.code ({ cls := "OutlookOdds", name := "below", desc := "(II)I" } : Jvm.MethodName) prog_1_method_11_code (5 : Nat) (Option.some Jvm.ClassFile.FieldType.int)) ∈ qT := qT_2 (k := 141) rfl rfl
theorem mq_2_142 : (Jvm.Cond.methodLink "OutlookOdds" (112 : Nat) ({ cls := "OutlookOdds", name := "partOfFraction", desc := "(JJI)J" } : Jvm.MethodName)) ∈ qT := qT_2 (k := 142) rfl rfl
theorem mq_2_143 : (Jvm.Cond.static ({ cls := "OutlookOdds", name := "partOfFraction", desc := "(JJI)J" } : Jvm.MethodName)) ∈ qT := qT_2 (k := 143) rfl rfl
theorem mq_2_144 : (Jvm.Cond.code ({ cls := "OutlookOdds", name := "partOfFraction", desc := "(JJI)J" } : Jvm.MethodName) prog_1_method_31_code (7 : Nat) (Option.some Jvm.ClassFile.FieldType.long)) ∈ qT := qT_2 (k := 144) rfl rfl
theorem mq_2_145 : (Jvm.Cond.methodLink "OutlookOdds" (199 : Nat) ({ cls := "OutlookOdds", name := "commonDivisor", desc := "(JJ)J" } : Jvm.MethodName)) ∈ qT := qT_2 (k := 145) rfl rfl
theorem mq_2_146 : (Jvm.Cond.static ({ cls := "OutlookOdds", name := "commonDivisor", desc := "(JJ)J" } : Jvm.MethodName)) ∈ qT := qT_2 (k := 146) rfl rfl
theorem mq_2_147 : (Jvm.Cond.code ({ cls := "OutlookOdds", name := "commonDivisor", desc := "(JJ)J" } : Jvm.MethodName) prog_1_method_32_code (11 : Nat) (Option.some Jvm.ClassFile.FieldType.long)) ∈ qT := qT_2 (k := 147) rfl rfl
theorem mq_2_148 : (Jvm.Cond.methodLink "OutlookOddsLaw" (114 : Nat) ({ cls := "OutlookOddsLaw", name := "steady", desc := "(LOutlookOdds;I[J)I" } : Jvm.MethodName)) ∈ qT := qT_2 (k := 148) rfl rfl
theorem mq_2_149 : (Jvm.Cond.static ({ cls := "OutlookOddsLaw", name := "steady", desc := "(LOutlookOdds;I[J)I" } : Jvm.MethodName)) ∈ qT := qT_2 (k := 149) rfl rfl
theorem mq_2_150 : (Jvm.Cond.codeWith ({ cls := "OutlookOddsLaw", name := "steady", desc := "(LOutlookOdds;I[J)I" } : Jvm.MethodName) method_12_code (4 : Nat) (Option.some Jvm.ClassFile.FieldType.int) [((0 : Nat), (8 : Nat), (11 : Nat), (25 : Nat)), ((0 : Nat), (8 : Nat), (14 : Nat), (13 : Nat))]) ∈ qT := qT_2 (k := 150) rfl rfl
theorem mq_2_151 : (Jvm.Cond.methodLink "OutlookOddsLaw" (48 : Nat) ({ cls := "OutlookOdds", name := "steady", desc := "(I)J" } : Jvm.MethodName)) ∈ qT := qT_2 (k := 151) rfl rfl
theorem mq_2_152 : (Jvm.Cond.instanceMethod ({ cls := "OutlookOdds", name := "steady", desc := "(I)J" } : Jvm.MethodName)) ∈ qT := qT_2 (k := 152) rfl rfl
theorem mq_2_153 : (Jvm.Cond.selects "OutlookOdds" ({ cls := "OutlookOdds", name := "steady", desc := "(I)J" } : Jvm.MethodName) ({ cls := "OutlookOdds", name := "steady", desc := "(I)J" } : Jvm.MethodName)) ∈ qT := qT_2 (k := 153) rfl rfl
theorem mq_2_154 : (Jvm.Cond.code ({ cls := "OutlookOdds", name := "steady", desc := "(I)J" } : Jvm.MethodName) prog_1_method_12_code (5 : Nat) (Option.some Jvm.ClassFile.FieldType.long)) ∈ qT := qT_2 (k := 154) rfl rfl
theorem mq_2_155 : (Jvm.Cond.methodLink "OutlookOdds" (116 : Nat) ({ cls := "java/lang/Math", name := "abs", desc := "(J)J" } : Jvm.MethodName)) ∈ qT := qT_2 (k := 155) rfl rfl
theorem mq_2_156 : (Jvm.Cond.static ({ cls := "java/lang/Math", name := "abs", desc := "(J)J" } : Jvm.MethodName)) ∈ qT := qT_2 (k := 156) rfl rfl
theorem mq_2_157 : (Jvm.Cond.code ({ cls := "java/lang/Math", name := "abs", desc := "(J)J" } : Jvm.MethodName) prog_10_method_61_code (2 : Nat) (Option.some Jvm.ClassFile.FieldType.long)) ∈ qT := qT_2 (k := 157) rfl rfl
theorem mq_2_158 : (Jvm.Cond.methodLink "OutlookOddsLaw" (117 : Nat) ({ cls := "OutlookOddsLaw", name := "recovers", desc := "(LOutlookOdds;II[J)I" } : Jvm.MethodName)) ∈ qT := qT_2 (k := 158) rfl rfl
theorem mq_2_159 : (Jvm.Cond.static ({ cls := "OutlookOddsLaw", name := "recovers", desc := "(LOutlookOdds;II[J)I" } : Jvm.MethodName)) ∈ qT := qT_2 (k := 159) rfl rfl
theorem mq_2_160 : (Jvm.Cond.codeWith ({ cls := "OutlookOddsLaw", name := "recovers", desc := "(LOutlookOdds;II[J)I" } : Jvm.MethodName) method_13_code (5 : Nat) (Option.some Jvm.ClassFile.FieldType.int) [((0 : Nat), (10 : Nat), (13 : Nat), (25 : Nat)), ((0 : Nat), (10 : Nat), (17 : Nat), (13 : Nat)), ((0 : Nat), (10 : Nat), (21 : Nat), (15 : Nat))]) ∈ qT := qT_2 (k := 160) rfl rfl
theorem mq_2_161 : (Jvm.Cond.methodLink "OutlookOddsLaw" (52 : Nat) ({ cls := "OutlookOdds", name := "recovers", desc := "(II)I" } : Jvm.MethodName)) ∈ qT := qT_2 (k := 161) rfl rfl
theorem mq_2_162 : (Jvm.Cond.instanceMethod ({ cls := "OutlookOdds", name := "recovers", desc := "(II)I" } : Jvm.MethodName)) ∈ qT := qT_2 (k := 162) rfl rfl
theorem mq_2_163 : (Jvm.Cond.selects "OutlookOdds" ({ cls := "OutlookOdds", name := "recovers", desc := "(II)I" } : Jvm.MethodName) ({ cls := "OutlookOdds", name := "recovers", desc := "(II)I" } : Jvm.MethodName)) ∈ qT := qT_2 (k := 163) rfl rfl
theorem mq_2_164 : (Jvm.Cond.code ({ cls := "OutlookOdds", name := "recovers", desc := "(II)I" } : Jvm.MethodName) prog_1_method_13_code (5 : Nat) (Option.some Jvm.ClassFile.FieldType.int)) ∈ qT := qT_2 (k := 164) rfl rfl
theorem mq_2_165 : (Jvm.Cond.methodLink "OutlookOddsLaw" (120 : Nat) ({ cls := "OutlookOddsLaw", name := "rank", desc := "(LOutlookOdds;II[J)I" } : Jvm.MethodName)) ∈ qT := qT_2 (k := 165) rfl rfl
theorem mq_2_166 : (Jvm.Cond.static ({ cls := "OutlookOddsLaw", name := "rank", desc := "(LOutlookOdds;II[J)I" } : Jvm.MethodName)) ∈ qT := qT_2 (k := 166) rfl rfl
theorem mq_2_167 : (Jvm.Cond.codeWith ({ cls := "OutlookOddsLaw", name := "rank", desc := "(LOutlookOdds;II[J)I" } : Jvm.MethodName) method_14_code (5 : Nat) (Option.some Jvm.ClassFile.FieldType.int) [((0 : Nat), (9 : Nat), (12 : Nat), (25 : Nat)), ((0 : Nat), (9 : Nat), (16 : Nat), (13 : Nat))]) ∈ qT := qT_2 (k := 167) rfl rfl
theorem mq_2_168 : (Jvm.Cond.methodLink "OutlookOddsLaw" (55 : Nat) ({ cls := "OutlookOdds", name := "rank", desc := "(II)J" } : Jvm.MethodName)) ∈ qT := qT_2 (k := 168) rfl rfl
theorem mq_2_169 : (Jvm.Cond.instanceMethod ({ cls := "OutlookOdds", name := "rank", desc := "(II)J" } : Jvm.MethodName)) ∈ qT := qT_2 (k := 169) rfl rfl
theorem mq_2_170 : (Jvm.Cond.selects "OutlookOdds" ({ cls := "OutlookOdds", name := "rank", desc := "(II)J" } : Jvm.MethodName) ({ cls := "OutlookOdds", name := "rank", desc := "(II)J" } : Jvm.MethodName)) ∈ qT := qT_2 (k := 170) rfl rfl
theorem mq_2_171 : (Jvm.Cond.code ({ cls := "OutlookOdds", name := "rank", desc := "(II)J" } : Jvm.MethodName) prog_1_method_14_code (4 : Nat) (Option.some Jvm.ClassFile.FieldType.long)) ∈ qT := qT_2 (k := 171) rfl rfl
theorem mq_2_172 : (Jvm.Cond.methodLink "OutlookOdds" (122 : Nat) ({ cls := "OutlookOdds", name := "putInOrder", desc := "(IJ)V" } : Jvm.MethodName)) ∈ qT := qT_2 (k := 172) rfl rfl
theorem mq_2_174 : (Jvm.Cond.instanceMethod ({ cls := "OutlookOdds", name := "putInOrder", desc := "(IJ)V" } : Jvm.MethodName)) ∈ qT := qT_2 (k := 174) rfl rfl
theorem mq_2_175 : (Jvm.Cond.code ({ cls := "OutlookOdds", name := "putInOrder", desc := "(IJ)V" } : Jvm.MethodName) prog_1_method_30_code (5 : Nat) (Option.none : Option Jvm.ClassFile.FieldType)) ∈ qT := qT_2 (k := 175) rfl rfl
theorem mq_2_176 : (Jvm.Cond.methodLink "OutlookOddsLaw" (123 : Nat) ({ cls := "OutlookOddsLaw", name := "mean", desc := "(LOutlookOdds;II[J)I" } : Jvm.MethodName)) ∈ qT := qT_2 (k := 176) rfl rfl
theorem mq_2_177 : (Jvm.Cond.static ({ cls := "OutlookOddsLaw", name := "mean", desc := "(LOutlookOdds;II[J)I" } : Jvm.MethodName)) ∈ qT := qT_2 (k := 177) rfl rfl
theorem mq_2_178 : (Jvm.Cond.codeWith ({ cls := "OutlookOddsLaw", name := "mean", desc := "(LOutlookOdds;II[J)I" } : Jvm.MethodName) method_15_code (5 : Nat) (Option.some Jvm.ClassFile.FieldType.int) [((0 : Nat), (9 : Nat), (12 : Nat), (25 : Nat)), ((0 : Nat), (9 : Nat), (16 : Nat), (13 : Nat))]) ∈ qT := qT_2 (k := 178) rfl rfl
theorem mq_2_179 : (Jvm.Cond.methodLink "OutlookOddsLaw" (59 : Nat) ({ cls := "OutlookOdds", name := "mean", desc := "(II)J" } : Jvm.MethodName)) ∈ qT := qT_2 (k := 179) rfl rfl
theorem mq_2_180 : (Jvm.Cond.instanceMethod ({ cls := "OutlookOdds", name := "mean", desc := "(II)J" } : Jvm.MethodName)) ∈ qT := qT_2 (k := 180) rfl rfl
theorem mq_2_181 : (Jvm.Cond.selects "OutlookOdds" ({ cls := "OutlookOdds", name := "mean", desc := "(II)J" } : Jvm.MethodName) ({ cls := "OutlookOdds", name := "mean", desc := "(II)J" } : Jvm.MethodName)) ∈ qT := qT_2 (k := 181) rfl rfl
theorem mq_2_182 : (Jvm.Cond.code ({ cls := "OutlookOdds", name := "mean", desc := "(II)J" } : Jvm.MethodName) prog_1_method_15_code (3 : Nat) (Option.some Jvm.ClassFile.FieldType.long)) ∈ qT := qT_2 (k := 182) rfl rfl
theorem mq_2_183 : (Jvm.Cond.methodLink "OutlookOdds" (126 : Nat) ({ cls := "OutlookOdds", name := "sumOf", desc := "(LOutlookOdds$Story;II)J" } : Jvm.MethodName)) ∈ qT := qT_2 (k := 183) rfl rfl
theorem mq_2_185 : (Jvm.Cond.instanceMethod ({ cls := "OutlookOdds", name := "sumOf", desc := "(LOutlookOdds$Story;II)J" } : Jvm.MethodName)) ∈ qT := qT_2 (k := 185) rfl rfl
theorem mq_2_186 : (Jvm.Cond.code ({ cls := "OutlookOdds", name := "sumOf", desc := "(LOutlookOdds$Story;II)J" } : Jvm.MethodName) prog_1_method_26_code (8 : Nat) (Option.some Jvm.ClassFile.FieldType.long)) ∈ qT := qT_2 (k := 186) rfl rfl
theorem mq_2_187 : (Jvm.Cond.methodLink "OutlookOddsLaw" (126 : Nat) ({ cls := "OutlookOddsLaw", name := "table", desc := "(LOutlookOdds;I[J)I" } : Jvm.MethodName)) ∈ qT := qT_2 (k := 187) rfl rfl
theorem mq_2_188 : (Jvm.Cond.static ({ cls := "OutlookOddsLaw", name := "table", desc := "(LOutlookOdds;I[J)I" } : Jvm.MethodName)) ∈ qT := qT_2 (k := 188) rfl rfl
theorem mq_2_189 : (Jvm.Cond.codeWith ({ cls := "OutlookOddsLaw", name := "table", desc := "(LOutlookOdds;I[J)I" } : Jvm.MethodName) method_16_code (4 : Nat) (Option.some Jvm.ClassFile.FieldType.int) [((0 : Nat), (8 : Nat), (11 : Nat), (25 : Nat)), ((0 : Nat), (8 : Nat), (14 : Nat), (13 : Nat))]) ∈ qT := qT_2 (k := 189) rfl rfl
theorem mq_2_190 : (Jvm.Cond.methodLink "OutlookOddsLaw" (62 : Nat) ({ cls := "OutlookOdds", name := "table", desc := "(I)J" } : Jvm.MethodName)) ∈ qT := qT_2 (k := 190) rfl rfl
theorem mq_2_191 : (Jvm.Cond.instanceMethod ({ cls := "OutlookOdds", name := "table", desc := "(I)J" } : Jvm.MethodName)) ∈ qT := qT_2 (k := 191) rfl rfl
theorem mq_2_192 : (Jvm.Cond.selects "OutlookOdds" ({ cls := "OutlookOdds", name := "table", desc := "(I)J" } : Jvm.MethodName) ({ cls := "OutlookOdds", name := "table", desc := "(I)J" } : Jvm.MethodName)) ∈ qT := qT_2 (k := 192) rfl rfl
theorem mq_2_193 : (Jvm.Cond.code ({ cls := "OutlookOdds", name := "table", desc := "(I)J" } : Jvm.MethodName) prog_1_method_16_code (2 : Nat) (Option.some Jvm.ClassFile.FieldType.long)) ∈ qT := qT_2 (k := 193) rfl rfl
theorem mq_2_194 : (Jvm.Cond.methodLink "OutlookOdds" (130 : Nat) ({ cls := "OutlookOdds", name := "caughtAtRate", desc := "(I)J" } : Jvm.MethodName)) ∈ qT := qT_2 (k := 194) rfl rfl
theorem mq_2_196 : (Jvm.Cond.instanceMethod ({ cls := "OutlookOdds", name := "caughtAtRate", desc := "(I)J" } : Jvm.MethodName)) ∈ qT := qT_2 (k := 196) rfl rfl
theorem mq_2_197 : (Jvm.Cond.code ({ cls := "OutlookOdds", name := "caughtAtRate", desc := "(I)J" } : Jvm.MethodName) prog_1_method_25_code (2 : Nat) (Option.some Jvm.ClassFile.FieldType.long)) ∈ qT := qT_2 (k := 197) rfl rfl
theorem mq_2_198 : (Jvm.Cond.methodLink "OutlookOddsLaw" (129 : Nat) ({ cls := "OutlookOddsLaw", name := "top", desc := "(LOutlookOdds;[J)I" } : Jvm.MethodName)) ∈ qT := qT_2 (k := 198) rfl rfl
theorem mq_2_199 : (Jvm.Cond.static ({ cls := "OutlookOddsLaw", name := "top", desc := "(LOutlookOdds;[J)I" } : Jvm.MethodName)) ∈ qT := qT_2 (k := 199) rfl rfl
theorem mq_2_200 : (Jvm.Cond.codeWith ({ cls := "OutlookOddsLaw", name := "top", desc := "(LOutlookOdds;[J)I" } : Jvm.MethodName) method_17_code (3 : Nat) (Option.some Jvm.ClassFile.FieldType.int) [((0 : Nat), (8 : Nat), (11 : Nat), (25 : Nat))]) ∈ qT := qT_2 (k := 200) rfl rfl
theorem mq_2_201 : (Jvm.Cond.methodLink "OutlookOddsLaw" (65 : Nat) ({ cls := "OutlookOdds", name := "top", desc := "()I" } : Jvm.MethodName)) ∈ qT := qT_2 (k := 201) rfl rfl
theorem mq_2_202 : (Jvm.Cond.instanceMethod ({ cls := "OutlookOdds", name := "top", desc := "()I" } : Jvm.MethodName)) ∈ qT := qT_2 (k := 202) rfl rfl
theorem mq_2_203 : (Jvm.Cond.selects "OutlookOdds" ({ cls := "OutlookOdds", name := "top", desc := "()I" } : Jvm.MethodName) ({ cls := "OutlookOdds", name := "top", desc := "()I" } : Jvm.MethodName)) ∈ qT := qT_2 (k := 203) rfl rfl
theorem mq_2_204 : (Jvm.Cond.code ({ cls := "OutlookOdds", name := "top", desc := "()I" } : Jvm.MethodName) prog_1_method_17_code (7 : Nat) (Option.some Jvm.ClassFile.FieldType.int)) ∈ qT := qT_2 (k := 204) rfl rfl
theorem mq_2_205 : (Jvm.Cond.classLink "OutlookOddsLaw" (70 : Nat) "OutlookOddsModel") ∈ qT := qT_2 (k := 205) rfl rfl
theorem mq_2_206 : (Jvm.Cond.instantiable "OutlookOddsModel" (23 : Nat)) ∈ qT := qT_2 (k := 206) rfl rfl
theorem mq_2_207 : (Jvm.Cond.methodLink "OutlookOddsLaw" (72 : Nat) ({ cls := "OutlookOddsModel", name := "<init>", desc := "()V" } : Jvm.MethodName)) ∈ qT := qT_2 (k := 207) rfl rfl
theorem mq_2_208 : (Jvm.Cond.instanceMethod ({ cls := "OutlookOddsModel", name := "<init>", desc := "()V" } : Jvm.MethodName)) ∈ qT := qT_2 (k := 208) rfl rfl
theorem mq_2_209 : (Jvm.Cond.code ({ cls := "OutlookOddsModel", name := "<init>", desc := "()V" } : Jvm.MethodName) prog_5_method_1_code (1 : Nat) (Option.none : Option Jvm.ClassFile.FieldType)) ∈ qT := qT_2 (k := 209) rfl rfl
theorem mq_2_210 : (Jvm.Cond.methodLink "OutlookOddsModel" (1 : Nat) ({ cls := "java/lang/Object", name := "<init>", desc := "()V" } : Jvm.MethodName)) ∈ qT := qT_2 (k := 210) rfl rfl
theorem mq_2_211 : (Jvm.Cond.fieldLink "OutlookOddsModel" (51 : Nat) "OutlookOddsModel" "thrown" "I") ∈ qT := qT_2 (k := 211) rfl rfl
theorem mq_2_212 : (Jvm.Cond.fieldLink "OutlookOddsModel" (7 : Nat) "OutlookOddsModel" "numbers" "[J") ∈ qT := qT_2 (k := 212) rfl rfl
theorem mq_2_213 : (Jvm.Cond.fieldLink "OutlookOddsModel" (13 : Nat) "OutlookOddsModel" "weights" "[J") ∈ qT := qT_2 (k := 213) rfl rfl
theorem mq_2_214 : (Jvm.Cond.fieldLink "OutlookOddsModel" (16 : Nat) "OutlookOddsModel" "ripe" "[J") ∈ qT := qT_2 (k := 214) rfl rfl
theorem mq_2_215 : (Jvm.Cond.fieldLink "OutlookOddsModel" (19 : Nat) "OutlookOddsModel" "dies" "[J") ∈ qT := qT_2 (k := 215) rfl rfl
theorem mq_2_216 : (Jvm.Cond.fieldLink "OutlookOddsModel" (59 : Nat) "OutlookOddsModel" "young" "I") ∈ qT := qT_2 (k := 216) rfl rfl
theorem mq_2_217 : (Jvm.Cond.fieldLink "OutlookOddsModel" (63 : Nat) "OutlookOddsModel" "rules" "I") ∈ qT := qT_2 (k := 217) rfl rfl
theorem mq_2_218 : (Jvm.Cond.fieldLink "OutlookOddsModel" (22 : Nat) "OutlookOddsModel" "lows" "[J") ∈ qT := qT_2 (k := 218) rfl rfl
theorem mq_2_219 : (Jvm.Cond.fieldLink "OutlookOddsModel" (25 : Nat) "OutlookOddsModel" "highs" "[J") ∈ qT := qT_2 (k := 219) rfl rfl
theorem mq_2_220 : (Jvm.Cond.fieldLink "OutlookOddsModel" (28 : Nat) "OutlookOddsModel" "rates" "[I") ∈ qT := qT_2 (k := 220) rfl rfl
theorem mq_2_221 : (Jvm.Cond.fieldLink "OutlookOddsModel" (32 : Nat) "OutlookOddsModel" "change" "I") ∈ qT := qT_2 (k := 221) rfl rfl
theorem mq_2_222 : (Jvm.Cond.fieldLink "OutlookOddsModel" (66 : Nat) "OutlookOddsModel" "spread" "I") ∈ qT := qT_2 (k := 222) rfl rfl
theorem mq_2_223 : (Jvm.Cond.fieldLink "OutlookOddsModel" (69 : Nat) "OutlookOddsModel" "delay" "I") ∈ qT := qT_2 (k := 223) rfl rfl
theorem mq_2_224 : (Jvm.Cond.fieldLink "OutlookOddsModel" (72 : Nat) "OutlookOddsModel" "mark" "I") ∈ qT := qT_2 (k := 224) rfl rfl
theorem mq_2_225 : (Jvm.Cond.fieldLink "OutlookOddsModel" (101 : Nat) "OutlookOddsModel" "runs" "I") ∈ qT := qT_2 (k := 225) rfl rfl
theorem mq_2_226 : (Jvm.Cond.fieldLink "OutlookOddsModel" (92 : Nat) "OutlookOddsModel" "ranRule" "I") ∈ qT := qT_2 (k := 226) rfl rfl
theorem mq_2_227 : (Jvm.Cond.fieldLink "OutlookOddsModel" (95 : Nat) "OutlookOddsModel" "ranYears" "I") ∈ qT := qT_2 (k := 227) rfl rfl
theorem mq_2_228 : (Jvm.Cond.fieldLink "OutlookOddsModel" (98 : Nat) "OutlookOddsModel" "ranSeeds" "I") ∈ qT := qT_2 (k := 228) rfl rfl
theorem mq_2_229 : (Jvm.Cond.fieldLink "OutlookOddsModel" (36 : Nat) "OutlookOddsModel" "masses" "[J") ∈ qT := qT_2 (k := 229) rfl rfl
theorem mq_2_230 : (Jvm.Cond.fieldLink "OutlookOddsModel" (39 : Nat) "OutlookOddsModel" "caught" "[J") ∈ qT := qT_2 (k := 230) rfl rfl
theorem mq_2_231 : (Jvm.Cond.fieldLink "OutlookOddsModel" (42 : Nat) "OutlookOddsModel" "catches" "[J") ∈ qT := qT_2 (k := 231) rfl rfl
theorem mq_2_232 : (Jvm.Cond.fieldLink "OutlookOddsModel" (45 : Nat) "OutlookOddsModel" "seen" "[J") ∈ qT := qT_2 (k := 232) rfl rfl
theorem mq_2_233 : (Jvm.Cond.fieldLink "OutlookOddsModel" (48 : Nat) "OutlookOddsModel" "now" "[J") ∈ qT := qT_2 (k := 233) rfl rfl
theorem mq_2_234 : (Jvm.Cond.lays "OutlookOddsModel" "OutlookOddsModel" "thrown" "I") ∈ qT := qT_2 (k := 234) rfl rfl
theorem mq_2_235 : (Jvm.Cond.soleField "OutlookOddsModel" "thrown") ∈ qT := qT_2 (k := 235) rfl rfl
theorem mq_2_236 : (Jvm.Cond.laysFinal "OutlookOddsModel" "OutlookOddsModel" "numbers" "[J") ∈ qT := qT_2 (k := 236) rfl rfl
theorem mq_2_237 : (Jvm.Cond.soleField "OutlookOddsModel" "numbers") ∈ qT := qT_2 (k := 237) rfl rfl
theorem mq_2_238 : (Jvm.Cond.laysFinal "OutlookOddsModel" "OutlookOddsModel" "weights" "[J") ∈ qT := qT_2 (k := 238) rfl rfl
theorem mq_2_239 : (Jvm.Cond.soleField "OutlookOddsModel" "weights") ∈ qT := qT_2 (k := 239) rfl rfl
theorem mq_3_0 : (Jvm.Cond.laysFinal "OutlookOddsModel" "OutlookOddsModel" "ripe" "[J") ∈ qT := qT_3 (k := 0) rfl rfl
theorem mq_3_1 : (Jvm.Cond.soleField "OutlookOddsModel" "ripe") ∈ qT := qT_3 (k := 1) rfl rfl
theorem mq_3_2 : (Jvm.Cond.laysFinal "OutlookOddsModel" "OutlookOddsModel" "dies" "[J") ∈ qT := qT_3 (k := 2) rfl rfl
theorem mq_3_3 : (Jvm.Cond.soleField "OutlookOddsModel" "dies") ∈ qT := qT_3 (k := 3) rfl rfl
theorem mq_3_4 : (Jvm.Cond.lays "OutlookOddsModel" "OutlookOddsModel" "young" "I") ∈ qT := qT_3 (k := 4) rfl rfl
theorem mq_3_5 : (Jvm.Cond.soleField "OutlookOddsModel" "young") ∈ qT := qT_3 (k := 5) rfl rfl
theorem mq_3_6 : (Jvm.Cond.lays "OutlookOddsModel" "OutlookOddsModel" "rules" "I") ∈ qT := qT_3 (k := 6) rfl rfl
theorem mq_3_7 : (Jvm.Cond.soleField "OutlookOddsModel" "rules") ∈ qT := qT_3 (k := 7) rfl rfl
theorem mq_3_8 : (Jvm.Cond.laysFinal "OutlookOddsModel" "OutlookOddsModel" "lows" "[J") ∈ qT := qT_3 (k := 8) rfl rfl
theorem mq_3_9 : (Jvm.Cond.soleField "OutlookOddsModel" "lows") ∈ qT := qT_3 (k := 9) rfl rfl
theorem mq_3_10 : (Jvm.Cond.laysFinal "OutlookOddsModel" "OutlookOddsModel" "highs" "[J") ∈ qT := qT_3 (k := 10) rfl rfl
theorem mq_3_11 : (Jvm.Cond.soleField "OutlookOddsModel" "highs") ∈ qT := qT_3 (k := 11) rfl rfl
theorem mq_3_12 : (Jvm.Cond.laysFinal "OutlookOddsModel" "OutlookOddsModel" "rates" "[I") ∈ qT := qT_3 (k := 12) rfl rfl
theorem mq_3_13 : (Jvm.Cond.soleField "OutlookOddsModel" "rates") ∈ qT := qT_3 (k := 13) rfl rfl
theorem mq_3_14 : (Jvm.Cond.lays "OutlookOddsModel" "OutlookOddsModel" "change" "I") ∈ qT := qT_3 (k := 14) rfl rfl
theorem mq_3_15 : (Jvm.Cond.soleField "OutlookOddsModel" "change") ∈ qT := qT_3 (k := 15) rfl rfl
theorem mq_3_16 : (Jvm.Cond.lays "OutlookOddsModel" "OutlookOddsModel" "spread" "I") ∈ qT := qT_3 (k := 16) rfl rfl
theorem mq_3_17 : (Jvm.Cond.soleField "OutlookOddsModel" "spread") ∈ qT := qT_3 (k := 17) rfl rfl
theorem mq_3_18 : (Jvm.Cond.lays "OutlookOddsModel" "OutlookOddsModel" "delay" "I") ∈ qT := qT_3 (k := 18) rfl rfl
theorem mq_3_19 : (Jvm.Cond.soleField "OutlookOddsModel" "delay") ∈ qT := qT_3 (k := 19) rfl rfl
theorem mq_3_20 : (Jvm.Cond.lays "OutlookOddsModel" "OutlookOddsModel" "mark" "I") ∈ qT := qT_3 (k := 20) rfl rfl
theorem mq_3_21 : (Jvm.Cond.soleField "OutlookOddsModel" "mark") ∈ qT := qT_3 (k := 21) rfl rfl
theorem mq_3_22 : (Jvm.Cond.lays "OutlookOddsModel" "OutlookOddsModel" "runs" "I") ∈ qT := qT_3 (k := 22) rfl rfl
theorem mq_3_23 : (Jvm.Cond.soleField "OutlookOddsModel" "runs") ∈ qT := qT_3 (k := 23) rfl rfl
theorem mq_3_24 : (Jvm.Cond.lays "OutlookOddsModel" "OutlookOddsModel" "ranRule" "I") ∈ qT := qT_3 (k := 24) rfl rfl
theorem mq_3_25 : (Jvm.Cond.soleField "OutlookOddsModel" "ranRule") ∈ qT := qT_3 (k := 25) rfl rfl
theorem mq_3_26 : (Jvm.Cond.lays "OutlookOddsModel" "OutlookOddsModel" "ranYears" "I") ∈ qT := qT_3 (k := 26) rfl rfl
theorem mq_3_27 : (Jvm.Cond.soleField "OutlookOddsModel" "ranYears") ∈ qT := qT_3 (k := 27) rfl rfl
theorem mq_3_28 : (Jvm.Cond.lays "OutlookOddsModel" "OutlookOddsModel" "ranSeeds" "I") ∈ qT := qT_3 (k := 28) rfl rfl
theorem mq_3_29 : (Jvm.Cond.soleField "OutlookOddsModel" "ranSeeds") ∈ qT := qT_3 (k := 29) rfl rfl
theorem mq_3_30 : (Jvm.Cond.laysFinal "OutlookOddsModel" "OutlookOddsModel" "masses" "[J") ∈ qT := qT_3 (k := 30) rfl rfl
theorem mq_3_31 : (Jvm.Cond.soleField "OutlookOddsModel" "masses") ∈ qT := qT_3 (k := 31) rfl rfl
theorem mq_3_32 : (Jvm.Cond.laysFinal "OutlookOddsModel" "OutlookOddsModel" "caught" "[J") ∈ qT := qT_3 (k := 32) rfl rfl
theorem mq_3_33 : (Jvm.Cond.soleField "OutlookOddsModel" "caught") ∈ qT := qT_3 (k := 33) rfl rfl
theorem mq_3_34 : (Jvm.Cond.laysFinal "OutlookOddsModel" "OutlookOddsModel" "catches" "[J") ∈ qT := qT_3 (k := 34) rfl rfl
theorem mq_3_35 : (Jvm.Cond.soleField "OutlookOddsModel" "catches") ∈ qT := qT_3 (k := 35) rfl rfl
theorem mq_3_36 : (Jvm.Cond.laysFinal "OutlookOddsModel" "OutlookOddsModel" "seen" "[J") ∈ qT := qT_3 (k := 36) rfl rfl
theorem mq_3_37 : (Jvm.Cond.soleField "OutlookOddsModel" "seen") ∈ qT := qT_3 (k := 37) rfl rfl
theorem mq_3_38 : (Jvm.Cond.laysFinal "OutlookOddsModel" "OutlookOddsModel" "now" "[J") ∈ qT := qT_3 (k := 38) rfl rfl
theorem mq_3_39 : (Jvm.Cond.soleField "OutlookOddsModel" "now") ∈ qT := qT_3 (k := 39) rfl rfl
theorem mq_3_41 : (Jvm.Cond.methodLink "OutlookOddsLaw" (79 : Nat) ({ cls := "OutlookOddsModel", name := "thrown", desc := "()I" } : Jvm.MethodName)) ∈ qT := qT_3 (k := 41) rfl rfl
theorem mq_3_42 : (Jvm.Cond.instanceMethod ({ cls := "OutlookOddsModel", name := "thrown", desc := "()I" } : Jvm.MethodName)) ∈ qT := qT_3 (k := 42) rfl rfl
theorem mq_3_43 : (Jvm.Cond.selects "OutlookOddsModel" ({ cls := "OutlookOddsModel", name := "thrown", desc := "()I" } : Jvm.MethodName) ({ cls := "OutlookOddsModel", name := "thrown", desc := "()I" } : Jvm.MethodName)) ∈ qT := qT_3 (k := 43) rfl rfl
theorem mq_3_44 : (Jvm.Cond.code ({ cls := "OutlookOddsModel", name := "thrown", desc := "()I" } : Jvm.MethodName) prog_5_method_2_code (1 : Nat) (Option.some Jvm.ClassFile.FieldType.int)) ∈ qT := qT_3 (k := 44) rfl rfl
theorem mq_3_45 : (Jvm.Cond.methodLink "OutlookOddsLaw" (78 : Nat) ({ cls := "OutlookOddsModel", name := "age", desc := "(IIIII)V" } : Jvm.MethodName)) ∈ qT := qT_3 (k := 45) rfl rfl
theorem mq_3_46 : (Jvm.Cond.instanceMethod ({ cls := "OutlookOddsModel", name := "age", desc := "(IIIII)V" } : Jvm.MethodName)) ∈ qT := qT_3 (k := 46) rfl rfl
theorem mq_3_47 : (Jvm.Cond.selects "OutlookOddsModel" ({ cls := "OutlookOddsModel", name := "age", desc := "(IIIII)V" } : Jvm.MethodName) ({ cls := "OutlookOddsModel", name := "age", desc := "(IIIII)V" } : Jvm.MethodName)) ∈ qT := qT_3 (k := 47) rfl rfl
theorem mq_3_48 : (Jvm.Cond.code ({ cls := "OutlookOddsModel", name := "age", desc := "(IIIII)V" } : Jvm.MethodName) prog_5_method_4_code (7 : Nat) (Option.none : Option Jvm.ClassFile.FieldType)) ∈ qT := qT_3 (k := 48) rfl rfl
theorem mq_3_49 : (Jvm.Cond.constant "OutlookOddsModel" (54 : Nat) (100000 : Int32)) ∈ qT := qT_3 (k := 49) rfl rfl
theorem mq_3_50 : (Jvm.Cond.methodLink "OutlookOddsModel" (55 : Nat) ({ cls := "OutlookOddsModel", name := "isIn", desc := "(III)Z" } : Jvm.MethodName)) ∈ qT := qT_3 (k := 50) rfl rfl
theorem mq_3_51 : (Jvm.Cond.static ({ cls := "OutlookOddsModel", name := "isIn", desc := "(III)Z" } : Jvm.MethodName)) ∈ qT := qT_3 (k := 51) rfl rfl
theorem mq_3_52 : (Jvm.Cond.code ({ cls := "OutlookOddsModel", name := "isIn", desc := "(III)Z" } : Jvm.MethodName) prog_5_method_3_code (3 : Nat) (Option.some Jvm.ClassFile.FieldType.boolean)) ∈ qT := qT_3 (k := 52) rfl rfl
theorem mq_3_53 : (Jvm.Cond.methodLink "OutlookOddsLaw" (85 : Nat) ({ cls := "OutlookOddsModel", name := "young", desc := "(I)I" } : Jvm.MethodName)) ∈ qT := qT_3 (k := 53) rfl rfl
theorem mq_3_54 : (Jvm.Cond.instanceMethod ({ cls := "OutlookOddsModel", name := "young", desc := "(I)I" } : Jvm.MethodName)) ∈ qT := qT_3 (k := 54) rfl rfl
theorem mq_3_55 : (Jvm.Cond.selects "OutlookOddsModel" ({ cls := "OutlookOddsModel", name := "young", desc := "(I)I" } : Jvm.MethodName) ({ cls := "OutlookOddsModel", name := "young", desc := "(I)I" } : Jvm.MethodName)) ∈ qT := qT_3 (k := 55) rfl rfl
theorem mq_3_56 : (Jvm.Cond.code ({ cls := "OutlookOddsModel", name := "young", desc := "(I)I" } : Jvm.MethodName) prog_5_method_5_code (3 : Nat) (Option.some Jvm.ClassFile.FieldType.int)) ∈ qT := qT_3 (k := 56) rfl rfl
theorem mq_3_57 : (Jvm.Cond.methodLink "OutlookOddsLaw" (89 : Nat) ({ cls := "OutlookOddsModel", name := "rule", desc := "(III)I" } : Jvm.MethodName)) ∈ qT := qT_3 (k := 57) rfl rfl
theorem mq_3_58 : (Jvm.Cond.instanceMethod ({ cls := "OutlookOddsModel", name := "rule", desc := "(III)I" } : Jvm.MethodName)) ∈ qT := qT_3 (k := 58) rfl rfl
theorem mq_3_59 : (Jvm.Cond.selects "OutlookOddsModel" ({ cls := "OutlookOddsModel", name := "rule", desc := "(III)I" } : Jvm.MethodName) ({ cls := "OutlookOddsModel", name := "rule", desc := "(III)I" } : Jvm.MethodName)) ∈ qT := qT_3 (k := 59) rfl rfl
theorem mq_3_60 : (Jvm.Cond.code ({ cls := "OutlookOddsModel", name := "rule", desc := "(III)I" } : Jvm.MethodName) prog_5_method_6_code (5 : Nat) (Option.some Jvm.ClassFile.FieldType.int)) ∈ qT := qT_3 (k := 60) rfl rfl
theorem mq_3_61 : (Jvm.Cond.constant "OutlookOddsModel" (62 : Nat) (2000000000 : Int32)) ∈ qT := qT_3 (k := 61) rfl rfl
theorem mq_3_62 : (Jvm.Cond.methodLink "OutlookOddsLaw" (92 : Nat) ({ cls := "OutlookOddsModel", name := "change", desc := "(I)I" } : Jvm.MethodName)) ∈ qT := qT_3 (k := 62) rfl rfl
theorem mq_3_63 : (Jvm.Cond.instanceMethod ({ cls := "OutlookOddsModel", name := "change", desc := "(I)I" } : Jvm.MethodName)) ∈ qT := qT_3 (k := 63) rfl rfl
theorem mq_3_64 : (Jvm.Cond.selects "OutlookOddsModel" ({ cls := "OutlookOddsModel", name := "change", desc := "(I)I" } : Jvm.MethodName) ({ cls := "OutlookOddsModel", name := "change", desc := "(I)I" } : Jvm.MethodName)) ∈ qT := qT_3 (k := 64) rfl rfl
theorem mq_3_65 : (Jvm.Cond.code ({ cls := "OutlookOddsModel", name := "change", desc := "(I)I" } : Jvm.MethodName) prog_5_method_7_code (3 : Nat) (Option.some Jvm.ClassFile.FieldType.int)) ∈ qT := qT_3 (k := 65) rfl rfl
theorem mq_3_66 : (Jvm.Cond.methodLink "OutlookOddsLaw" (96 : Nat) ({ cls := "OutlookOddsModel", name := "error", desc := "(II)V" } : Jvm.MethodName)) ∈ qT := qT_3 (k := 66) rfl rfl
theorem mq_3_67 : (Jvm.Cond.instanceMethod ({ cls := "OutlookOddsModel", name := "error", desc := "(II)V" } : Jvm.MethodName)) ∈ qT := qT_3 (k := 67) rfl rfl
theorem mq_3_68 : (Jvm.Cond.selects "OutlookOddsModel" ({ cls := "OutlookOddsModel", name := "error", desc := "(II)V" } : Jvm.MethodName) ({ cls := "OutlookOddsModel", name := "error", desc := "(II)V" } : Jvm.MethodName)) ∈ qT := qT_3 (k := 68) rfl rfl
theorem mq_3_69 : (Jvm.Cond.code ({ cls := "OutlookOddsModel", name := "error", desc := "(II)V" } : Jvm.MethodName) prog_5_method_8_code (3 : Nat) (Option.none : Option Jvm.ClassFile.FieldType)) ∈ qT := qT_3 (k := 69) rfl rfl
theorem mq_3_70 : (Jvm.Cond.methodLink "OutlookOddsLaw" (99 : Nat) ({ cls := "OutlookOddsModel", name := "mark", desc := "(I)I" } : Jvm.MethodName)) ∈ qT := qT_3 (k := 70) rfl rfl
theorem mq_3_71 : (Jvm.Cond.instanceMethod ({ cls := "OutlookOddsModel", name := "mark", desc := "(I)I" } : Jvm.MethodName)) ∈ qT := qT_3 (k := 71) rfl rfl
theorem mq_3_72 : (Jvm.Cond.selects "OutlookOddsModel" ({ cls := "OutlookOddsModel", name := "mark", desc := "(I)I" } : Jvm.MethodName) ({ cls := "OutlookOddsModel", name := "mark", desc := "(I)I" } : Jvm.MethodName)) ∈ qT := qT_3 (k := 72) rfl rfl
theorem mq_3_73 : (Jvm.Cond.code ({ cls := "OutlookOddsModel", name := "mark", desc := "(I)I" } : Jvm.MethodName) prog_5_method_9_code (3 : Nat) (Option.some Jvm.ClassFile.FieldType.int)) ∈ qT := qT_3 (k := 73) rfl rfl
theorem mq_3_74 : (Jvm.Cond.methodLink "OutlookOddsLaw" (103 : Nat) ({ cls := "OutlookOddsModel", name := "draw", desc := "(III)I" } : Jvm.MethodName)) ∈ qT := qT_3 (k := 74) rfl rfl
theorem mq_3_75 : (Jvm.Cond.instanceMethod ({ cls := "OutlookOddsModel", name := "draw", desc := "(III)I" } : Jvm.MethodName)) ∈ qT := qT_3 (k := 75) rfl rfl
theorem mq_3_76 : (Jvm.Cond.selects "OutlookOddsModel" ({ cls := "OutlookOddsModel", name := "draw", desc := "(III)I" } : Jvm.MethodName) ({ cls := "OutlookOddsModel", name := "draw", desc := "(III)I" } : Jvm.MethodName)) ∈ qT := qT_3 (k := 76) rfl rfl
theorem mq_3_77 : (Jvm.Cond.code ({ cls := "OutlookOddsModel", name := "draw", desc := "(III)I" } : Jvm.MethodName) prog_5_method_11_code (4 : Nat) (Option.some Jvm.ClassFile.FieldType.int)) ∈ qT := qT_3 (k := 77) rfl rfl
theorem mq_3_78 : (Jvm.Cond.methodLink "OutlookOddsModel" (76 : Nat) ({ cls := "OutlookOddsModel", name := "drawn", desc := "(III)I" } : Jvm.MethodName)) ∈ qT := qT_3 (k := 78) rfl rfl
theorem mq_3_79 : (Jvm.Cond.static ({ cls := "OutlookOddsModel", name := "drawn", desc := "(III)I" } : Jvm.MethodName)) ∈ qT := qT_3 (k := 79) rfl rfl
theorem mq_3_80 : (Jvm.Cond.code ({ cls := "OutlookOddsModel", name := "drawn", desc := "(III)I" } : Jvm.MethodName) prog_5_method_10_code (5 : Nat) (Option.some Jvm.ClassFile.FieldType.int)) ∈ qT := qT_3 (k := 80) rfl rfl
theorem mq_3_81 : (Jvm.Cond.constant "OutlookOddsModel" (75 : Nat) (1103515245 : Int32)) ∈ qT := qT_3 (k := 81) rfl rfl
theorem mq_3_82 : (Jvm.Cond.methodLink "OutlookOddsLaw" (106 : Nat) ({ cls := "OutlookOddsModel", name := "run", desc := "(III)I" } : Jvm.MethodName)) ∈ qT := qT_3 (k := 82) rfl rfl
theorem mq_3_83 : (Jvm.Cond.instanceMethod ({ cls := "OutlookOddsModel", name := "run", desc := "(III)I" } : Jvm.MethodName)) ∈ qT := qT_3 (k := 83) rfl rfl
theorem mq_3_84 : (Jvm.Cond.selects "OutlookOddsModel" ({ cls := "OutlookOddsModel", name := "run", desc := "(III)I" } : Jvm.MethodName) ({ cls := "OutlookOddsModel", name := "run", desc := "(III)I" } : Jvm.MethodName)) ∈ qT := qT_3 (k := 84) rfl rfl
theorem mq_3_85 : (Jvm.Cond.code ({ cls := "OutlookOddsModel", name := "run", desc := "(III)I" } : Jvm.MethodName) prog_5_method_15_code (8 : Nat) (Option.some Jvm.ClassFile.FieldType.int)) ∈ qT := qT_3 (k := 85) rfl rfl
theorem mq_3_86 : (Jvm.Cond.methodLink "OutlookOddsModel" (104 : Nat) ({ cls := "OutlookOddsModel", name := "go", desc := "(IIIII)V" } : Jvm.MethodName)) ∈ qT := qT_3 (k := 86) rfl rfl
theorem mq_3_88 : (Jvm.Cond.instanceMethod ({ cls := "OutlookOddsModel", name := "go", desc := "(IIIII)V" } : Jvm.MethodName)) ∈ qT := qT_3 (k := 88) rfl rfl
theorem mq_3_89 : (Jvm.Cond.code ({ cls := "OutlookOddsModel", name := "go", desc := "(IIIII)V" } : Jvm.MethodName) prog_5_method_14_code (8 : Nat) (Option.none : Option Jvm.ClassFile.FieldType)) ∈ qT := qT_3 (k := 89) rfl rfl
theorem mq_3_90 : (Jvm.Cond.methodLink "OutlookOddsModel" (88 : Nat) ({ cls := "OutlookOddsModel", name := "year", desc := "(IIIII)V" } : Jvm.MethodName)) ∈ qT := qT_3 (k := 90) rfl rfl
theorem mq_3_92 : (Jvm.Cond.instanceMethod ({ cls := "OutlookOddsModel", name := "year", desc := "(IIIII)V" } : Jvm.MethodName)) ∈ qT := qT_3 (k := 92) rfl rfl
theorem mq_3_93 : (Jvm.Cond.code ({ cls := "OutlookOddsModel", name := "year", desc := "(IIIII)V" } : Jvm.MethodName) prog_5_method_13_code (18 : Nat) (Option.none : Option Jvm.ClassFile.FieldType)) ∈ qT := qT_3 (k := 93) rfl rfl
theorem mq_3_94 : (Jvm.Cond.constantLong "OutlookOddsModel" (80 : Nat) (1000 : Int64)) ∈ qT := qT_3 (k := 94) rfl rfl
theorem mq_3_95 : (Jvm.Cond.constantLong "OutlookOddsModel" (82 : Nat) (100 : Int64)) ∈ qT := qT_3 (k := 95) rfl rfl
theorem mq_3_96 : (Jvm.Cond.methodLink "OutlookOddsModel" (84 : Nat) ({ cls := "OutlookOddsModel", name := "allowed", desc := "(IIJ)J" } : Jvm.MethodName)) ∈ qT := qT_3 (k := 96) rfl rfl
theorem mq_3_98 : (Jvm.Cond.instanceMethod ({ cls := "OutlookOddsModel", name := "allowed", desc := "(IIJ)J" } : Jvm.MethodName)) ∈ qT := qT_3 (k := 98) rfl rfl
theorem mq_3_99 : (Jvm.Cond.code ({ cls := "OutlookOddsModel", name := "allowed", desc := "(IIJ)J" } : Jvm.MethodName) prog_5_method_12_code (5 : Nat) (Option.some Jvm.ClassFile.FieldType.long)) ∈ qT := qT_3 (k := 99) rfl rfl
theorem mq_3_100 : (Jvm.Cond.methodLink "OutlookOddsLaw" (109 : Nat) ({ cls := "OutlookOddsModel", name := "told", desc := "(III)J" } : Jvm.MethodName)) ∈ qT := qT_3 (k := 100) rfl rfl
theorem mq_3_101 : (Jvm.Cond.instanceMethod ({ cls := "OutlookOddsModel", name := "told", desc := "(III)J" } : Jvm.MethodName)) ∈ qT := qT_3 (k := 101) rfl rfl
theorem mq_3_102 : (Jvm.Cond.selects "OutlookOddsModel" ({ cls := "OutlookOddsModel", name := "told", desc := "(III)J" } : Jvm.MethodName) ({ cls := "OutlookOddsModel", name := "told", desc := "(III)J" } : Jvm.MethodName)) ∈ qT := qT_3 (k := 102) rfl rfl
theorem mq_3_103 : (Jvm.Cond.code ({ cls := "OutlookOddsModel", name := "told", desc := "(III)J" } : Jvm.MethodName) prog_5_method_18_code (5 : Nat) (Option.some Jvm.ClassFile.FieldType.long)) ∈ qT := qT_3 (k := 103) rfl rfl
theorem mq_3_104 : (Jvm.Cond.methodLink "OutlookOddsModel" (107 : Nat) ({ cls := "OutlookOddsModel", name := "noSeed", desc := "(I)Z" } : Jvm.MethodName)) ∈ qT := qT_3 (k := 104) rfl rfl
theorem mq_3_106 : (Jvm.Cond.instanceMethod ({ cls := "OutlookOddsModel", name := "noSeed", desc := "(I)Z" } : Jvm.MethodName)) ∈ qT := qT_3 (k := 106) rfl rfl
theorem mq_3_107 : (Jvm.Cond.code ({ cls := "OutlookOddsModel", name := "noSeed", desc := "(I)Z" } : Jvm.MethodName) prog_5_method_17_code (2 : Nat) (Option.some Jvm.ClassFile.FieldType.boolean)) ∈ qT := qT_3 (k := 107) rfl rfl
theorem mq_3_108 : (Jvm.Cond.methodLink "OutlookOddsModel" (111 : Nat) ({ cls := "OutlookOddsModel", name := "noYear", desc := "(I)Z" } : Jvm.MethodName)) ∈ qT := qT_3 (k := 108) rfl rfl
theorem mq_3_110 : (Jvm.Cond.instanceMethod ({ cls := "OutlookOddsModel", name := "noYear", desc := "(I)Z" } : Jvm.MethodName)) ∈ qT := qT_3 (k := 110) rfl rfl
theorem mq_3_111 : (Jvm.Cond.code ({ cls := "OutlookOddsModel", name := "noYear", desc := "(I)Z" } : Jvm.MethodName) prog_5_method_16_code (2 : Nat) (Option.some Jvm.ClassFile.FieldType.boolean)) ∈ qT := qT_3 (k := 111) rfl rfl
theorem mq_3_112 : (Jvm.Cond.methodLink "OutlookOddsLaw" (113 : Nat) ({ cls := "OutlookOddsModel", name := "below", desc := "(II)I" } : Jvm.MethodName)) ∈ qT := qT_3 (k := 112) rfl rfl
theorem mq_3_113 : (Jvm.Cond.instanceMethod ({ cls := "OutlookOddsModel", name := "below", desc := "(II)I" } : Jvm.MethodName)) ∈ qT := qT_3 (k := 113) rfl rfl
theorem mq_3_114 : (Jvm.Cond.selects "OutlookOddsModel" ({ cls := "OutlookOddsModel", name := "below", desc := "(II)I" } : Jvm.MethodName) ({ cls := "OutlookOddsModel", name := "below", desc := "(II)I" } : Jvm.MethodName)) ∈ qT := qT_3 (k := 114) rfl rfl
theorem mq_3_115 : (Jvm.Cond.code ({ cls := "OutlookOddsModel", name := "below", desc := "(II)I" } : Jvm.MethodName) prog_5_method_20_code (5 : Nat) (Option.some Jvm.ClassFile.FieldType.int)) ∈ qT := qT_3 (k := 115) rfl rfl
theorem mq_3_116 : (Jvm.Cond.methodLink "OutlookOddsModel" (114 : Nat) ({ cls := "OutlookOddsModel", name := "part", desc := "(JJI)J" } : Jvm.MethodName)) ∈ qT := qT_3 (k := 116) rfl rfl
theorem mq_3_117 : (Jvm.Cond.static ({ cls := "OutlookOddsModel", name := "part", desc := "(JJI)J" } : Jvm.MethodName)) ∈ qT := qT_3 (k := 117) rfl rfl
theorem mq_3_118 : (Jvm.Cond.code ({ cls := "OutlookOddsModel", name := "part", desc := "(JJI)J" } : Jvm.MethodName) prog_5_method_19_code (11 : Nat) (Option.some Jvm.ClassFile.FieldType.long)) ∈ qT := qT_3 (k := 118) rfl rfl
theorem mq_3_119 : (Jvm.Cond.methodLink "OutlookOddsLaw" (116 : Nat) ({ cls := "OutlookOddsModel", name := "steady", desc := "(I)J" } : Jvm.MethodName)) ∈ qT := qT_3 (k := 119) rfl rfl
theorem mq_3_120 : (Jvm.Cond.instanceMethod ({ cls := "OutlookOddsModel", name := "steady", desc := "(I)J" } : Jvm.MethodName)) ∈ qT := qT_3 (k := 120) rfl rfl
theorem mq_3_121 : (Jvm.Cond.selects "OutlookOddsModel" ({ cls := "OutlookOddsModel", name := "steady", desc := "(I)J" } : Jvm.MethodName) ({ cls := "OutlookOddsModel", name := "steady", desc := "(I)J" } : Jvm.MethodName)) ∈ qT := qT_3 (k := 121) rfl rfl
theorem mq_3_122 : (Jvm.Cond.code ({ cls := "OutlookOddsModel", name := "steady", desc := "(I)J" } : Jvm.MethodName) prog_5_method_21_code (7 : Nat) (Option.some Jvm.ClassFile.FieldType.long)) ∈ qT := qT_3 (k := 122) rfl rfl
theorem mq_3_123 : (Jvm.Cond.methodLink "OutlookOddsLaw" (119 : Nat) ({ cls := "OutlookOddsModel", name := "recovers", desc := "(II)I" } : Jvm.MethodName)) ∈ qT := qT_3 (k := 123) rfl rfl
theorem mq_3_124 : (Jvm.Cond.instanceMethod ({ cls := "OutlookOddsModel", name := "recovers", desc := "(II)I" } : Jvm.MethodName)) ∈ qT := qT_3 (k := 124) rfl rfl
theorem mq_3_125 : (Jvm.Cond.selects "OutlookOddsModel" ({ cls := "OutlookOddsModel", name := "recovers", desc := "(II)I" } : Jvm.MethodName) ({ cls := "OutlookOddsModel", name := "recovers", desc := "(II)I" } : Jvm.MethodName)) ∈ qT := qT_3 (k := 125) rfl rfl
theorem mq_3_126 : (Jvm.Cond.code ({ cls := "OutlookOddsModel", name := "recovers", desc := "(II)I" } : Jvm.MethodName) prog_5_method_22_code (6 : Nat) (Option.some Jvm.ClassFile.FieldType.int)) ∈ qT := qT_3 (k := 126) rfl rfl
theorem mq_3_127 : (Jvm.Cond.methodLink "OutlookOddsLaw" (122 : Nat) ({ cls := "OutlookOddsModel", name := "rank", desc := "(II)J" } : Jvm.MethodName)) ∈ qT := qT_3 (k := 127) rfl rfl
theorem mq_3_128 : (Jvm.Cond.instanceMethod ({ cls := "OutlookOddsModel", name := "rank", desc := "(II)J" } : Jvm.MethodName)) ∈ qT := qT_3 (k := 128) rfl rfl
theorem mq_3_129 : (Jvm.Cond.selects "OutlookOddsModel" ({ cls := "OutlookOddsModel", name := "rank", desc := "(II)J" } : Jvm.MethodName) ({ cls := "OutlookOddsModel", name := "rank", desc := "(II)J" } : Jvm.MethodName)) ∈ qT := qT_3 (k := 129) rfl rfl
theorem mq_3_130 : (Jvm.Cond.code ({ cls := "OutlookOddsModel", name := "rank", desc := "(II)J" } : Jvm.MethodName) prog_5_method_23_code (8 : Nat) (Option.some Jvm.ClassFile.FieldType.long)) ∈ qT := qT_3 (k := 130) rfl rfl
theorem mq_3_131 : (Jvm.Cond.methodLink "OutlookOddsLaw" (125 : Nat) ({ cls := "OutlookOddsModel", name := "mean", desc := "(II)J" } : Jvm.MethodName)) ∈ qT := qT_3 (k := 131) rfl rfl
theorem mq_3_132 : (Jvm.Cond.instanceMethod ({ cls := "OutlookOddsModel", name := "mean", desc := "(II)J" } : Jvm.MethodName)) ∈ qT := qT_3 (k := 132) rfl rfl
theorem mq_3_133 : (Jvm.Cond.selects "OutlookOddsModel" ({ cls := "OutlookOddsModel", name := "mean", desc := "(II)J" } : Jvm.MethodName) ({ cls := "OutlookOddsModel", name := "mean", desc := "(II)J" } : Jvm.MethodName)) ∈ qT := qT_3 (k := 133) rfl rfl
theorem mq_3_134 : (Jvm.Cond.code ({ cls := "OutlookOddsModel", name := "mean", desc := "(II)J" } : Jvm.MethodName) prog_5_method_25_code (6 : Nat) (Option.some Jvm.ClassFile.FieldType.long)) ∈ qT := qT_3 (k := 134) rfl rfl
theorem mq_3_135 : (Jvm.Cond.methodLink "OutlookOddsModel" (118 : Nat) ({ cls := "OutlookOddsModel", name := "allCaught", desc := "(I)J" } : Jvm.MethodName)) ∈ qT := qT_3 (k := 135) rfl rfl
theorem mq_3_137 : (Jvm.Cond.instanceMethod ({ cls := "OutlookOddsModel", name := "allCaught", desc := "(I)J" } : Jvm.MethodName)) ∈ qT := qT_3 (k := 137) rfl rfl
theorem mq_3_138 : (Jvm.Cond.code ({ cls := "OutlookOddsModel", name := "allCaught", desc := "(I)J" } : Jvm.MethodName) prog_5_method_24_code (6 : Nat) (Option.some Jvm.ClassFile.FieldType.long)) ∈ qT := qT_3 (k := 138) rfl rfl
theorem mq_3_139 : (Jvm.Cond.methodLink "OutlookOddsLaw" (128 : Nat) ({ cls := "OutlookOddsModel", name := "table", desc := "(I)J" } : Jvm.MethodName)) ∈ qT := qT_3 (k := 139) rfl rfl
theorem mq_3_140 : (Jvm.Cond.instanceMethod ({ cls := "OutlookOddsModel", name := "table", desc := "(I)J" } : Jvm.MethodName)) ∈ qT := qT_3 (k := 140) rfl rfl
theorem mq_3_141 : (Jvm.Cond.selects "OutlookOddsModel" ({ cls := "OutlookOddsModel", name := "table", desc := "(I)J" } : Jvm.MethodName) ({ cls := "OutlookOddsModel", name := "table", desc := "(I)J" } : Jvm.MethodName)) ∈ qT := qT_3 (k := 141) rfl rfl
theorem mq_3_142 : (Jvm.Cond.code ({ cls := "OutlookOddsModel", name := "table", desc := "(I)J" } : Jvm.MethodName) prog_5_method_27_code (2 : Nat) (Option.some Jvm.ClassFile.FieldType.long)) ∈ qT := qT_3 (k := 142) rfl rfl
theorem mq_3_143 : (Jvm.Cond.methodLink "OutlookOddsModel" (122 : Nat) ({ cls := "OutlookOddsModel", name := "tableOf", desc := "(I)J" } : Jvm.MethodName)) ∈ qT := qT_3 (k := 143) rfl rfl
theorem mq_3_145 : (Jvm.Cond.instanceMethod ({ cls := "OutlookOddsModel", name := "tableOf", desc := "(I)J" } : Jvm.MethodName)) ∈ qT := qT_3 (k := 145) rfl rfl
theorem mq_3_146 : (Jvm.Cond.code ({ cls := "OutlookOddsModel", name := "tableOf", desc := "(I)J" } : Jvm.MethodName) prog_5_method_26_code (2 : Nat) (Option.some Jvm.ClassFile.FieldType.long)) ∈ qT := qT_3 (k := 146) rfl rfl
theorem mq_3_147 : (Jvm.Cond.methodLink "OutlookOddsLaw" (132 : Nat) ({ cls := "OutlookOddsModel", name := "top", desc := "()I" } : Jvm.MethodName)) ∈ qT := qT_3 (k := 147) rfl rfl
theorem mq_3_148 : (Jvm.Cond.instanceMethod ({ cls := "OutlookOddsModel", name := "top", desc := "()I" } : Jvm.MethodName)) ∈ qT := qT_3 (k := 148) rfl rfl
theorem mq_3_149 : (Jvm.Cond.selects "OutlookOddsModel" ({ cls := "OutlookOddsModel", name := "top", desc := "()I" } : Jvm.MethodName) ({ cls := "OutlookOddsModel", name := "top", desc := "()I" } : Jvm.MethodName)) ∈ qT := qT_3 (k := 149) rfl rfl
theorem mq_3_150 : (Jvm.Cond.code ({ cls := "OutlookOddsModel", name := "top", desc := "()I" } : Jvm.MethodName) prog_5_method_28_code (7 : Nat) (Option.some Jvm.ClassFile.FieldType.int)) ∈ qT := qT_3 (k := 150) rfl rfl
theorem mq_3_151 : (Jvm.Cond.constantLong "OutlookOddsModel" (125 : Nat) (-1 : Int64)) ∈ qT := qT_3 (k := 151) rfl rfl
theorem mq_3_152 : (Jvm.Cond.methodLink "OutlookOddsLaw" (136 : Nat) ({ cls := "OutlookOddsModel", name := "count", desc := "(I)I" } : Jvm.MethodName)) ∈ qT := qT_3 (k := 152) rfl rfl
theorem mq_3_153 : (Jvm.Cond.instanceMethod ({ cls := "OutlookOddsModel", name := "count", desc := "(I)I" } : Jvm.MethodName)) ∈ qT := qT_3 (k := 153) rfl rfl
theorem mq_3_154 : (Jvm.Cond.selects "OutlookOddsModel" ({ cls := "OutlookOddsModel", name := "count", desc := "(I)I" } : Jvm.MethodName) ({ cls := "OutlookOddsModel", name := "count", desc := "(I)I" } : Jvm.MethodName)) ∈ qT := qT_3 (k := 154) rfl rfl
theorem mq_3_155 : (Jvm.Cond.code ({ cls := "OutlookOddsModel", name := "count", desc := "(I)I" } : Jvm.MethodName) prog_5_method_29_code (2 : Nat) (Option.some Jvm.ClassFile.FieldType.int)) ∈ qT := qT_3 (k := 155) rfl rfl
theorem mq_p_0 : Cond.selects "java/lang/Throwable" ({ cls := "java/lang/Throwable", name := "fillInStackTrace", desc := "(I)Ljava/lang/Throwable;" } : MethodName) ({ cls := "java/lang/Throwable", name := "fillInStackTrace", desc := "(I)Ljava/lang/Throwable;" } : MethodName) ∈ qT := qT_p (k := 0) rfl rfl
theorem mq_p_1 : Cond.selects "OutlookOdds" ({ cls := "OutlookOdds", name := "runAllSeeds", desc := "(LOutlookOdds$Story;I)V" } : MethodName) ({ cls := "OutlookOdds", name := "runAllSeeds", desc := "(LOutlookOdds$Story;I)V" } : MethodName) ∈ qT := qT_p (k := 1) rfl rfl
theorem mq_p_2 : Cond.selects "OutlookOdds" ({ cls := "OutlookOdds", name := "runYear", desc := "(LOutlookOdds$Story;III)V" } : MethodName) ({ cls := "OutlookOdds", name := "runYear", desc := "(LOutlookOdds$Story;III)V" } : MethodName) ∈ qT := qT_p (k := 2) rfl rfl
theorem mq_p_3 : Cond.selects "OutlookOdds" ({ cls := "OutlookOdds", name := "massSeen", desc := "(LOutlookOdds$Story;II)J" } : MethodName) ({ cls := "OutlookOdds", name := "massSeen", desc := "(LOutlookOdds$Story;II)J" } : MethodName) ∈ qT := qT_p (k := 3) rfl rfl
theorem mq_p_4 : Cond.selects "OutlookOdds" ({ cls := "OutlookOdds", name := "rateAllowed", desc := "(JI)J" } : MethodName) ({ cls := "OutlookOdds", name := "rateAllowed", desc := "(JI)J" } : MethodName) ∈ qT := qT_p (k := 4) rfl rfl
theorem mq_p_5 : Cond.selects "OutlookOdds" ({ cls := "OutlookOdds", name := "limitChange", desc := "(LOutlookOdds$Story;JII)J" } : MethodName) ({ cls := "OutlookOdds", name := "limitChange", desc := "(LOutlookOdds$Story;JII)J" } : MethodName) ∈ qT := qT_p (k := 5) rfl rfl
theorem mq_p_6 : Cond.selects "OutlookOdds" ({ cls := "OutlookOdds", name := "youngBorn", desc := "(II)J" } : MethodName) ({ cls := "OutlookOdds", name := "youngBorn", desc := "(II)J" } : MethodName) ∈ qT := qT_p (k := 6) rfl rfl
theorem mq_p_7 : Cond.selects "OutlookOdds" ({ cls := "OutlookOdds", name := "seedsEverBelowMark", desc := "()I" } : MethodName) ({ cls := "OutlookOdds", name := "seedsEverBelowMark", desc := "()I" } : MethodName) ∈ qT := qT_p (k := 7) rfl rfl
theorem mq_p_8 : Cond.selects "OutlookOdds" ({ cls := "OutlookOdds", name := "isEverBelowMark", desc := "(I)Z" } : MethodName) ({ cls := "OutlookOdds", name := "isEverBelowMark", desc := "(I)Z" } : MethodName) ∈ qT := qT_p (k := 8) rfl rfl
theorem mq_p_9 : Cond.selects "OutlookOdds" ({ cls := "OutlookOdds", name := "isBelowMark", desc := "(II)Z" } : MethodName) ({ cls := "OutlookOdds", name := "isBelowMark", desc := "(II)Z" } : MethodName) ∈ qT := qT_p (k := 9) rfl rfl
theorem mq_p_10 : Cond.selects "OutlookOdds" ({ cls := "OutlookOdds", name := "requireRun", desc := "()V" } : MethodName) ({ cls := "OutlookOdds", name := "requireRun", desc := "()V" } : MethodName) ∈ qT := qT_p (k := 10) rfl rfl
theorem mq_p_11 : Cond.selects "OutlookOdds" ({ cls := "OutlookOdds", name := "putInOrder", desc := "(IJ)V" } : MethodName) ({ cls := "OutlookOdds", name := "putInOrder", desc := "(IJ)V" } : MethodName) ∈ qT := qT_p (k := 11) rfl rfl
theorem mq_p_12 : Cond.selects "OutlookOdds" ({ cls := "OutlookOdds", name := "sumOf", desc := "(LOutlookOdds$Story;II)J" } : MethodName) ({ cls := "OutlookOdds", name := "sumOf", desc := "(LOutlookOdds$Story;II)J" } : MethodName) ∈ qT := qT_p (k := 12) rfl rfl
theorem mq_p_13 : Cond.selects "OutlookOdds" ({ cls := "OutlookOdds", name := "caughtAtRate", desc := "(I)J" } : MethodName) ({ cls := "OutlookOdds", name := "caughtAtRate", desc := "(I)J" } : MethodName) ∈ qT := qT_p (k := 13) rfl rfl
theorem mq_p_14 : Cond.selects "OutlookOddsModel" ({ cls := "OutlookOddsModel", name := "go", desc := "(IIIII)V" } : MethodName) ({ cls := "OutlookOddsModel", name := "go", desc := "(IIIII)V" } : MethodName) ∈ qT := qT_p (k := 14) rfl rfl
theorem mq_p_15 : Cond.selects "OutlookOddsModel" ({ cls := "OutlookOddsModel", name := "year", desc := "(IIIII)V" } : MethodName) ({ cls := "OutlookOddsModel", name := "year", desc := "(IIIII)V" } : MethodName) ∈ qT := qT_p (k := 15) rfl rfl
theorem mq_p_16 : Cond.selects "OutlookOddsModel" ({ cls := "OutlookOddsModel", name := "allowed", desc := "(IIJ)J" } : MethodName) ({ cls := "OutlookOddsModel", name := "allowed", desc := "(IIJ)J" } : MethodName) ∈ qT := qT_p (k := 16) rfl rfl
theorem mq_p_17 : Cond.selects "OutlookOddsModel" ({ cls := "OutlookOddsModel", name := "noSeed", desc := "(I)Z" } : MethodName) ({ cls := "OutlookOddsModel", name := "noSeed", desc := "(I)Z" } : MethodName) ∈ qT := qT_p (k := 17) rfl rfl
theorem mq_p_18 : Cond.selects "OutlookOddsModel" ({ cls := "OutlookOddsModel", name := "noYear", desc := "(I)Z" } : MethodName) ({ cls := "OutlookOddsModel", name := "noYear", desc := "(I)Z" } : MethodName) ∈ qT := qT_p (k := 18) rfl rfl
theorem mq_p_19 : Cond.selects "OutlookOddsModel" ({ cls := "OutlookOddsModel", name := "allCaught", desc := "(I)J" } : MethodName) ({ cls := "OutlookOddsModel", name := "allCaught", desc := "(I)J" } : MethodName) ∈ qT := qT_p (k := 19) rfl rfl
theorem mq_p_20 : Cond.selects "OutlookOddsModel" ({ cls := "OutlookOddsModel", name := "tableOf", desc := "(I)J" } : MethodName) ({ cls := "OutlookOddsModel", name := "tableOf", desc := "(I)J" } : MethodName) ∈ qT := qT_p (k := 20) rfl rfl
theorem qg_V {own C : String} {idx : Nat} {y : MethodName} {cd : Cond} (h1 : Cond.methodLink own idx y ∈ qT) (h2 : Cond.instanceMethod y ∈ qT) (h3 : Cond.selects C y y ∈ qT) (h4 : Cond.initialized C ∈ qT) (h5 : cd ∈ qT) : GoodIn qT (wsV own idx C y (cd :: qT)) := fun w hw => by
  rcases List.mem_append.mp hw with h | h
  · rcases List.mem_cons.mp h with rfl | h
    · exact qT_good _ h1
    · rcases List.mem_cons.mp h with rfl | h
      · exact qT_good _ h2
      · rcases List.mem_cons.mp h with rfl | h
        · exact qT_good _ h3
        · rcases List.mem_cons.mp h with rfl | h
          · exact qT_good _ h4
          · exact absurd h List.not_mem_nil
  · rcases List.mem_cons.mp h with rfl | h
    · exact qT_good _ h5
    · exact qT_good _ h
theorem qg_S {own : String} {idx : Nat} {y : MethodName} {cd : Cond} (h1 : Cond.methodLink own idx y ∈ qT) (h2 : Cond.static y ∈ qT) (h4 : Cond.initialized y.cls ∈ qT) (h5 : cd ∈ qT) : GoodIn qT (va_wsS own idx y (cd :: qT)) := fun w hw => by
  rcases List.mem_append.mp hw with h | h
  · rcases List.mem_cons.mp h with rfl | h
    · exact qT_good _ h1
    · rcases List.mem_cons.mp h with rfl | h
      · exact qT_good _ h2
      · rcases List.mem_cons.mp h with rfl | h
        · exact qT_good _ h4
        · exact absurd h List.not_mem_nil
  · rcases List.mem_cons.mp h with rfl | h
    · exact qT_good _ h5
    · exact qT_good _ h
theorem qg_C {cd : Cond} (h5 : cd ∈ qT) : GoodIn qT (cd :: qT) := fun w hw => by
  rcases List.mem_cons.mp hw with rfl | h
  · exact qT_good _ h5
  · exact qT_good _ h
end QNM
