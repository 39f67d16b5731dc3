def GW : List Cond := lw_tbl.filter goodWord
theorem GW_good : ∀ w ∈ GW, (w.onTables && w.keeps) = true ∨ ∃ ty, w = .arrayClass ty := fun _ hw => good_of_word (List.mem_filter.mp hw).2
theorem gwT1 {w : Cond} (i : Nat) (h : tables_1_1[i]? = some w) (hg : goodWord w = true) : w ∈ GW := List.mem_filter.mpr ⟨List.mem_append_right _ (List.mem_append_left _ (List.mem_of_getElem? h)), hg⟩
theorem gwT2 {w : Cond} (i : Nat) (h : tables_1_2[i]? = some w) (hg : goodWord w = true) : w ∈ GW := List.mem_filter.mpr ⟨List.mem_append_right _ (List.mem_append_right _ (List.mem_append_left _ (List.mem_of_getElem? h))), hg⟩
theorem gwT3 {w : Cond} (i : Nat) (h : tables_1_3[i]? = some w) (hg : goodWord w = true) : w ∈ GW := List.mem_filter.mpr ⟨List.mem_append_right _ (List.mem_append_right _ (List.mem_append_right _ (List.mem_append_left _ (List.mem_of_getElem? h)))), hg⟩
theorem gwT4 {w : Cond} (i : Nat) (h : tables_1_4[i]? = some w) (hg : goodWord w = true) : w ∈ GW := List.mem_filter.mpr ⟨List.mem_append_right _ (List.mem_append_right _ (List.mem_append_right _ (List.mem_append_right _ (List.mem_of_getElem? h)))), hg⟩
theorem gwS {y : MethodName} {n : Nat} (h : (y, n) ∈ lw_privs) (hg : goodWord (Cond.selects y.cls y y) = true) : Cond.selects y.cls y y ∈ GW := List.mem_filter.mpr ⟨List.mem_append_left _ (List.mem_map.mpr ⟨(y, n), h, rfl⟩), hg⟩
def T_ED : u_T := fun k => match k with
  | _ => ("PicturedRecord$Editor", "text", "[I", true)
def ty_ED : Nat → FieldType := fun k => match k with
  | _ => .array .int
theorem nm_ED : ∀ a, a < 1 → ∀ b, b < 1 → a ≠ b → (T_ED a).2.1 ≠ (T_ED b).2.1 := by decide +kernel
theorem ty_ED_ok : ∀ k, k < 1 → parseFieldDescriptor (T_ED k).2.2.1 = some (ty_ED k) := by decide +kernel
theorem cw_ED : ∀ w ∈ u_ws "PicturedRecord$Editor" T_ED 1, w ∈ GW := by
  intro w hw
  obtain ⟨k, hk, rfl⟩ := List.mem_map.mp hw
  have hk := List.mem_range.mp hk
  match k, hk with
  | 0, _ => exact gwT1 90 rfl rfl
def T_FD : u_T := fun k => match k with
  | 0 => ("PicturedRecord$Field", "picture", "LPicturedRecord$Picture;", true)
  | 1 => ("PicturedRecord$Field", "form", "I", true)
  | 2 => ("PicturedRecord$Field", "offset", "I", true)
  | 3 => ("PicturedRecord$Field", "length", "I", true)
  | 4 => ("PicturedRecord$Field", "digits", "I", true)
  | 5 => ("PicturedRecord$Field", "scale", "I", true)
  | _ => ("PicturedRecord$Field", "signed", "Z", true)
def ty_FD : Nat → FieldType := fun k => match k with
  | 0 => .object "PicturedRecord$Picture"
  | 1 => .int
  | 2 => .int
  | 3 => .int
  | 4 => .int
  | 5 => .int
  | _ => .boolean
theorem nm_FD : ∀ a, a < 7 → ∀ b, b < 7 → a ≠ b → (T_FD a).2.1 ≠ (T_FD b).2.1 := by decide +kernel
theorem ty_FD_ok : ∀ k, k < 7 → parseFieldDescriptor (T_FD k).2.2.1 = some (ty_FD k) := by decide +kernel
theorem cw_FD : ∀ w ∈ u_ws "PicturedRecord$Field" T_FD 7, w ∈ GW := by
  intro w hw
  obtain ⟨k, hk, rfl⟩ := List.mem_map.mp hw
  have hk := List.mem_range.mp hk
  match k, hk with
  | 0, _ => exact gwT2 77 rfl rfl
  | 1, _ => exact gwT2 79 rfl rfl
  | 2, _ => exact gwT2 81 rfl rfl
  | 3, _ => exact gwT2 83 rfl rfl
  | 4, _ => exact gwT2 85 rfl rfl
  | 5, _ => exact gwT2 87 rfl rfl
  | 6, _ => exact gwT2 89 rfl rfl
def T_PC : u_T := fun k => match k with
  | 0 => ("PicturedRecord$Picture", "symbols", "[C", true)
  | 1 => ("PicturedRecord$Picture", "count", "I", false)
  | 2 => ("PicturedRecord$Picture", "digits", "I", false)
  | 3 => ("PicturedRecord$Picture", "scale", "I", false)
  | 4 => ("PicturedRecord$Picture", "signed", "Z", false)
  | 5 => ("PicturedRecord$Picture", "edited", "Z", false)
  | 6 => ("PicturedRecord$Picture", "bodyStart", "I", false)
  | 7 => ("PicturedRecord$Picture", "bodyEnd", "I", false)
  | 8 => ("PicturedRecord$Picture", "filler", "C", false)
  | _ => ("PicturedRecord$Picture", "floating", "Z", false)
def ty_PC : Nat → FieldType := fun k => match k with
  | 0 => .array .char
  | 1 => .int
  | 2 => .int
  | 3 => .int
  | 4 => .boolean
  | 5 => .boolean
  | 6 => .int
  | 7 => .int
  | 8 => .char
  | _ => .boolean
theorem nm_PC : ∀ a, a < 10 → ∀ b, b < 10 → a ≠ b → (T_PC a).2.1 ≠ (T_PC b).2.1 := by decide +kernel
theorem ty_PC_ok : ∀ k, k < 10 → parseFieldDescriptor (T_PC k).2.2.1 = some (ty_PC k) := by decide +kernel
theorem cw_PC : ∀ w ∈ u_ws "PicturedRecord$Picture" T_PC 10, w ∈ GW := by
  intro w hw
  obtain ⟨k, hk, rfl⟩ := List.mem_map.mp hw
  have hk := List.mem_range.mp hk
  match k, hk with
  | 0, _ => exact gwT1 52 rfl rfl
  | 1, _ => exact gwT1 54 rfl rfl
  | 2, _ => exact gwT1 56 rfl rfl
  | 3, _ => exact gwT1 58 rfl rfl
  | 4, _ => exact gwT1 60 rfl rfl
  | 5, _ => exact gwT1 62 rfl rfl
  | 6, _ => exact gwT1 64 rfl rfl
  | 7, _ => exact gwT1 66 rfl rfl
  | 8, _ => exact gwT1 68 rfl rfl
  | 9, _ => exact gwT1 70 rfl rfl
def T_SG : u_T := fun k => match k with
  | 0 => ("PicturedRecord$Storage", "bytes", "[I", true)
  | _ => ("PicturedRecord$Storage", "editor", "LPicturedRecord$Editor;", true)
def ty_SG : Nat → FieldType := fun k => match k with
  | 0 => .array .int
  | _ => .object "PicturedRecord$Editor"
theorem nm_SG : ∀ a, a < 2 → ∀ b, b < 2 → a ≠ b → (T_SG a).2.1 ≠ (T_SG b).2.1 := by decide +kernel
theorem ty_SG_ok : ∀ k, k < 2 → parseFieldDescriptor (T_SG k).2.2.1 = some (ty_SG k) := by decide +kernel
theorem cw_SG : ∀ w ∈ u_ws "PicturedRecord$Storage" T_SG 2, w ∈ GW := by
  intro w hw
  obtain ⟨k, hk, rfl⟩ := List.mem_map.mp hw
  have hk := List.mem_range.mp hk
  match k, hk with
  | 0, _ => exact gwT1 97 rfl rfl
  | 1, _ => exact gwT1 99 rfl rfl
def T_PR : u_T := fun k => match k with
  | 0 => ("PicturedRecord", "draft", "[C", true)
  | 1 => ("PicturedRecord", "draftLength", "I", false)
  | 2 => ("PicturedRecord", "spare", "LPicturedRecord$Picture;", false)
  | 3 => ("PicturedRecord", "made", "[LPicturedRecord$Field;", true)
  | 4 => ("PicturedRecord", "madeCount", "I", false)
  | 5 => ("PicturedRecord", "storage", "LPicturedRecord$Storage;", true)
  | 6 => ("PicturedRecord", "unitsRead", "[J", true)
  | 7 => ("PicturedRecord", "sizeErrorCount", "I", false)
  | _ => ("PicturedRecord", "dataErrorCount", "I", false)
def ty_PR : Nat → FieldType := fun k => match k with
  | 0 => .array .char
  | 1 => .int
  | 2 => .object "PicturedRecord$Picture"
  | 3 => .array (.object "PicturedRecord$Field")
  | 4 => .int
  | 5 => .object "PicturedRecord$Storage"
  | 6 => .array .long
  | 7 => .int
  | _ => .int
theorem nm_PR : ∀ a, a < 9 → ∀ b, b < 9 → a ≠ b → (T_PR a).2.1 ≠ (T_PR b).2.1 := by decide +kernel
theorem ty_PR_ok : ∀ k, k < 9 → parseFieldDescriptor (T_PR k).2.2.1 = some (ty_PR k) := by decide +kernel
theorem cw_PR : ∀ w ∈ u_ws "PicturedRecord" T_PR 9, w ∈ GW := by
  intro w hw
  obtain ⟨k, hk, rfl⟩ := List.mem_map.mp hw
  have hk := List.mem_range.mp hk
  match k, hk with
  | 0, _ => exact gwT1 111 rfl rfl
  | 1, _ => exact gwT1 113 rfl rfl
  | 2, _ => exact gwT1 115 rfl rfl
  | 3, _ => exact gwT1 117 rfl rfl
  | 4, _ => exact gwT1 119 rfl rfl
  | 5, _ => exact gwT1 121 rfl rfl
  | 6, _ => exact gwT1 123 rfl rfl
  | 7, _ => exact gwT1 125 rfl rfl
  | 8, _ => exact gwT1 127 rfl rfl
def T_MD : u_T := fun k => match k with
  | 0 => ("PicturedRecordModel", "bytes", "[I", true)
  | 1 => ("PicturedRecordModel", "draft", "[I", true)
  | 2 => ("PicturedRecordModel", "drafted", "I", false)
  | 3 => ("PicturedRecordModel", "symbol", "[I", true)
  | 4 => ("PicturedRecordModel", "length", "I", false)
  | 5 => ("PicturedRecordModel", "head", "I", false)
  | 6 => ("PicturedRecordModel", "tail", "I", false)
  | 7 => ("PicturedRecordModel", "nines", "I", false)
  | 8 => ("PicturedRecordModel", "behind", "I", false)
  | 9 => ("PicturedRecordModel", "sign", "Z", false)
  | 10 => ("PicturedRecordModel", "edit", "Z", false)
  | 11 => ("PicturedRecordModel", "count", "I", false)
  | 12 => ("PicturedRecordModel", "offset", "[I", true)
  | 13 => ("PicturedRecordModel", "usages", "[I", true)
  | 14 => ("PicturedRecordModel", "digits", "[I", true)
  | 15 => ("PicturedRecordModel", "scales", "[I", true)
  | 16 => ("PicturedRecordModel", "signed", "[Z", true)
  | 17 => ("PicturedRecordModel", "edited", "[Z", true)
  | 18 => ("PicturedRecordModel", "symbols", "[I", true)
  | 19 => ("PicturedRecordModel", "lengths", "[I", true)
  | 20 => ("PicturedRecordModel", "heads", "[I", true)
  | 21 => ("PicturedRecordModel", "tails", "[I", true)
  | 22 => ("PicturedRecordModel", "text", "[I", true)
  | 23 => ("PicturedRecordModel", "held", "[J", true)
  | 24 => ("PicturedRecordModel", "sound", "Z", false)
  | 25 => ("PicturedRecordModel", "tooGreat", "I", false)
  | _ => ("PicturedRecordModel", "unsound", "I", false)
def ty_MD : Nat → FieldType := fun k => match k with
  | 0 => .array .int
  | 1 => .array .int
  | 2 => .int
  | 3 => .array .int
  | 4 => .int
  | 5 => .int
  | 6 => .int
  | 7 => .int
  | 8 => .int
  | 9 => .boolean
  | 10 => .boolean
  | 11 => .int
  | 12 => .array .int
  | 13 => .array .int
  | 14 => .array .int
  | 15 => .array .int
  | 16 => .array .boolean
  | 17 => .array .boolean
  | 18 => .array .int
  | 19 => .array .int
  | 20 => .array .int
  | 21 => .array .int
  | 22 => .array .int
  | 23 => .array .long
  | 24 => .boolean
  | 25 => .int
  | _ => .int
theorem nm_MD : ∀ a, a < 27 → ∀ b, b < 27 → a ≠ b → (T_MD a).2.1 ≠ (T_MD b).2.1 := by decide +kernel
theorem ty_MD_ok : ∀ k, k < 27 → parseFieldDescriptor (T_MD k).2.2.1 = some (ty_MD k) := by decide +kernel
theorem cw_MD : ∀ w ∈ u_ws "PicturedRecordModel" T_MD 27, w ∈ GW := by
  intro w hw
  obtain ⟨k, hk, rfl⟩ := List.mem_map.mp hw
  have hk := List.mem_range.mp hk
  match k, hk with
  | 0, _ => exact gwT3 112 rfl rfl
  | 1, _ => exact gwT3 114 rfl rfl
  | 2, _ => exact gwT3 116 rfl rfl
  | 3, _ => exact gwT3 118 rfl rfl
  | 4, _ => exact gwT3 120 rfl rfl
  | 5, _ => exact gwT3 122 rfl rfl
  | 6, _ => exact gwT3 124 rfl rfl
  | 7, _ => exact gwT3 126 rfl rfl
  | 8, _ => exact gwT3 128 rfl rfl
  | 9, _ => exact gwT3 130 rfl rfl
  | 10, _ => exact gwT3 132 rfl rfl
  | 11, _ => exact gwT3 134 rfl rfl
  | 12, _ => exact gwT3 136 rfl rfl
  | 13, _ => exact gwT3 138 rfl rfl
  | 14, _ => exact gwT3 140 rfl rfl
  | 15, _ => exact gwT3 142 rfl rfl
  | 16, _ => exact gwT3 144 rfl rfl
  | 17, _ => exact gwT3 146 rfl rfl
  | 18, _ => exact gwT3 148 rfl rfl
  | 19, _ => exact gwT3 150 rfl rfl
  | 20, _ => exact gwT3 152 rfl rfl
  | 21, _ => exact gwT3 154 rfl rfl
  | 22, _ => exact gwT3 156 rfl rfl
  | 23, _ => exact gwT3 158 rfl rfl
  | 24, _ => exact gwT3 160 rfl rfl
  | 25, _ => exact gwT3 162 rfl rfl
  | 26, _ => exact gwT3 164 rfl rfl
  | k + 27, hk => exact absurd hk (by omega)
abbrev vwCl : List vw_C := [("PicturedRecord$Editor", T_ED, 1), ("PicturedRecord$Field", T_FD, 7), ("PicturedRecord$Picture", T_PC, 10), ("PicturedRecord$Storage", T_SG, 2), ("PicturedRecord", T_PR, 9), ("PicturedRecordModel", T_MD, 27)]
def xTy : List FieldType := [.int, .long, .char, .boolean, .object "PicturedRecord$Field"]
def NW : List Cond := [(Jvm.Cond.methodLinkNest "PicturedRecord" (15 : Nat) ({ cls := "PicturedRecord$Picture", name := "<init>", desc := "()V" } : Jvm.MethodName) "PicturedRecord"),
  (Jvm.Cond.fieldLinkNest "PicturedRecord$Editor" (21 : Nat) "PicturedRecord$Picture" "symbols" "[C" "PicturedRecord"),
  (Jvm.Cond.fieldLinkNest "PicturedRecord$Editor" (50 : Nat) "PicturedRecord$Picture" "count" "I" "PicturedRecord"),
  (Jvm.Cond.fieldLinkNest "PicturedRecord$Field" (31 : Nat) "PicturedRecord$Picture" "digits" "I" "PicturedRecord"),
  (Jvm.Cond.fieldLinkNest "PicturedRecord$Field" (35 : Nat) "PicturedRecord$Picture" "scale" "I" "PicturedRecord"),
  (Jvm.Cond.fieldLinkNest "PicturedRecord$Field" (39 : Nat) "PicturedRecord$Picture" "signed" "Z" "PicturedRecord"),
  (Jvm.Cond.fieldLinkNest "PicturedRecord$Field" (15 : Nat) "PicturedRecord$Picture" "edited" "Z" "PicturedRecord"),
  (Jvm.Cond.fieldLinkNest "PicturedRecord$Editor" (15 : Nat) "PicturedRecord$Picture" "bodyStart" "I" "PicturedRecord"),
  (Jvm.Cond.fieldLinkNest "PicturedRecord$Storage" (112 : Nat) "PicturedRecord$Picture" "bodyStart" "I" "PicturedRecord"),
  (Jvm.Cond.fieldLinkNest "PicturedRecord$Editor" (47 : Nat) "PicturedRecord$Picture" "bodyEnd" "I" "PicturedRecord"),
  (Jvm.Cond.fieldLinkNest "PicturedRecord$Storage" (117 : Nat) "PicturedRecord$Picture" "bodyEnd" "I" "PicturedRecord"),
  (Jvm.Cond.fieldLinkNest "PicturedRecord$Editor" (59 : Nat) "PicturedRecord$Picture" "filler" "C" "PicturedRecord"),
  (Jvm.Cond.fieldLinkNest "PicturedRecord$Editor" (63 : Nat) "PicturedRecord$Picture" "floating" "Z" "PicturedRecord"),
  (Jvm.Cond.methodLinkNest "PicturedRecord" (28 : Nat) ({ cls := "PicturedRecord$Storage", name := "<init>", desc := "()V" } : Jvm.MethodName) "PicturedRecord"),
  (Jvm.Cond.methodLinkNest "PicturedRecord$Storage" (17 : Nat) ({ cls := "PicturedRecord$Editor", name := "<init>", desc := "()V" } : Jvm.MethodName) "PicturedRecord"),
  (Jvm.Cond.fieldLinkNest "PicturedRecord$Storage" (131 : Nat) "PicturedRecord$Editor" "text" "[I" "PicturedRecord"),
  (Jvm.Cond.fieldLinkNest "PicturedRecord" (83 : Nat) "PicturedRecord$Storage" "bytes" "[I" "PicturedRecord"),
  (Jvm.Cond.methodLinkNest "PicturedRecord" (41 : Nat) ({ cls := "PicturedRecord$Picture", name := "readDraft", desc := "([CI)Z" } : Jvm.MethodName) "PicturedRecord"),
  (Jvm.Cond.methodLinkNest "PicturedRecord" (45 : Nat) ({ cls := "PicturedRecord$Picture", name := "goesWith", desc := "(I)Z" } : Jvm.MethodName) "PicturedRecord"),
  (Jvm.Cond.methodLinkNest "PicturedRecord" (49 : Nat) ({ cls := "PicturedRecord$Picture", name := "lengthAs", desc := "(I)I" } : Jvm.MethodName) "PicturedRecord"),
  (Jvm.Cond.methodLinkNest "PicturedRecord" (56 : Nat) ({ cls := "PicturedRecord$Field", name := "<init>", desc := "(LPicturedRecord$Picture;III)V" } : Jvm.MethodName) "PicturedRecord"),
  (Jvm.Cond.fieldLinkNest "PicturedRecord$Storage" (108 : Nat) "PicturedRecord$Field" "picture" "LPicturedRecord$Picture;" "PicturedRecord"),
  (Jvm.Cond.fieldLinkNest "PicturedRecord$Storage" (22 : Nat) "PicturedRecord$Field" "form" "I" "PicturedRecord"),
  (Jvm.Cond.fieldLinkNest "PicturedRecord$Storage" (61 : Nat) "PicturedRecord$Field" "offset" "I" "PicturedRecord"),
  (Jvm.Cond.fieldLinkNest "PicturedRecord" (63 : Nat) "PicturedRecord$Field" "length" "I" "PicturedRecord"),
  (Jvm.Cond.fieldLinkNest "PicturedRecord$Storage" (89 : Nat) "PicturedRecord$Field" "length" "I" "PicturedRecord"),
  (Jvm.Cond.fieldLinkNest "PicturedRecord$Storage" (64 : Nat) "PicturedRecord$Field" "digits" "I" "PicturedRecord"),
  (Jvm.Cond.fieldLinkNest "PicturedRecord" (66 : Nat) "PicturedRecord$Field" "digits" "I" "PicturedRecord"),
  (Jvm.Cond.fieldLinkNest "PicturedRecord" (69 : Nat) "PicturedRecord$Field" "scale" "I" "PicturedRecord"),
  (Jvm.Cond.fieldLinkNest "PicturedRecord$Storage" (44 : Nat) "PicturedRecord$Field" "signed" "Z" "PicturedRecord"),
  (Jvm.Cond.fieldLinkNest "PicturedRecord" (72 : Nat) "PicturedRecord$Field" "signed" "Z" "PicturedRecord"),
  (Jvm.Cond.methodLinkNest "PicturedRecord" (76 : Nat) ({ cls := "PicturedRecord$Field", name := "isEdited", desc := "()Z" } : Jvm.MethodName) "PicturedRecord"),
  (Jvm.Cond.methodLinkNest "PicturedRecord" (89 : Nat) ({ cls := "PicturedRecord$Storage", name := "unitsOf", desc := "(LPicturedRecord$Field;)J" } : Jvm.MethodName) "PicturedRecord"),
  (Jvm.Cond.methodLinkNest "PicturedRecord$Storage" (96 : Nat) ({ cls := "PicturedRecord$Decimal", name := "tenTo", desc := "(I)J" } : Jvm.MethodName) "PicturedRecord"),
  (Jvm.Cond.methodLinkNest "PicturedRecord$Storage" (120 : Nat) ({ cls := "PicturedRecord$Picture", name := "isDigitPlace", desc := "(I)Z" } : Jvm.MethodName) "PicturedRecord"),
  (Jvm.Cond.methodLinkNest "PicturedRecord$Storage" (123 : Nat) ({ cls := "PicturedRecord$Editor", name := "edit", desc := "(LPicturedRecord$Picture;J)V" } : Jvm.MethodName) "PicturedRecord"),
  (Jvm.Cond.methodLinkNest "PicturedRecord$Editor" (53 : Nat) ({ cls := "PicturedRecord$Picture", name := "isDigitPlace", desc := "(I)Z" } : Jvm.MethodName) "PicturedRecord"),
  (Jvm.Cond.methodLinkNest "PicturedRecord" (148 : Nat) ({ cls := "PicturedRecord$Decimal", name := "tenTo", desc := "(I)J" } : Jvm.MethodName) "PicturedRecord"),
  (Jvm.Cond.methodLinkNest "PicturedRecord" (156 : Nat) ({ cls := "PicturedRecord$Storage", name := "store", desc := "(LPicturedRecord$Field;J)V" } : Jvm.MethodName) "PicturedRecord"),
  (Jvm.Cond.methodLinkNest "PicturedRecord" (144 : Nat) ({ cls := "PicturedRecord$Decimal", name := "result", desc := "(JIJI)J" } : Jvm.MethodName) "PicturedRecord"),
  (Jvm.Cond.methodLinkNest "PicturedRecord" (115 : Nat) ({ cls := "PicturedRecord$Decimal", name := "atFullScale", desc := "(JI)J" } : Jvm.MethodName) "PicturedRecord")]
