/-! the words on private members of nest mates: they stand in the tables; a contract carries them all -/
def nw_L : List Cond := [.methodLinkNest RX7 11 yX1_init RX7, .fieldLinkNest RX5 63 "RefineRegions$Bitmap" "width" "I" RX7, .fieldLinkNest RX7 180 "RefineRegions$Bitmap" "width" "I" RX7, .fieldLinkNest RX7 183 "RefineRegions$Bitmap" "height" "I" RX7, .methodLinkNest RX7 23 yX5_init RX7, .methodLinkNest RX5 11 yX1_init RX7, .fieldLinkNest RX7 123 "RefineRegions$Surroundings" "reference" "LRefineRegions$Bitmap;" RX7, .methodLinkNest RX7 30 yX2_init RX7, .methodLinkNest RX7 37 yX6_init RX7, .methodLinkNest RX6 1 yX0_init RX7, .methodLinkNest RX6 9 yX4_init RX7, .fieldLinkNest RX7 94 "RefineRegions$Writer" "states" "LRefineRegions$States;" RX7, .methodLinkNest RX7 46 yX3_init RX7, .methodLinkNest RX3 1 yX0_init RX7, .methodLinkNest RX3 9 yX4_init RX7, .fieldLinkNest RX7 103 "RefineRegions$Reader" "states" "LRefineRegions$States;" RX7, .fieldLinkNest RX7 198 "RefineRegions$Reader" "place" "I" RX7, .methodLinkNest RX7 74 yX1_whiten RX7, .methodLinkNest RX7 161 yX2_count RX7, .methodLinkNest RX7 174 yX2_clear RX7, .methodLinkNest RX7 177 yX2_valueOr RX7, .methodLinkNest RX7 104 yX1_holds RX7, .methodLinkNest RX7 113 yX1_pixel RX7, .methodLinkNest RX7 190 yX1_copyFrom RX7, .methodLinkNest RX7 126 yX5_move RX7, .methodLinkNest RX7 91 yX5_begin RX7, .methodLinkNest RX7 98 yX4_forget RX7, .methodLinkNest RX7 117 yX1_paint RX7, .methodLinkNest RX7 146 yX5_setPlace0 RX7, .methodLinkNest RX7 149 yX5_setPlace1 RX7, .methodLinkNest RX7 152 yX6_begin RX7, .methodLinkNest RX6 31 yX2_clear RX7, .methodLinkNest RX7 218 yX5_rowAgrees RX7, .methodLinkNest RX5 49 yX1_pixel RX7, .methodLinkNest RX7 222 yX5_rowContext RX7, .methodLinkNest RX3 46 yX4_shareOf RX7, .methodLinkNest RX3 50 yX4_likelyOf RX7, .methodLinkNest RX3 53 yX4_advance RX7, .methodLinkNest RX3 35 yX2_valueOr RX7, .methodLinkNest RX6 36 yX4_shareOf RX7, .methodLinkNest RX6 40 yX4_likelyOf RX7, .methodLinkNest RX6 43 yX4_advance RX7, .methodLinkNest RX6 53 yX2_last RX7, .methodLinkNest RX6 58 yX2_raiseLast RX7, .methodLinkNest RX6 61 yX2_append RX7, .methodLinkNest RX7 234 yX5_agreedNine RX7, .methodLinkNest RX7 194 yX5_contextOf RX7, .methodLinkNest RX7 158 yX6_finish RX7, .methodLinkNest RX7 167 yX2_hasRoomFor RX7, .methodLinkNest RX7 171 yX2_append RX7, .methodLinkNest RX7 186 yX3_begin RX7, .methodLinkNest RX7 187 yX1_countBlack RX7, .methodLinkNest RX7 201 yX1_countDifferences RX7, .methodLinkNest RX7 209 yX4_packedOf RX7, .declares ⟨"RefineRegions$BitCoder", "pass", "(II)I"⟩]
def nw_is (w : Cond) : Bool := match w with
  | .fieldLinkNest .. => true
  | .methodLinkNest .. => true
  | .declares .. => true
  | _ => false
def nw_ok (U : State) : Prop := ∀ w ∈ nw_L, va_Nw w U
theorem nw_all : ∀ w ∈ nw_L, nw_is w = true := by decide +kernel
theorem nw_w {w : Cond} (h : nw_is w = true) {s U : State} (hW : s.WarmedH U.vm) (hZ : va_Nw w s) : va_Nw w U := by
  match w, h, hZ with
  | .fieldLinkNest .., _, hZ => exact va_Nw.warmF hW hZ
  | .methodLinkNest .., _, hZ => exact va_Nw.warmM hW hZ
  | .declares .., _, hZ => exact va_Nw.warmD hW hZ
theorem nw_t {w : Cond} (h : nw_is w = true) : w.onTables = true := by
  match w, h with
  | .fieldLinkNest .., _ => rfl
  | .methodLinkNest .., _ => rfl
  | .declares .., _ => rfl
theorem nw_ok.warm {s U : State} (hW : s.WarmedH U.vm) (h : nw_ok s) : nw_ok U := fun w hw => nw_w (nw_all w hw) hW (h w hw)
theorem nw_ok.same {u U : State} (e : u.vm = U.vm) (h : nw_ok u) : nw_ok U := fun w hw => va_Nw.same (nw_t (nw_all w hw)) e (h w hw)
theorem nw_in : ∀ w ∈ nw_L, w ∈ lw_tbl := by decide +kernel
theorem nw_of {args : Array Value} {s : State} (h : ∀ w ∈ lw_tbl, w.before args s = true) : nw_ok s := fun w hw => va_Nw.of (nw_t (nw_all w hw)) (h w (nw_in w hw))
theorem nw_X7_11 {U : State} (h : nw_ok U) : va_Nw (.methodLinkNest RX7 11 yX1_init RX7) U := h _ (List.mem_of_getElem? (i := 0) rfl)
theorem nw_X5_63 {U : State} (h : nw_ok U) : va_Nw (.fieldLinkNest RX5 63 "RefineRegions$Bitmap" "width" "I" RX7) U := h _ (List.mem_of_getElem? (i := 1) rfl)
theorem nw_X7_180 {U : State} (h : nw_ok U) : va_Nw (.fieldLinkNest RX7 180 "RefineRegions$Bitmap" "width" "I" RX7) U := h _ (List.mem_of_getElem? (i := 2) rfl)
theorem nw_X7_183 {U : State} (h : nw_ok U) : va_Nw (.fieldLinkNest RX7 183 "RefineRegions$Bitmap" "height" "I" RX7) U := h _ (List.mem_of_getElem? (i := 3) rfl)
theorem nw_X7_23 {U : State} (h : nw_ok U) : va_Nw (.methodLinkNest RX7 23 yX5_init RX7) U := h _ (List.mem_of_getElem? (i := 4) rfl)
theorem nw_X5_11 {U : State} (h : nw_ok U) : va_Nw (.methodLinkNest RX5 11 yX1_init RX7) U := h _ (List.mem_of_getElem? (i := 5) rfl)
theorem nw_X7_123 {U : State} (h : nw_ok U) : va_Nw (.fieldLinkNest RX7 123 "RefineRegions$Surroundings" "reference" "LRefineRegions$Bitmap;" RX7) U := h _ (List.mem_of_getElem? (i := 6) rfl)
theorem nw_X7_30 {U : State} (h : nw_ok U) : va_Nw (.methodLinkNest RX7 30 yX2_init RX7) U := h _ (List.mem_of_getElem? (i := 7) rfl)
theorem nw_X7_37 {U : State} (h : nw_ok U) : va_Nw (.methodLinkNest RX7 37 yX6_init RX7) U := h _ (List.mem_of_getElem? (i := 8) rfl)
theorem nw_X6_1 {U : State} (h : nw_ok U) : va_Nw (.methodLinkNest RX6 1 yX0_init RX7) U := h _ (List.mem_of_getElem? (i := 9) rfl)
theorem nw_X6_9 {U : State} (h : nw_ok U) : va_Nw (.methodLinkNest RX6 9 yX4_init RX7) U := h _ (List.mem_of_getElem? (i := 10) rfl)
theorem nw_X7_94 {U : State} (h : nw_ok U) : va_Nw (.fieldLinkNest RX7 94 "RefineRegions$Writer" "states" "LRefineRegions$States;" RX7) U := h _ (List.mem_of_getElem? (i := 11) rfl)
theorem nw_X7_46 {U : State} (h : nw_ok U) : va_Nw (.methodLinkNest RX7 46 yX3_init RX7) U := h _ (List.mem_of_getElem? (i := 12) rfl)
theorem nw_X3_1 {U : State} (h : nw_ok U) : va_Nw (.methodLinkNest RX3 1 yX0_init RX7) U := h _ (List.mem_of_getElem? (i := 13) rfl)
theorem nw_X3_9 {U : State} (h : nw_ok U) : va_Nw (.methodLinkNest RX3 9 yX4_init RX7) U := h _ (List.mem_of_getElem? (i := 14) rfl)
theorem nw_X7_103 {U : State} (h : nw_ok U) : va_Nw (.fieldLinkNest RX7 103 "RefineRegions$Reader" "states" "LRefineRegions$States;" RX7) U := h _ (List.mem_of_getElem? (i := 15) rfl)
theorem nw_X7_198 {U : State} (h : nw_ok U) : va_Nw (.fieldLinkNest RX7 198 "RefineRegions$Reader" "place" "I" RX7) U := h _ (List.mem_of_getElem? (i := 16) rfl)
theorem nw_X7_74 {U : State} (h : nw_ok U) : va_Nw (.methodLinkNest RX7 74 yX1_whiten RX7) U := h _ (List.mem_of_getElem? (i := 17) rfl)
theorem nw_X7_161 {U : State} (h : nw_ok U) : va_Nw (.methodLinkNest RX7 161 yX2_count RX7) U := h _ (List.mem_of_getElem? (i := 18) rfl)
theorem nw_X7_174 {U : State} (h : nw_ok U) : va_Nw (.methodLinkNest RX7 174 yX2_clear RX7) U := h _ (List.mem_of_getElem? (i := 19) rfl)
theorem nw_X7_177 {U : State} (h : nw_ok U) : va_Nw (.methodLinkNest RX7 177 yX2_valueOr RX7) U := h _ (List.mem_of_getElem? (i := 20) rfl)
theorem nw_X7_104 {U : State} (h : nw_ok U) : va_Nw (.methodLinkNest RX7 104 yX1_holds RX7) U := h _ (List.mem_of_getElem? (i := 21) rfl)
theorem nw_X7_113 {U : State} (h : nw_ok U) : va_Nw (.methodLinkNest RX7 113 yX1_pixel RX7) U := h _ (List.mem_of_getElem? (i := 22) rfl)
theorem nw_X7_190 {U : State} (h : nw_ok U) : va_Nw (.methodLinkNest RX7 190 yX1_copyFrom RX7) U := h _ (List.mem_of_getElem? (i := 23) rfl)
theorem nw_X7_126 {U : State} (h : nw_ok U) : va_Nw (.methodLinkNest RX7 126 yX5_move RX7) U := h _ (List.mem_of_getElem? (i := 24) rfl)
theorem nw_X7_91 {U : State} (h : nw_ok U) : va_Nw (.methodLinkNest RX7 91 yX5_begin RX7) U := h _ (List.mem_of_getElem? (i := 25) rfl)
theorem nw_X7_98 {U : State} (h : nw_ok U) : va_Nw (.methodLinkNest RX7 98 yX4_forget RX7) U := h _ (List.mem_of_getElem? (i := 26) rfl)
theorem nw_X7_117 {U : State} (h : nw_ok U) : va_Nw (.methodLinkNest RX7 117 yX1_paint RX7) U := h _ (List.mem_of_getElem? (i := 27) rfl)
theorem nw_X7_146 {U : State} (h : nw_ok U) : va_Nw (.methodLinkNest RX7 146 yX5_setPlace0 RX7) U := h _ (List.mem_of_getElem? (i := 28) rfl)
theorem nw_X7_149 {U : State} (h : nw_ok U) : va_Nw (.methodLinkNest RX7 149 yX5_setPlace1 RX7) U := h _ (List.mem_of_getElem? (i := 29) rfl)
theorem nw_X7_152 {U : State} (h : nw_ok U) : va_Nw (.methodLinkNest RX7 152 yX6_begin RX7) U := h _ (List.mem_of_getElem? (i := 30) rfl)
theorem nw_X6_31 {U : State} (h : nw_ok U) : va_Nw (.methodLinkNest RX6 31 yX2_clear RX7) U := h _ (List.mem_of_getElem? (i := 31) rfl)
theorem nw_X7_218 {U : State} (h : nw_ok U) : va_Nw (.methodLinkNest RX7 218 yX5_rowAgrees RX7) U := h _ (List.mem_of_getElem? (i := 32) rfl)
theorem nw_X5_49 {U : State} (h : nw_ok U) : va_Nw (.methodLinkNest RX5 49 yX1_pixel RX7) U := h _ (List.mem_of_getElem? (i := 33) rfl)
theorem nw_X7_222 {U : State} (h : nw_ok U) : va_Nw (.methodLinkNest RX7 222 yX5_rowContext RX7) U := h _ (List.mem_of_getElem? (i := 34) rfl)
theorem nw_X3_46 {U : State} (h : nw_ok U) : va_Nw (.methodLinkNest RX3 46 yX4_shareOf RX7) U := h _ (List.mem_of_getElem? (i := 35) rfl)
theorem nw_X3_50 {U : State} (h : nw_ok U) : va_Nw (.methodLinkNest RX3 50 yX4_likelyOf RX7) U := h _ (List.mem_of_getElem? (i := 36) rfl)
theorem nw_X3_53 {U : State} (h : nw_ok U) : va_Nw (.methodLinkNest RX3 53 yX4_advance RX7) U := h _ (List.mem_of_getElem? (i := 37) rfl)
theorem nw_X3_35 {U : State} (h : nw_ok U) : va_Nw (.methodLinkNest RX3 35 yX2_valueOr RX7) U := h _ (List.mem_of_getElem? (i := 38) rfl)
theorem nw_X6_36 {U : State} (h : nw_ok U) : va_Nw (.methodLinkNest RX6 36 yX4_shareOf RX7) U := h _ (List.mem_of_getElem? (i := 39) rfl)
theorem nw_X6_40 {U : State} (h : nw_ok U) : va_Nw (.methodLinkNest RX6 40 yX4_likelyOf RX7) U := h _ (List.mem_of_getElem? (i := 40) rfl)
theorem nw_X6_43 {U : State} (h : nw_ok U) : va_Nw (.methodLinkNest RX6 43 yX4_advance RX7) U := h _ (List.mem_of_getElem? (i := 41) rfl)
theorem nw_X6_53 {U : State} (h : nw_ok U) : va_Nw (.methodLinkNest RX6 53 yX2_last RX7) U := h _ (List.mem_of_getElem? (i := 42) rfl)
theorem nw_X6_58 {U : State} (h : nw_ok U) : va_Nw (.methodLinkNest RX6 58 yX2_raiseLast RX7) U := h _ (List.mem_of_getElem? (i := 43) rfl)
theorem nw_X6_61 {U : State} (h : nw_ok U) : va_Nw (.methodLinkNest RX6 61 yX2_append RX7) U := h _ (List.mem_of_getElem? (i := 44) rfl)
theorem nw_X7_234 {U : State} (h : nw_ok U) : va_Nw (.methodLinkNest RX7 234 yX5_agreedNine RX7) U := h _ (List.mem_of_getElem? (i := 45) rfl)
theorem nw_X7_194 {U : State} (h : nw_ok U) : va_Nw (.methodLinkNest RX7 194 yX5_contextOf RX7) U := h _ (List.mem_of_getElem? (i := 46) rfl)
theorem nw_X7_158 {U : State} (h : nw_ok U) : va_Nw (.methodLinkNest RX7 158 yX6_finish RX7) U := h _ (List.mem_of_getElem? (i := 47) rfl)
theorem nw_X7_167 {U : State} (h : nw_ok U) : va_Nw (.methodLinkNest RX7 167 yX2_hasRoomFor RX7) U := h _ (List.mem_of_getElem? (i := 48) rfl)
theorem nw_X7_171 {U : State} (h : nw_ok U) : va_Nw (.methodLinkNest RX7 171 yX2_append RX7) U := h _ (List.mem_of_getElem? (i := 49) rfl)
theorem nw_X7_186 {U : State} (h : nw_ok U) : va_Nw (.methodLinkNest RX7 186 yX3_begin RX7) U := h _ (List.mem_of_getElem? (i := 50) rfl)
theorem nw_X7_187 {U : State} (h : nw_ok U) : va_Nw (.methodLinkNest RX7 187 yX1_countBlack RX7) U := h _ (List.mem_of_getElem? (i := 51) rfl)
theorem nw_X7_201 {U : State} (h : nw_ok U) : va_Nw (.methodLinkNest RX7 201 yX1_countDifferences RX7) U := h _ (List.mem_of_getElem? (i := 52) rfl)
theorem nw_X7_209 {U : State} (h : nw_ok U) : va_Nw (.methodLinkNest RX7 209 yX4_packedOf RX7) U := h _ (List.mem_of_getElem? (i := 53) rfl)
theorem nw_X0_0 {U : State} (h : nw_ok U) : va_Nw (.declares ⟨"RefineRegions$BitCoder", "pass", "(II)I"⟩) U := h _ (List.mem_of_getElem? (i := 54) rfl)
