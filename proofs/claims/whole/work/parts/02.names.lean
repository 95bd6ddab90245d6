def lw_good : List Cond := lw_tbl.filter goodWord
theorem gw (i : Nat) {w : Cond} (h : tables_1[i]? = some w) (hg : goodWord w = true) : w ∈ lw_good := List.mem_filter.mpr ⟨List.mem_append_right _ (List.mem_of_getElem? h), hg⟩
theorem gws (i : Nat) {w : Cond} (h : (k2_sels lw_privs)[i]? = some w) (hg : goodWord w = true) : w ∈ lw_good := List.mem_filter.mpr ⟨List.mem_append_left _ (List.mem_of_getElem? h), hg⟩
theorem gwl {ws : List Cond} (is : List Nat) (h : is.filterMap (fun i => tables_1[i]?) = ws) (hg : ws.all goodWord = true) : ∀ w ∈ ws, w ∈ lw_good := by
  intro w hw
  have h1 := List.all_eq_true.mp hg w hw
  rw [← h] at hw
  obtain ⟨i, -, hi⟩ := List.mem_filterMap.mp hw
  exact gw i hi h1
def RX0 : String := "FillAndGo$EarlyRun"
def TX0 : u_T := fun k => match k with
  | _ => ("", "", "", false)
def tyX0 : Nat → FieldType := fun k => match k with
  | _ => .int
theorem nmX0 : ∀ a, a < 0 → ∀ b, b < 0 → a ≠ b → (TX0 a).2.1 ≠ (TX0 b).2.1 := by decide +kernel
theorem tyX0_ok : ∀ k, k < 0 → parseFieldDescriptor (TX0 k).2.2.1 = some (tyX0 k) := by decide +kernel
def RX1 : String := "FillAndGo$EmptyRun"
def TX1 : u_T := fun k => match k with
  | _ => ("", "", "", false)
def tyX1 : Nat → FieldType := fun k => match k with
  | _ => .int
theorem nmX1 : ∀ a, a < 0 → ∀ b, b < 0 → a ≠ b → (TX1 a).2.1 ≠ (TX1 b).2.1 := by decide +kernel
theorem tyX1_ok : ∀ k, k < 0 → parseFieldDescriptor (TX1 k).2.2.1 = some (tyX1 k) := by decide +kernel
def RX2 : String := "FillAndGo$ExtraRun"
def TX2 : u_T := fun k => match k with
  | _ => ("", "", "", false)
def tyX2 : Nat → FieldType := fun k => match k with
  | _ => .int
theorem nmX2 : ∀ a, a < 0 → ∀ b, b < 0 → a ≠ b → (TX2 a).2.1 ≠ (TX2 b).2.1 := by decide +kernel
theorem tyX2_ok : ∀ k, k < 0 → parseFieldDescriptor (TX2 k).2.2.1 = some (tyX2 k) := by decide +kernel
def RX3 : String := "FillAndGo$HiredRun"
def TX3 : u_T := fun k => match k with
  | _ => ("", "", "", false)
def tyX3 : Nat → FieldType := fun k => match k with
  | _ => .int
theorem nmX3 : ∀ a, a < 0 → ∀ b, b < 0 → a ≠ b → (TX3 a).2.1 ≠ (TX3 b).2.1 := by decide +kernel
theorem tyX3_ok : ∀ k, k < 0 → parseFieldDescriptor (TX3 k).2.2.1 = some (tyX3 k) := by decide +kernel
def RX4 : String := "FillAndGo$Line"
def TX4 : u_T := fun k => match k with
  | 0 => ("FillAndGo$Line", "key", "I", true)
  | 1 => ("FillAndGo$Line", "number", "I", true)
  | 2 => ("FillAndGo$Line", "tests", "I", false)
  | 3 => ("FillAndGo$Line", "facts", "[I", true)
  | 4 => ("FillAndGo$Line", "signs", "[I", true)
  | _ => ("FillAndGo$Line", "bounds", "[I", true)
def tyX4 : Nat → FieldType := fun k => match k with
  | 0 => .int
  | 1 => .int
  | 2 => .int
  | 3 => .array .int
  | 4 => .array .int
  | _ => .array .int
theorem nmX4 : ∀ a, a < 6 → ∀ b, b < 6 → a ≠ b → (TX4 a).2.1 ≠ (TX4 b).2.1 := by decide +kernel
theorem tyX4_ok : ∀ k, k < 6 → parseFieldDescriptor (TX4 k).2.2.1 = some (tyX4 k) := by decide +kernel
def RX5 : String := "FillAndGo$Ride"
def TX5 : u_T := fun k => match k with
  | 0 => ("FillAndGo$Ride", "state", "I", false)
  | 1 => ("FillAndGo$Ride", "stage", "I", false)
  | 2 => ("FillAndGo$Ride", "number", "I", false)
  | 3 => ("FillAndGo$Ride", "aim", "I", false)
  | 4 => ("FillAndGo$Ride", "sold", "I", false)
  | 5 => ("FillAndGo$Ride", "left", "I", false)
  | 6 => ("FillAndGo$Ride", "since", "I", false)
  | 7 => ("FillAndGo$Ride", "kind", "I", false)
  | 8 => ("FillAndGo$Ride", "earned", "I", false)
  | 9 => ("FillAndGo$Ride", "spent", "I", false)
  | 10 => ("FillAndGo$Ride", "kept", "I", false)
  | 11 => ("FillAndGo$Ride", "owes", "I", false)
  | _ => ("FillAndGo$Ride", "runs", "I", false)
def tyX5 : Nat → FieldType := fun k => match k with
  | 0 => .int
  | 1 => .int
  | 2 => .int
  | 3 => .int
  | 4 => .int
  | 5 => .int
  | 6 => .int
  | 7 => .int
  | 8 => .int
  | 9 => .int
  | 10 => .int
  | 11 => .int
  | _ => .int
theorem nmX5 : ∀ a, a < 13 → ∀ b, b < 13 → a ≠ b → (TX5 a).2.1 ≠ (TX5 b).2.1 := by decide +kernel
theorem tyX5_ok : ∀ k, k < 13 → parseFieldDescriptor (TX5 k).2.2.1 = some (tyX5 k) := by decide +kernel
def RX6 : String := "FillAndGo$Run"
def TX6 : u_T := fun k => match k with
  | _ => ("", "", "", false)
def tyX6 : Nat → FieldType := fun k => match k with
  | _ => .int
theorem nmX6 : ∀ a, a < 0 → ∀ b, b < 0 → a ≠ b → (TX6 a).2.1 ≠ (TX6 b).2.1 := by decide +kernel
theorem tyX6_ok : ∀ k, k < 0 → parseFieldDescriptor (TX6 k).2.2.1 = some (tyX6 k) := by decide +kernel
def RX7 : String := "FillAndGo$ShortRun"
def TX7 : u_T := fun k => match k with
  | _ => ("", "", "", false)
def tyX7 : Nat → FieldType := fun k => match k with
  | _ => .int
theorem nmX7 : ∀ a, a < 0 → ∀ b, b < 0 → a ≠ b → (TX7 a).2.1 ≠ (TX7 b).2.1 := by decide +kernel
theorem tyX7_ok : ∀ k, k < 0 → parseFieldDescriptor (TX7 k).2.2.1 = some (tyX7 k) := by decide +kernel
def RX8 : String := "FillAndGo$Tape"
def TX8 : u_T := fun k => match k with
  | 0 => ("FillAndGo$Tape", "bytes", "[B", true)
  | 1 => ("FillAndGo$Tape", "length", "I", false)
  | 2 => ("FillAndGo$Tape", "place", "I", false)
  | 3 => ("FillAndGo$Tape", "draft", "[LFillAndGo$Line;", true)
  | _ => ("FillAndGo$Tape", "drafted", "I", false)
def tyX8 : Nat → FieldType := fun k => match k with
  | 0 => .array .byte
  | 1 => .int
  | 2 => .int
  | 3 => .array (.object "FillAndGo$Line")
  | _ => .int
theorem nmX8 : ∀ a, a < 5 → ∀ b, b < 5 → a ≠ b → (TX8 a).2.1 ≠ (TX8 b).2.1 := by decide +kernel
theorem tyX8_ok : ∀ k, k < 5 → parseFieldDescriptor (TX8 k).2.2.1 = some (tyX8 k) := by decide +kernel
def RX9 : String := "FillAndGo$Town"
def TX9 : u_T := fun k => match k with
  | 0 => ("FillAndGo$Town", "roads", "[I", true)
  | 1 => ("FillAndGo$Town", "rates", "[I", true)
  | 2 => ("FillAndGo$Town", "jams", "[I", true)
  | 3 => ("FillAndGo$Town", "seats", "[I", true)
  | 4 => ("FillAndGo$Town", "owners", "[I", true)
  | 5 => ("FillAndGo$Town", "targets", "[I", true)
  | 6 => ("FillAndGo$Town", "fuels", "[I", true)
  | 7 => ("FillAndGo$Town", "wanted", "[I", true)
  | 8 => ("FillAndGo$Town", "enrolled", "I", false)
  | 9 => ("FillAndGo$Town", "lines", "[LFillAndGo$Line;", true)
  | 10 => ("FillAndGo$Town", "customs", "I", false)
  | 11 => ("FillAndGo$Town", "forced", "[I", true)
  | 12 => ("FillAndGo$Town", "kinds", "[LFillAndGo$Run;", true)
  | 13 => ("FillAndGo$Town", "facts", "[I", true)
  | _ => ("FillAndGo$Town", "sums", "[I", true)
def tyX9 : Nat → FieldType := fun k => match k with
  | 0 => .array .int
  | 1 => .array .int
  | 2 => .array .int
  | 3 => .array .int
  | 4 => .array .int
  | 5 => .array .int
  | 6 => .array .int
  | 7 => .array .int
  | 8 => .int
  | 9 => .array (.object "FillAndGo$Line")
  | 10 => .int
  | 11 => .array .int
  | 12 => .array (.object "FillAndGo$Run")
  | 13 => .array .int
  | _ => .array .int
theorem nmX9 : ∀ a, a < 15 → ∀ b, b < 15 → a ≠ b → (TX9 a).2.1 ≠ (TX9 b).2.1 := by decide +kernel
theorem tyX9_ok : ∀ k, k < 15 → parseFieldDescriptor (TX9 k).2.2.1 = some (tyX9 k) := by decide +kernel
def RX10 : String := "FillAndGo$World"
def TX10 : u_T := fun k => match k with
  | 0 => ("FillAndGo$World", "minute", "I", false)
  | 1 => ("FillAndGo$World", "rain", "I", false)
  | 2 => ("FillAndGo$World", "walked", "I", false)
  | 3 => ("FillAndGo$World", "ridden", "I", false)
  | 4 => ("FillAndGo$World", "waited", "I", false)
  | 5 => ("FillAndGo$World", "crowds", "[I", true)
  | 6 => ("FillAndGo$World", "parts", "[I", true)
  | 7 => ("FillAndGo$World", "numbers", "[I", true)
  | _ => ("FillAndGo$World", "rides", "[LFillAndGo$Ride;", true)
def tyX10 : Nat → FieldType := fun k => match k with
  | 0 => .int
  | 1 => .int
  | 2 => .int
  | 3 => .int
  | 4 => .int
  | 5 => .array .int
  | 6 => .array .int
  | 7 => .array .int
  | _ => .array (.object "FillAndGo$Ride")
theorem nmX10 : ∀ a, a < 9 → ∀ b, b < 9 → a ≠ b → (TX10 a).2.1 ≠ (TX10 b).2.1 := by decide +kernel
theorem tyX10_ok : ∀ k, k < 9 → parseFieldDescriptor (TX10 k).2.2.1 = some (tyX10 k) := by decide +kernel
def RX11 : String := "FillAndGo"
def TX11 : u_T := fun k => match k with
  | 0 => ("FillAndGo", "town", "LFillAndGo$Town;", true)
  | 1 => ("FillAndGo", "now", "LFillAndGo$World;", true)
  | 2 => ("FillAndGo", "ahead", "LFillAndGo$World;", true)
  | 3 => ("FillAndGo", "kept", "LFillAndGo$World;", true)
  | 4 => ("FillAndGo", "hasImage", "Z", false)
  | 5 => ("FillAndGo", "tape", "LFillAndGo$Tape;", true)
  | 6 => ("FillAndGo", "bestSet", "I", false)
  | 7 => ("FillAndGo", "gains", "[[I", true)
  | 8 => ("FillAndGo", "fightCost", "I", false)
  | 9 => ("FillAndGo", "members", "I", false)
  | 10 => ("FillAndGo", "share", "I", false)
  | 11 => ("FillAndGo", "turn", "I", false)
  | 12 => ("FillAndGo", "purses", "[[I", true)
  | 13 => ("FillAndGo", "books", "[[I", true)
  | 14 => ("FillAndGo", "bookCount", "I", false)
  | 15 => ("FillAndGo", "rows", "[[I", true)
  | 16 => ("FillAndGo", "sizes", "[I", true)
  | _ => ("FillAndGo", "sorts", "[I", true)
def tyX11 : Nat → FieldType := fun k => match k with
  | 0 => .object "FillAndGo$Town"
  | 1 => .object "FillAndGo$World"
  | 2 => .object "FillAndGo$World"
  | 3 => .object "FillAndGo$World"
  | 4 => .boolean
  | 5 => .object "FillAndGo$Tape"
  | 6 => .int
  | 7 => .array (.array .int)
  | 8 => .int
  | 9 => .int
  | 10 => .int
  | 11 => .int
  | 12 => .array (.array .int)
  | 13 => .array (.array .int)
  | 14 => .int
  | 15 => .array (.array .int)
  | 16 => .array .int
  | _ => .array .int
theorem nmX11 : ∀ a, a < 18 → ∀ b, b < 18 → a ≠ b → (TX11 a).2.1 ≠ (TX11 b).2.1 := by decide +kernel
theorem tyX11_ok : ∀ k, k < 18 → parseFieldDescriptor (TX11 k).2.2.1 = some (tyX11 k) := by decide +kernel
def RX12 : String := "FillAndGoModel"
def TX12 : u_T := fun k => match k with
  | 0 => ("FillAndGoModel", "p", "[I", true)
  | 1 => ("FillAndGoModel", "kept", "[I", true)
  | 2 => ("FillAndGoModel", "imaged", "[I", true)
  | 3 => ("FillAndGoModel", "hasImage", "Z", false)
  | 4 => ("FillAndGoModel", "roads", "[I", true)
  | 5 => ("FillAndGoModel", "rates", "[I", true)
  | 6 => ("FillAndGoModel", "jams", "[I", true)
  | 7 => ("FillAndGoModel", "buses", "I", false)
  | 8 => ("FillAndGoModel", "seats", "[I", true)
  | 9 => ("FillAndGoModel", "owner", "[I", true)
  | 10 => ("FillAndGoModel", "target", "[I", true)
  | 11 => ("FillAndGoModel", "fuel", "[I", true)
  | 12 => ("FillAndGoModel", "wanted", "[I", true)
  | 13 => ("FillAndGoModel", "customOf", "[I", true)
  | 14 => ("FillAndGoModel", "planSet", "I", false)
  | 15 => ("FillAndGoModel", "gains", "[I", true)
  | 16 => ("FillAndGoModel", "fightCost", "I", false)
  | 17 => ("FillAndGoModel", "members", "I", false)
  | 18 => ("FillAndGoModel", "each", "I", false)
  | 19 => ("FillAndGoModel", "turn", "I", false)
  | 20 => ("FillAndGoModel", "paidIn", "[I", true)
  | 21 => ("FillAndGoModel", "took", "[I", true)
  | 22 => ("FillAndGoModel", "isStopped", "[Z", true)
  | 23 => ("FillAndGoModel", "books", "I", false)
  | 24 => ("FillAndGoModel", "bookOf", "[I", true)
  | 25 => ("FillAndGoModel", "bookDay", "[I", true)
  | 26 => ("FillAndGoModel", "bookIs", "[I", true)
  | 27 => ("FillAndGoModel", "bookTold", "[I", true)
  | 28 => ("FillAndGoModel", "bookAnew", "[I", true)
  | 29 => ("FillAndGoModel", "anewTold", "[I", true)
  | 30 => ("FillAndGoModel", "tape", "[I", true)
  | 31 => ("FillAndGoModel", "taped", "I", false)
  | 32 => ("FillAndGoModel", "customs", "I", false)
  | 33 => ("FillAndGoModel", "lineMany", "[I", true)
  | 34 => ("FillAndGoModel", "lineKey", "[I", true)
  | 35 => ("FillAndGoModel", "lineNumber", "[I", true)
  | 36 => ("FillAndGoModel", "testMany", "[I", true)
  | 37 => ("FillAndGoModel", "testField", "[I", true)
  | 38 => ("FillAndGoModel", "testSign", "[I", true)
  | 39 => ("FillAndGoModel", "testNumber", "[I", true)
  | 40 => ("FillAndGoModel", "sheetSort", "[I", true)
  | 41 => ("FillAndGoModel", "sheetSize", "[I", true)
  | 42 => ("FillAndGoModel", "cells", "[I", true)
  | 43 => ("FillAndGoModel", "words", "[J", true)
  | 44 => ("FillAndGoModel", "sizes", "[I", true)
  | 45 => ("FillAndGoModel", "at", "I", false)
  | 46 => ("FillAndGoModel", "far", "[I", true)
  | 47 => ("FillAndGoModel", "sides0", "[I", true)
  | 48 => ("FillAndGoModel", "bestSides", "[I", true)
  | _ => ("FillAndGoModel", "load", "[I", true)
def tyX12 : Nat → FieldType := fun k => match k with
  | 0 => .array .int
  | 1 => .array .int
  | 2 => .array .int
  | 3 => .boolean
  | 4 => .array .int
  | 5 => .array .int
  | 6 => .array .int
  | 7 => .int
  | 8 => .array .int
  | 9 => .array .int
  | 10 => .array .int
  | 11 => .array .int
  | 12 => .array .int
  | 13 => .array .int
  | 14 => .int
  | 15 => .array .int
  | 16 => .int
  | 17 => .int
  | 18 => .int
  | 19 => .int
  | 20 => .array .int
  | 21 => .array .int
  | 22 => .array .boolean
  | 23 => .int
  | 24 => .array .int
  | 25 => .array .int
  | 26 => .array .int
  | 27 => .array .int
  | 28 => .array .int
  | 29 => .array .int
  | 30 => .array .int
  | 31 => .int
  | 32 => .int
  | 33 => .array .int
  | 34 => .array .int
  | 35 => .array .int
  | 36 => .array .int
  | 37 => .array .int
  | 38 => .array .int
  | 39 => .array .int
  | 40 => .array .int
  | 41 => .array .int
  | 42 => .array .int
  | 43 => .array .long
  | 44 => .array .int
  | 45 => .int
  | 46 => .array .int
  | 47 => .array .int
  | 48 => .array .int
  | _ => .array .int
theorem nmX12 : ∀ a, a < 50 → ∀ b, b < 50 → a ≠ b → (TX12 a).2.1 ≠ (TX12 b).2.1 := by decide +kernel
theorem tyX12_ok : ∀ k, k < 50 → parseFieldDescriptor (TX12 k).2.2.1 = some (tyX12 k) := by decide +kernel
set_option maxRecDepth 20000 in
theorem inX0 : ∀ w ∈ u_ws RX0 TX0 0, w ∈ lw_good := gwl [] (by decide +kernel) (by decide +kernel)
set_option maxRecDepth 20000 in
theorem inX1 : ∀ w ∈ u_ws RX1 TX1 0, w ∈ lw_good := gwl [] (by decide +kernel) (by decide +kernel)
set_option maxRecDepth 20000 in
theorem inX2 : ∀ w ∈ u_ws RX2 TX2 0, w ∈ lw_good := gwl [] (by decide +kernel) (by decide +kernel)
set_option maxRecDepth 20000 in
theorem inX3 : ∀ w ∈ u_ws RX3 TX3 0, w ∈ lw_good := gwl [] (by decide +kernel) (by decide +kernel)
set_option maxRecDepth 20000 in
theorem inX4 : ∀ w ∈ u_ws RX4 TX4 6, w ∈ lw_good := gwl [518, 520, 522, 524, 526, 528] (by decide +kernel) (by decide +kernel)
set_option maxRecDepth 20000 in
theorem inX5 : ∀ w ∈ u_ws RX5 TX5 13, w ∈ lw_good := gwl [192, 194, 196, 198, 200, 202, 204, 206, 208, 210, 212, 214, 216] (by decide +kernel) (by decide +kernel)
set_option maxRecDepth 20000 in
theorem inX6 : ∀ w ∈ u_ws RX6 TX6 0, w ∈ lw_good := gwl [] (by decide +kernel) (by decide +kernel)
set_option maxRecDepth 20000 in
theorem inX7 : ∀ w ∈ u_ws RX7 TX7 0, w ∈ lw_good := gwl [] (by decide +kernel) (by decide +kernel)
set_option maxRecDepth 20000 in
theorem inX8 : ∀ w ∈ u_ws RX8 TX8 5, w ∈ lw_good := gwl [278, 280, 282, 284, 286] (by decide +kernel) (by decide +kernel)
set_option maxRecDepth 20000 in
theorem inX9 : ∀ w ∈ u_ws RX9 TX9 15, w ∈ lw_good := gwl [104, 106, 108, 110, 112, 114, 116, 118, 120, 122, 124, 126, 128, 130, 132] (by decide +kernel) (by decide +kernel)
set_option maxRecDepth 20000 in
theorem inX10 : ∀ w ∈ u_ws RX10 TX10 9, w ∈ lw_good := gwl [243, 245, 247, 249, 251, 253, 255, 257, 259] (by decide +kernel) (by decide +kernel)
set_option maxRecDepth 20000 in
theorem inX11 : ∀ w ∈ u_ws RX11 TX11 18, w ∈ lw_good := gwl [310, 312, 314, 316, 318, 320, 322, 324, 326, 328, 330, 332, 334, 336, 338, 340, 342, 344] (by decide +kernel) (by decide +kernel)
set_option maxRecDepth 20000 in
theorem inX12 : ∀ w ∈ u_ws RX12 TX12 50, w ∈ lw_good := gwl [1011, 1013, 1015, 1017, 1019, 1021, 1023, 1025, 1027, 1029, 1031, 1033, 1035, 1037, 1039, 1041, 1043, 1045, 1047, 1049, 1051, 1053, 1055, 1057, 1059, 1061, 1063, 1065, 1067, 1069, 1071, 1073, 1075, 1077, 1079, 1081, 1083, 1085, 1087, 1089, 1091, 1093, 1095, 1097, 1099, 1101, 1103, 1105, 1107, 1109] (by decide +kernel) (by decide +kernel)
abbrev classes : List vw_C := [(RX0, TX0, 0), (RX1, TX1, 0), (RX2, TX2, 0), (RX3, TX3, 0), (RX4, TX4, 6), (RX5, TX5, 13), (RX6, TX6, 0), (RX7, TX7, 0), (RX8, TX8, 5), (RX9, TX9, 15), (RX10, TX10, 9), (RX11, TX11, 18), (RX12, TX12, 50)]
