/-! names: classes, their fields -/
def cf_T : List Cond := lw_tbl.filter goodWord
theorem cf_in {w : Cond} (i : Nat) (h : lw_tbl[i]? = some w) (hg : goodWord w = true) : w ∈ cf_T := List.mem_filter.mpr ⟨List.mem_of_getElem? h, hg⟩
def RX0 : String := "CellFormatter$Calendar"
def TX0 : u_T := fun k => match k with
  | 0 => ("CellFormatter$Calendar", "is1904", "Z", false)
  | 1 => ("CellFormatter$Calendar", "year", "I", false)
  | 2 => ("CellFormatter$Calendar", "month", "I", false)
  | 3 => ("CellFormatter$Calendar", "day", "I", false)
  | _ => ("CellFormatter$Calendar", "weekday", "I", false)
def tyX0 : Nat → FieldType := fun k => match k with
  | 0 => .boolean
  | 1 => .int
  | 2 => .int
  | 3 => .int
  | _ => .int
theorem nmX0 : ∀ a, a < 5 → ∀ b, b < 5 → a ≠ b → (TX0 a).2.1 ≠ (TX0 b).2.1 := by decide +kernel
theorem tyX0_ok : ∀ k, k < 5 → parseFieldDescriptor (TX0 k).2.2.1 = some (tyX0 k) := by decide +kernel
theorem inX0 : ∀ w ∈ u_ws RX0 TX0 5, w ∈ cf_T := by
  intro w hw
  obtain ⟨k, hk, rfl⟩ := List.mem_map.mp hw
  have hk : k < 5 := List.mem_range.mp hk
  match k, hk with
  | 0, _ => exact cf_in 238 (by decide +kernel) (by decide +kernel)
  | 1, _ => exact cf_in 240 (by decide +kernel) (by decide +kernel)
  | 2, _ => exact cf_in 242 (by decide +kernel) (by decide +kernel)
  | 3, _ => exact cf_in 244 (by decide +kernel) (by decide +kernel)
  | 4, _ => exact cf_in 246 (by decide +kernel) (by decide +kernel)
  | k + 5, hk => exact absurd hk (by omega)
abbrev cX0 : vw_C := (RX0, TX0, 5)
def RX1 : String := "CellFormatter$Decimal"
def TX1 : u_T := fun k => match k with
  | 0 => ("CellFormatter$Decimal", "digits", "J", false)
  | _ => ("CellFormatter$Decimal", "power", "I", false)
def tyX1 : Nat → FieldType := fun k => match k with
  | 0 => .long
  | _ => .int
theorem nmX1 : ∀ a, a < 2 → ∀ b, b < 2 → a ≠ b → (TX1 a).2.1 ≠ (TX1 b).2.1 := by decide +kernel
theorem tyX1_ok : ∀ k, k < 2 → parseFieldDescriptor (TX1 k).2.2.1 = some (tyX1 k) := by decide +kernel
theorem inX1 : ∀ w ∈ u_ws RX1 TX1 2, w ∈ cf_T := by
  intro w hw
  obtain ⟨k, hk, rfl⟩ := List.mem_map.mp hw
  have hk : k < 2 := List.mem_range.mp hk
  match k, hk with
  | 0, _ => exact cf_in 277 (by decide +kernel) (by decide +kernel)
  | 1, _ => exact cf_in 279 (by decide +kernel) (by decide +kernel)
  | k + 2, hk => exact absurd hk (by omega)
abbrev cX1 : vw_C := (RX1, TX1, 2)
def RX2 : String := "CellFormatter$MomentWriter"
def TX2 : u_T := fun k => match k with
  | 0 => ("CellFormatter$MomentWriter", "out", "LCellFormatter$Text;", true)
  | 1 => ("CellFormatter$MomentWriter", "days", "LCellFormatter$Calendar;", true)
  | 2 => ("CellFormatter$MomentWriter", "dayCount", "J", false)
  | _ => ("CellFormatter$MomentWriter", "seconds", "I", false)
def tyX2 : Nat → FieldType := fun k => match k with
  | 0 => .object "CellFormatter$Text"
  | 1 => .object "CellFormatter$Calendar"
  | 2 => .long
  | _ => .int
theorem nmX2 : ∀ a, a < 4 → ∀ b, b < 4 → a ≠ b → (TX2 a).2.1 ≠ (TX2 b).2.1 := by decide +kernel
theorem tyX2_ok : ∀ k, k < 4 → parseFieldDescriptor (TX2 k).2.2.1 = some (tyX2 k) := by decide +kernel
theorem inX2 : ∀ w ∈ u_ws RX2 TX2 4, w ∈ cf_T := by
  intro w hw
  obtain ⟨k, hk, rfl⟩ := List.mem_map.mp hw
  have hk : k < 4 := List.mem_range.mp hk
  match k, hk with
  | 0, _ => exact cf_in 314 (by decide +kernel) (by decide +kernel)
  | 1, _ => exact cf_in 316 (by decide +kernel) (by decide +kernel)
  | 2, _ => exact cf_in 318 (by decide +kernel) (by decide +kernel)
  | 3, _ => exact cf_in 320 (by decide +kernel) (by decide +kernel)
  | k + 4, hk => exact absurd hk (by omega)
abbrev cX2 : vw_C := (RX2, TX2, 4)
def RX3 : String := "CellFormatter$NumberWriter"
def TX3 : u_T := fun k => match k with
  | 0 => ("CellFormatter$NumberWriter", "out", "LCellFormatter$Text;", true)
  | 1 => ("CellFormatter$NumberWriter", "number", "LCellFormatter$Decimal;", true)
  | 2 => ("CellFormatter$NumberWriter", "exponentSize", "LCellFormatter$Decimal;", true)
  | 3 => ("CellFormatter$NumberWriter", "exponentNegative", "Z", false)
  | 4 => ("CellFormatter$NumberWriter", "integersLeft", "I", false)
  | 5 => ("CellFormatter$NumberWriter", "fractionsSeen", "I", false)
  | _ => ("CellFormatter$NumberWriter", "exponentsLeft", "I", false)
def tyX3 : Nat → FieldType := fun k => match k with
  | 0 => .object "CellFormatter$Text"
  | 1 => .object "CellFormatter$Decimal"
  | 2 => .object "CellFormatter$Decimal"
  | 3 => .boolean
  | 4 => .int
  | 5 => .int
  | _ => .int
theorem nmX3 : ∀ a, a < 7 → ∀ b, b < 7 → a ≠ b → (TX3 a).2.1 ≠ (TX3 b).2.1 := by decide +kernel
theorem tyX3_ok : ∀ k, k < 7 → parseFieldDescriptor (TX3 k).2.2.1 = some (tyX3 k) := by decide +kernel
theorem inX3 : ∀ w ∈ u_ws RX3 TX3 7, w ∈ cf_T := by
  intro w hw
  obtain ⟨k, hk, rfl⟩ := List.mem_map.mp hw
  have hk : k < 7 := List.mem_range.mp hk
  match k, hk with
  | 0, _ => exact cf_in 289 (by decide +kernel) (by decide +kernel)
  | 1, _ => exact cf_in 291 (by decide +kernel) (by decide +kernel)
  | 2, _ => exact cf_in 293 (by decide +kernel) (by decide +kernel)
  | 3, _ => exact cf_in 295 (by decide +kernel) (by decide +kernel)
  | 4, _ => exact cf_in 297 (by decide +kernel) (by decide +kernel)
  | 5, _ => exact cf_in 299 (by decide +kernel) (by decide +kernel)
  | 6, _ => exact cf_in 301 (by decide +kernel) (by decide +kernel)
  | k + 7, hk => exact absurd hk (by omega)
abbrev cX3 : vw_C := (RX3, TX3, 7)
def RX4 : String := "CellFormatter$Scanner"
def TX4 : u_T := fun k => match k with
  | 0 => ("CellFormatter$Scanner", "tokens", "LCellFormatter$Tokens;", true)
  | 1 => ("CellFormatter$Scanner", "code", "[C", false)
  | _ => ("CellFormatter$Scanner", "length", "I", false)
def tyX4 : Nat → FieldType := fun k => match k with
  | 0 => .object "CellFormatter$Tokens"
  | 1 => .array .char
  | _ => .int
theorem nmX4 : ∀ a, a < 3 → ∀ b, b < 3 → a ≠ b → (TX4 a).2.1 ≠ (TX4 b).2.1 := by decide +kernel
theorem tyX4_ok : ∀ k, k < 3 → parseFieldDescriptor (TX4 k).2.2.1 = some (tyX4 k) := by decide +kernel
theorem inX4 : ∀ w ∈ u_ws RX4 TX4 3, w ∈ cf_T := by
  intro w hw
  obtain ⟨k, hk, rfl⟩ := List.mem_map.mp hw
  have hk : k < 3 := List.mem_range.mp hk
  match k, hk with
  | 0, _ => exact cf_in 141 (by decide +kernel) (by decide +kernel)
  | 1, _ => exact cf_in 143 (by decide +kernel) (by decide +kernel)
  | 2, _ => exact cf_in 145 (by decide +kernel) (by decide +kernel)
  | k + 3, hk => exact absurd hk (by omega)
abbrev cX4 : vw_C := (RX4, TX4, 3)
def RX5 : String := "CellFormatter$Section"
def TX5 : u_T := fun k => match k with
  | 0 => ("CellFormatter$Section", "first", "I", false)
  | 1 => ("CellFormatter$Section", "end", "I", false)
  | 2 => ("CellFormatter$Section", "kind", "I", false)
  | 3 => ("CellFormatter$Section", "test", "I", false)
  | 4 => ("CellFormatter$Section", "bound", "J", false)
  | 5 => ("CellFormatter$Section", "pointAt", "I", false)
  | 6 => ("CellFormatter$Section", "exponentAt", "I", false)
  | 7 => ("CellFormatter$Section", "integerPlaces", "I", false)
  | 8 => ("CellFormatter$Section", "fractionPlaces", "I", false)
  | 9 => ("CellFormatter$Section", "exponentPlaces", "I", false)
  | 10 => ("CellFormatter$Section", "percents", "I", false)
  | 11 => ("CellFormatter$Section", "scalings", "I", false)
  | 12 => ("CellFormatter$Section", "grouped", "Z", false)
  | 13 => ("CellFormatter$Section", "twelveHours", "Z", false)
  | _ => ("CellFormatter$Section", "namesDay", "Z", false)
def tyX5 : Nat → FieldType := fun k => match k with
  | 0 => .int
  | 1 => .int
  | 2 => .int
  | 3 => .int
  | 4 => .long
  | 5 => .int
  | 6 => .int
  | 7 => .int
  | 8 => .int
  | 9 => .int
  | 10 => .int
  | 11 => .int
  | 12 => .boolean
  | 13 => .boolean
  | _ => .boolean
theorem nmX5 : ∀ a, a < 15 → ∀ b, b < 15 → a ≠ b → (TX5 a).2.1 ≠ (TX5 b).2.1 := by decide +kernel
theorem tyX5_ok : ∀ k, k < 15 → parseFieldDescriptor (TX5 k).2.2.1 = some (tyX5 k) := by decide +kernel
theorem inX5 : ∀ w ∈ u_ws RX5 TX5 15, w ∈ cf_T := by
  intro w hw
  obtain ⟨k, hk, rfl⟩ := List.mem_map.mp hw
  have hk : k < 15 := List.mem_range.mp hk
  match k, hk with
  | 0, _ => exact cf_in 187 (by decide +kernel) (by decide +kernel)
  | 1, _ => exact cf_in 189 (by decide +kernel) (by decide +kernel)
  | 2, _ => exact cf_in 191 (by decide +kernel) (by decide +kernel)
  | 3, _ => exact cf_in 193 (by decide +kernel) (by decide +kernel)
  | 4, _ => exact cf_in 195 (by decide +kernel) (by decide +kernel)
  | 5, _ => exact cf_in 197 (by decide +kernel) (by decide +kernel)
  | 6, _ => exact cf_in 199 (by decide +kernel) (by decide +kernel)
  | 7, _ => exact cf_in 201 (by decide +kernel) (by decide +kernel)
  | 8, _ => exact cf_in 203 (by decide +kernel) (by decide +kernel)
  | 9, _ => exact cf_in 205 (by decide +kernel) (by decide +kernel)
  | 10, _ => exact cf_in 207 (by decide +kernel) (by decide +kernel)
  | 11, _ => exact cf_in 209 (by decide +kernel) (by decide +kernel)
  | 12, _ => exact cf_in 211 (by decide +kernel) (by decide +kernel)
  | 13, _ => exact cf_in 213 (by decide +kernel) (by decide +kernel)
  | 14, _ => exact cf_in 215 (by decide +kernel) (by decide +kernel)
  | k + 15, hk => exact absurd hk (by omega)
abbrev cX5 : vw_C := (RX5, TX5, 15)
def RX6 : String := "CellFormatter$Text"
def TX6 : u_T := fun k => match k with
  | 0 => ("CellFormatter$Text", "chars", "[C", true)
  | _ => ("CellFormatter$Text", "length", "I", false)
def tyX6 : Nat → FieldType := fun k => match k with
  | 0 => .array .char
  | _ => .int
theorem nmX6 : ∀ a, a < 2 → ∀ b, b < 2 → a ≠ b → (TX6 a).2.1 ≠ (TX6 b).2.1 := by decide +kernel
theorem tyX6_ok : ∀ k, k < 2 → parseFieldDescriptor (TX6 k).2.2.1 = some (tyX6 k) := by decide +kernel
theorem inX6 : ∀ w ∈ u_ws RX6 TX6 2, w ∈ cf_T := by
  intro w hw
  obtain ⟨k, hk, rfl⟩ := List.mem_map.mp hw
  have hk : k < 2 := List.mem_range.mp hk
  match k, hk with
  | 0, _ => exact cf_in 258 (by decide +kernel) (by decide +kernel)
  | 1, _ => exact cf_in 260 (by decide +kernel) (by decide +kernel)
  | k + 2, hk => exact absurd hk (by omega)
abbrev cX6 : vw_C := (RX6, TX6, 2)
def RX7 : String := "CellFormatter$Tokens"
def TX7 : u_T := fun k => match k with
  | 0 => ("CellFormatter$Tokens", "types", "[I", true)
  | 1 => ("CellFormatter$Tokens", "values", "[I", true)
  | 2 => ("CellFormatter$Tokens", "details", "[I", true)
  | _ => ("CellFormatter$Tokens", "size", "I", false)
def tyX7 : Nat → FieldType := fun k => match k with
  | 0 => .array .int
  | 1 => .array .int
  | 2 => .array .int
  | _ => .int
theorem nmX7 : ∀ a, a < 4 → ∀ b, b < 4 → a ≠ b → (TX7 a).2.1 ≠ (TX7 b).2.1 := by decide +kernel
theorem tyX7_ok : ∀ k, k < 4 → parseFieldDescriptor (TX7 k).2.2.1 = some (tyX7 k) := by decide +kernel
theorem inX7 : ∀ w ∈ u_ws RX7 TX7 4, w ∈ cf_T := by
  intro w hw
  obtain ⟨k, hk, rfl⟩ := List.mem_map.mp hw
  have hk : k < 4 := List.mem_range.mp hk
  match k, hk with
  | 0, _ => exact cf_in 121 (by decide +kernel) (by decide +kernel)
  | 1, _ => exact cf_in 123 (by decide +kernel) (by decide +kernel)
  | 2, _ => exact cf_in 125 (by decide +kernel) (by decide +kernel)
  | 3, _ => exact cf_in 127 (by decide +kernel) (by decide +kernel)
  | k + 4, hk => exact absurd hk (by omega)
abbrev cX7 : vw_C := (RX7, TX7, 4)
def RX8 : String := "CellFormatter"
def TX8 : u_T := fun k => match k with
  | 0 => ("CellFormatter", "code", "[C", true)
  | 1 => ("CellFormatter", "codeLength", "I", false)
  | 2 => ("CellFormatter", "tokens", "LCellFormatter$Tokens;", true)
  | 3 => ("CellFormatter", "scanner", "LCellFormatter$Scanner;", true)
  | 4 => ("CellFormatter", "parts", "[LCellFormatter$Section;", true)
  | 5 => ("CellFormatter", "partCount", "I", false)
  | 6 => ("CellFormatter", "conditional", "Z", false)
  | 7 => ("CellFormatter", "days", "LCellFormatter$Calendar;", true)
  | 8 => ("CellFormatter", "shown", "LCellFormatter$Text;", true)
  | 9 => ("CellFormatter", "shownBy", "I", false)
  | 10 => ("CellFormatter", "numbers", "LCellFormatter$NumberWriter;", true)
  | _ => ("CellFormatter", "moments", "LCellFormatter$MomentWriter;", true)
def tyX8 : Nat → FieldType := fun k => match k with
  | 0 => .array .char
  | 1 => .int
  | 2 => .object "CellFormatter$Tokens"
  | 3 => .object "CellFormatter$Scanner"
  | 4 => .array (.object "CellFormatter$Section")
  | 5 => .int
  | 6 => .boolean
  | 7 => .object "CellFormatter$Calendar"
  | 8 => .object "CellFormatter$Text"
  | 9 => .int
  | 10 => .object "CellFormatter$NumberWriter"
  | _ => .object "CellFormatter$MomentWriter"
theorem nmX8 : ∀ a, a < 12 → ∀ b, b < 12 → a ≠ b → (TX8 a).2.1 ≠ (TX8 b).2.1 := by decide +kernel
theorem tyX8_ok : ∀ k, k < 12 → parseFieldDescriptor (TX8 k).2.2.1 = some (tyX8 k) := by decide +kernel
theorem inX8 : ∀ w ∈ u_ws RX8 TX8 12, w ∈ cf_T := by
  intro w hw
  obtain ⟨k, hk, rfl⟩ := List.mem_map.mp hw
  have hk : k < 12 := List.mem_range.mp hk
  match k, hk with
  | 0, _ => exact cf_in 335 (by decide +kernel) (by decide +kernel)
  | 1, _ => exact cf_in 337 (by decide +kernel) (by decide +kernel)
  | 2, _ => exact cf_in 339 (by decide +kernel) (by decide +kernel)
  | 3, _ => exact cf_in 341 (by decide +kernel) (by decide +kernel)
  | 4, _ => exact cf_in 343 (by decide +kernel) (by decide +kernel)
  | 5, _ => exact cf_in 345 (by decide +kernel) (by decide +kernel)
  | 6, _ => exact cf_in 347 (by decide +kernel) (by decide +kernel)
  | 7, _ => exact cf_in 349 (by decide +kernel) (by decide +kernel)
  | 8, _ => exact cf_in 351 (by decide +kernel) (by decide +kernel)
  | 9, _ => exact cf_in 353 (by decide +kernel) (by decide +kernel)
  | 10, _ => exact cf_in 355 (by decide +kernel) (by decide +kernel)
  | 11, _ => exact cf_in 357 (by decide +kernel) (by decide +kernel)
  | k + 12, hk => exact absurd hk (by omega)
abbrev cX8 : vw_C := (RX8, TX8, 12)
def RX9 : String := "CellFormatterModel"
def TX9 : u_T := fun k => match k with
  | 0 => ("CellFormatterModel", "size", "I", false)
  | 1 => ("CellFormatterModel", "code", "[I", true)
  | 2 => ("CellFormatterModel", "sections", "I", false)
  | 3 => ("CellFormatterModel", "text", "[I", true)
  | 4 => ("CellFormatterModel", "tokens", "I", false)
  | 5 => ("CellFormatterModel", "type", "[I", true)
  | 6 => ("CellFormatterModel", "first", "[I", true)
  | 7 => ("CellFormatterModel", "second", "[I", true)
  | 8 => ("CellFormatterModel", "start", "[I", true)
  | 9 => ("CellFormatterModel", "is1904", "Z", false)
  | 10 => ("CellFormatterModel", "end", "I", false)
  | 11 => ("CellFormatterModel", "met", "I", false)
  | 12 => ("CellFormatterModel", "metFirst", "I", false)
  | 13 => ("CellFormatterModel", "metSecond", "I", false)
  | 14 => ("CellFormatterModel", "shownBy", "I", false)
  | 15 => ("CellFormatterModel", "shown", "I", false)
  | 16 => ("CellFormatterModel", "out", "[C", true)
  | 17 => ("CellFormatterModel", "amount", "J", false)
  | 18 => ("CellFormatterModel", "zeros", "I", false)
  | 19 => ("CellFormatterModel", "decimals", "I", false)
  | _ => ("CellFormatterModel", "power", "I", false)
def tyX9 : Nat → FieldType := fun k => match k with
  | 0 => .int
  | 1 => .array .int
  | 2 => .int
  | 3 => .array .int
  | 4 => .int
  | 5 => .array .int
  | 6 => .array .int
  | 7 => .array .int
  | 8 => .array .int
  | 9 => .boolean
  | 10 => .int
  | 11 => .int
  | 12 => .int
  | 13 => .int
  | 14 => .int
  | 15 => .int
  | 16 => .array .char
  | 17 => .long
  | 18 => .int
  | 19 => .int
  | _ => .int
theorem nmX9 : ∀ a, a < 21 → ∀ b, b < 21 → a ≠ b → (TX9 a).2.1 ≠ (TX9 b).2.1 := by decide +kernel
theorem tyX9_ok : ∀ k, k < 21 → parseFieldDescriptor (TX9 k).2.2.1 = some (tyX9 k) := by decide +kernel
theorem inX9 : ∀ w ∈ u_ws RX9 TX9 21, w ∈ cf_T := by
  intro w hw
  obtain ⟨k, hk, rfl⟩ := List.mem_map.mp hw
  have hk : k < 21 := List.mem_range.mp hk
  match k, hk with
  | 0, _ => exact cf_in 902 (by decide +kernel) (by decide +kernel)
  | 1, _ => exact cf_in 904 (by decide +kernel) (by decide +kernel)
  | 2, _ => exact cf_in 906 (by decide +kernel) (by decide +kernel)
  | 3, _ => exact cf_in 908 (by decide +kernel) (by decide +kernel)
  | 4, _ => exact cf_in 910 (by decide +kernel) (by decide +kernel)
  | 5, _ => exact cf_in 912 (by decide +kernel) (by decide +kernel)
  | 6, _ => exact cf_in 914 (by decide +kernel) (by decide +kernel)
  | 7, _ => exact cf_in 916 (by decide +kernel) (by decide +kernel)
  | 8, _ => exact cf_in 918 (by decide +kernel) (by decide +kernel)
  | 9, _ => exact cf_in 920 (by decide +kernel) (by decide +kernel)
  | 10, _ => exact cf_in 922 (by decide +kernel) (by decide +kernel)
  | 11, _ => exact cf_in 924 (by decide +kernel) (by decide +kernel)
  | 12, _ => exact cf_in 926 (by decide +kernel) (by decide +kernel)
  | 13, _ => exact cf_in 928 (by decide +kernel) (by decide +kernel)
  | 14, _ => exact cf_in 930 (by decide +kernel) (by decide +kernel)
  | 15, _ => exact cf_in 932 (by decide +kernel) (by decide +kernel)
  | 16, _ => exact cf_in 934 (by decide +kernel) (by decide +kernel)
  | 17, _ => exact cf_in 936 (by decide +kernel) (by decide +kernel)
  | 18, _ => exact cf_in 938 (by decide +kernel) (by decide +kernel)
  | 19, _ => exact cf_in 940 (by decide +kernel) (by decide +kernel)
  | 20, _ => exact cf_in 942 (by decide +kernel) (by decide +kernel)
  | k + 21, hk => exact absurd hk (by omega)
abbrev cX9 : vw_C := (RX9, TX9, 21)
def cf_cl : List vw_C := [cX0, cX1, cX2, cX3, cX4, cX5, cX6, cX7, cX8, cX9]
def cf_kd (ci k : Nat) : Nat := match ci, k with
  | 1, 0 => 1
  | 2, 0 => 2
  | 2, 1 => 2
  | 2, 2 => 1
  | 3, 0 => 2
  | 3, 1 => 2
  | 3, 2 => 2
  | 4, 0 => 2
  | 4, 1 => 2
  | 5, 4 => 1
  | 6, 0 => 2
  | 7, 0 => 2
  | 7, 1 => 2
  | 7, 2 => 2
  | 8, 0 => 2
  | 8, 2 => 2
  | 8, 3 => 2
  | 8, 4 => 2
  | 8, 7 => 2
  | 8, 8 => 2
  | 8, 10 => 2
  | 8, 11 => 2
  | 9, 1 => 2
  | 9, 3 => 2
  | 9, 5 => 2
  | 9, 6 => 2
  | 9, 7 => 2
  | 9, 8 => 2
  | 9, 16 => 2
  | 9, 17 => 1
  | _, _ => 0
def cf_N (ci : Nat) : Nat := match ci with
  | 0 => 5
  | 1 => 2
  | 2 => 4
  | 3 => 7
  | 4 => 3
  | 5 => 15
  | 6 => 2
  | 7 => 4
  | 8 => 12
  | 9 => 21
  | _ => 0
