def RX0 : String := "SeriesTables$History"
def TX0 : u_T := fun k => match k with
  | 0 => ("SeriesTables$History", "ring", "[LSeriesTables$State;", true)
  | 1 => ("SeriesTables$History", "kept", "I", false)
  | _ => ("SeriesTables$History", "next", "I", false)
def tyX0 : Nat → FieldType := fun k => match k with
  | 0 => .array (.object "SeriesTables$State")
  | 1 => .int
  | _ => .int
theorem nmX0 : ∀ a, a < 3 → ∀ b, b < 3 → a ≠ b → (TX0 a).2.1 ≠ (TX0 b).2.1 := by decide +kernel
theorem tyX0_ok : ∀ k, k < 3 → parseFieldDescriptor (TX0 k).2.2.1 = some (tyX0 k) := by decide +kernel
def RX1 : String := "SeriesTables$Reader"
def TX1 : u_T := fun k => match k with
  | 0 => ("SeriesTables$Reader", "draft", "LSeriesTables$State;", true)
  | 1 => ("SeriesTables$Reader", "tape", "LSeriesTables$Tape;", true)
  | 2 => ("SeriesTables$Reader", "divisor", "[I", true)
  | 3 => ("SeriesTables$Reader", "place", "I", false)
  | 4 => ("SeriesTables$Reader", "token", "I", false)
  | 5 => ("SeriesTables$Reader", "tokenPlace", "I", false)
  | 6 => ("SeriesTables$Reader", "number", "I", false)
  | 7 => ("SeriesTables$Reader", "lines", "I", false)
  | 8 => ("SeriesTables$Reader", "seriesTold", "I", false)
  | 9 => ("SeriesTables$Reader", "tablesTold", "I", false)
  | 10 => ("SeriesTables$Reader", "faultKind", "I", false)
  | _ => ("SeriesTables$Reader", "faultPlace", "I", false)
def tyX1 : Nat → FieldType := fun k => match k with
  | 0 => .object "SeriesTables$State"
  | 1 => .object "SeriesTables$Tape"
  | 2 => .array .int
  | 3 => .int
  | 4 => .int
  | 5 => .int
  | 6 => .int
  | 7 => .int
  | 8 => .int
  | 9 => .int
  | 10 => .int
  | _ => .int
theorem nmX1 : ∀ a, a < 12 → ∀ b, b < 12 → a ≠ b → (TX1 a).2.1 ≠ (TX1 b).2.1 := by decide +kernel
theorem tyX1_ok : ∀ k, k < 12 → parseFieldDescriptor (TX1 k).2.2.1 = some (tyX1 k) := by decide +kernel
def RX2 : String := "SeriesTables$Rows"
def RX3 : String := "SeriesTables$SeriesBench"
def TX3 : u_T := fun k => match k with
  | 0 => ("SeriesTables$SeriesBench", "result", "[I", true)
  | 1 => ("SeriesTables$SeriesBench", "spare", "[I", true)
  | _ => ("SeriesTables$SeriesBench", "quotient", "[I", true)
def tyX3 : Nat → FieldType := fun k => match k with
  | 0 => .array .int
  | 1 => .array .int
  | _ => .array .int
theorem nmX3 : ∀ a, a < 3 → ∀ b, b < 3 → a ≠ b → (TX3 a).2.1 ≠ (TX3 b).2.1 := by decide +kernel
theorem tyX3_ok : ∀ k, k < 3 → parseFieldDescriptor (TX3 k).2.2.1 = some (tyX3 k) := by decide +kernel
def RX4 : String := "SeriesTables$State"
def TX4 : u_T := fun k => match k with
  | 0 => ("SeriesTables$State", "series", "[[I", true)
  | 1 => ("SeriesTables$State", "tables", "[LSeriesTables$Table;", true)
  | 2 => ("SeriesTables$State", "free", "[[I", true)
  | _ => ("SeriesTables$State", "size", "I", false)
def tyX4 : Nat → FieldType := fun k => match k with
  | 0 => .array (.array .int)
  | 1 => .array (.object "SeriesTables$Table")
  | 2 => .array (.array .int)
  | _ => .int
theorem nmX4 : ∀ a, a < 4 → ∀ b, b < 4 → a ≠ b → (TX4 a).2.1 ≠ (TX4 b).2.1 := by decide +kernel
theorem tyX4_ok : ∀ k, k < 4 → parseFieldDescriptor (TX4 k).2.2.1 = some (tyX4 k) := by decide +kernel
def RX5 : String := "SeriesTables$Table"
def TX5 : u_T := fun k => match k with
  | 0 => ("SeriesTables$Table", "g", "[I", true)
  | _ => ("SeriesTables$Table", "f", "[I", true)
def tyX5 : Nat → FieldType := fun k => match k with
  | 0 => .array .int
  | _ => .array .int
theorem nmX5 : ∀ a, a < 2 → ∀ b, b < 2 → a ≠ b → (TX5 a).2.1 ≠ (TX5 b).2.1 := by decide +kernel
theorem tyX5_ok : ∀ k, k < 2 → parseFieldDescriptor (TX5 k).2.2.1 = some (tyX5 k) := by decide +kernel
def RX6 : String := "SeriesTables$TableBench"
def TX6 : u_T := fun k => match k with
  | 0 => ("SeriesTables$TableBench", "result", "LSeriesTables$Table;", true)
  | 1 => ("SeriesTables$TableBench", "second", "LSeriesTables$Table;", true)
  | 2 => ("SeriesTables$TableBench", "third", "LSeriesTables$Table;", true)
  | 3 => ("SeriesTables$TableBench", "row", "[I", true)
  | 4 => ("SeriesTables$TableBench", "reversed", "[I", true)
  | 5 => ("SeriesTables$TableBench", "spare", "[I", true)
  | 6 => ("SeriesTables$TableBench", "columns", "[[I", true)
  | 7 => ("SeriesTables$TableBench", "otherColumns", "[[I", true)
  | _ => ("SeriesTables$TableBench", "seriesBench", "LSeriesTables$SeriesBench;", true)
def tyX6 : Nat → FieldType := fun k => match k with
  | 0 => .object "SeriesTables$Table"
  | 1 => .object "SeriesTables$Table"
  | 2 => .object "SeriesTables$Table"
  | 3 => .array .int
  | 4 => .array .int
  | 5 => .array .int
  | 6 => .array (.array .int)
  | 7 => .array (.array .int)
  | _ => .object "SeriesTables$SeriesBench"
theorem nmX6 : ∀ a, a < 9 → ∀ b, b < 9 → a ≠ b → (TX6 a).2.1 ≠ (TX6 b).2.1 := by decide +kernel
theorem tyX6_ok : ∀ k, k < 9 → parseFieldDescriptor (TX6 k).2.2.1 = some (tyX6 k) := by decide +kernel
def RX7 : String := "SeriesTables$Tape"
def TX7 : u_T := fun k => match k with
  | 0 => ("SeriesTables$Tape", "bytes", "[B", true)
  | _ => ("SeriesTables$Tape", "length", "I", false)
def tyX7 : Nat → FieldType := fun k => match k with
  | 0 => .array .byte
  | _ => .int
theorem nmX7 : ∀ a, a < 2 → ∀ b, b < 2 → a ≠ b → (TX7 a).2.1 ≠ (TX7 b).2.1 := by decide +kernel
theorem tyX7_ok : ∀ k, k < 2 → parseFieldDescriptor (TX7 k).2.2.1 = some (tyX7 k) := by decide +kernel
def RX8 : String := "SeriesTables"
def TX8 : u_T := fun k => match k with
  | 0 => ("SeriesTables", "tape", "LSeriesTables$Tape;", true)
  | 1 => ("SeriesTables", "reader", "LSeriesTables$Reader;", true)
  | 2 => ("SeriesTables", "state", "LSeriesTables$State;", true)
  | 3 => ("SeriesTables", "history", "LSeriesTables$History;", true)
  | 4 => ("SeriesTables", "images", "[LSeriesTables$State;", true)
  | 5 => ("SeriesTables", "imageKept", "[Z", true)
  | 6 => ("SeriesTables", "seriesBench", "LSeriesTables$SeriesBench;", true)
  | 7 => ("SeriesTables", "tableBench", "LSeriesTables$TableBench;", true)
  | 8 => ("SeriesTables", "faultKind", "I", false)
  | 9 => ("SeriesTables", "seriesTold", "I", false)
  | _ => ("SeriesTables", "tablesTold", "I", false)
def tyX8 : Nat → FieldType := fun k => match k with
  | 0 => .object "SeriesTables$Tape"
  | 1 => .object "SeriesTables$Reader"
  | 2 => .object "SeriesTables$State"
  | 3 => .object "SeriesTables$History"
  | 4 => .array (.object "SeriesTables$State")
  | 5 => .array .boolean
  | 6 => .object "SeriesTables$SeriesBench"
  | 7 => .object "SeriesTables$TableBench"
  | 8 => .int
  | 9 => .int
  | _ => .int
theorem nmX8 : ∀ a, a < 11 → ∀ b, b < 11 → a ≠ b → (TX8 a).2.1 ≠ (TX8 b).2.1 := by decide +kernel
theorem tyX8_ok : ∀ k, k < 11 → parseFieldDescriptor (TX8 k).2.2.1 = some (tyX8 k) := by decide +kernel
def RX9 : String := "SeriesTablesModel"
def TX9 : u_T := fun k => match k with
  | 0 => ("SeriesTablesModel", "thrown", "I", false)
  | 1 => ("SeriesTablesModel", "tape", "[I", true)
  | 2 => ("SeriesTablesModel", "taped", "I", false)
  | 3 => ("SeriesTablesModel", "size", "I", false)
  | 4 => ("SeriesTablesModel", "to", "I", false)
  | 5 => ("SeriesTablesModel", "from", "I", false)
  | 6 => ("SeriesTablesModel", "kind", "I", false)
  | 7 => ("SeriesTablesModel", "number", "I", false)
  | 8 => ("SeriesTablesModel", "fault", "I", false)
  | 9 => ("SeriesTablesModel", "place", "I", false)
  | 10 => ("SeriesTablesModel", "now", "[I", true)
  | 11 => ("SeriesTablesModel", "read", "[I", true)
  | 12 => ("SeriesTablesModel", "kept", "[I", true)
  | 13 => ("SeriesTablesModel", "snaps", "[I", true)
  | 14 => ("SeriesTablesModel", "isKept", "[Z", true)
  | 15 => ("SeriesTablesModel", "snapMany", "I", false)
  | 16 => ("SeriesTablesModel", "seriesTold", "I", false)
  | 17 => ("SeriesTablesModel", "tablesTold", "I", false)
  | 18 => ("SeriesTablesModel", "seriesRead", "I", false)
  | 19 => ("SeriesTablesModel", "tablesRead", "I", false)
  | 20 => ("SeriesTablesModel", "up", "[I", true)
  | 21 => ("SeriesTablesModel", "low", "[I", true)
  | 22 => ("SeriesTablesModel", "made", "[I", true)
  | 23 => ("SeriesTablesModel", "helper", "[I", true)
  | 24 => ("SeriesTablesModel", "other", "[I", true)
  | 25 => ("SeriesTablesModel", "one", "[I", true)
  | 26 => ("SeriesTablesModel", "two", "[I", true)
  | 27 => ("SeriesTablesModel", "three", "[I", true)
  | 28 => ("SeriesTablesModel", "spare", "[I", true)
  | 29 => ("SeriesTablesModel", "unit", "[I", true)
  | _ => ("SeriesTablesModel", "seed", "I", false)
def tyX9 : Nat → FieldType := fun k => match k with
  | 0 => .int
  | 1 => .array .int
  | 2 => .int
  | 3 => .int
  | 4 => .int
  | 5 => .int
  | 6 => .int
  | 7 => .int
  | 8 => .int
  | 9 => .int
  | 10 => .array .int
  | 11 => .array .int
  | 12 => .array .int
  | 13 => .array .int
  | 14 => .array .boolean
  | 15 => .int
  | 16 => .int
  | 17 => .int
  | 18 => .int
  | 19 => .int
  | 20 => .array .int
  | 21 => .array .int
  | 22 => .array .int
  | 23 => .array .int
  | 24 => .array .int
  | 25 => .array .int
  | 26 => .array .int
  | 27 => .array .int
  | 28 => .array .int
  | 29 => .array .int
  | _ => .int
theorem nmX9 : ∀ a, a < 31 → ∀ b, b < 31 → a ≠ b → (TX9 a).2.1 ≠ (TX9 b).2.1 := by decide +kernel
theorem tyX9_ok : ∀ k, k < 31 → parseFieldDescriptor (TX9 k).2.2.1 = some (tyX9 k) := by decide +kernel
abbrev vwCl : List vw_C := [(RX0, TX0, 3), (RX1, TX1, 12), (RX3, TX3, 3), (RX4, TX4, 4), (RX5, TX5, 2), (RX6, TX6, 9), (RX7, TX7, 2), (RX8, TX8, 11), (RX9, TX9, 31)]
def fC (ci : Nat) : String := match ci with
  | 0 => RX0
  | 1 => RX1
  | 2 => RX3
  | 3 => RX4
  | 4 => RX5
  | 5 => RX6
  | 6 => RX7
  | 7 => RX8
  | _ => RX9
def fT (ci : Nat) : u_T := match ci with
  | 0 => TX0
  | 1 => TX1
  | 2 => TX3
  | 3 => TX4
  | 4 => TX5
  | 5 => TX6
  | 6 => TX7
  | 7 => TX8
  | _ => TX9
def fY (ci : Nat) : Nat → FieldType := match ci with
  | 0 => tyX0
  | 1 => tyX1
  | 2 => tyX3
  | 3 => tyX4
  | 4 => tyX5
  | 5 => tyX6
  | 6 => tyX7
  | 7 => tyX8
  | _ => tyX9
def nfl (ci : Nat) : Nat := match ci with
  | 0 => 3
  | 1 => 12
  | 2 => 3
  | 3 => 4
  | 4 => 2
  | 5 => 9
  | 6 => 2
  | 7 => 11
  | _ => 31
theorem fc_at : ∀ ci, ci < 9 → vwCl[ci]? = some (fC ci, fT ci, nfl ci) := by
  intro ci h
  match ci, h with
  | 0, _ => rfl
  | 1, _ => rfl
  | 2, _ => rfl
  | 3, _ => rfl
  | 4, _ => rfl
  | 5, _ => rfl
  | 6, _ => rfl
  | 7, _ => rfl
  | 8, _ => rfl
theorem fc_ty : ∀ ci, ci < 9 → ∀ k, k < nfl ci → parseFieldDescriptor (fT ci k).2.2.1 = some (fY ci k) := by decide +kernel
theorem fc_nm : ∀ ci, ci < 9 → ∀ a, a < nfl ci → ∀ b, b < nfl ci → a ≠ b → (fT ci a).2.1 ≠ (fT ci b).2.1 := by decide +kernel
def gt_ws : List Cond := lw_tbl.filter goodWord
theorem gt_in {w : Cond} (h : w ∈ lw_tbl) (hg : goodWord w = true) : w ∈ gt_ws := List.mem_filter.mpr ⟨h, hg⟩
theorem gt_good {w : Cond} (h : w ∈ gt_ws) : (w.onTables && w.keeps) = true ∨ ∃ ty, w = .arrayClass ty := good_of_word (List.mem_filter.mp h).2
theorem fc_ws0 : ∀ w ∈ u_ws RX0 TX0 3, w ∈ gt_ws := fun w h => gt_in ((show ∀ w ∈ u_ws RX0 TX0 3, w ∈ lw_tbl by decide +kernel) w h) ((show ∀ w ∈ u_ws RX0 TX0 3, goodWord w = true by decide +kernel) w h)
theorem fc_ws1 : ∀ w ∈ u_ws RX1 TX1 12, w ∈ gt_ws := fun w h => gt_in ((show ∀ w ∈ u_ws RX1 TX1 12, w ∈ lw_tbl by decide +kernel) w h) ((show ∀ w ∈ u_ws RX1 TX1 12, goodWord w = true by decide +kernel) w h)
theorem fc_ws2 : ∀ w ∈ u_ws RX3 TX3 3, w ∈ gt_ws := fun w h => gt_in ((show ∀ w ∈ u_ws RX3 TX3 3, w ∈ lw_tbl by decide +kernel) w h) ((show ∀ w ∈ u_ws RX3 TX3 3, goodWord w = true by decide +kernel) w h)
theorem fc_ws3 : ∀ w ∈ u_ws RX4 TX4 4, w ∈ gt_ws := fun w h => gt_in ((show ∀ w ∈ u_ws RX4 TX4 4, w ∈ lw_tbl by decide +kernel) w h) ((show ∀ w ∈ u_ws RX4 TX4 4, goodWord w = true by decide +kernel) w h)
theorem fc_ws4 : ∀ w ∈ u_ws RX5 TX5 2, w ∈ gt_ws := fun w h => gt_in ((show ∀ w ∈ u_ws RX5 TX5 2, w ∈ lw_tbl by decide +kernel) w h) ((show ∀ w ∈ u_ws RX5 TX5 2, goodWord w = true by decide +kernel) w h)
theorem fc_ws5 : ∀ w ∈ u_ws RX6 TX6 9, w ∈ gt_ws := fun w h => gt_in ((show ∀ w ∈ u_ws RX6 TX6 9, w ∈ lw_tbl by decide +kernel) w h) ((show ∀ w ∈ u_ws RX6 TX6 9, goodWord w = true by decide +kernel) w h)
theorem fc_ws6 : ∀ w ∈ u_ws RX7 TX7 2, w ∈ gt_ws := fun w h => gt_in ((show ∀ w ∈ u_ws RX7 TX7 2, w ∈ lw_tbl by decide +kernel) w h) ((show ∀ w ∈ u_ws RX7 TX7 2, goodWord w = true by decide +kernel) w h)
theorem fc_ws7 : ∀ w ∈ u_ws RX8 TX8 11, w ∈ gt_ws := fun w h => gt_in ((show ∀ w ∈ u_ws RX8 TX8 11, w ∈ lw_tbl by decide +kernel) w h) ((show ∀ w ∈ u_ws RX8 TX8 11, goodWord w = true by decide +kernel) w h)
theorem fc_ws8 : ∀ w ∈ u_ws RX9 TX9 31, w ∈ gt_ws := fun w h => gt_in ((show ∀ w ∈ u_ws RX9 TX9 31, w ∈ lw_tbl by decide +kernel) w h) ((show ∀ w ∈ u_ws RX9 TX9 31, goodWord w = true by decide +kernel) w h)
theorem fc_ws : ∀ ci, ci < 9 → ∀ w ∈ u_ws (fC ci) (fT ci) (nfl ci), w ∈ gt_ws := by
  intro ci h
  match ci, h with
  | 0, _ => exact fc_ws0
  | 1, _ => exact fc_ws1
  | 2, _ => exact fc_ws2
  | 3, _ => exact fc_ws3
  | 4, _ => exact fc_ws4
  | 5, _ => exact fc_ws5
  | 6, _ => exact fc_ws6
  | 7, _ => exact fc_ws7
  | 8, _ => exact fc_ws8
