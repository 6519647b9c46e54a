/-- the tables' words that stay good over calls -/
def sy_tb : List Cond := lw_tbl.filter goodWord
def R_0 : String := "StarHide$Clocks"
def F_0 : u_T := fun k => match k with
  | 0 => ("StarHide$Clocks", "rises", "[I", true)
  | 1 => ("StarHide$Clocks", "count", "I", false)
  | 2 => ("StarHide$Clocks", "least", "I", false)
  | _ => ("StarHide$Clocks", "greatest", "I", false)
def t_0 : Nat → FieldType := fun k => match k with
  | 0 => .array .int
  | 1 => .int
  | 2 => .int
  | _ => .int
theorem n_0 : ∀ a, a < 4 → ∀ b, b < 4 → a ≠ b → (F_0 a).2.1 ≠ (F_0 b).2.1 := by decide +kernel
theorem t_0_ok : ∀ k, k < 4 → parseFieldDescriptor (F_0 k).2.2.1 = some (t_0 k) := by decide +kernel
theorem i_0 : ∀ w ∈ u_ws R_0 F_0 4, w ∈ sy_tb := by decide +kernel
def R_1 : String := "StarHide$Dips"
def F_1 : u_T := fun k => match k with
  | 0 => ("StarHide$Dips", "sites", "LStarHide$Sites;", true)
  | 1 => ("StarHide$Dips", "where", "[I", true)
  | 2 => ("StarHide$Dips", "start", "[I", true)
  | 3 => ("StarHide$Dips", "end", "[I", true)
  | 4 => ("StarHide$Dips", "count", "I", false)
  | _ => ("StarHide$Dips", "slack", "I", false)
def t_1 : Nat → FieldType := fun k => match k with
  | 0 => .object "StarHide$Sites"
  | 1 => .array .int
  | 2 => .array .int
  | 3 => .array .int
  | 4 => .int
  | _ => .int
theorem n_1 : ∀ a, a < 6 → ∀ b, b < 6 → a ≠ b → (F_1 a).2.1 ≠ (F_1 b).2.1 := by decide +kernel
theorem t_1_ok : ∀ k, k < 6 → parseFieldDescriptor (F_1 k).2.2.1 = some (t_1 k) := by decide +kernel
theorem i_1 : ∀ w ∈ u_ws R_1 F_1 6, w ∈ sy_tb := by decide +kernel
def R_2 : String := "StarHide$Hull"
def F_2 : u_T := fun k => match k with
  | 0 => ("StarHide$Hull", "sites", "LStarHide$Sites;", true)
  | 1 => ("StarHide$Hull", "along", "[I", true)
  | 2 => ("StarHide$Hull", "height", "[I", true)
  | 3 => ("StarHide$Hull", "points", "I", false)
  | 4 => ("StarHide$Hull", "corners", "[I", true)
  | 5 => ("StarHide$Hull", "count", "I", false)
  | _ => ("StarHide$Hull", "known", "Z", false)
def t_2 : Nat → FieldType := fun k => match k with
  | 0 => .object "StarHide$Sites"
  | 1 => .array .int
  | 2 => .array .int
  | 3 => .int
  | 4 => .array .int
  | 5 => .int
  | _ => .boolean
theorem n_2 : ∀ a, a < 7 → ∀ b, b < 7 → a ≠ b → (F_2 a).2.1 ≠ (F_2 b).2.1 := by decide +kernel
theorem t_2_ok : ∀ k, k < 7 → parseFieldDescriptor (F_2 k).2.2.1 = some (t_2 k) := by decide +kernel
theorem i_2 : ∀ w ∈ u_ws R_2 F_2 7, w ∈ sy_tb := by decide +kernel
def R_3 : String := "StarHide$Net"
def F_3 : u_T := fun k => match k with
  | 0 => ("StarHide$Net", "first", "[I", true)
  | 1 => ("StarHide$Net", "step", "[I", true)
  | 2 => ("StarHide$Net", "many", "[I", true)
  | 3 => ("StarHide$Net", "shapes", "I", false)
  | _ => ("StarHide$Net", "total", "I", false)
def t_3 : Nat → FieldType := fun k => match k with
  | 0 => .array .int
  | 1 => .array .int
  | 2 => .array .int
  | 3 => .int
  | _ => .int
theorem n_3 : ∀ a, a < 5 → ∀ b, b < 5 → a ≠ b → (F_3 a).2.1 ≠ (F_3 b).2.1 := by decide +kernel
theorem t_3_ok : ∀ k, k < 5 → parseFieldDescriptor (F_3 k).2.2.1 = some (t_3 k) := by decide +kernel
theorem i_3 : ∀ w ∈ u_ws R_3 F_3 5, w ∈ sy_tb := by decide +kernel
def R_4 : String := "StarHide$Planner"
def F_4 : u_T := fun k => match k with
  | 0 => ("StarHide$Planner", "sites", "LStarHide$Sites;", true)
  | 1 => ("StarHide$Planner", "order", "[I", true)
  | 2 => ("StarHide$Planner", "height", "[I", true)
  | 3 => ("StarHide$Planner", "inBand", "I", false)
  | 4 => ("StarHide$Planner", "gapFrom", "[I", true)
  | 5 => ("StarHide$Planner", "chosen", "[I", true)
  | _ => ("StarHide$Planner", "chosenCount", "I", false)
def t_4 : Nat → FieldType := fun k => match k with
  | 0 => .object "StarHide$Sites"
  | 1 => .array .int
  | 2 => .array .int
  | 3 => .int
  | 4 => .array .int
  | 5 => .array .int
  | _ => .int
theorem n_4 : ∀ a, a < 7 → ∀ b, b < 7 → a ≠ b → (F_4 a).2.1 ≠ (F_4 b).2.1 := by decide +kernel
theorem t_4_ok : ∀ k, k < 7 → parseFieldDescriptor (F_4 k).2.2.1 = some (t_4 k) := by decide +kernel
theorem i_4 : ∀ w ∈ u_ws R_4 F_4 7, w ∈ sy_tb := by decide +kernel
def R_5 : String := "StarHide$Search"
def F_5 : u_T := fun k => match k with
  | 0 => ("StarHide$Search", "sites", "LStarHide$Sites;", true)
  | 1 => ("StarHide$Search", "mesh", "LStarHide$Net;", true)
  | 2 => ("StarHide$Search", "against", "[I", true)
  | 3 => ("StarHide$Search", "stale", "I", false)
  | 4 => ("StarHide$Search", "fitCount", "I", false)
  | 5 => ("StarHide$Search", "smallest", "I", false)
  | 6 => ("StarHide$Search", "largest", "I", false)
  | 7 => ("StarHide$Search", "fewest", "I", false)
  | 8 => ("StarHide$Search", "fewestBy", "I", false)
  | 9 => ("StarHide$Search", "clocks", "LStarHide$Clocks;", true)
  | _ => ("StarHide$Search", "clocksOf", "I", false)
def t_5 : Nat → FieldType := fun k => match k with
  | 0 => .object "StarHide$Sites"
  | 1 => .object "StarHide$Net"
  | 2 => .array .int
  | 3 => .int
  | 4 => .int
  | 5 => .int
  | 6 => .int
  | 7 => .int
  | 8 => .int
  | 9 => .object "StarHide$Clocks"
  | _ => .int
theorem n_5 : ∀ a, a < 11 → ∀ b, b < 11 → a ≠ b → (F_5 a).2.1 ≠ (F_5 b).2.1 := by decide +kernel
theorem t_5_ok : ∀ k, k < 11 → parseFieldDescriptor (F_5 k).2.2.1 = some (t_5 k) := by decide +kernel
theorem i_5 : ∀ w ∈ u_ws R_5 F_5 11, w ∈ sy_tb := by decide +kernel
def R_6 : String := "StarHide$Site"
def F_6 : u_T := fun k => match k with
  | 0 => ("StarHide$Site", "y", "I", true)
  | 1 => ("StarHide$Site", "x", "I", true)
  | 2 => ("StarHide$Site", "widths", "[I", true)
  | 3 => ("StarHide$Site", "widthsKnown", "Z", false)
  | 4 => ("StarHide$Site", "lead", "I", false)
  | 5 => ("StarHide$Site", "kind", "I", false)
  | 6 => ("StarHide$Site", "a", "I", false)
  | 7 => ("StarHide$Site", "b", "I", false)
  | 8 => ("StarHide$Site", "c", "I", false)
  | _ => ("StarHide$Site", "d", "I", false)
def t_6 : Nat → FieldType := fun k => match k with
  | 0 => .int
  | 1 => .int
  | 2 => .array .int
  | 3 => .boolean
  | 4 => .int
  | 5 => .int
  | 6 => .int
  | 7 => .int
  | 8 => .int
  | _ => .int
theorem n_6 : ∀ a, a < 10 → ∀ b, b < 10 → a ≠ b → (F_6 a).2.1 ≠ (F_6 b).2.1 := by decide +kernel
theorem t_6_ok : ∀ k, k < 10 → parseFieldDescriptor (F_6 k).2.2.1 = some (t_6 k) := by decide +kernel
theorem i_6 : ∀ w ∈ u_ws R_6 F_6 10, w ∈ sy_tb := by decide +kernel
def R_7 : String := "StarHide$Sites"
def F_7 : u_T := fun k => match k with
  | 0 => ("StarHide$Sites", "list", "[LStarHide$Site;", true)
  | 1 => ("StarHide$Sites", "count", "I", false)
  | _ => ("StarHide$Sites", "pace", "I", false)
def t_7 : Nat → FieldType := fun k => match k with
  | 0 => .array (.object "StarHide$Site")
  | 1 => .int
  | _ => .int
theorem n_7 : ∀ a, a < 3 → ∀ b, b < 3 → a ≠ b → (F_7 a).2.1 ≠ (F_7 b).2.1 := by decide +kernel
theorem t_7_ok : ∀ k, k < 3 → parseFieldDescriptor (F_7 k).2.2.1 = some (t_7 k) := by decide +kernel
theorem i_7 : ∀ w ∈ u_ws R_7 F_7 3, w ∈ sy_tb := by decide +kernel
def R_8 : String := "StarHide"
def F_8 : u_T := fun k => match k with
  | 0 => ("StarHide", "sites", "LStarHide$Sites;", true)
  | 1 => ("StarHide", "mesh", "LStarHide$Net;", true)
  | 2 => ("StarHide", "search", "LStarHide$Search;", true)
  | 3 => ("StarHide", "hull", "LStarHide$Hull;", true)
  | 4 => ("StarHide", "dips", "LStarHide$Dips;", true)
  | _ => ("StarHide", "planner", "LStarHide$Planner;", true)
def t_8 : Nat → FieldType := fun k => match k with
  | 0 => .object "StarHide$Sites"
  | 1 => .object "StarHide$Net"
  | 2 => .object "StarHide$Search"
  | 3 => .object "StarHide$Hull"
  | 4 => .object "StarHide$Dips"
  | _ => .object "StarHide$Planner"
theorem n_8 : ∀ a, a < 6 → ∀ b, b < 6 → a ≠ b → (F_8 a).2.1 ≠ (F_8 b).2.1 := by decide +kernel
theorem t_8_ok : ∀ k, k < 6 → parseFieldDescriptor (F_8 k).2.2.1 = some (t_8 k) := by decide +kernel
theorem i_8 : ∀ w ∈ u_ws R_8 F_8 6, w ∈ sy_tb := by decide +kernel
def R_9 : String := "StarHideModel"
def F_9 : u_T := fun k => match k with
  | 0 => ("StarHideModel", "speed", "I", false)
  | 1 => ("StarHideModel", "sites", "I", false)
  | 2 => ("StarHideModel", "ys", "[I", true)
  | 3 => ("StarHideModel", "xs", "[I", true)
  | 4 => ("StarHideModel", "aheads", "[I", true)
  | 5 => ("StarHideModel", "kinds", "[I", true)
  | 6 => ("StarHideModel", "ticks", "[I", true)
  | 7 => ("StarHideModel", "net", "[I", true)
  | 8 => ("StarHideModel", "dips", "I", false)
  | 9 => ("StarHideModel", "dip", "[I", true)
  | 10 => ("StarHideModel", "even", "I", false)
  | 11 => ("StarHideModel", "points", "I", false)
  | 12 => ("StarHideModel", "px", "[J", true)
  | 13 => ("StarHideModel", "py", "[J", true)
  | 14 => ("StarHideModel", "corners", "I", false)
  | 15 => ("StarHideModel", "corner", "[I", true)
  | 16 => ("StarHideModel", "band", "[I", true)
  | 17 => ("StarHideModel", "plan", "[I", true)
  | _ => ("StarHideModel", "planMany", "I", false)
def t_9 : Nat → FieldType := fun k => match k with
  | 0 => .int
  | 1 => .int
  | 2 => .array .int
  | 3 => .array .int
  | 4 => .array .int
  | 5 => .array .int
  | 6 => .array .int
  | 7 => .array .int
  | 8 => .int
  | 9 => .array .int
  | 10 => .int
  | 11 => .int
  | 12 => .array .long
  | 13 => .array .long
  | 14 => .int
  | 15 => .array .int
  | 16 => .array .int
  | 17 => .array .int
  | _ => .int
theorem n_9 : ∀ a, a < 19 → ∀ b, b < 19 → a ≠ b → (F_9 a).2.1 ≠ (F_9 b).2.1 := by decide +kernel
theorem t_9_ok : ∀ k, k < 19 → parseFieldDescriptor (F_9 k).2.2.1 = some (t_9 k) := by decide +kernel
theorem i_9 : ∀ w ∈ u_ws R_9 F_9 19, w ∈ sy_tb := by decide +kernel
abbrev sy_cl : List vw_C := [(R_0, F_0, 4), (R_1, F_1, 6), (R_2, F_2, 7), (R_3, F_3, 5), (R_4, F_4, 7), (R_5, F_5, 11), (R_6, F_6, 10), (R_7, F_7, 3), (R_8, F_8, 6), (R_9, F_9, 19)]
