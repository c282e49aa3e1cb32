abbrev mm_elem : String := "SystemParts$Part"
def T_SP : u_T := fun k => match k with
  | 0 => ("SystemParts", "parts", "[LSystemParts$Part;", true)
  | 1 => ("SystemParts", "lines", "LSystemParts$Lines;", true)
  | 2 => ("SystemParts", "tally", "[I", true)
  | 3 => ("SystemParts", "partCount", "I", false)
  | 4 => ("SystemParts", "time", "I", false)
  | _ => ("SystemParts", "cause", "I", false)
def tt_SP : Nat → FieldType := fun k => match k with
  | 0 => (.array (.object "SystemParts$Part"))
  | 1 => .object "SystemParts$Lines"
  | 2 => (.array .int)
  | 3 => .int
  | 4 => .int
  | _ => .int
def T_Lines : u_T := fun k => match k with
  | 0 => ("SystemParts$Lines", "ways", "[I", true)
  | 1 => ("SystemParts$Lines", "ranks", "[I", true)
  | 2 => ("SystemParts$Lines", "hidden", "I", false)
  | 3 => ("SystemParts$Lines", "up", "I", false)
  | _ => ("SystemParts$Lines", "kept", "I", false)
def tt_Lines : Nat → FieldType := fun k => match k with
  | 0 => (.array .int)
  | 1 => (.array .int)
  | 2 => .int
  | 3 => .int
  | _ => .int
def T_Seat : u_T := fun k => match k with
  | 0 => ("SystemParts$Seat", "from", "I", true)
  | 1 => ("SystemParts$Seat", "length", "I", true)
  | 2 => ("SystemParts$Seat", "line", "I", true)
  | _ => ("SystemParts$Seat", "waits", "I", true)
def tt_Seat : Nat → FieldType := fun k => match k with
  | 0 => .int
  | 1 => .int
  | 2 => .int
  | _ => .int
def T_Cells : u_T := fun k => match k with
  | 0 => ("SystemParts$Cells", "cells", "[I", true)
  | 1 => ("SystemParts$Cells", "fixed", "Z", true)
  | _ => ("SystemParts$Part", "seat", "LSystemParts$Seat;", true)
def tt_Cells : Nat → FieldType := fun k => match k with
  | 0 => (.array .int)
  | 1 => .boolean
  | _ => .object "SystemParts$Seat"
def T_Timer : u_T := fun k => match k with
  | 0 => ("SystemParts$Timer", "reached", "I", false)
  | 1 => ("SystemParts$Timer", "limit", "I", false)
  | 2 => ("SystemParts$Timer", "mode", "I", false)
  | 3 => ("SystemParts$Timer", "fired", "I", false)
  | _ => ("SystemParts$Part", "seat", "LSystemParts$Seat;", true)
def tt_Timer : Nat → FieldType := fun k => match k with
  | 0 => .int
  | 1 => .int
  | 2 => .int
  | 3 => .int
  | _ => .object "SystemParts$Seat"
def T_Serial : u_T := fun k => match k with
  | 0 => ("SystemParts$Serial", "come", "[I", true)
  | 1 => ("SystemParts$Serial", "firstCome", "I", false)
  | 2 => ("SystemParts$Serial", "waiting", "I", false)
  | 3 => ("SystemParts$Serial", "out", "[I", true)
  | 4 => ("SystemParts$Serial", "gone", "I", false)
  | 5 => ("SystemParts$Serial", "sending", "I", false)
  | 6 => ("SystemParts$Serial", "stepsLeft", "I", false)
  | 7 => ("SystemParts$Serial", "mode", "I", false)
  | _ => ("SystemParts$Part", "seat", "LSystemParts$Seat;", true)
def tt_Serial : Nat → FieldType := fun k => match k with
  | 0 => (.array .int)
  | 1 => .int
  | 2 => .int
  | 3 => (.array .int)
  | 4 => .int
  | 5 => .int
  | 6 => .int
  | 7 => .int
  | _ => .object "SystemParts$Seat"
def T_Rows : u_T := fun k => match k with
  | 0 => ("SystemParts$Rows", "rows", "[I", true)
  | 1 => ("SystemParts$Rows", "window", "[I", true)
  | 2 => ("SystemParts$Rows", "row", "I", false)
  | 3 => ("SystemParts$Rows", "work", "I", false)
  | 4 => ("SystemParts$Rows", "workRow", "I", false)
  | 5 => ("SystemParts$Rows", "stepsLeft", "I", false)
  | 6 => ("SystemParts$Rows", "done", "I", false)
  | _ => ("SystemParts$Part", "seat", "LSystemParts$Seat;", true)
def tt_Rows : Nat → FieldType := fun k => match k with
  | 0 => (.array .int)
  | 1 => (.array .int)
  | 2 => .int
  | 3 => .int
  | 4 => .int
  | 5 => .int
  | 6 => .int
  | _ => .object "SystemParts$Seat"
def T_Counts : u_T := fun k => match k with
  | 0 => ("SystemParts$Counts", "tallies", "[I", true)
  | _ => ("SystemParts$Part", "seat", "LSystemParts$Seat;", true)
def tt_Counts : Nat → FieldType := fun k => match k with
  | 0 => (.array .int)
  | _ => .object "SystemParts$Seat"
def T_Model : u_T := fun k => match k with
  | 0 => ("SystemPartsModel", "thrown", "I", false)
  | 1 => ("SystemPartsModel", "time", "I", false)
  | 2 => ("SystemPartsModel", "parts", "I", false)
  | 3 => ("SystemPartsModel", "cause", "I", false)
  | 4 => ("SystemPartsModel", "kind", "[I", true)
  | 5 => ("SystemPartsModel", "from", "[I", true)
  | 6 => ("SystemPartsModel", "size", "[I", true)
  | 7 => ("SystemPartsModel", "lineOf", "[I", true)
  | 8 => ("SystemPartsModel", "waits", "[I", true)
  | 9 => ("SystemPartsModel", "reg", "[I", true)
  | 10 => ("SystemPartsModel", "left", "[I", true)
  | 11 => ("SystemPartsModel", "what", "[I", true)
  | 12 => ("SystemPartsModel", "came", "[I", true)
  | 13 => ("SystemPartsModel", "in", "[I", true)
  | 14 => ("SystemPartsModel", "went", "[I", true)
  | 15 => ("SystemPartsModel", "gone", "[I", true)
  | 16 => ("SystemPartsModel", "rows", "[I", true)
  | 17 => ("SystemPartsModel", "way", "[I", true)
  | 18 => ("SystemPartsModel", "rank", "[I", true)
  | 19 => ("SystemPartsModel", "hidden", "[Z", true)
  | 20 => ("SystemPartsModel", "up", "[Z", true)
  | 21 => ("SystemPartsModel", "noted", "[Z", true)
  | 22 => ("SystemPartsModel", "reads", "I", false)
  | 23 => ("SystemPartsModel", "writes", "I", false)
  | _ => ("SystemPartsModel", "faults", "I", false)
def tt_Model : Nat → FieldType := fun k => match k with
  | 0 => .int
  | 1 => .int
  | 2 => .int
  | 3 => .int
  | 4 => (.array .int)
  | 5 => (.array .int)
  | 6 => (.array .int)
  | 7 => (.array .int)
  | 8 => (.array .int)
  | 9 => (.array .int)
  | 10 => (.array .int)
  | 11 => (.array .int)
  | 12 => (.array .int)
  | 13 => (.array .int)
  | 14 => (.array .int)
  | 15 => (.array .int)
  | 16 => (.array .int)
  | 17 => (.array .int)
  | 18 => (.array .int)
  | 19 => (.array .boolean)
  | 20 => (.array .boolean)
  | 21 => (.array .boolean)
  | 22 => .int
  | 23 => .int
  | _ => .int
abbrev vwCl : List vw_C := [("SystemParts", T_SP, 6), ("SystemParts$Lines", T_Lines, 5), ("SystemParts$Seat", T_Seat, 4), ("SystemParts$Cells", T_Cells, 3), ("SystemParts$Timer", T_Timer, 5), ("SystemParts$Serial", T_Serial, 9), ("SystemParts$Rows", T_Rows, 8), ("SystemParts$Counts", T_Counts, 2), ("SystemPartsModel", T_Model, 25)]
