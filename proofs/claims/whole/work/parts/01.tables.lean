/-! THE PROGRAM'S TABLES: printed by wip/gen/tables.py. Classes, fields, methods, links, constants, the code by blocks. -/
def am_cn (c : Nat) : String := match c with
  | 0 => "RouteGuide$Frontier"
  | 1 => "RouteGuide$MapParts"
  | 2 => "RouteGuide$NameSearch"
  | 3 => "RouteGuide$Places"
  | 4 => "RouteGuide$Streets"
  | 5 => "RouteGuide$Way"
  | 6 => "RouteGuide$WayFinder"
  | 7 => "RouteGuide"
  | 8 => "RouteGuideModel"
  | 9 => "RouteGuide$Geometry"
  | 10 => "RouteGuideLaw"
  | _ => ""
def am_nf (c : Nat) : Nat := match c with
  | 0 => 4
  | 1 => 2
  | 2 => 2
  | 3 => 4
  | 4 => 9
  | 5 => 4
  | 6 => 12
  | 7 => 10
  | 8 => 36
  | _ => 0
def am_ftL (c : Nat) : List Nat := match c with
  | 0 => [3, 3, 3, 0]
  | 1 => [0, 0]
  | 2 => [3, 0]
  | 3 => [3, 3, 3, 0]
  | 4 => [3, 3, 3, 3, 3, 3, 3, 3, 0]
  | 5 => [3, 0, 2, 1]
  | 6 => [3, 3, 3, 3, 3, 3, 3, 3, 0, 0, 0, 0]
  | 7 => [3, 3, 3, 3, 3, 3, 3, 1, 2, 0]
  | 8 => [0, 0, 3, 3, 3, 0, 3, 3, 3, 3, 3, 3, 3, 3, 2, 0, 0, 0, 0, 3, 3, 3, 3, 0, 3, 2, 3, 0, 3, 2, 0, 3, 0, 3, 0, 0]
  | _ => []
def am_ft (c k : Nat) : Nat := (am_ftL c).getD k 9
def am_ffL (c : Nat) : List Bool := match c with
  | 0 => [true, true, true, false]
  | 1 => [false, false]
  | 2 => [true, false]
  | 3 => [true, true, true, false]
  | 4 => [true, true, true, true, true, true, true, true, false]
  | 5 => [true, false, false, false]
  | 6 => [true, true, true, true, true, true, true, true, false, false, false, false]
  | 7 => [true, true, true, true, true, false, false, false, false, false]
  | 8 => [false, false, true, true, true, false, true, true, true, true, true, true, true, true, false, false, false, false, false, true, true, true, true, false, true, false, true, false, true, false, false, true, false, true, false, false]
  | _ => []
def am_ff (c k : Nat) : Bool := (am_ffL c).getD k false
def tb_TL0 : List (String × String × String × Bool) := [("RouteGuide$Frontier", "key", "[J", true), ("RouteGuide$Frontier", "place", "[I", true), ("RouteGuide$Frontier", "heap", "[I", true), ("RouteGuide$Frontier", "size", "I", false)]
def tb_T0 : u_T := fun k => tb_TL0.getD k ("", "", "", false)
def tb_yL0 : List FieldType := [.array .long, .array .int, .array .int, .int]
def tb_y0 : Nat → FieldType := fun k => tb_yL0.getD k .int
def tb_TL1 : List (String × String × String × Bool) := [("RouteGuide$MapParts", "edition", "I", false), ("RouteGuide$MapParts", "have", "I", false)]
def tb_T1 : u_T := fun k => tb_TL1.getD k ("", "", "", false)
def tb_yL1 : List FieldType := [.int, .int]
def tb_y1 : Nat → FieldType := fun k => tb_yL1.getD k .int
def tb_TL2 : List (String × String × String × Bool) := [("RouteGuide$NameSearch", "typed", "[I", true), ("RouteGuide$NameSearch", "size", "I", false)]
def tb_T2 : u_T := fun k => tb_TL2.getD k ("", "", "", false)
def tb_yL2 : List FieldType := [.array .int, .int]
def tb_y2 : Nat → FieldType := fun k => tb_yL2.getD k .int
def tb_TL3 : List (String × String × String × Bool) := [("RouteGuide$Places", "x", "[J", true), ("RouteGuide$Places", "y", "[J", true), ("RouteGuide$Places", "rate", "[J", true), ("RouteGuide$Places", "count", "I", false)]
def tb_T3 : u_T := fun k => tb_TL3.getD k ("", "", "", false)
def tb_yL3 : List FieldType := [.array .long, .array .long, .array .long, .int]
def tb_y3 : Nat → FieldType := fun k => tb_yL3.getD k .int
def tb_TL4 : List (String × String × String × Bool) := [("RouteGuide$Streets", "begin", "[I", true), ("RouteGuide$Streets", "end", "[I", true), ("RouteGuide$Streets", "length", "[J", true), ("RouteGuide$Streets", "speed", "[J", true), ("RouteGuide$Streets", "cls", "[I", true), ("RouteGuide$Streets", "trafficSpeed", "[J", true), ("RouteGuide$Streets", "trafficUntil", "[J", true), ("RouteGuide$Streets", "barred", "[J", true), ("RouteGuide$Streets", "count", "I", false)]
def tb_T4 : u_T := fun k => tb_TL4.getD k ("", "", "", false)
def tb_yL4 : List FieldType := [.array .int, .array .int, .array .long, .array .long, .array .int, .array .long, .array .long, .array .long, .int]
def tb_y4 : Nat → FieldType := fun k => tb_yL4.getD k .int
def tb_TL5 : List (String × String × String × Bool) := [("RouteGuide$Way", "row", "[I", true), ("RouteGuide$Way", "size", "I", false), ("RouteGuide$Way", "total", "J", false), ("RouteGuide$Way", "there", "Z", false)]
def tb_T5 : u_T := fun k => tb_TL5.getD k ("", "", "", false)
def tb_yL5 : List FieldType := [.array .int, .int, .long, .boolean]
def tb_y5 : Nat → FieldType := fun k => tb_yL5.getD k .int
def tb_TL6 : List (String × String × String × Bool) := [("RouteGuide$WayFinder", "places", "LRouteGuide$Places;", true), ("RouteGuide$WayFinder", "streets", "LRouteGuide$Streets;", true), ("RouteGuide$WayFinder", "frontier", "LRouteGuide$Frontier;", true), ("RouteGuide$WayFinder", "weight", "[J", true), ("RouteGuide$WayFinder", "use", "[I", true), ("RouteGuide$WayFinder", "unit", "[J", true), ("RouteGuide$WayFinder", "reach", "[I", true), ("RouteGuide$WayFinder", "held", "[J", true), ("RouteGuide$WayFinder", "from", "I", false), ("RouteGuide$WayFinder", "to", "I", false), ("RouteGuide$WayFinder", "kind", "I", false), ("RouteGuide$WayFinder", "energy", "I", false)]
def tb_T6 : u_T := fun k => tb_TL6.getD k ("", "", "", false)
def tb_yL6 : List FieldType := [.object "RouteGuide$Places", .object "RouteGuide$Streets", .object "RouteGuide$Frontier", .array .long, .array .int, .array .long, .array .int, .array .long, .int, .int, .int, .int]
def tb_y6 : Nat → FieldType := fun k => tb_yL6.getD k .int
def tb_TL7 : List (String × String × String × Bool) := [("RouteGuide", "places", "LRouteGuide$Places;", true), ("RouteGuide", "streets", "LRouteGuide$Streets;", true), ("RouteGuide", "finder", "LRouteGuide$WayFinder;", true), ("RouteGuide", "names", "LRouteGuide$NameSearch;", true), ("RouteGuide", "parts", "LRouteGuide$MapParts;", true), ("RouteGuide", "way", "LRouteGuide$Way;", false), ("RouteGuide", "spare", "LRouteGuide$Way;", false), ("RouteGuide", "planned", "Z", false), ("RouteGuide", "plans", "J", false), ("RouteGuide", "lastCharger", "I", false)]
def tb_T7 : u_T := fun k => tb_TL7.getD k ("", "", "", false)
def tb_yL7 : List FieldType := [.object "RouteGuide$Places", .object "RouteGuide$Streets", .object "RouteGuide$WayFinder", .object "RouteGuide$NameSearch", .object "RouteGuide$MapParts", .object "RouteGuide$Way", .object "RouteGuide$Way", .boolean, .long, .int]
def tb_y7 : Nat → FieldType := fun k => tb_yL7.getD k .int
def tb_TL8 : List (String × String × String × Bool) := [("RouteGuideModel", "code", "I", false), ("RouteGuideModel", "nodes", "I", false), ("RouteGuideModel", "x", "[J", true), ("RouteGuideModel", "y", "[J", true), ("RouteGuideModel", "rate", "[J", true), ("RouteGuideModel", "streets", "I", false), ("RouteGuideModel", "begin", "[I", true), ("RouteGuideModel", "end", "[I", true), ("RouteGuideModel", "length", "[J", true), ("RouteGuideModel", "speed", "[J", true), ("RouteGuideModel", "use", "[I", true), ("RouteGuideModel", "other", "[J", true), ("RouteGuideModel", "until", "[J", true), ("RouteGuideModel", "barred", "[Z", true), ("RouteGuideModel", "plans", "J", false), ("RouteGuideModel", "from", "I", false), ("RouteGuideModel", "to", "I", false), ("RouteGuideModel", "kind", "I", false), ("RouteGuideModel", "energy", "I", false), ("RouteGuideModel", "cost", "[J", true), ("RouteGuideModel", "count", "[I", true), ("RouteGuideModel", "now", "[Z", true), ("RouteGuideModel", "next", "[Z", true), ("RouteGuideModel", "ways", "I", false), ("RouteGuideModel", "way", "[I", true), ("RouteGuideModel", "wayCost", "J", false), ("RouteGuideModel", "asked", "[Z", true), ("RouteGuideModel", "founds", "I", false), ("RouteGuideModel", "found", "[I", true), ("RouteGuideModel", "foundCost", "J", false), ("RouteGuideModel", "last", "I", false), ("RouteGuideModel", "rest", "[J", true), ("RouteGuideModel", "letters", "I", false), ("RouteGuideModel", "letter", "[I", true), ("RouteGuideModel", "edition", "I", false), ("RouteGuideModel", "parts", "I", false)]
def tb_T8 : u_T := fun k => tb_TL8.getD k ("", "", "", false)
def tb_yL8 : List FieldType := [.int, .int, .array .long, .array .long, .array .long, .int, .array .int, .array .int, .array .long, .array .long, .array .int, .array .long, .array .long, .array .boolean, .long, .int, .int, .int, .int, .array .long, .array .int, .array .boolean, .array .boolean, .int, .array .int, .long, .array .boolean, .int, .array .int, .long, .int, .array .long, .int, .array .int, .int, .int]
def tb_y8 : Nat → FieldType := fun k => tb_yL8.getD k .int
def vwCl : List vw_C := [(am_cn 0, tb_T0, am_nf 0), (am_cn 1, tb_T1, am_nf 1), (am_cn 2, tb_T2, am_nf 2), (am_cn 3, tb_T3, am_nf 3), (am_cn 4, tb_T4, am_nf 4), (am_cn 5, tb_T5, am_nf 5), (am_cn 6, tb_T6, am_nf 6), (am_cn 7, tb_T7, am_nf 7), (am_cn 8, tb_T8, am_nf 8)]
def am_yL : List MethodName := [⟨"RouteGuide", "<init>", "()V"⟩, ⟨"RouteGuide", "node", "(JJ)I"⟩, ⟨"RouteGuide", "street", "(IIJJI)I"⟩, ⟨"RouteGuide", "turn", "(IIZ)I"⟩, ⟨"RouteGuide", "charger", "(IJ)I"⟩, ⟨"RouteGuide", "plan", "(IIIJ)I"⟩, ⟨"RouteGuide", "at", "(I)I"⟩, ⟨"RouteGuide", "cost", "()J"⟩, ⟨"RouteGuide", "snap", "(JJI)I"⟩, ⟨"RouteGuide", "traffic", "(IJJ)I"⟩, ⟨"RouteGuide", "replan", "(J)I"⟩, ⟨"RouteGuide", "advice", "(II)I"⟩, ⟨"RouteGuide", "search", "(I)I"⟩, ⟨"RouteGuide", "last", "()I"⟩, ⟨"RouteGuide", "part", "(II)I"⟩, ⟨"RouteGuide", "isWithin", "(JJ)Z"⟩, ⟨"RouteGuide", "findIntoSpare", "()Z"⟩, ⟨"RouteGuide", "takeSpare", "()V"⟩, ⟨"RouteGuide", "isSpareWorth", "(J)Z"⟩, ⟨"RouteGuide", "stepX", "(I)J"⟩, ⟨"RouteGuide", "stepY", "(I)J"⟩, ⟨"RouteGuide", "adviceBetween", "(II)I"⟩, ⟨"RouteGuide", "fitsHeading", "(II)Z"⟩, ⟨"RouteGuide", "squareFrom", "(IJJ)J"⟩, ⟨"RouteGuideModel", "<init>", "()V"⟩, ⟨"RouteGuideModel", "thrown", "()I"⟩, ⟨"RouteGuideModel", "noNode", "(I)Z"⟩, ⟨"RouteGuideModel", "noStreet", "(I)Z"⟩, ⟨"RouteGuideModel", "node", "(JJ)I"⟩, ⟨"RouteGuideModel", "street", "(IIJJI)I"⟩, ⟨"RouteGuideModel", "turn", "(IIZ)I"⟩, ⟨"RouteGuideModel", "charger", "(IJ)I"⟩, ⟨"RouteGuideModel", "traffic", "(IJJ)I"⟩, ⟨"RouteGuideModel", "price", "(I)J"⟩, ⟨"RouteGuideModel", "unit", "(I)J"⟩, ⟨"RouteGuideModel", "top", "()I"⟩, ⟨"RouteGuideModel", "needs", "(I)I"⟩, ⟨"RouteGuideModel", "place", "(I)I"⟩, ⟨"RouteGuideModel", "goes", "(III)Z"⟩, ⟨"RouteGuideModel", "less", "(IJI)Z"⟩, ⟨"RouteGuideModel", "findCosts", "()V"⟩, ⟨"RouteGuideModel", "charge", "()V"⟩, ⟨"RouteGuideModel", "bestBy", "(I)Z"⟩, ⟨"RouteGuideModel", "findWay", "()Z"⟩, ⟨"RouteGuideModel", "far", "(I)J"⟩, ⟨"RouteGuideModel", "findLast", "(I)V"⟩, ⟨"RouteGuideModel", "take", "()V"⟩, ⟨"RouteGuideModel", "plan", "(IIIJ)I"⟩, ⟨"RouteGuideModel", "costNow", "()J"⟩, ⟨"RouteGuideModel", "replan", "(J)I"⟩, ⟨"RouteGuideModel", "at", "(I)I"⟩, ⟨"RouteGuideModel", "cost", "()J"⟩, ⟨"RouteGuideModel", "last", "()I"⟩, ⟨"RouteGuideModel", "advice", "(II)I"⟩, ⟨"RouteGuideModel", "octant", "(JJ)I"⟩, ⟨"RouteGuideModel", "square", "(IJJ)J"⟩, ⟨"RouteGuideModel", "snap", "(JJI)I"⟩, ⟨"RouteGuideModel", "letterOf", "(II)I"⟩, ⟨"RouteGuideModel", "search", "(I)I"⟩, ⟨"RouteGuideModel", "part", "(II)I"⟩, ⟨"RouteGuide$Frontier", "<init>", "()V"⟩, ⟨"RouteGuide$Frontier", "reset", "(I)V"⟩, ⟨"RouteGuide$Frontier", "keyOf", "(I)J"⟩, ⟨"RouteGuide$Frontier", "lower", "(IJ)V"⟩, ⟨"RouteGuide$Frontier", "takeLeast", "()I"⟩, ⟨"RouteGuide$Frontier", "rise", "(I)V"⟩, ⟨"RouteGuide$Frontier", "sinkFromTop", "(I)V"⟩, ⟨"RouteGuide$Geometry", "adviceKind", "(JJJJ)I"⟩, ⟨"RouteGuide$Geometry", "octant", "(JJ)I"⟩, ⟨"RouteGuide$Geometry", "squareFromPiece", "(JJJJ)J"⟩, ⟨"RouteGuide$MapParts", "<init>", "()V"⟩, ⟨"RouteGuide$MapParts", "take", "(II)Z"⟩, ⟨"RouteGuide$NameSearch", "<init>", "()V"⟩, ⟨"RouteGuide$NameSearch", "isLetter", "(I)Z"⟩, ⟨"RouteGuide$NameSearch", "isFull", "()Z"⟩, ⟨"RouteGuide$NameSearch", "clear", "()V"⟩, ⟨"RouteGuide$NameSearch", "add", "(I)V"⟩, ⟨"RouteGuide$NameSearch", "countMatches", "(I)I"⟩, ⟨"RouteGuide$NameSearch", "begins", "(I)Z"⟩, ⟨"RouteGuide$NameSearch", "letterOf", "(II)I"⟩, ⟨"RouteGuide$Places", "<init>", "()V"⟩, ⟨"RouteGuide$Places", "count", "()I"⟩, ⟨"RouteGuide$Places", "has", "(I)Z"⟩, ⟨"RouteGuide$Places", "isFull", "()Z"⟩, ⟨"RouteGuide$Places", "add", "(JJ)I"⟩, ⟨"RouteGuide$Places", "xOf", "(I)J"⟩, ⟨"RouteGuide$Places", "yOf", "(I)J"⟩, ⟨"RouteGuide$Places", "squareBetween", "(II)J"⟩, ⟨"RouteGuide$Places", "setRate", "(IJ)V"⟩, ⟨"RouteGuide$Places", "hasCharger", "(I)Z"⟩, ⟨"RouteGuide$Places", "unitTime", "(I)J"⟩, ⟨"RouteGuide$Places", "countChargers", "()I"⟩, ⟨"RouteGuide$Streets", "<init>", "()V"⟩, ⟨"RouteGuide$Streets", "count", "()I"⟩, ⟨"RouteGuide$Streets", "has", "(I)Z"⟩, ⟨"RouteGuide$Streets", "isFull", "()Z"⟩, ⟨"RouteGuide$Streets", "add", "(IIJJI)I"⟩, ⟨"RouteGuide$Streets", "setFirstNode", "(I)V"⟩, ⟨"RouteGuide$Streets", "beginOf", "(I)I"⟩, ⟨"RouteGuide$Streets", "endOf", "(I)I"⟩, ⟨"RouteGuide$Streets", "lengthOf", "(I)J"⟩, ⟨"RouteGuide$Streets", "useOf", "(I)I"⟩, ⟨"RouteGuide$Streets", "isBarred", "(II)Z"⟩, ⟨"RouteGuide$Streets", "flipBarred", "(II)V"⟩, ⟨"RouteGuide$Streets", "setTraffic", "(IJJ)V"⟩, ⟨"RouteGuide$Streets", "countTraffic", "(J)I"⟩, ⟨"RouteGuide$Streets", "timeAt", "(IJ)J"⟩, ⟨"RouteGuide$Way", "<init>", "()V"⟩, ⟨"RouteGuide$Way", "isThere", "()Z"⟩, ⟨"RouteGuide$Way", "size", "()I"⟩, ⟨"RouteGuide$Way", "total", "()J"⟩, ⟨"RouteGuide$Way", "streetAt", "(I)I"⟩, ⟨"RouteGuide$Way", "drop", "()V"⟩, ⟨"RouteGuide$Way", "add", "(I)V"⟩, ⟨"RouteGuide$Way", "finish", "(J)V"⟩, ⟨"RouteGuide$Way", "askFirst", "(I)Z"⟩, ⟨"RouteGuide$Way", "isSameRow", "(LRouteGuide$Way;)Z"⟩, ⟨"RouteGuide$WayFinder", "<init>", "(LRouteGuide$Places;LRouteGuide$Streets;)V"⟩, ⟨"RouteGuide$WayFinder", "setTask", "(IIII)V"⟩, ⟨"RouteGuide$WayFinder", "weigh", "(J)V"⟩, ⟨"RouteGuide$WayFinder", "findInto", "(LRouteGuide$Way;)Z"⟩, ⟨"RouteGuide$WayFinder", "totalNow", "(LRouteGuide$Way;)J"⟩, ⟨"RouteGuide$WayFinder", "nearestCharger", "()I"⟩, ⟨"RouteGuide$WayFinder", "levels", "()I"⟩, ⟨"RouteGuide$WayFinder", "startState", "()I"⟩, ⟨"RouteGuide$WayFinder", "mayFollow", "(II)Z"⟩, ⟨"RouteGuide$WayFinder", "measureBackwards", "()V"⟩, ⟨"RouteGuide$WayFinder", "spreadBackwards", "(IIJ)V"⟩, ⟨"RouteGuide$WayFinder", "follow", "(LRouteGuide$Way;J)V"⟩, ⟨"RouteGuide$WayFinder", "leastNext", "(IJ)I"⟩, ⟨"RouteGuide$WayFinder", "meets", "(IJ)Z"⟩, ⟨"RouteGuide$WayFinder", "holdStart", "()V"⟩, ⟨"RouteGuide$WayFinder", "charge", "(I)V"⟩, ⟨"RouteGuide$WayFinder", "drive", "(I)V"⟩, ⟨"RouteGuide$WayFinder", "leastHeld", "()J"⟩, ⟨"RouteGuide$WayFinder", "spreadReach", "()V"⟩, ⟨"RouteGuide$WayFinder", "reachOnFrom", "(I)Z"⟩, ⟨"RouteGuide$WayFinder", "topUp", "(II)I"⟩, ⟨"RouteGuide$WayFinder", "isReached", "(I)Z"⟩, ⟨"RouteGuideLaw", "street", "(LRouteGuide;IIJJI[J)I"⟩, ⟨"RouteGuideLaw", "law", "([I)Z"⟩]
def am_y (j : Nat) : MethodName := am_yL.getD j ⟨"", "", ""⟩
def am_byL : List ByteArray := [prog_1_method_1_code, prog_1_method_2_code, prog_1_method_3_code, prog_1_method_4_code, prog_1_method_5_code, prog_1_method_6_code, prog_1_method_7_code, prog_1_method_8_code, prog_1_method_9_code, prog_1_method_10_code, prog_1_method_11_code, prog_1_method_12_code, prog_1_method_13_code, prog_1_method_14_code, prog_1_method_15_code, prog_1_method_16_code, prog_1_method_17_code, prog_1_method_18_code, prog_1_method_19_code, prog_1_method_20_code, prog_1_method_21_code, prog_1_method_22_code, prog_1_method_23_code, prog_1_method_24_code, prog_11_method_1_code, prog_11_method_2_code, prog_11_method_3_code, prog_11_method_4_code, prog_11_method_5_code, prog_11_method_6_code, prog_11_method_7_code, prog_11_method_8_code, prog_11_method_9_code, prog_11_method_10_code, prog_11_method_11_code, prog_11_method_12_code, prog_11_method_13_code, prog_11_method_14_code, prog_11_method_15_code, prog_11_method_16_code, prog_11_method_17_code, prog_11_method_18_code, prog_11_method_19_code, prog_11_method_20_code, prog_11_method_21_code, prog_11_method_22_code, prog_11_method_23_code, prog_11_method_24_code, prog_11_method_25_code, prog_11_method_26_code, prog_11_method_27_code, prog_11_method_28_code, prog_11_method_29_code, prog_11_method_30_code, prog_11_method_31_code, prog_11_method_32_code, prog_11_method_33_code, prog_11_method_34_code, prog_11_method_35_code, prog_11_method_36_code, prog_2_method_1_code, prog_2_method_2_code, prog_2_method_3_code, prog_2_method_4_code, prog_2_method_5_code, prog_2_method_6_code, prog_2_method_7_code, prog_3_method_2_code, prog_3_method_3_code, prog_3_method_4_code, prog_4_method_1_code, prog_4_method_2_code, prog_5_method_1_code, prog_5_method_2_code, prog_5_method_3_code, prog_5_method_4_code, prog_5_method_5_code, prog_5_method_6_code, prog_5_method_7_code, prog_5_method_8_code, prog_6_method_1_code, prog_6_method_2_code, prog_6_method_3_code, prog_6_method_4_code, prog_6_method_5_code, prog_6_method_6_code, prog_6_method_7_code, prog_6_method_8_code, prog_6_method_9_code, prog_6_method_10_code, prog_6_method_11_code, prog_6_method_12_code, prog_7_method_1_code, prog_7_method_2_code, prog_7_method_3_code, prog_7_method_4_code, prog_7_method_5_code, prog_7_method_6_code, prog_7_method_7_code, prog_7_method_8_code, prog_7_method_9_code, prog_7_method_10_code, prog_7_method_11_code, prog_7_method_12_code, prog_7_method_13_code, prog_7_method_14_code, prog_7_method_15_code, prog_8_method_1_code, prog_8_method_2_code, prog_8_method_3_code, prog_8_method_4_code, prog_8_method_5_code, prog_8_method_6_code, prog_8_method_7_code, prog_8_method_8_code, prog_8_method_9_code, prog_8_method_10_code, prog_9_method_1_code, prog_9_method_2_code, prog_9_method_3_code, prog_9_method_4_code, prog_9_method_5_code, prog_9_method_6_code, prog_9_method_7_code, prog_9_method_8_code, prog_9_method_9_code, prog_9_method_10_code, prog_9_method_11_code, prog_9_method_12_code, prog_9_method_13_code, prog_9_method_14_code, prog_9_method_15_code, prog_9_method_16_code, prog_9_method_17_code, prog_9_method_18_code, prog_9_method_19_code, prog_9_method_20_code, prog_9_method_21_code, prog_9_method_22_code, method_3_code, code]
def am_by (j : Nat) : ByteArray := am_byL.getD j code
def am_mLL : List Nat := [1, 5, 8, 4, 4, 6, 2, 1, 12, 6, 3, 3, 2, 1, 3, 4, 2, 2, 5, 2, 2, 3, 5, 7, 1, 1, 2, 2, 5, 8, 5, 6, 8, 4, 2, 1, 2, 2, 4, 5, 9, 6, 7, 5, 2, 8, 2, 7, 8, 7, 2, 1, 1, 19, 4, 20, 15, 2, 6, 4, 1, 3, 2, 4, 3, 5, 6, 14, 4, 14, 1, 3, 1, 2, 1, 1, 2, 4, 3, 2, 1, 1, 2, 1, 5, 2, 2, 7, 4, 2, 4, 3, 1, 1, 2, 1, 8, 2, 2, 2, 2, 2, 3, 3, 6, 5, 6, 1, 1, 1, 1, 2, 1, 2, 3, 2, 3, 3, 5, 8, 4, 5, 7, 1, 1, 3, 5, 10, 7, 5, 8, 2, 5, 4, 4, 4, 5, 3, 3, 10, 7]
def am_mL (j : Nat) : Nat := am_mLL.getD j 0
def am_rtL : List Nat := [3, 0, 0, 0, 0, 0, 0, 2, 0, 0, 0, 0, 0, 0, 0, 1, 1, 3, 1, 2, 2, 0, 1, 2, 3, 0, 1, 1, 0, 0, 0, 0, 0, 2, 2, 0, 0, 0, 1, 1, 3, 3, 1, 1, 2, 3, 3, 0, 2, 0, 0, 2, 0, 0, 0, 2, 0, 0, 0, 0, 3, 3, 2, 3, 0, 3, 3, 0, 0, 2, 3, 1, 3, 1, 1, 3, 3, 0, 1, 0, 3, 0, 1, 1, 0, 2, 2, 2, 3, 1, 2, 0, 3, 0, 1, 1, 0, 3, 0, 0, 2, 0, 1, 3, 3, 0, 2, 3, 1, 0, 2, 0, 3, 3, 3, 1, 1, 3, 3, 3, 1, 2, 0, 0, 0, 1, 3, 3, 3, 0, 1, 3, 3, 3, 2, 3, 1, 0, 1, 0, 1]
def am_rt (j : Nat) : Nat := am_rtL.getD j 9
def am_owL : List Nat := [7, 7, 7, 7, 7, 7, 7, 7, 7, 7, 7, 7, 7, 7, 7, 7, 7, 7, 7, 7, 7, 7, 7, 7, 8, 8, 8, 8, 8, 8, 8, 8, 8, 8, 8, 8, 8, 8, 8, 8, 8, 8, 8, 8, 8, 8, 8, 8, 8, 8, 8, 8, 8, 8, 8, 8, 8, 8, 8, 8, 0, 0, 0, 0, 0, 0, 0, 9, 9, 9, 1, 1, 2, 2, 2, 2, 2, 2, 2, 2, 3, 3, 3, 3, 3, 3, 3, 3, 3, 3, 3, 3, 4, 4, 4, 4, 4, 4, 4, 4, 4, 4, 4, 4, 4, 4, 4, 5, 5, 5, 5, 5, 5, 5, 5, 5, 5, 6, 6, 6, 6, 6, 6, 6, 6, 6, 6, 6, 6, 6, 6, 6, 6, 6, 6, 6, 6, 6, 6, 10, 10]
def am_ow (j : Nat) : Nat := am_owL.getD j 99
def am_stL : List Bool := [false, false, false, false, false, false, false, false, false, false, false, false, false, false, false, true, false, false, false, false, false, false, false, false, false, false, false, false, false, false, false, false, false, false, false, false, false, false, false, false, false, false, false, false, false, false, false, false, false, false, false, false, false, false, true, false, false, true, false, false, false, false, false, false, false, false, false, true, true, true, false, false, false, false, false, false, false, false, false, true, false, false, false, false, false, false, false, false, false, false, false, false, false, false, false, false, false, false, false, false, false, false, false, false, false, false, false, false, false, false, false, false, false, false, false, false, false, false, false, false, false, false, false, false, false, false, false, false, false, false, false, false, false, false, false, false, false, false, false, true, true]
def am_st (j : Nat) : Bool := am_stL.getD j false
def am_naL : List Nat := [1, 3, 6, 4, 3, 5, 2, 1, 4, 4, 2, 3, 2, 1, 3, 2, 1, 1, 2, 2, 2, 3, 3, 4, 1, 1, 2, 2, 3, 6, 4, 3, 4, 2, 2, 1, 2, 2, 4, 4, 1, 1, 2, 1, 2, 2, 1, 5, 1, 2, 2, 1, 1, 3, 2, 4, 4, 2, 2, 3, 1, 2, 2, 3, 1, 2, 2, 4, 2, 4, 1, 3, 1, 2, 1, 1, 2, 2, 2, 2, 1, 1, 2, 1, 3, 2, 2, 3, 3, 2, 2, 1, 1, 1, 2, 1, 6, 2, 2, 2, 2, 2, 3, 3, 4, 2, 3, 1, 1, 1, 1, 2, 1, 2, 2, 2, 2, 3, 5, 2, 2, 2, 1, 1, 1, 3, 1, 4, 3, 3, 3, 1, 2, 2, 1, 1, 2, 3, 2, 7, 1]
def am_na (j : Nat) : Nat := am_naL.getD j 0
def am_inL : List Bool := [true, false, false, false, false, false, false, false, false, false, false, false, false, false, false, false, false, false, false, false, false, false, false, false, true, false, false, false, false, false, false, false, false, false, false, false, false, false, false, false, false, false, false, false, false, false, false, false, false, false, false, false, false, false, false, false, false, false, false, false, true, false, false, false, false, false, false, false, false, false, true, false, true, false, false, false, false, false, false, false, true, false, false, false, false, false, false, false, false, false, false, false, true, false, false, false, false, false, false, false, false, false, false, false, false, false, false, true, false, false, false, false, false, false, false, false, false, true, false, false, false, false, false, false, false, false, false, false, false, false, false, false, false, false, false, false, false, false, false, false, false]
def am_in (j : Nat) : Bool := am_inL.getD j false
def am_mcL : List Nat := [30, 0, 0, 0, 0, 0, 0, 0, 0, 0, 0, 0, 0, 0, 0, 0, 0, 0, 0, 0, 0, 0, 0, 0, 20, 0, 0, 0, 0, 0, 0, 0, 0, 0, 0, 0, 0, 0, 0, 0, 0, 0, 0, 0, 0, 0, 0, 0, 0, 0, 0, 0, 0, 0, 0, 0, 0, 0, 0, 0, 3, 0, 0, 0, 0, 0, 0, 0, 0, 0, 0, 0, 1, 0, 0, 0, 0, 0, 0, 0, 3, 0, 0, 0, 0, 0, 0, 0, 0, 0, 0, 0, 8, 0, 0, 0, 0, 0, 0, 0, 0, 0, 0, 0, 0, 0, 0, 1, 0, 0, 0, 0, 0, 0, 0, 0, 0, 9, 0, 0, 0, 0, 0, 0, 0, 0, 0, 0, 0, 0, 0, 0, 0, 0, 0, 0, 0, 0, 0, 2, 1078]
def am_mc (j : Nat) : Nat := am_mcL.getD j 0
def am_msL : List Nat := [14185, 0, 0, 0, 0, 0, 0, 0, 0, 0, 0, 0, 0, 0, 0, 0, 0, 0, 0, 0, 0, 0, 0, 0, 33659, 0, 0, 0, 0, 0, 0, 0, 0, 0, 0, 0, 0, 0, 0, 0, 0, 0, 0, 0, 0, 0, 0, 0, 0, 0, 0, 0, 0, 0, 0, 0, 0, 0, 0, 0, 7624, 0, 0, 0, 0, 0, 0, 0, 0, 0, 0, 0, 3, 0, 0, 0, 0, 0, 0, 0, 183, 0, 0, 0, 0, 0, 0, 0, 0, 0, 0, 0, 1089, 0, 0, 0, 0, 0, 0, 0, 0, 0, 0, 0, 0, 0, 0, 2400, 0, 0, 0, 0, 0, 0, 0, 0, 0, 8073, 0, 0, 0, 0, 0, 0, 0, 0, 0, 0, 0, 0, 0, 0, 0, 0, 0, 0, 0, 0, 0, 16, 56089]
def am_ms (j : Nat) : Nat := am_msL.getD j 0
def am_frL : List Nat := [3, 1, 1, 1, 2, 6, 2, 1, 3, 1, 6, 3, 3, 0, 1, 0, 5, 0, 3, 1, 1, 2, 2, 2, 1, 0, 0, 0, 0, 1, 1, 1, 1, 0, 0, 0, 0, 0, 1, 0, 2, 1, 2, 3, 0, 2, 0, 4, 1, 4, 0, 0, 0, 0, 0, 0, 1, 0, 1, 0, 1, 0, 0, 1, 1, 0, 0, 1, 0, 0, 1, 0, 1, 0, 0, 0, 0, 2, 1, 0, 1, 0, 0, 0, 0, 0, 0, 0, 0, 0, 1, 1, 1, 0, 0, 0, 0, 0, 0, 0, 0, 0, 0, 0, 0, 0, 0, 1, 0, 0, 0, 1, 0, 0, 0, 0, 2, 2, 1, 2, 4, 2, 4, 0, 0, 1, 3, 2, 3, 2, 1, 0, 1, 0, 1, 3, 2, 1, 1, 9, 10]
def am_fr (j : Nat) : Nat := am_frL.getD j 0
def am_lrL : List Nat := [65, 24, 27, 22, 43, 144, 44, 20, 68, 25, 144, 78, 66, 0, 22, 0, 123, 0, 71, 21, 21, 56, 42, 42, 23, 0, 0, 0, 0, 21, 21, 21, 21, 0, 0, 0, 0, 0, 23, 0, 46, 21, 46, 74, 0, 46, 0, 98, 23, 98, 0, 0, 0, 0, 0, 0, 39, 0, 21, 0, 23, 0, 0, 24, 25, 0, 0, 23, 0, 0, 23, 0, 23, 0, 0, 0, 0, 43, 21, 0, 23, 0, 0, 0, 0, 0, 0, 0, 0, 0, 23, 21, 23, 0, 0, 0, 0, 0, 0, 0, 0, 0, 0, 0, 0, 0, 0, 23, 0, 0, 0, 23, 0, 0, 0, 0, 44, 43, 21, 46, 100, 47, 91, 0, 0, 22, 76, 47, 72, 48, 21, 0, 23, 0, 23, 68, 44, 21, 21, 343, 372]
def am_lr (j : Nat) : Nat := am_lrL.getD j 0
def am_ret (j : Nat) : Option FieldType := match am_rt j with
  | 0 => some .int
  | 1 => some .boolean
  | 2 => some .long
  | _ => none
abbrev am_law : Nat := 140
abbrev am_lst : Nat := 139
def am_rfL (c : Nat) : List (Nat × Nat × Nat) := match c with
  | 0 => [(11, 0, 0), (15, 0, 1), (19, 0, 2), (22, 0, 3)]
  | 1 => [(9, 1, 0), (13, 1, 1)]
  | 2 => [(9, 2, 0), (13, 2, 1)]
  | 3 => [(9, 3, 0), (15, 3, 1), (18, 3, 2), (21, 3, 3)]
  | 4 => [(9, 4, 0), (15, 4, 1), (18, 4, 2), (22, 4, 3), (25, 4, 4), (28, 4, 5), (31, 4, 6), (34, 4, 7), (37, 4, 8)]
  | 5 => [(9, 5, 0), (15, 5, 1), (19, 5, 2), (23, 5, 3)]
  | 6 => [(12, 6, 2), (18, 6, 3), (22, 6, 4), (26, 6, 5), (29, 6, 6), (32, 6, 7), (35, 6, 8), (39, 6, 9), (42, 6, 10), (45, 6, 11), (48, 6, 0), (52, 6, 1)]
  | 7 => [(14, 7, 0), (21, 7, 1), (30, 7, 2), (37, 7, 3), (44, 7, 4), (51, 7, 5), (55, 7, 6), (58, 7, 7), (62, 7, 8), (66, 7, 9)]
  | 8 => [(7, 8, 2), (13, 8, 3), (16, 8, 4), (19, 8, 6), (23, 8, 7), (26, 8, 8), (29, 8, 9), (32, 8, 10), (35, 8, 11), (38, 8, 12), (41, 8, 13), (45, 8, 17), (49, 8, 19), (52, 8, 20), (55, 8, 21), (58, 8, 22), (61, 8, 24), (66, 8, 25), (70, 8, 26), (73, 8, 28), (76, 8, 31), (79, 8, 33), (82, 8, 0), (85, 8, 1), (88, 8, 5), (110, 8, 14), (113, 8, 15), (131, 8, 16), (145, 8, 18), (151, 8, 27), (154, 8, 30), (161, 8, 29), (173, 8, 23), (207, 8, 32), (214, 8, 35), (217, 8, 34)]
  | _ => []
def am_rf (c x : Nat) : Option (Nat × Nat) := (am_rfL c).lookup x
def am_rmL (c : Nat) : List (Nat × Nat × Nat) := match c with
  | 0 => [(3, 1, 0), (28, 6, 65), (32, 6, 66)]
  | 1 => [(3, 1, 0)]
  | 2 => [(1, 1, 0), (17, 6, 78), (21, 0, 79)]
  | 3 => [(3, 1, 0), (27, 4, 0), (33, 6, 89)]
  | 4 => [(3, 1, 0)]
  | 5 => [(3, 1, 0), (27, 2, 0), (33, 6, 111)]
  | 6 => [(3, 1, 0), (11, 7, 60), (56, 6, 97), (62, 6, 81), (68, 6, 90), (74, 6, 93), (75, 6, 106), (79, 6, 100), (84, 6, 101), (88, 6, 112), (93, 6, 114), (97, 6, 126), (100, 6, 124), (103, 6, 62), (108, 6, 128), (112, 6, 131), (115, 6, 109), (118, 6, 111), (121, 6, 125), (125, 6, 99), (128, 6, 132), (131, 6, 133), (134, 6, 134), (138, 6, 135), (141, 6, 89), (145, 6, 138), (148, 6, 87), (152, 6, 98), (155, 6, 102), (158, 6, 123), (161, 6, 61), (164, 6, 63), (168, 6, 64), (171, 6, 127), (175, 6, 129), (179, 6, 113), (182, 6, 130), (186, 5, 0), (192, 6, 137), (196, 6, 136)]
  | 7 => [(5, 1, 0), (13, 7, 80), (20, 7, 92), (27, 7, 117), (36, 7, 72), (43, 7, 70), (50, 7, 107), (72, 0, 15), (76, 6, 83), (80, 6, 84), (84, 6, 82), (92, 6, 95), (100, 6, 96), (103, 6, 94), (104, 6, 98), (108, 6, 99), (111, 6, 102), (115, 6, 103), (121, 6, 88), (125, 6, 91), (131, 6, 118), (135, 6, 16), (138, 6, 112), (141, 6, 17), (144, 6, 109), (147, 6, 111), (150, 6, 108), (153, 6, 110), (163, 6, 93), (166, 6, 22), (169, 6, 23), (173, 6, 104), (177, 6, 105), (181, 6, 18), (185, 6, 21), (189, 6, 115), (192, 6, 73), (195, 6, 75), (198, 6, 74), (199, 6, 76), (202, 6, 81), (203, 6, 77), (206, 6, 71), (209, 6, 119), (213, 6, 120), (217, 6, 122), (220, 6, 121), (224, 6, 116), (227, 6, 85), (231, 6, 86), (234, 6, 19), (237, 6, 20), (240, 0, 67), (246, 0, 68), (249, 0, 69)]
  | 8 => [(1, 1, 0), (95, 6, 26), (105, 6, 27), (116, 6, 37), (120, 6, 33), (124, 6, 36), (127, 6, 35), (134, 6, 34), (137, 6, 39), (141, 6, 38), (148, 6, 40), (157, 6, 45), (164, 6, 41), (167, 6, 42), (170, 6, 44), (178, 6, 43), (182, 6, 46), (185, 6, 48), (195, 0, 54), (199, 6, 55), (210, 0, 57)]
  | 9 => [(9, 3, 0)]
  | 10 => [(7, 6, 2), (15, 7, 0), (18, 7, 24), (21, 6, 1), (25, 6, 28), (26, 0, 139), (31, 6, 29), (32, 6, 25), (36, 6, 3), (40, 6, 30), (41, 6, 4), (45, 6, 31), (46, 6, 5), (50, 6, 47), (51, 6, 6), (55, 6, 50), (56, 6, 7), (60, 6, 51), (61, 6, 8), (65, 6, 56), (66, 6, 9), (70, 6, 32), (71, 6, 10), (75, 6, 49), (76, 6, 11), (80, 6, 53), (81, 6, 12), (84, 6, 58), (85, 6, 13), (88, 6, 52), (89, 6, 14), (92, 6, 59)]
  | _ => []
def am_rm (c x : Nat) : Nat × Nat := ((am_rmL c).lookup x).getD (9, 0)
def am_rnL (c : Nat) : List (Nat × Nat) := match c with
  | 6 => [(9, 0)]
  | 7 => [(11, 3), (18, 4), (25, 6), (34, 2), (41, 1), (48, 5)]
  | 10 => [(8, 7), (16, 8)]
  | _ => []
def am_rn (c x : Nat) : Option Nat := (am_rnL c).lookup x
def am_kLL (c : Nat) : List (Nat × Int64) := match c with
  | 0 => [(26, (2305843009213693951))]
  | 3 => [(25, (1000))]
  | 4 => [(41, (20000)), (43, (1000)), (45, (-1))]
  | 6 => [(72, (4096)), (82, (-1)), (106, (2305843009213693951))]
  | 7 => [(70, (10000)), (88, (100000)), (90, (1000)), (119, (1000000)), (129, (20)), (157, (-1)), (159, (20000)), (161, (2501))]
  | 8 => [(64, (-1)), (91, (-10000)), (93, (10000)), (99, (100000)), (101, (1000)), (103, (20000)), (108, (1000000)), (176, (20)), (189, (-2)), (191, (2)), (193, (-20000)), (203, (2501)), (205, (2500))]
  | 9 => [(7, (2))]
  | 10 => [(19, (4294967295))]
  | _ => []
def am_kL (c x : Nat) : Option Int64 := (am_kLL c).lookup x
/-- the links across the nest -/
def am_nst : List (String × Nat × MethodName × String) := [(am_cn 6, 11, am_y 60, "RouteGuide"), (am_cn 7, 13, am_y 80, "RouteGuide"), (am_cn 7, 20, am_y 92, "RouteGuide"), (am_cn 7, 36, am_y 72, "RouteGuide"), (am_cn 7, 43, am_y 70, "RouteGuide"), (am_cn 7, 50, am_y 107, "RouteGuide")]
def kd_0 : List (Nat × List Jvm.ClassFile.Instr) := [(0, [.aload_n 0, .invokespecial 5, .aload_n 0, .new 11, .dup, .invokespecial 13, .putfield 14, .aload_n 0, .new 18, .dup, .invokespecial 20, .putfield 21, .aload_n 0, .new 25, .dup, .aload_n 0, .getfield 14, .aload_n 0, .getfield 21, .invokespecial 27, .putfield 30, .aload_n 0, .new 34, .dup, .invokespecial 36, .putfield 37, .aload_n 0, .new 41, .dup, .invokespecial 43, .putfield 44, .aload_n 0, .new 48, .dup, .invokespecial 50, .putfield 51, .aload_n 0, .new 48, .dup, .invokespecial 50, .putfield 55, .aload_n 0, .iconst (0), .putfield 58, .aload_n 0, .lconst 0, .putfield 62, .aload_n 0, .iconst (0), .putfield 66, .return_])]
def kd_1 : List (Nat × List Jvm.ClassFile.Instr) := [(0, [.lload_n 1, .ldc2_w 70, .invokestatic 72, .ifCond .eq (13)]),
  (10, [.lload_n 3, .ldc2_w 70, .invokestatic 72, .ifCond .ne (6)]),
  (20, [.bipush (-2), .ireturn]),
  (23, [.aload_n 0, .getfield 14, .invokevirtual 76, .ifCond .eq (6)]),
  (33, [.bipush (-4), .ireturn]),
  (36, [.aload_n 0, .getfield 14, .lload_n 1, .lload_n 3, .invokevirtual 80, .ireturn])]
def kd_2 : List (Nat × List Jvm.ClassFile.Instr) := [(0, [.aload_n 0, .getfield 14, .iload_n 1, .invokevirtual 84, .ifCond .eq (14)]),
  (11, [.aload_n 0, .getfield 14, .iload_n 2, .invokevirtual 84, .ifCond .ne (5)]),
  (22, [.iconst (-1), .ireturn]),
  (24, [.iload_n 1, .iload_n 2, .if_icmp .eq (17)]),
  (29, [.lload_n 3, .lconst 1, .lcmp, .ifCond .lt (11)]),
  (35, [.lload_n 3, .ldc2_w 88, .lcmp, .ifCond .le (6)]),
  (43, [.bipush (-2), .ireturn]),
  (46, [.lload 5, .lconst 0, .lcmp, .ifCond .lt (23)]),
  (53, [.lload 5, .ldc2_w 90, .lcmp, .ifCond .gt (14)]),
  (62, [.iload 7, .ifCond .lt (9)]),
  (67, [.iload 7, .iconst (3), .if_icmp .le (6)]),
  (73, [.bipush (-2), .ireturn]),
  (76, [.aload_n 0, .getfield 21, .invokevirtual 92, .ifCond .eq (6)]),
  (86, [.bipush (-4), .ireturn]),
  (89, [.lload 5, .lconst 0, .lcmp, .ifCond .ne (13)]),
  (96, [.new 93, .dup, .ldc 95, .invokespecial 97, .athrow]),
  (106, [.aload_n 0, .getfield 21, .iload_n 1, .iload_n 2, .lload_n 3, .lload 5, .iload 7, .invokevirtual 100, .ireturn])]
def kd_3 : List (Nat × List Jvm.ClassFile.Instr) := [(0, [.aload_n 0, .getfield 21, .iload_n 1, .invokevirtual 103, .ifCond .eq (14)]),
  (11, [.aload_n 0, .getfield 21, .iload_n 2, .invokevirtual 103, .ifCond .ne (5)]),
  (22, [.iconst (-1), .ireturn]),
  (24, [.aload_n 0, .getfield 21, .iload_n 2, .invokevirtual 104, .aload_n 0, .getfield 21, .iload_n 1, .invokevirtual 108, .if_icmp .eq (6)]),
  (43, [.bipush (-2), .ireturn]),
  (46, [.aload_n 0, .getfield 21, .iload_n 1, .iload_n 2, .invokevirtual 111, .iload_n 3, .if_icmp .ne (5)]),
  (59, [.iconst (0), .ireturn]),
  (61, [.aload_n 0, .getfield 21, .iload_n 1, .iload_n 2, .invokevirtual 115, .iconst (1), .ireturn])]
def kd_4 : List (Nat × List Jvm.ClassFile.Instr) := [(0, [.aload_n 0, .getfield 14, .iload_n 1, .invokevirtual 84, .ifCond .ne (5)]),
  (11, [.iconst (-1), .ireturn]),
  (13, [.lload_n 2, .lconst 0, .lcmp, .ifCond .lt (11)]),
  (19, [.lload_n 2, .ldc2_w 119, .lcmp, .ifCond .le (6)]),
  (27, [.bipush (-2), .ireturn]),
  (30, [.aload_n 0, .getfield 14, .iload_n 1, .lload_n 2, .invokevirtual 121, .aload_n 0, .getfield 14, .invokevirtual 125, .ireturn])]
def kd_5 : List (Nat × List Jvm.ClassFile.Instr) := [(0, [.aload_n 0, .getfield 14, .iload_n 1, .invokevirtual 84, .ifCond .eq (23)]),
  (11, [.aload_n 0, .getfield 14, .iload_n 2, .invokevirtual 84, .ifCond .eq (12)]),
  (22, [.iload_n 3, .ifCond .lt (8)]),
  (26, [.iload_n 3, .iconst (2), .if_icmp .le (6)]),
  (31, [.bipush (-2), .ireturn]),
  (34, [.iload_n 3, .iconst (2), .if_icmp .ne (22)]),
  (39, [.lload 4, .lconst 0, .lcmp, .ifCond .lt (12)]),
  (46, [.lload 4, .ldc2_w 129, .lcmp, .ifCond .le (6)]),
  (55, [.bipush (-2), .ireturn]),
  (58, [.aload_n 0, .getfield 30, .iload_n 1, .iload_n 2, .iload_n 3, .iload_n 3, .iconst (2), .if_icmp .ne (9)]),
  (70, [.lload 4, .l2i, .goto (4)]),
  (76, [.iconst (0)]),
  (77, [.invokevirtual 131, .aload_n 0, .iconst (1), .putfield 58, .aload_n 0, .invokevirtual 135, .ifCond .ne (12)]),
  (92, [.aload_n 0, .getfield 51, .invokevirtual 138, .iconst (-1), .ireturn]),
  (101, [.aload_n 0, .invokevirtual 141, .aload_n 0, .getfield 51, .invokevirtual 144, .ireturn])]
def kd_6 : List (Nat × List Jvm.ClassFile.Instr) := [(0, [.aload_n 0, .getfield 51, .iload_n 1, .invokevirtual 147, .ireturn])]
def kd_7 : List (Nat × List Jvm.ClassFile.Instr) := [(0, [.aload_n 0, .getfield 51, .invokevirtual 150, .ifCond .eq (13)]),
  (10, [.aload_n 0, .getfield 51, .invokevirtual 153, .goto (6)]),
  (20, [.ldc2_w 157]),
  (23, [.lreturn])]
def kd_8 : List (Nat × List Jvm.ClassFile.Instr) := [(0, [.lload_n 1, .ldc2_w 159, .invokestatic 72, .ifCond .eq (13)]),
  (10, [.lload_n 3, .ldc2_w 159, .invokestatic 72, .ifCond .ne (6)]),
  (20, [.bipush (-2), .ireturn]),
  (23, [.iload 5, .iconst (-1), .if_icmp .lt (10)]),
  (29, [.iload 5, .bipush (7), .if_icmp .le (6)]),
  (36, [.bipush (-2), .ireturn]),
  (39, [.iconst (0), .istore 6, .ldc2_w 161, .lstore 7, .iconst (1), .istore 9]),
  (50, [.iload 9, .aload_n 0, .getfield 21, .invokevirtual 163, .if_icmp .gt (46)]),
  (62, [.aload_n 0, .iload 9, .iload 5, .invokevirtual 166, .ifCond .eq (29)]),
  (73, [.aload_n 0, .iload 9, .lload_n 1, .lload_n 3, .invokevirtual 169, .lstore 10, .lload 10, .lload 7, .lcmp, .ifCond .ge (11)]),
  (91, [.lload 10, .lstore 7, .iload 9, .istore 6]),
  (99, [.iinc 9 (1), .goto (-52)]),
  (105, [.iload 6, .ireturn])]
def kd_9 : List (Nat × List Jvm.ClassFile.Instr) := [(0, [.aload_n 0, .getfield 21, .iload_n 1, .invokevirtual 103, .ifCond .ne (5)]),
  (11, [.iconst (-1), .ireturn]),
  (13, [.lload_n 2, .lconst 0, .lcmp, .ifCond .lt (18)]),
  (19, [.lload_n 2, .ldc2_w 90, .lcmp, .ifCond .gt (10)]),
  (27, [.lload 4, .lconst 0, .lcmp, .ifCond .ge (6)]),
  (34, [.bipush (-2), .ireturn]),
  (37, [.aload_n 0, .getfield 21, .iload_n 1, .lload_n 2, .lload 4, .invokevirtual 173, .aload_n 0, .getfield 21, .aload_n 0, .getfield 62, .lconst 1, .ladd, .invokevirtual 177, .ireturn])]
def kd_10 : List (Nat × List Jvm.ClassFile.Instr) := [(0, [.lload_n 1, .lconst 0, .lcmp, .ifCond .ge (6)]),
  (6, [.bipush (-2), .ireturn]),
  (9, [.aload_n 0, .getfield 58, .ifCond .ne (6)]),
  (16, [.bipush (-3), .ireturn]),
  (19, [.aload_n 0, .invokevirtual 135, .ifCond .eq (11)]),
  (26, [.aload_n 0, .lload_n 1, .invokevirtual 181, .ifCond .ne (5)]),
  (34, [.iconst (0), .ireturn]),
  (36, [.aload_n 0, .invokevirtual 141, .iconst (1), .ireturn])]
def kd_11 : List (Nat × List Jvm.ClassFile.Instr) := [(0, [.iload_n 1, .ifCond .lt (16)]),
  (4, [.iload_n 1, .aload_n 0, .getfield 51, .invokevirtual 144, .iconst (1), .isub, .if_icmp .lt (5)]),
  (17, [.iconst (-1), .ireturn]),
  (19, [.iload_n 2, .tableswitch (79) (0) (2) #[(28), (51), (62)]]),
  (48, [.aload_n 0, .aload_n 0, .getfield 51, .iload_n 1, .invokevirtual 147, .aload_n 0, .getfield 51, .iload_n 1, .iconst (1), .iadd, .invokevirtual 147, .invokevirtual 185, .ireturn]),
  (71, [.aload_n 0, .getfield 51, .iload_n 1, .iconst (1), .iadd, .invokevirtual 147, .ireturn]),
  (82, [.aload_n 0, .getfield 51, .iload_n 1, .invokevirtual 189, .ifCond .eq (7)]),
  (93, [.iconst (1), .goto (4)]),
  (97, [.iconst (0)]),
  (98, [.ireturn]),
  (99, [.bipush (-2), .ireturn])]
def kd_12 : List (Nat × List Jvm.ClassFile.Instr) := [(0, [.iload_n 1, .ifCond .eq (17)]),
  (4, [.aload_n 0, .getfield 37, .iload_n 1, .invokevirtual 192, .ifCond .ne (6)]),
  (15, [.bipush (-2), .ireturn]),
  (18, [.iload_n 1, .ifCond .ne (13)]),
  (22, [.aload_n 0, .getfield 37, .invokevirtual 195, .goto (24)]),
  (32, [.aload_n 0, .getfield 37, .invokevirtual 198, .ifCond .eq (6)]),
  (42, [.bipush (-3), .ireturn]),
  (45, [.aload_n 0, .getfield 37, .iload_n 1, .invokevirtual 199]),
  (53, [.aload_n 0, .getfield 37, .aload_n 0, .getfield 14, .invokevirtual 202, .invokevirtual 203, .ireturn])]
def kd_13 : List (Nat × List Jvm.ClassFile.Instr) := [(0, [.aload_n 0, .getfield 66, .ireturn])]
def kd_14 : List (Nat × List Jvm.ClassFile.Instr) := [(0, [.iload_n 2, .ifCond .lt (14)]),
  (4, [.iload_n 2, .bipush (8), .if_icmp .ge (8)]),
  (10, [.iload_n 1, .iconst (1), .if_icmp .ge (6)]),
  (15, [.bipush (-2), .ireturn]),
  (18, [.aload_n 0, .getfield 44, .iload_n 1, .iload_n 2, .invokevirtual 206, .ifCond .eq (7)]),
  (30, [.iconst (1), .goto (4)]),
  (34, [.iconst (0)]),
  (35, [.ireturn])]
def kd_15 : List (Nat × List Jvm.ClassFile.Instr) := [(0, [.lload_n 0, .lload_n 2, .lneg, .lcmp, .ifCond .lt (13)]),
  (7, [.lload_n 0, .lload_n 2, .lcmp, .ifCond .gt (7)]),
  (13, [.iconst (1), .goto (4)]),
  (17, [.iconst (0)]),
  (18, [.ireturn])]
def kd_16 : List (Nat × List Jvm.ClassFile.Instr) := [(0, [.aload_n 0, .dup, .getfield 62, .lconst 1, .ladd, .putfield 62, .aload_n 0, .getfield 30, .aload_n 0, .getfield 62, .invokevirtual 209, .aload_n 0, .getfield 30, .aload_n 0, .getfield 55, .invokevirtual 213, .istore_n 1, .aload_n 0, .iload_n 1, .ifCond .eq (7)]),
  (38, [.iconst (0), .goto (10)]),
  (42, [.aload_n 0, .getfield 30, .invokevirtual 217]),
  (49, [.putfield 66, .iload_n 1, .ireturn])]
def kd_17 : List (Nat × List Jvm.ClassFile.Instr) := [(0, [.aload_n 0, .getfield 51, .astore_n 1, .aload_n 0, .aload_n 0, .getfield 55, .putfield 51, .aload_n 0, .aload_n 1, .putfield 55, .return_])]
def kd_18 : List (Nat × List Jvm.ClassFile.Instr) := [(0, [.aload_n 0, .getfield 51, .invokevirtual 150, .ifCond .ne (5)]),
  (10, [.iconst (1), .ireturn]),
  (12, [.aload_n 0, .getfield 30, .aload_n 0, .getfield 51, .invokevirtual 220, .lstore_n 3, .lload_n 3, .lconst 0, .lcmp, .ifCond .ge (5)]),
  (30, [.iconst (1), .ireturn]),
  (32, [.lload_n 3, .aload_n 0, .getfield 55, .invokevirtual 153, .lsub, .lload_n 1, .lcmp, .ifCond .lt (21)]),
  (46, [.aload_n 0, .getfield 51, .aload_n 0, .getfield 55, .invokevirtual 224, .ifCond .ne (7)]),
  (60, [.iconst (1), .goto (4)]),
  (64, [.iconst (0)]),
  (65, [.ireturn])]
def kd_19 : List (Nat × List Jvm.ClassFile.Instr) := [(0, [.aload_n 0, .getfield 14, .aload_n 0, .getfield 21, .iload_n 1, .invokevirtual 108, .invokevirtual 227, .aload_n 0, .getfield 14, .aload_n 0, .getfield 21, .iload_n 1, .invokevirtual 104, .invokevirtual 227, .lsub, .lreturn])]
def kd_20 : List (Nat × List Jvm.ClassFile.Instr) := [(0, [.aload_n 0, .getfield 14, .aload_n 0, .getfield 21, .iload_n 1, .invokevirtual 108, .invokevirtual 231, .aload_n 0, .getfield 14, .aload_n 0, .getfield 21, .iload_n 1, .invokevirtual 104, .invokevirtual 231, .lsub, .lreturn])]
def kd_21 : List (Nat × List Jvm.ClassFile.Instr) := [(0, [.aload_n 0, .iload_n 1, .invokevirtual 234, .aload_n 0, .iload_n 1, .invokevirtual 237, .aload_n 0, .iload_n 2, .invokevirtual 234, .aload_n 0, .iload_n 2, .invokevirtual 237, .invokestatic 240, .ireturn])]
def kd_22 : List (Nat × List Jvm.ClassFile.Instr) := [(0, [.iload_n 2, .ifCond .ge (5)]),
  (4, [.iconst (1), .ireturn]),
  (6, [.aload_n 0, .iload_n 1, .invokevirtual 234, .aload_n 0, .iload_n 1, .invokevirtual 237, .invokestatic 246, .istore_n 3, .iload_n 3, .ifCond .ge (5)]),
  (24, [.iconst (0), .ireturn]),
  (26, [.iload_n 3, .iload_n 2, .isub, .bipush (7), .iand, .istore 4, .iload 4, .iconst (1), .if_icmp .le (10)]),
  (40, [.iload 4, .bipush (7), .if_icmp .ne (7)]),
  (47, [.iconst (1), .goto (4)]),
  (51, [.iconst (0)]),
  (52, [.ireturn])]
def kd_23 : List (Nat × List Jvm.ClassFile.Instr) := [(0, [.aload_n 0, .getfield 21, .iload_n 1, .invokevirtual 104, .istore 6, .lload_n 2, .aload_n 0, .getfield 14, .iload 6, .invokevirtual 227, .lsub, .lload 4, .aload_n 0, .getfield 14, .iload 6, .invokevirtual 231, .lsub, .aload_n 0, .iload_n 1, .invokevirtual 234, .aload_n 0, .iload_n 1, .invokevirtual 237, .invokestatic 249, .lreturn])]
def kd_24 : List (Nat × List Jvm.ClassFile.Instr) := [(0, [.aload_n 0, .invokespecial 1, .aload_n 0, .bipush (61), .newarray .long, .putfield 7, .aload_n 0, .bipush (61), .newarray .long, .putfield 13, .aload_n 0, .bipush (61), .newarray .long, .putfield 16, .aload_n 0, .bipush (121), .newarray .int, .putfield 19, .aload_n 0, .bipush (121), .newarray .int, .putfield 23, .aload_n 0, .bipush (121), .newarray .long, .putfield 26, .aload_n 0, .bipush (121), .newarray .long, .putfield 29, .aload_n 0, .bipush (121), .newarray .int, .putfield 32, .aload_n 0, .bipush (121), .newarray .long, .putfield 35, .aload_n 0, .bipush (121), .newarray .long, .putfield 38, .aload_n 0, .sipush (14641), .newarray .boolean, .putfield 41, .aload_n 0, .iconst (-1), .putfield 45, .aload_n 0, .sipush (2541), .newarray .long, .putfield 49, .aload_n 0, .sipush (2541), .newarray .int, .putfield 52, .aload_n 0, .sipush (2541), .newarray .boolean, .putfield 55, .aload_n 0, .sipush (2541), .newarray .boolean, .putfield 58, .aload_n 0, .sipush (2600), .newarray .int, .putfield 61, .aload_n 0, .ldc2_w 64, .putfield 66, .aload_n 0, .sipush (2600), .newarray .boolean, .putfield 70, .aload_n 0, .sipush (2600), .newarray .int, .putfield 73, .aload_n 0, .bipush (21), .newarray .long, .putfield 76, .aload_n 0, .iconst (3), .newarray .int, .putfield 79, .return_])]
def kd_25 : List (Nat × List Jvm.ClassFile.Instr) := [(0, [.aload_n 0, .getfield 82, .ireturn])]
def kd_26 : List (Nat × List Jvm.ClassFile.Instr) := [(0, [.iload_n 1, .iconst (1), .if_icmp .lt (11)]),
  (5, [.iload_n 1, .aload_n 0, .getfield 85, .if_icmp .le (7)]),
  (13, [.iconst (1), .goto (4)]),
  (17, [.iconst (0)]),
  (18, [.ireturn])]
def kd_27 : List (Nat × List Jvm.ClassFile.Instr) := [(0, [.iload_n 1, .iconst (1), .if_icmp .lt (11)]),
  (5, [.iload_n 1, .aload_n 0, .getfield 88, .if_icmp .le (7)]),
  (13, [.iconst (1), .goto (4)]),
  (17, [.iconst (0)]),
  (18, [.ireturn])]
def kd_28 : List (Nat × List Jvm.ClassFile.Instr) := [(0, [.aload_n 0, .iconst (0), .putfield 82, .lload_n 1, .ldc2_w 91, .lcmp, .ifCond .lt (27)]),
  (13, [.lload_n 1, .ldc2_w 93, .lcmp, .ifCond .gt (19)]),
  (21, [.lload_n 3, .ldc2_w 91, .lcmp, .ifCond .lt (11)]),
  (29, [.lload_n 3, .ldc2_w 93, .lcmp, .ifCond .le (6)]),
  (37, [.bipush (-2), .ireturn]),
  (40, [.aload_n 0, .getfield 85, .bipush (60), .if_icmp .ne (6)]),
  (49, [.bipush (-4), .ireturn]),
  (52, [.aload_n 0, .dup, .getfield 85, .iconst (1), .iadd, .putfield 85, .aload_n 0, .getfield 7, .aload_n 0, .getfield 85, .lload_n 1, .lastore, .aload_n 0, .getfield 13, .aload_n 0, .getfield 85, .lload_n 3, .lastore, .aload_n 0, .getfield 85, .ireturn])]
def kd_29 : List (Nat × List Jvm.ClassFile.Instr) := [(0, [.aload_n 0, .iconst (0), .putfield 82, .aload_n 0, .iload_n 1, .invokevirtual 95, .ifCond .ne (11)]),
  (13, [.aload_n 0, .iload_n 2, .invokevirtual 95, .ifCond .eq (5)]),
  (21, [.iconst (-1), .ireturn]),
  (23, [.iload_n 1, .iload_n 2, .if_icmp .eq (44)]),
  (28, [.lload_n 3, .lconst 1, .lcmp, .ifCond .lt (38)]),
  (34, [.lload_n 3, .ldc2_w 99, .lcmp, .ifCond .gt (30)]),
  (42, [.lload 5, .lconst 0, .lcmp, .ifCond .lt (23)]),
  (49, [.lload 5, .ldc2_w 101, .lcmp, .ifCond .gt (14)]),
  (58, [.iload 7, .ifCond .lt (9)]),
  (63, [.iload 7, .iconst (3), .if_icmp .le (6)]),
  (69, [.bipush (-2), .ireturn]),
  (72, [.aload_n 0, .getfield 88, .bipush (120), .if_icmp .ne (6)]),
  (81, [.bipush (-4), .ireturn]),
  (84, [.aload_n 0, .lload 5, .lconst 0, .lcmp, .ifCond .ne (7)]),
  (92, [.iconst (1), .goto (4)]),
  (96, [.iconst (0)]),
  (97, [.putfield 82, .aload_n 0, .getfield 82, .ifCond .le (5)]),
  (107, [.iconst (0), .ireturn]),
  (109, [.aload_n 0, .dup, .getfield 88, .iconst (1), .iadd, .putfield 88, .aload_n 0, .getfield 19, .aload_n 0, .getfield 88, .iload_n 1, .iastore, .aload_n 0, .getfield 23, .aload_n 0, .getfield 88, .iload_n 2, .iastore, .aload_n 0, .getfield 26, .aload_n 0, .getfield 88, .lload_n 3, .lastore, .aload_n 0, .getfield 29, .aload_n 0, .getfield 88, .lload 5, .lastore, .aload_n 0, .getfield 32, .aload_n 0, .getfield 88, .lconst 1, .lload_n 3, .lload_n 3, .iload 7, .i2l, .lmul, .ladd, .ldc2_w 103, .ldiv, .ladd, .l2i, .iastore, .aload_n 0, .getfield 38, .aload_n 0, .getfield 88, .ldc2_w 64, .lastore, .aload_n 0, .getfield 88, .ireturn])]
def kd_30 : List (Nat × List Jvm.ClassFile.Instr) := [(0, [.aload_n 0, .iconst (0), .putfield 82, .aload_n 0, .iload_n 1, .invokevirtual 105, .ifCond .ne (11)]),
  (13, [.aload_n 0, .iload_n 2, .invokevirtual 105, .ifCond .eq (5)]),
  (21, [.iconst (-1), .ireturn]),
  (23, [.aload_n 0, .getfield 23, .iload_n 1, .iaload, .aload_n 0, .getfield 19, .iload_n 2, .iaload, .if_icmp .eq (6)]),
  (38, [.bipush (-2), .ireturn]),
  (41, [.aload_n 0, .getfield 41, .bipush (121), .iload_n 1, .imul, .iload_n 2, .iadd, .baload, .istore 4, .aload_n 0, .getfield 41, .bipush (121), .iload_n 1, .imul, .iload_n 2, .iadd, .iload_n 3, .bastore, .iload 4, .iload_n 3, .if_icmp .ne (7)]),
  (72, [.iconst (0), .goto (4)]),
  (76, [.iconst (1)]),
  (77, [.ireturn])]
def kd_31 : List (Nat × List Jvm.ClassFile.Instr) := [(0, [.aload_n 0, .iconst (0), .putfield 82, .aload_n 0, .iload_n 1, .invokevirtual 95, .ifCond .eq (5)]),
  (13, [.iconst (-1), .ireturn]),
  (15, [.lload_n 2, .lconst 0, .lcmp, .ifCond .lt (11)]),
  (21, [.lload_n 2, .ldc2_w 108, .lcmp, .ifCond .le (6)]),
  (29, [.bipush (-2), .ireturn]),
  (32, [.aload_n 0, .getfield 16, .iload_n 1, .lload_n 2, .lastore, .iconst (0), .istore 4, .iconst (1), .istore 5]),
  (45, [.iload 5, .aload_n 0, .getfield 85, .if_icmp .gt (32)]),
  (54, [.aload_n 0, .getfield 16, .iload 5, .laload, .lconst 0, .lcmp, .ifCond .le (10)]),
  (66, [.iload 4, .iconst (1), .iadd, .goto (5)]),
  (73, [.iload 4]),
  (75, [.istore 4, .iinc 5 (1), .goto (-35)]),
  (83, [.iload 4, .ireturn])]
def kd_32 : List (Nat × List Jvm.ClassFile.Instr) := [(0, [.aload_n 0, .iconst (0), .putfield 82, .aload_n 0, .iload_n 1, .invokevirtual 105, .ifCond .eq (5)]),
  (13, [.iconst (-1), .ireturn]),
  (15, [.lload_n 2, .lconst 0, .lcmp, .ifCond .lt (18)]),
  (21, [.lload_n 2, .ldc2_w 101, .lcmp, .ifCond .gt (10)]),
  (29, [.lload 4, .lconst 0, .lcmp, .ifCond .ge (6)]),
  (36, [.bipush (-2), .ireturn]),
  (39, [.aload_n 0, .getfield 35, .iload_n 1, .lload_n 2, .lastore, .aload_n 0, .getfield 38, .iload_n 1, .lload 4, .lastore, .iconst (0), .istore 6, .iconst (1), .istore 7]),
  (60, [.iload 7, .aload_n 0, .getfield 88, .if_icmp .gt (35)]),
  (69, [.aload_n 0, .getfield 38, .iload 7, .laload, .aload_n 0, .getfield 110, .lcmp, .ifCond .le (10)]),
  (84, [.iload 6, .iconst (1), .iadd, .goto (5)]),
  (91, [.iload 6]),
  (93, [.istore 6, .iinc 7 (1), .goto (-38)]),
  (101, [.iload 6, .ireturn])]
def kd_33 : List (Nat × List Jvm.ClassFile.Instr) := [(0, [.aload_n 0, .getfield 38, .iload_n 1, .laload, .aload_n 0, .getfield 110, .lcmp, .ifCond .lt (12)]),
  (14, [.aload_n 0, .getfield 35, .iload_n 1, .laload, .goto (9)]),
  (23, [.aload_n 0, .getfield 29, .iload_n 1, .laload]),
  (29, [.lstore_n 2, .lload_n 2, .lconst 0, .lcmp, .ifCond .ne (7)]),
  (36, [.ldc2_w 64, .lreturn]),
  (40, [.aload_n 0, .getfield 45, .iconst (1), .if_icmp .ne (12)]),
  (48, [.aload_n 0, .getfield 26, .iload_n 1, .laload, .goto (15)]),
  (57, [.aload_n 0, .getfield 26, .iload_n 1, .laload, .ldc2_w 101, .lmul, .lload_n 2, .ldiv]),
  (69, [.lreturn])]
def kd_34 : List (Nat × List Jvm.ClassFile.Instr) := [(0, [.aload_n 0, .getfield 45, .iconst (2), .if_icmp .ne (14)]),
  (8, [.aload_n 0, .getfield 16, .iload_n 1, .laload, .lconst 0, .lcmp, .ifCond .ne (7)]),
  (19, [.ldc2_w 64, .lreturn]),
  (23, [.aload_n 0, .getfield 16, .iload_n 1, .laload, .ldc2_w 101, .lcmp, .ifCond .le (7)]),
  (36, [.lconst 1, .goto (13)]),
  (40, [.ldc2_w 101, .aload_n 0, .getfield 16, .iload_n 1, .laload, .ldiv]),
  (50, [.lreturn])]
def kd_35 : List (Nat × List Jvm.ClassFile.Instr) := [(0, [.aload_n 0, .getfield 45, .iconst (2), .if_icmp .ne (8)]),
  (8, [.bipush (20), .goto (4)]),
  (13, [.iconst (0)]),
  (14, [.ireturn])]
def kd_36 : List (Nat × List Jvm.ClassFile.Instr) := [(0, [.aload_n 0, .getfield 45, .iconst (2), .if_icmp .ne (12)]),
  (8, [.aload_n 0, .getfield 32, .iload_n 1, .iaload, .goto (4)]),
  (17, [.iconst (0)]),
  (18, [.ireturn])]
def kd_37 : List (Nat × List Jvm.ClassFile.Instr) := [(0, [.iload_n 1, .ifCond .ne (10)]),
  (4, [.aload_n 0, .getfield 113, .goto (9)]),
  (11, [.aload_n 0, .getfield 23, .iload_n 1, .iaload]),
  (17, [.ireturn])]
def kd_38 : List (Nat × List Jvm.ClassFile.Instr) := [(0, [.aload_n 0, .getfield 19, .iload_n 3, .iaload, .aload_n 0, .iload_n 1, .invokevirtual 116, .if_icmp .ne (44)]),
  (14, [.aload_n 0, .iload_n 3, .invokevirtual 120, .lconst 0, .lcmp, .ifCond .lt (34)]),
  (24, [.iload_n 2, .aload_n 0, .iload_n 3, .invokevirtual 124, .if_icmp .lt (25)]),
  (33, [.iload_n 1, .ifCond .eq (17)]),
  (37, [.aload_n 0, .getfield 41, .bipush (121), .iload_n 1, .imul, .iload_n 3, .iadd, .baload, .ifCond .ne (7)]),
  (51, [.iconst (1), .goto (4)]),
  (55, [.iconst (0)]),
  (56, [.ireturn])]
def kd_39 : List (Nat × List Jvm.ClassFile.Instr) := [(0, [.aload_n 0, .getfield 49, .iload_n 1, .laload, .lconst 0, .lcmp, .ifCond .lt (38)]),
  (11, [.aload_n 0, .getfield 49, .iload_n 1, .laload, .lload_n 2, .lcmp, .ifCond .lt (25)]),
  (22, [.aload_n 0, .getfield 49, .iload_n 1, .laload, .lload_n 2, .lcmp, .ifCond .ne (16)]),
  (33, [.aload_n 0, .getfield 52, .iload_n 1, .iaload, .iload 4, .if_icmp .gt (5)]),
  (44, [.iconst (0), .ireturn]),
  (46, [.aload_n 0, .getfield 49, .iload_n 1, .lload_n 2, .lastore, .aload_n 0, .getfield 52, .iload_n 1, .iload 4, .iastore, .iconst (1), .ireturn])]
def kd_40 : List (Nat × List Jvm.ClassFile.Instr) := [(0, [.iconst (0), .istore_n 1]),
  (2, [.iload_n 1, .sipush (2541), .if_icmp .ge (76)]),
  (9, [.iload_n 1, .bipush (21), .idiv, .aload_n 0, .getfield 88, .if_icmp .gt (33)]),
  (20, [.iload_n 1, .bipush (21), .irem, .aload_n 0, .invokevirtual 127, .if_icmp .gt (22)]),
  (31, [.aload_n 0, .iload_n 1, .bipush (21), .idiv, .invokevirtual 116, .aload_n 0, .getfield 131, .if_icmp .ne (7)]),
  (46, [.iconst (1), .goto (4)]),
  (50, [.iconst (0)]),
  (51, [.istore_n 2, .aload_n 0, .getfield 49, .iload_n 1, .iload_n 2, .ifCond .eq (7)]),
  (61, [.lconst 0, .goto (6)]),
  (65, [.ldc2_w 64]),
  (68, [.lastore, .aload_n 0, .getfield 52, .iload_n 1, .iconst (0), .iastore, .iinc 1 (1), .goto (-77)]),
  (82, [.iconst (1), .istore_n 1]),
  (84, [.iload_n 1, .ifCond .eq (239)]),
  (88, [.iconst (0), .istore_n 1, .aload_n 0, .getfield 88, .istore_n 2]),
  (95, [.iload_n 2, .ifCond .lt (225)]),
  (99, [.iconst (0), .istore_n 3]),
  (101, [.iload_n 3, .aload_n 0, .invokevirtual 127, .if_icmp .gt (209)]),
  (109, [.bipush (21), .iload_n 2, .imul, .iload_n 3, .iadd, .istore 4, .aload_n 0, .aload_n 0, .iload_n 2, .invokevirtual 116, .invokevirtual 134, .lstore 5, .lload 5, .lconst 0, .lcmp, .ifCond .lt (63)]),
  (135, [.iload_n 3, .bipush (20), .if_icmp .ge (57)]),
  (141, [.aload_n 0, .getfield 49, .iload 4, .iconst (1), .iadd, .laload, .lconst 0, .lcmp, .ifCond .lt (43)]),
  (155, [.aload_n 0, .iload 4, .aload_n 0, .getfield 49, .iload 4, .iconst (1), .iadd, .laload, .lload 5, .ladd, .aload_n 0, .getfield 52, .iload 4, .iconst (1), .iadd, .iaload, .invokevirtual 137, .ifCond .ne (7)]),
  (185, [.iload_n 1, .ifCond .eq (7)]),
  (189, [.iconst (1), .goto (4)]),
  (193, [.iconst (0)]),
  (194, [.istore_n 1]),
  (195, [.iconst (1), .istore 7]),
  (198, [.iload 7, .aload_n 0, .getfield 88, .if_icmp .gt (105)]),
  (207, [.bipush (21), .iload 7, .imul, .iload_n 3, .iadd, .aload_n 0, .iload 7, .invokevirtual 124, .isub, .istore 8, .aload_n 0, .getfield 19, .iload 7, .iaload, .aload_n 0, .iload_n 2, .invokevirtual 116, .if_icmp .ne (68)]),
  (238, [.aload_n 0, .iload_n 2, .iload_n 3, .iload 7, .invokevirtual 141, .ifCond .eq (57)]),
  (249, [.aload_n 0, .getfield 49, .iload 8, .laload, .lconst 0, .lcmp, .ifCond .lt (45)]),
  (261, [.aload_n 0, .iload 4, .aload_n 0, .getfield 49, .iload 8, .laload, .aload_n 0, .iload 7, .invokevirtual 120, .ladd, .aload_n 0, .getfield 52, .iload 8, .iaload, .iconst (1), .iadd, .invokevirtual 137, .ifCond .ne (7)]),
  (293, [.iload_n 1, .ifCond .eq (7)]),
  (297, [.iconst (1), .goto (4)]),
  (301, [.iconst (0)]),
  (302, [.istore_n 1]),
  (303, [.iinc 7 (1), .goto (-108)]),
  (309, [.iinc 3 (1), .goto (-211)]),
  (315, [.iinc 2 (-1), .goto (-223)]),
  (321, [.goto (-237)]),
  (324, [.return_])]
def kd_41 : List (Nat × List Jvm.ClassFile.Instr) := [(0, [.iconst (0), .istore_n 1]),
  (2, [.iload_n 1, .aload_n 0, .getfield 88, .if_icmp .gt (127)]),
  (10, [.aload_n 0, .aload_n 0, .iload_n 1, .invokevirtual 116, .invokevirtual 134, .lstore_n 2, .iconst (0), .istore 4]),
  (23, [.iload 4, .aload_n 0, .invokevirtual 127, .if_icmp .ge (99)]),
  (32, [.lload_n 2, .lconst 0, .lcmp, .ifCond .lt (93)]),
  (38, [.bipush (21), .iload_n 1, .imul, .iload 4, .iadd, .istore 5, .aload_n 0, .getfield 55, .iload 5, .baload, .ifCond .eq (68)]),
  (57, [.aload_n 0, .getfield 49, .iload 5, .iconst (1), .iadd, .laload, .lconst 0, .lcmp, .ifCond .lt (54)]),
  (71, [.aload_n 0, .getfield 49, .iload 5, .iconst (1), .iadd, .laload, .lload_n 2, .ladd, .aload_n 0, .getfield 49, .iload 5, .laload, .lcmp, .ifCond .ne (32)]),
  (93, [.aload_n 0, .getfield 52, .iload 5, .iconst (1), .iadd, .iaload, .aload_n 0, .getfield 52, .iload 5, .iaload, .if_icmp .ne (13)]),
  (112, [.aload_n 0, .getfield 55, .iload 5, .iconst (1), .iadd, .iconst (1), .bastore]),
  (122, [.iinc 4 (1), .goto (-102)]),
  (128, [.iinc 1 (1), .goto (-129)]),
  (134, [.return_])]
def kd_42 : List (Nat × List Jvm.ClassFile.Instr) := [(0, [.iconst (0), .istore_n 2, .iconst (0), .istore_n 3]),
  (4, [.iload_n 3, .aload_n 0, .getfield 88, .if_icmp .gt (141)]),
  (12, [.aload_n 0, .iload_n 1, .invokevirtual 124, .istore 4]),
  (19, [.iload 4, .aload_n 0, .invokevirtual 127, .if_icmp .gt (119)]),
  (28, [.bipush (21), .iload_n 3, .imul, .iload 4, .iadd, .istore 5, .bipush (21), .iload_n 1, .imul, .iload 4, .iadd, .aload_n 0, .iload_n 1, .invokevirtual 124, .isub, .istore 6, .aload_n 0, .getfield 55, .iload 5, .baload, .ifCond .eq (79)]),
  (62, [.aload_n 0, .iload_n 3, .iload 4, .iload_n 1, .invokevirtual 141, .ifCond .eq (68)]),
  (73, [.aload_n 0, .getfield 49, .iload 6, .laload, .lconst 0, .lcmp, .ifCond .lt (56)]),
  (85, [.aload_n 0, .getfield 49, .iload 6, .laload, .aload_n 0, .iload_n 1, .invokevirtual 120, .ladd, .aload_n 0, .getfield 49, .iload 5, .laload, .lcmp, .ifCond .ne (32)]),
  (109, [.aload_n 0, .getfield 52, .iload 6, .iaload, .iconst (1), .iadd, .aload_n 0, .getfield 52, .iload 5, .iaload, .if_icmp .ne (13)]),
  (128, [.aload_n 0, .getfield 58, .iload 6, .iconst (1), .bastore, .iconst (1), .istore_n 2]),
  (138, [.iinc 4 (1), .goto (-122)]),
  (144, [.iinc 3 (1), .goto (-143)]),
  (150, [.iload_n 2, .ireturn])]
def kd_43 : List (Nat × List Jvm.ClassFile.Instr) := [(0, [.aload_n 0, .dup, .getfield 110, .lconst 1, .ladd, .putfield 110, .aload_n 0, .getfield 45, .iconst (2), .if_icmp .ne (10)]),
  (18, [.aload_n 0, .getfield 145, .goto (4)]),
  (25, [.iconst (0)]),
  (26, [.istore_n 1, .aload_n 0, .invokevirtual 148, .aload_n 0, .iconst (0), .putfield 151, .aload_n 0, .iconst (0), .putfield 154, .aload_n 0, .getfield 49, .iload_n 1, .laload, .lconst 0, .lcmp, .ifCond .ge (18)]),
  (52, [.aload_n 0, .getfield 45, .iconst (2), .if_icmp .ne (8)]),
  (60, [.aload_n 0, .iload_n 1, .invokevirtual 157]),
  (65, [.iconst (0), .ireturn]),
  (67, [.aload_n 0, .aload_n 0, .getfield 49, .iload_n 1, .laload, .putfield 161, .iconst (0), .istore_n 2]),
  (79, [.iload_n 2, .sipush (2541), .if_icmp .ge (25)]),
  (86, [.aload_n 0, .getfield 55, .iload_n 2, .iload_n 2, .iload_n 1, .if_icmp .ne (7)]),
  (96, [.iconst (1), .goto (4)]),
  (100, [.iconst (0)]),
  (101, [.bastore, .iinc 2 (1), .goto (-26)]),
  (108, [.aload_n 0, .getfield 52, .iload_n 1, .iaload, .istore_n 2]),
  (115, [.aload_n 0, .getfield 151, .iload_n 2, .if_icmp .ge (99)]),
  (123, [.aload_n 0, .invokevirtual 164, .iconst (0), .istore_n 3]),
  (129, [.iload_n 3, .sipush (2541), .if_icmp .ge (16)]),
  (136, [.aload_n 0, .getfield 58, .iload_n 3, .iconst (0), .bastore, .iinc 3 (1), .goto (-17)]),
  (149, [.iconst (1), .istore_n 3]),
  (151, [.aload_n 0, .iload_n 3, .invokevirtual 167, .ifCond .ne (9)]),
  (159, [.iinc 3 (1), .goto (-11)]),
  (165, [.aload_n 0, .getfield 73, .aload_n 0, .getfield 151, .iload_n 3, .iastore, .aload_n 0, .dup, .getfield 151, .iconst (1), .iadd, .putfield 151, .iconst (0), .istore 4]),
  (188, [.iload 4, .sipush (2541), .if_icmp .ge (23)]),
  (196, [.aload_n 0, .getfield 55, .iload 4, .aload_n 0, .getfield 58, .iload 4, .baload, .bastore, .iinc 4 (1), .goto (-25)]),
  (216, [.goto (-101)]),
  (219, [.iconst (1), .ireturn])]
def kd_44 : List (Nat × List Jvm.ClassFile.Instr) := [(0, [.aload_n 0, .getfield 7, .iload_n 1, .laload, .aload_n 0, .getfield 7, .aload_n 0, .getfield 131, .laload, .lsub, .aload_n 0, .getfield 7, .iload_n 1, .laload, .aload_n 0, .getfield 7, .aload_n 0, .getfield 131, .laload, .lsub, .lmul, .aload_n 0, .getfield 13, .iload_n 1, .laload, .aload_n 0, .getfield 13, .aload_n 0, .getfield 131, .laload, .lsub, .aload_n 0, .getfield 13, .iload_n 1, .laload, .aload_n 0, .getfield 13, .aload_n 0, .getfield 131, .laload, .lsub, .lmul, .ladd, .lreturn])]
def kd_45 : List (Nat × List Jvm.ClassFile.Instr) := [(0, [.iconst (0), .istore_n 2]),
  (2, [.iload_n 2, .sipush (2541), .if_icmp .ge (25)]),
  (9, [.aload_n 0, .getfield 55, .iload_n 2, .iload_n 2, .iload_n 1, .if_icmp .ne (7)]),
  (19, [.iconst (1), .goto (4)]),
  (23, [.iconst (0)]),
  (24, [.bastore, .iinc 2 (1), .goto (-26)]),
  (31, [.iconst (1), .istore_n 2]),
  (33, [.iload_n 2, .ifCond .eq (174)]),
  (37, [.iconst (0), .istore_n 2, .iconst (0), .istore_n 3]),
  (41, [.iload_n 3, .aload_n 0, .getfield 88, .if_icmp .gt (159)]),
  (49, [.iconst (0), .istore 4]),
  (52, [.iload 4, .bipush (20), .if_icmp .gt (143)]),
  (59, [.bipush (21), .iload_n 3, .imul, .iload 4, .iadd, .istore 5, .aload_n 0, .getfield 55, .iload 5, .baload, .ifCond .ne (6)]),
  (78, [.goto (115)]),
  (81, [.aload_n 0, .aload_n 0, .iload_n 3, .invokevirtual 116, .invokevirtual 134, .lconst 0, .lcmp, .ifCond .lt (34)]),
  (95, [.iload 4, .bipush (20), .if_icmp .ge (27)]),
  (102, [.aload_n 0, .getfield 55, .iload 5, .iconst (1), .iadd, .baload, .ifCond .ne (15)]),
  (114, [.aload_n 0, .getfield 55, .iload 5, .iconst (1), .iadd, .iconst (1), .bastore, .iconst (1), .istore_n 2]),
  (126, [.iconst (1), .istore 6]),
  (129, [.iload 6, .aload_n 0, .getfield 88, .if_icmp .gt (58)]),
  (138, [.bipush (21), .iload 6, .imul, .iload 4, .iadd, .aload_n 0, .iload 6, .invokevirtual 124, .isub, .istore 7, .aload_n 0, .iload_n 3, .iload 4, .iload 6, .invokevirtual 141, .ifCond .eq (23)]),
  (167, [.aload_n 0, .getfield 55, .iload 7, .baload, .ifCond .ne (13)]),
  (177, [.aload_n 0, .getfield 55, .iload 7, .iconst (1), .bastore, .iconst (1), .istore_n 2]),
  (187, [.iinc 6 (1), .goto (-61)]),
  (193, [.iinc 4 (1), .goto (-144)]),
  (199, [.iinc 3 (1), .goto (-161)]),
  (205, [.goto (-172)]),
  (208, [.iconst (1), .istore_n 3]),
  (210, [.iload_n 3, .aload_n 0, .getfield 85, .if_icmp .gt (116)]),
  (218, [.iconst (0), .istore 4, .iconst (0), .istore 5]),
  (224, [.iload 5, .bipush (21), .aload_n 0, .getfield 88, .imul, .bipush (21), .iadd, .if_icmp .ge (44)]),
  (239, [.iload 4, .ifCond .ne (26)]),
  (244, [.aload_n 0, .getfield 55, .iload 5, .baload, .ifCond .eq (20)]),
  (254, [.aload_n 0, .iload 5, .bipush (21), .idiv, .invokevirtual 116, .iload_n 3, .if_icmp .ne (7)]),
  (267, [.iconst (1), .goto (4)]),
  (271, [.iconst (0)]),
  (272, [.istore 4, .iinc 5 (1), .goto (-53)]),
  (280, [.iload 4, .ifCond .eq (43)]),
  (285, [.aload_n 0, .getfield 16, .iload_n 3, .laload, .lconst 0, .lcmp, .ifCond .le (32)]),
  (296, [.aload_n 0, .getfield 154, .ifCond .eq (20)]),
  (303, [.aload_n 0, .iload_n 3, .invokevirtual 170, .aload_n 0, .aload_n 0, .getfield 154, .invokevirtual 170, .lcmp, .ifCond .ge (8)]),
  (320, [.aload_n 0, .iload_n 3, .putfield 154]),
  (325, [.iinc 3 (1), .goto (-118)]),
  (331, [.return_])]
def kd_46 : List (Nat × List Jvm.ClassFile.Instr) := [(0, [.aload_n 0, .aload_n 0, .getfield 151, .putfield 173, .iconst (0), .istore_n 1]),
  (10, [.iload_n 1, .aload_n 0, .getfield 151, .if_icmp .ge (21)]),
  (18, [.aload_n 0, .getfield 61, .iload_n 1, .aload_n 0, .getfield 73, .iload_n 1, .iaload, .iastore, .iinc 1 (1), .goto (-23)]),
  (36, [.iconst (0), .istore_n 1]),
  (38, [.iload_n 1, .sipush (2600), .if_icmp .ge (16)]),
  (45, [.aload_n 0, .getfield 70, .iload_n 1, .iconst (0), .bastore, .iinc 1 (1), .goto (-17)]),
  (58, [.aload_n 0, .aload_n 0, .getfield 161, .putfield 66, .return_])]
def kd_47 : List (Nat × List Jvm.ClassFile.Instr) := [(0, [.aload_n 0, .iconst (0), .putfield 82, .aload_n 0, .iload_n 1, .invokevirtual 95, .ifCond .ne (41)]),
  (13, [.aload_n 0, .iload_n 2, .invokevirtual 95, .ifCond .ne (33)]),
  (21, [.iload_n 3, .ifCond .lt (29)]),
  (25, [.iload_n 3, .iconst (2), .if_icmp .gt (24)]),
  (30, [.iload_n 3, .iconst (2), .if_icmp .ne (22)]),
  (35, [.lload 4, .lconst 0, .lcmp, .ifCond .lt (12)]),
  (42, [.lload 4, .ldc2_w 176, .lcmp, .ifCond .le (6)]),
  (51, [.bipush (-2), .ireturn]),
  (54, [.aload_n 0, .iload_n 1, .putfield 113, .aload_n 0, .iload_n 2, .putfield 131, .aload_n 0, .iload_n 3, .putfield 45, .aload_n 0, .iload_n 3, .iconst (2), .if_icmp .ne (9)]),
  (75, [.lload 4, .l2i, .goto (4)]),
  (81, [.iconst (0)]),
  (82, [.putfield 145, .aload_n 0, .invokevirtual 178, .istore 6, .aload_n 0, .iload 6, .ifCond .eq (10)]),
  (97, [.aload_n 0, .getfield 151, .goto (4)]),
  (104, [.iconst (0)]),
  (105, [.putfield 151, .aload_n 0, .iload 6, .ifCond .eq (10)]),
  (114, [.aload_n 0, .getfield 161, .goto (6)]),
  (121, [.ldc2_w 64]),
  (124, [.putfield 161, .aload_n 0, .invokevirtual 182, .iload 6, .ifCond .eq (10)]),
  (136, [.aload_n 0, .getfield 173, .goto (4)]),
  (143, [.iconst (-1)]),
  (144, [.ireturn])]
def kd_48 : List (Nat × List Jvm.ClassFile.Instr) := [(0, [.iconst (0), .istore_n 1]),
  (2, [.iload_n 1, .bipush (21), .if_icmp .ge (30)]),
  (8, [.aload_n 0, .getfield 76, .iload_n 1, .iload_n 1, .aload_n 0, .getfield 145, .if_icmp .ne (7)]),
  (21, [.lconst 0, .goto (6)]),
  (25, [.ldc2_w 64]),
  (28, [.lastore, .iinc 1 (1), .goto (-30)]),
  (35, [.iconst (0), .istore_n 1]),
  (37, [.iload_n 1, .aload_n 0, .getfield 173, .if_icmp .ge (245)]),
  (45, [.aload_n 0, .getfield 61, .iload_n 1, .iaload, .istore_n 2, .iload_n 1, .ifCond .ne (7)]),
  (56, [.iconst (0), .goto (11)]),
  (60, [.aload_n 0, .getfield 61, .iload_n 1, .iconst (1), .isub, .iaload]),
  (68, [.istore_n 3, .aload_n 0, .iload_n 2, .invokevirtual 120, .lconst 0, .lcmp, .ifCond .lt (21)]),
  (79, [.iload_n 3, .ifCond .le (21)]),
  (83, [.aload_n 0, .getfield 41, .bipush (121), .iload_n 3, .imul, .iload_n 2, .iadd, .baload, .ifCond .eq (7)]),
  (97, [.ldc2_w 64, .lreturn]),
  (101, [.aload_n 0, .aload_n 0, .getfield 19, .iload_n 2, .iaload, .invokevirtual 134, .lstore 4, .iconst (1), .istore 6]),
  (116, [.iload 6, .aload_n 0, .invokevirtual 127, .if_icmp .gt (84)]),
  (125, [.lload 4, .lconst 0, .lcmp, .ifCond .lt (77)]),
  (132, [.aload_n 0, .getfield 76, .iload 6, .iconst (1), .isub, .laload, .lconst 0, .lcmp, .ifCond .lt (57)]),
  (146, [.aload_n 0, .getfield 76, .iload 6, .laload, .lconst 0, .lcmp, .ifCond .lt (26)]),
  (158, [.aload_n 0, .getfield 76, .iload 6, .laload, .aload_n 0, .getfield 76, .iload 6, .iconst (1), .isub, .laload, .lload 4, .ladd, .lcmp, .ifCond .le (22)]),
  (181, [.aload_n 0, .getfield 76, .iload 6, .aload_n 0, .getfield 76, .iload 6, .iconst (1), .isub, .laload, .lload 4, .ladd, .lastore]),
  (200, [.iinc 6 (1), .goto (-87)]),
  (206, [.iconst (0), .istore 6]),
  (209, [.iload 6, .aload_n 0, .invokevirtual 127, .if_icmp .gt (66)]),
  (218, [.iload 6, .aload_n 0, .iload_n 2, .invokevirtual 124, .iadd, .istore 7, .aload_n 0, .getfield 76, .iload 6, .iload 7, .aload_n 0, .invokevirtual 127, .if_icmp .gt (31)]),
  (243, [.aload_n 0, .getfield 76, .iload 7, .laload, .lconst 0, .lcmp, .ifCond .lt (19)]),
  (255, [.aload_n 0, .getfield 76, .iload 7, .laload, .aload_n 0, .iload_n 2, .invokevirtual 120, .ladd, .goto (6)]),
  (271, [.ldc2_w 64]),
  (274, [.lastore, .iinc 6 (1), .goto (-69)]),
  (281, [.iinc 1 (1), .goto (-247)]),
  (287, [.ldc2_w 64, .lstore_n 1, .iconst (0), .istore_n 3]),
  (293, [.iload_n 3, .aload_n 0, .invokevirtual 127, .if_icmp .gt (48)]),
  (301, [.aload_n 0, .getfield 76, .iload_n 3, .laload, .lconst 0, .lcmp, .ifCond .lt (29)]),
  (312, [.lload_n 1, .lconst 0, .lcmp, .ifCond .lt (14)]),
  (318, [.aload_n 0, .getfield 76, .iload_n 3, .laload, .lload_n 1, .lcmp, .ifCond .ge (12)]),
  (329, [.aload_n 0, .getfield 76, .iload_n 3, .laload, .goto (4)]),
  (338, [.lload_n 1]),
  (339, [.lstore_n 1, .iinc 3 (1), .goto (-50)]),
  (346, [.lload_n 1, .lreturn])]
def kd_49 : List (Nat × List Jvm.ClassFile.Instr) := [(0, [.aload_n 0, .iconst (0), .putfield 82, .lload_n 1, .lconst 0, .lcmp, .ifCond .ge (6)]),
  (11, [.bipush (-2), .ireturn]),
  (14, [.aload_n 0, .getfield 45, .ifCond .ge (6)]),
  (21, [.bipush (-3), .ireturn]),
  (24, [.aload_n 0, .invokevirtual 178, .ifCond .ne (5)]),
  (31, [.iconst (0), .ireturn]),
  (33, [.aload_n 0, .getfield 66, .lconst 0, .lcmp, .ifCond .ge (9)]),
  (42, [.ldc2_w 64, .goto (7)]),
  (48, [.aload_n 0, .invokevirtual 185]),
  (52, [.lstore_n 3, .aload_n 0, .getfield 173, .aload_n 0, .getfield 151, .if_icmp .ne (7)]),
  (64, [.iconst (1), .goto (4)]),
  (68, [.iconst (0)]),
  (69, [.istore 5, .iconst (0), .istore 6]),
  (74, [.iload 6, .aload_n 0, .getfield 173, .if_icmp .ge (38)]),
  (83, [.iload 5, .ifCond .eq (33)]),
  (88, [.aload_n 0, .getfield 61, .iload 6, .iaload, .aload_n 0, .getfield 73, .iload 6, .iaload, .if_icmp .ne (7)]),
  (105, [.iconst (1), .goto (4)]),
  (109, [.iconst (0)]),
  (110, [.istore 5, .iinc 6 (1), .goto (-41)]),
  (118, [.lload_n 3, .lconst 0, .lcmp, .ifCond .lt (21)]),
  (124, [.iload 5, .ifCond .ne (14)]),
  (129, [.lload_n 3, .aload_n 0, .getfield 161, .lsub, .lload_n 1, .lcmp, .ifCond .ge (5)]),
  (140, [.iconst (0), .ireturn]),
  (142, [.aload_n 0, .invokevirtual 182, .iconst (1), .ireturn])]
def kd_50 : List (Nat × List Jvm.ClassFile.Instr) := [(0, [.aload_n 0, .iconst (0), .putfield 82, .iload_n 1, .ifCond .lt (11)]),
  (9, [.iload_n 1, .aload_n 0, .getfield 173, .if_icmp .lt (7)]),
  (17, [.iconst (0), .goto (9)]),
  (21, [.aload_n 0, .getfield 61, .iload_n 1, .iaload]),
  (27, [.ireturn])]
def kd_51 : List (Nat × List Jvm.ClassFile.Instr) := [(0, [.aload_n 0, .iconst (0), .putfield 82, .aload_n 0, .getfield 66, .lreturn])]
def kd_52 : List (Nat × List Jvm.ClassFile.Instr) := [(0, [.aload_n 0, .iconst (0), .putfield 82, .aload_n 0, .getfield 154, .ireturn])]
def kd_53 : List (Nat × List Jvm.ClassFile.Instr) := [(0, [.aload_n 0, .iconst (0), .putfield 82, .iload_n 1, .ifCond .lt (13)]),
  (9, [.iload_n 1, .aload_n 0, .getfield 173, .iconst (2), .isub, .if_icmp .le (5)]),
  (19, [.iconst (-1), .ireturn]),
  (21, [.iload_n 2, .ifCond .lt (8)]),
  (25, [.iload_n 2, .iconst (2), .if_icmp .le (6)]),
  (30, [.bipush (-2), .ireturn]),
  (33, [.aload_n 0, .getfield 61, .iload_n 1, .iaload, .istore_n 3, .aload_n 0, .getfield 61, .iload_n 1, .iconst (1), .iadd, .iaload, .istore 4, .iload_n 2, .iconst (1), .if_icmp .ne (6)]),
  (55, [.iload 4, .ireturn]),
  (58, [.iload_n 2, .iconst (2), .if_icmp .ne (29)]),
  (63, [.aload_n 0, .getfield 70, .iload_n 1, .baload, .ifCond .eq (7)]),
  (72, [.iconst (0), .goto (4)]),
  (76, [.iconst (1)]),
  (77, [.istore 5, .aload_n 0, .getfield 70, .iload_n 1, .iconst (1), .bastore, .iload 5, .ireturn]),
  (89, [.aload_n 0, .getfield 7, .aload_n 0, .getfield 23, .iload_n 3, .iaload, .laload, .aload_n 0, .getfield 7, .aload_n 0, .getfield 19, .iload_n 3, .iaload, .laload, .lsub, .lstore 5, .aload_n 0, .getfield 13, .aload_n 0, .getfield 23, .iload_n 3, .iaload, .laload, .aload_n 0, .getfield 13, .aload_n 0, .getfield 19, .iload_n 3, .iaload, .laload, .lsub, .lstore 7, .aload_n 0, .getfield 7, .aload_n 0, .getfield 23, .iload 4, .iaload, .laload, .aload_n 0, .getfield 7, .aload_n 0, .getfield 19, .iload 4, .iaload, .laload, .lsub, .lstore 9, .aload_n 0, .getfield 13, .aload_n 0, .getfield 23, .iload 4, .iaload, .laload, .aload_n 0, .getfield 13, .aload_n 0, .getfield 19, .iload 4, .iaload, .laload, .lsub, .lstore 11, .lload 5, .lload 11, .lmul, .lload 7, .lload 9, .lmul, .lsub, .lstore 13, .lload 5, .lload 9, .lmul, .lload 7, .lload 11, .lmul, .ladd, .lstore 15, .lload 13, .lconst 0, .lcmp, .ifCond .ge (12)]),
  (226, [.ldc2_w 189, .lload 13, .lmul, .goto (9)]),
  (235, [.ldc2_w 191, .lload 13, .lmul]),
  (241, [.lstore 17, .lload 17, .lload 15, .lcmp, .ifCond .gt (5)]),
  (251, [.iconst (0), .ireturn]),
  (253, [.lload 17, .lload 15, .ladd, .lconst 0, .lcmp, .ifCond .gt (5)]),
  (263, [.iconst (3), .ireturn]),
  (265, [.lload 13, .lconst 0, .lcmp, .ifCond .le (7)]),
  (272, [.iconst (2), .goto (4)]),
  (276, [.iconst (1)]),
  (277, [.ireturn])]
def kd_54 : List (Nat × List Jvm.ClassFile.Instr) := [(0, [.lload_n 0, .lconst 0, .lcmp, .ifCond .ne (11)]),
  (6, [.lload_n 2, .lconst 0, .lcmp, .ifCond .ne (5)]),
  (12, [.iconst (-1), .ireturn]),
  (14, [.lload_n 0, .lconst 0, .lcmp, .ifCond .le (21)]),
  (20, [.lload_n 2, .lconst 0, .lcmp, .ifCond .lt (15)]),
  (26, [.lload_n 2, .lload_n 0, .lcmp, .ifCond .ge (7)]),
  (32, [.iconst (0), .goto (4)]),
  (36, [.iconst (1)]),
  (37, [.ireturn]),
  (38, [.lload_n 0, .lconst 0, .lcmp, .ifCond .gt (22)]),
  (44, [.lload_n 2, .lconst 0, .lcmp, .ifCond .le (16)]),
  (50, [.lload_n 0, .lneg, .lload_n 2, .lcmp, .ifCond .ge (7)]),
  (57, [.iconst (2), .goto (4)]),
  (61, [.iconst (3)]),
  (62, [.ireturn]),
  (63, [.lload_n 0, .lconst 0, .lcmp, .ifCond .ge (17)]),
  (69, [.lload_n 2, .lneg, .lload_n 0, .lneg, .lcmp, .ifCond .ge (7)]),
  (77, [.iconst (4), .goto (4)]),
  (81, [.iconst (5)]),
  (82, [.ireturn]),
  (83, [.lload_n 0, .lload_n 2, .lneg, .lcmp, .ifCond .ge (8)]),
  (90, [.bipush (6), .goto (5)]),
  (95, [.bipush (7)]),
  (97, [.ireturn])]
def kd_55 : List (Nat × List Jvm.ClassFile.Instr) := [(0, [.aload_n 0, .getfield 7, .aload_n 0, .getfield 23, .iload_n 1, .iaload, .laload, .aload_n 0, .getfield 7, .aload_n 0, .getfield 19, .iload_n 1, .iaload, .laload, .lsub, .lstore 6, .aload_n 0, .getfield 13, .aload_n 0, .getfield 23, .iload_n 1, .iaload, .laload, .aload_n 0, .getfield 13, .aload_n 0, .getfield 19, .iload_n 1, .iaload, .laload, .lsub, .lstore 8, .lload_n 2, .aload_n 0, .getfield 7, .aload_n 0, .getfield 19, .iload_n 1, .iaload, .laload, .lsub, .lstore 10, .lload 4, .aload_n 0, .getfield 13, .aload_n 0, .getfield 19, .iload_n 1, .iaload, .laload, .lsub, .lstore 12, .lload_n 2, .aload_n 0, .getfield 7, .aload_n 0, .getfield 23, .iload_n 1, .iaload, .laload, .lsub, .lstore 14, .lload 4, .aload_n 0, .getfield 13, .aload_n 0, .getfield 23, .iload_n 1, .iaload, .laload, .lsub, .lstore 16, .lload 10, .lload 6, .lmul, .lload 12, .lload 8, .lmul, .ladd, .lconst 0, .lcmp, .ifCond .gt (15)]),
  (128, [.lload 10, .lload 10, .lmul, .lload 12, .lload 12, .lmul, .ladd, .lreturn]),
  (140, [.lload 14, .lload 6, .lmul, .lload 16, .lload 8, .lmul, .ladd, .lconst 0, .lcmp, .ifCond .lt (15)]),
  (156, [.lload 14, .lload 14, .lmul, .lload 16, .lload 16, .lmul, .ladd, .lreturn]),
  (168, [.lload 10, .lload 8, .lmul, .lload 12, .lload 6, .lmul, .lsub, .lstore 18, .lload 18, .lload 18, .lmul, .lload 6, .lload 6, .lmul, .lload 8, .lload 8, .lmul, .ladd, .ldiv, .lreturn])]
def kd_56 : List (Nat × List Jvm.ClassFile.Instr) := [(0, [.aload_n 0, .iconst (0), .putfield 82, .lload_n 1, .ldc2_w 193, .lcmp, .ifCond .lt (40)]),
  (13, [.lload_n 1, .ldc2_w 103, .lcmp, .ifCond .gt (32)]),
  (21, [.lload_n 3, .ldc2_w 193, .lcmp, .ifCond .lt (24)]),
  (29, [.lload_n 3, .ldc2_w 103, .lcmp, .ifCond .gt (16)]),
  (37, [.iload 5, .iconst (-1), .if_icmp .lt (10)]),
  (43, [.iload 5, .bipush (7), .if_icmp .le (6)]),
  (50, [.bipush (-2), .ireturn]),
  (53, [.iconst (0), .istore 6, .lconst 0, .lstore 7, .iconst (1), .istore 9]),
  (62, [.iload 9, .aload_n 0, .getfield 88, .if_icmp .gt (167)]),
  (71, [.aload_n 0, .getfield 7, .aload_n 0, .getfield 23, .iload 9, .iaload, .laload, .aload_n 0, .getfield 7, .aload_n 0, .getfield 19, .iload 9, .iaload, .laload, .lsub, .aload_n 0, .getfield 13, .aload_n 0, .getfield 23, .iload 9, .iaload, .laload, .aload_n 0, .getfield 13, .aload_n 0, .getfield 19, .iload 9, .iaload, .laload, .lsub, .invokestatic 195, .istore 10, .iload 10, .iload 5, .if_icmp .ge (11)]),
  (133, [.iload 5, .iload 10, .isub, .goto (8)]),
  (141, [.iload 10, .iload 5, .isub]),
  (146, [.istore 11, .iload 5, .ifCond .lt (21)]),
  (153, [.iload 10, .ifCond .lt (20)]),
  (158, [.iload 11, .iconst (2), .if_icmp .lt (10)]),
  (164, [.iload 11, .bipush (7), .if_icmp .ne (7)]),
  (171, [.iconst (1), .goto (4)]),
  (175, [.iconst (0)]),
  (176, [.istore 12, .iload 12, .ifCond .eq (14)]),
  (183, [.aload_n 0, .iload 9, .lload_n 1, .lload_n 3, .invokevirtual 199, .goto (6)]),
  (194, [.ldc2_w 203]),
  (197, [.lstore 13, .lload 13, .ldc2_w 205, .lcmp, .ifCond .gt (24)]),
  (208, [.iload 6, .ifCond .eq (11)]),
  (213, [.lload 13, .lload 7, .lcmp, .ifCond .ge (11)]),
  (221, [.iload 9, .istore 6, .lload 13, .lstore 7]),
  (229, [.iinc 9 (1), .goto (-170)]),
  (235, [.iload 6, .ireturn])]
def kd_57 : List (Nat × List Jvm.ClassFile.Instr) := [(0, [.bipush (97), .iload_n 1, .ifCond .ne (11)]),
  (6, [.iload_n 0, .sipush (676), .idiv, .goto (22)]),
  (14, [.iload_n 1, .iconst (1), .if_icmp .ne (13)]),
  (19, [.iload_n 0, .bipush (26), .idiv, .bipush (26), .irem, .goto (7)]),
  (29, [.iload_n 0, .bipush (26), .irem]),
  (33, [.iadd, .ireturn])]
def kd_58 : List (Nat × List Jvm.ClassFile.Instr) := [(0, [.aload_n 0, .iconst (0), .putfield 82, .iload_n 1, .ifCond .eq (18)]),
  (9, [.iload_n 1, .bipush (97), .if_icmp .lt (9)]),
  (15, [.iload_n 1, .bipush (122), .if_icmp .le (6)]),
  (21, [.bipush (-2), .ireturn]),
  (24, [.iload_n 1, .ifCond .eq (14)]),
  (28, [.aload_n 0, .getfield 207, .iconst (3), .if_icmp .ne (6)]),
  (36, [.bipush (-3), .ireturn]),
  (39, [.iload_n 1, .ifCond .le (13)]),
  (43, [.aload_n 0, .getfield 79, .aload_n 0, .getfield 207, .iload_n 1, .iastore]),
  (53, [.aload_n 0, .iload_n 1, .ifCond .ne (7)]),
  (58, [.iconst (0), .goto (9)]),
  (62, [.aload_n 0, .getfield 207, .iconst (1), .iadd]),
  (68, [.putfield 207, .iconst (0), .istore_n 2, .iconst (1), .istore_n 3]),
  (75, [.iload_n 3, .aload_n 0, .getfield 85, .if_icmp .gt (71)]),
  (83, [.iconst (1), .istore 4, .iconst (0), .istore 5]),
  (89, [.iload 5, .aload_n 0, .getfield 207, .if_icmp .ge (37)]),
  (98, [.iload 4, .ifCond .eq (23)]),
  (103, [.iload_n 3, .iload 5, .invokestatic 210, .aload_n 0, .getfield 79, .iload 5, .iaload, .if_icmp .ne (7)]),
  (119, [.iconst (1), .goto (4)]),
  (123, [.iconst (0)]),
  (124, [.istore 4, .iinc 5 (1), .goto (-40)]),
  (132, [.iload 4, .ifCond .eq (9)]),
  (137, [.iload_n 2, .iconst (1), .iadd, .goto (4)]),
  (143, [.iload_n 2]),
  (144, [.istore_n 2, .iinc 3 (1), .goto (-73)]),
  (151, [.iload_n 2, .ireturn])]
def kd_59 : List (Nat × List Jvm.ClassFile.Instr) := [(0, [.aload_n 0, .iconst (0), .putfield 82, .iload_n 2, .ifCond .lt (14)]),
  (9, [.iload_n 2, .bipush (7), .if_icmp .gt (8)]),
  (15, [.iload_n 1, .iconst (1), .if_icmp .ge (6)]),
  (20, [.bipush (-2), .ireturn]),
  (23, [.aload_n 0, .getfield 214, .ifCond .eq (13)]),
  (30, [.aload_n 0, .getfield 214, .sipush (255), .if_icmp .ne (7)]),
  (40, [.iconst (1), .goto (4)]),
  (44, [.iconst (0)]),
  (45, [.istore_n 3, .iload_n 3, .ifCond .eq (11)]),
  (50, [.iload_n 1, .aload_n 0, .getfield 217, .if_icmp .le (27)]),
  (58, [.iload_n 3, .ifCond .ne (25)]),
  (62, [.iload_n 1, .aload_n 0, .getfield 217, .if_icmp .ne (15)]),
  (70, [.aload_n 0, .getfield 214, .iload_n 2, .ishr, .iconst (1), .iand, .iconst (1), .if_icmp .ne (5)]),
  (82, [.iconst (0), .ireturn]),
  (84, [.aload_n 0, .iload_n 3, .ifCond .eq (9)]),
  (89, [.iconst (1), .iload_n 2, .ishl, .goto (11)]),
  (95, [.aload_n 0, .getfield 214, .iconst (1), .iload_n 2, .ishl, .ior]),
  (103, [.putfield 214, .aload_n 0, .iload_n 1, .putfield 217, .iconst (1), .ireturn])]
def kd_60 : List (Nat × List Jvm.ClassFile.Instr) := [(0, [.aload_n 0, .invokespecial 3, .aload_n 0, .sipush (2541), .newarray .long, .putfield 11, .aload_n 0, .sipush (2541), .newarray .int, .putfield 15, .aload_n 0, .sipush (2542), .newarray .int, .putfield 19, .aload_n 0, .iconst (0), .putfield 22, .return_])]
def kd_61 : List (Nat × List Jvm.ClassFile.Instr) := [(0, [.aload_n 0, .iconst (0), .putfield 22, .iconst (0), .istore_n 2]),
  (7, [.iload_n 2, .iload_n 1, .if_icmp .ge (32)]),
  (12, [.iload_n 2, .sipush (2541), .if_icmp .ge (25)]),
  (19, [.aload_n 0, .getfield 11, .iload_n 2, .ldc2_w 26, .lastore, .aload_n 0, .getfield 15, .iload_n 2, .iconst (0), .iastore, .iinc 2 (1), .goto (-31)]),
  (41, [.return_])]
def kd_62 : List (Nat × List Jvm.ClassFile.Instr) := [(0, [.aload_n 0, .getfield 11, .iload_n 1, .laload, .lreturn])]
def kd_63 : List (Nat × List Jvm.ClassFile.Instr) := [(0, [.lload_n 2, .aload_n 0, .getfield 11, .iload_n 1, .laload, .lcmp, .ifCond .lt (4)]),
  (11, [.return_]),
  (12, [.aload_n 0, .getfield 11, .iload_n 1, .lload_n 2, .lastore, .aload_n 0, .getfield 15, .iload_n 1, .iaload, .ifCond .ne (23)]),
  (28, [.aload_n 0, .dup, .getfield 22, .iconst (1), .iadd, .putfield 22, .aload_n 0, .getfield 15, .iload_n 1, .aload_n 0, .getfield 22, .iastore]),
  (48, [.aload_n 0, .iload_n 1, .invokevirtual 28, .return_])]
def kd_64 : List (Nat × List Jvm.ClassFile.Instr) := [(0, [.aload_n 0, .getfield 22, .ifCond .ne (5)]),
  (7, [.iconst (-1), .ireturn]),
  (9, [.aload_n 0, .getfield 19, .iconst (1), .iaload, .istore_n 1, .aload_n 0, .getfield 19, .aload_n 0, .getfield 22, .iaload, .istore_n 2, .aload_n 0, .dup, .getfield 22, .iconst (1), .isub, .putfield 22, .aload_n 0, .getfield 22, .ifCond .le (8)]),
  (43, [.aload_n 0, .iload_n 2, .invokevirtual 32]),
  (48, [.iload_n 1, .ireturn])]
def kd_65 : List (Nat × List Jvm.ClassFile.Instr) := [(0, [.aload_n 0, .getfield 15, .iload_n 1, .iaload, .istore_n 2, .iconst (0), .istore_n 3]),
  (9, [.iload_n 3, .bipush (32), .if_icmp .ge (64)]),
  (15, [.iload_n 2, .iconst (1), .if_icmp .le (59)]),
  (20, [.aload_n 0, .getfield 19, .iload_n 2, .iconst (2), .idiv, .iaload, .istore 4, .aload_n 0, .getfield 11, .iload 4, .laload, .aload_n 0, .getfield 11, .iload_n 1, .laload, .lcmp, .ifCond .gt (6)]),
  (47, [.goto (29)]),
  (50, [.aload_n 0, .getfield 19, .iload_n 2, .iload 4, .iastore, .aload_n 0, .getfield 15, .iload 4, .iload_n 2, .iastore, .iload_n 2, .iconst (2), .idiv, .istore_n 2, .iinc 3 (1), .goto (-64)]),
  (76, [.aload_n 0, .getfield 19, .iload_n 2, .iload_n 1, .iastore, .aload_n 0, .getfield 15, .iload_n 1, .iload_n 2, .iastore, .return_])]
def kd_66 : List (Nat × List Jvm.ClassFile.Instr) := [(0, [.iconst (1), .istore_n 2, .iconst (0), .istore_n 3]),
  (4, [.iload_n 3, .bipush (32), .if_icmp .ge (114)]),
  (10, [.iconst (2), .iload_n 2, .imul, .aload_n 0, .getfield 22, .if_icmp .gt (104)]),
  (20, [.iconst (2), .iload_n 2, .imul, .istore 4, .iload 4, .aload_n 0, .getfield 22, .if_icmp .ge (36)]),
  (34, [.aload_n 0, .getfield 11, .aload_n 0, .getfield 19, .iload 4, .iconst (1), .iadd, .iaload, .laload, .aload_n 0, .getfield 11, .aload_n 0, .getfield 19, .iload 4, .iaload, .laload, .lcmp, .ifCond .ge (6)]),
  (64, [.iinc 4 (1)]),
  (67, [.aload_n 0, .getfield 19, .iload 4, .iaload, .istore 5, .aload_n 0, .getfield 11, .iload_n 1, .laload, .aload_n 0, .getfield 11, .iload 5, .laload, .lcmp, .ifCond .gt (6)]),
  (93, [.goto (28)]),
  (96, [.aload_n 0, .getfield 19, .iload_n 2, .iload 5, .iastore, .aload_n 0, .getfield 15, .iload 5, .iload_n 2, .iastore, .iload 4, .istore_n 2, .iinc 3 (1), .goto (-114)]),
  (121, [.aload_n 0, .getfield 19, .iload_n 2, .iload_n 1, .iastore, .aload_n 0, .getfield 15, .iload_n 1, .iload_n 2, .iastore, .return_])]
def kd_67 : List (Nat × List Jvm.ClassFile.Instr) := [(0, [.lload_n 0, .lload 6, .lmul, .lload_n 2, .lload 4, .lmul, .lsub, .lstore 8, .lload_n 0, .lload 4, .lmul, .lload_n 2, .lload 6, .lmul, .ladd, .lstore 10, .ldc2_w 7, .lload 8, .invokestatic 9, .lmul, .lstore 12, .lload 12, .lload 10, .lcmp, .ifCond .gt (5)]),
  (41, [.iconst (0), .ireturn]),
  (43, [.lload 12, .lload 10, .lneg, .lcmp, .ifCond .gt (5)]),
  (52, [.iconst (3), .ireturn]),
  (54, [.lload 8, .lconst 0, .lcmp, .ifCond .le (7)]),
  (61, [.iconst (2), .goto (4)]),
  (65, [.iconst (1)]),
  (66, [.ireturn])]
def kd_68 : List (Nat × List Jvm.ClassFile.Instr) := [(0, [.lload_n 0, .lconst 0, .lcmp, .ifCond .le (21)]),
  (6, [.lload_n 2, .lconst 0, .lcmp, .ifCond .lt (15)]),
  (12, [.lload_n 2, .lload_n 0, .lcmp, .ifCond .ge (7)]),
  (18, [.iconst (0), .goto (4)]),
  (22, [.iconst (1)]),
  (23, [.ireturn]),
  (24, [.lload_n 0, .lconst 0, .lcmp, .ifCond .gt (22)]),
  (30, [.lload_n 2, .lconst 0, .lcmp, .ifCond .le (16)]),
  (36, [.lload_n 0, .lneg, .lload_n 2, .lcmp, .ifCond .ge (7)]),
  (43, [.iconst (2), .goto (4)]),
  (47, [.iconst (3)]),
  (48, [.ireturn]),
  (49, [.lload_n 0, .lconst 0, .lcmp, .ifCond .ge (17)]),
  (55, [.lload_n 2, .lneg, .lload_n 0, .lneg, .lcmp, .ifCond .ge (7)]),
  (63, [.iconst (4), .goto (4)]),
  (67, [.iconst (5)]),
  (68, [.ireturn]),
  (69, [.lload_n 2, .lconst 0, .lcmp, .ifCond .ge (18)]),
  (75, [.lload_n 0, .lload_n 2, .lneg, .lcmp, .ifCond .ge (8)]),
  (82, [.bipush (6), .goto (5)]),
  (87, [.bipush (7)]),
  (89, [.ireturn]),
  (90, [.iconst (-1), .ireturn])]
def kd_69 : List (Nat × List Jvm.ClassFile.Instr) := [(0, [.lload_n 0, .lload 4, .lmul, .lload_n 2, .lload 6, .lmul, .ladd, .lstore 8, .lload 4, .lload 4, .lmul, .lload 6, .lload 6, .lmul, .ladd, .lstore 10, .lload 8, .lconst 0, .lcmp, .ifCond .le (10)]),
  (31, [.lload 10, .lconst 0, .lcmp, .ifCond .gt (11)]),
  (38, [.lload_n 0, .lload_n 0, .lmul, .lload_n 2, .lload_n 2, .lmul, .ladd, .lreturn]),
  (46, [.lload 8, .lload 10, .lcmp, .ifCond .lt (23)]),
  (54, [.lload_n 0, .lload 4, .lsub, .lload_n 0, .lload 4, .lsub, .lmul, .lload_n 2, .lload 6, .lsub, .lload_n 2, .lload 6, .lsub, .lmul, .ladd, .lreturn]),
  (74, [.lload_n 0, .lload 6, .lmul, .lload_n 2, .lload 4, .lmul, .lsub, .lstore 12, .lload 12, .lload 12, .lmul, .lload 10, .ldiv, .lreturn])]
def kd_70 : List (Nat × List Jvm.ClassFile.Instr) := [(0, [.aload_n 0, .invokespecial 3, .aload_n 0, .iconst (0), .putfield 9, .aload_n 0, .iconst (0), .putfield 13, .return_])]
def kd_71 : List (Nat × List Jvm.ClassFile.Instr) := [(0, [.aload_n 0, .getfield 13, .ifCond .eq (21)]),
  (7, [.aload_n 0, .getfield 13, .sipush (255), .if_icmp .ne (25)]),
  (17, [.iload_n 1, .aload_n 0, .getfield 9, .if_icmp .le (17)]),
  (25, [.aload_n 0, .iload_n 1, .putfield 9, .aload_n 0, .iconst (1), .iload_n 2, .ishl, .putfield 13, .iconst (1), .ireturn]),
  (39, [.iload_n 1, .aload_n 0, .getfield 9, .if_icmp .ne (14)]),
  (47, [.aload_n 0, .getfield 13, .iload_n 2, .ishr, .iconst (1), .iand, .ifCond .eq (5)]),
  (58, [.iconst (0), .ireturn]),
  (60, [.aload_n 0, .dup, .getfield 13, .iconst (1), .iload_n 2, .ishl, .ior, .putfield 13, .iconst (1), .ireturn])]
def kd_72 : List (Nat × List Jvm.ClassFile.Instr) := [(0, [.aload_n 0, .invokespecial 1, .aload_n 0, .iconst (3), .newarray .int, .putfield 9, .aload_n 0, .iconst (0), .putfield 13, .return_])]
def kd_73 : List (Nat × List Jvm.ClassFile.Instr) := [(0, [.iload_n 1, .bipush (97), .if_icmp .lt (13)]),
  (6, [.iload_n 1, .bipush (122), .if_icmp .gt (7)]),
  (12, [.iconst (1), .goto (4)]),
  (16, [.iconst (0)]),
  (17, [.ireturn])]
def kd_74 : List (Nat × List Jvm.ClassFile.Instr) := [(0, [.aload_n 0, .getfield 13, .iconst (3), .if_icmp .lt (7)]),
  (8, [.iconst (1), .goto (4)]),
  (12, [.iconst (0)]),
  (13, [.ireturn])]
def kd_75 : List (Nat × List Jvm.ClassFile.Instr) := [(0, [.aload_n 0, .iconst (0), .putfield 13, .return_])]
def kd_76 : List (Nat × List Jvm.ClassFile.Instr) := [(0, [.aload_n 0, .getfield 13, .iconst (3), .if_icmp .ge (26)]),
  (8, [.aload_n 0, .getfield 9, .aload_n 0, .getfield 13, .iload_n 1, .bipush (97), .isub, .iastore, .aload_n 0, .dup, .getfield 13, .iconst (1), .iadd, .putfield 13]),
  (31, [.return_])]
def kd_77 : List (Nat × List Jvm.ClassFile.Instr) := [(0, [.iconst (0), .istore_n 2, .iconst (1), .istore_n 3]),
  (4, [.iload_n 3, .iload_n 1, .if_icmp .gt (20)]),
  (9, [.aload_n 0, .iload_n 3, .invokevirtual 17, .ifCond .eq (6)]),
  (17, [.iinc 2 (1)]),
  (20, [.iinc 3 (1), .goto (-19)]),
  (26, [.iload_n 2, .ireturn])]
def kd_78 : List (Nat × List Jvm.ClassFile.Instr) := [(0, [.iconst (0), .istore_n 2]),
  (2, [.iload_n 2, .aload_n 0, .getfield 13, .if_icmp .ge (25)]),
  (10, [.aload_n 0, .getfield 9, .iload_n 2, .iaload, .iload_n 1, .iload_n 2, .invokestatic 21, .if_icmp .eq (5)]),
  (24, [.iconst (0), .ireturn]),
  (26, [.iinc 2 (1), .goto (-27)]),
  (32, [.iconst (1), .ireturn])]
def kd_79 : List (Nat × List Jvm.ClassFile.Instr) := [(0, [.iload_n 1, .lookupswitch (41) #[((0), (27)), ((1), (33))]]),
  (28, [.iload_n 0, .sipush (676), .idiv, .ireturn]),
  (34, [.iload_n 0, .bipush (26), .idiv, .bipush (26), .irem, .ireturn]),
  (42, [.iload_n 0, .bipush (26), .irem, .ireturn])]
def kd_80 : List (Nat × List Jvm.ClassFile.Instr) := [(0, [.aload_n 0, .invokespecial 3, .aload_n 0, .bipush (61), .newarray .long, .putfield 9, .aload_n 0, .bipush (61), .newarray .long, .putfield 15, .aload_n 0, .bipush (61), .newarray .long, .putfield 18, .aload_n 0, .iconst (0), .putfield 21, .return_])]
def kd_81 : List (Nat × List Jvm.ClassFile.Instr) := [(0, [.aload_n 0, .getfield 21, .ireturn])]
def kd_82 : List (Nat × List Jvm.ClassFile.Instr) := [(0, [.iload_n 1, .iconst (1), .if_icmp .lt (15)]),
  (5, [.iload_n 1, .aload_n 0, .getfield 21, .if_icmp .gt (7)]),
  (13, [.iconst (1), .goto (4)]),
  (17, [.iconst (0)]),
  (18, [.ireturn])]
def kd_83 : List (Nat × List Jvm.ClassFile.Instr) := [(0, [.aload_n 0, .getfield 21, .bipush (60), .if_icmp .lt (7)]),
  (9, [.iconst (1), .goto (4)]),
  (13, [.iconst (0)]),
  (14, [.ireturn])]
def kd_84 : List (Nat × List Jvm.ClassFile.Instr) := [(0, [.aload_n 0, .dup, .getfield 21, .iconst (1), .iadd, .putfield 21, .aload_n 0, .getfield 9, .aload_n 0, .getfield 21, .lload_n 1, .lastore, .aload_n 0, .getfield 15, .aload_n 0, .getfield 21, .lload_n 3, .lastore, .aload_n 0, .getfield 21, .ireturn])]
def kd_85 : List (Nat × List Jvm.ClassFile.Instr) := [(0, [.aload_n 0, .getfield 9, .iload_n 1, .laload, .lreturn])]
def kd_86 : List (Nat × List Jvm.ClassFile.Instr) := [(0, [.aload_n 0, .getfield 15, .iload_n 1, .laload, .lreturn])]
def kd_87 : List (Nat × List Jvm.ClassFile.Instr) := [(0, [.aload_n 0, .getfield 9, .iload_n 1, .laload, .aload_n 0, .getfield 9, .iload_n 2, .laload, .lsub, .lstore_n 3, .aload_n 0, .getfield 15, .iload_n 1, .laload, .aload_n 0, .getfield 15, .iload_n 2, .laload, .lsub, .lstore 5, .lload_n 3, .lload_n 3, .lmul, .lload 5, .lload 5, .lmul, .ladd, .lreturn])]
def kd_88 : List (Nat × List Jvm.ClassFile.Instr) := [(0, [.aload_n 0, .getfield 18, .iload_n 1, .lload_n 2, .lastore, .return_])]
def kd_89 : List (Nat × List Jvm.ClassFile.Instr) := [(0, [.aload_n 0, .getfield 18, .iload_n 1, .laload, .lconst 0, .lcmp, .ifCond .le (7)]),
  (11, [.iconst (1), .goto (4)]),
  (15, [.iconst (0)]),
  (16, [.ireturn])]
def kd_90 : List (Nat × List Jvm.ClassFile.Instr) := [(0, [.aload_n 0, .getfield 18, .iload_n 1, .laload, .lstore_n 2, .lload_n 2, .lconst 0, .lcmp, .ifCond .le (15)]),
  (13, [.lconst 1, .ldc2_w 25, .lload_n 2, .ldiv, .invokestatic 27, .goto (4)]),
  (25, [.lconst 0]),
  (26, [.lreturn])]
def kd_91 : List (Nat × List Jvm.ClassFile.Instr) := [(0, [.iconst (0), .istore_n 1, .iconst (1), .istore_n 2]),
  (4, [.iload_n 2, .aload_n 0, .getfield 21, .if_icmp .gt (20)]),
  (12, [.aload_n 0, .iload_n 2, .invokevirtual 33, .ifCond .eq (6)]),
  (20, [.iinc 1 (1)]),
  (23, [.iinc 2 (1), .goto (-22)]),
  (29, [.iload_n 1, .ireturn])]
def kd_92 : List (Nat × List Jvm.ClassFile.Instr) := [(0, [.aload_n 0, .invokespecial 3, .aload_n 0, .bipush (121), .newarray .int, .putfield 9, .aload_n 0, .bipush (121), .newarray .int, .putfield 15, .aload_n 0, .bipush (121), .newarray .long, .putfield 18, .aload_n 0, .bipush (121), .newarray .long, .putfield 22, .aload_n 0, .bipush (121), .newarray .int, .putfield 25, .aload_n 0, .bipush (121), .newarray .long, .putfield 28, .aload_n 0, .bipush (121), .newarray .long, .putfield 31, .aload_n 0, .sipush (242), .newarray .long, .putfield 34, .aload_n 0, .iconst (0), .putfield 37, .return_])]
def kd_93 : List (Nat × List Jvm.ClassFile.Instr) := [(0, [.aload_n 0, .getfield 37, .ireturn])]
def kd_94 : List (Nat × List Jvm.ClassFile.Instr) := [(0, [.iload_n 1, .iconst (1), .if_icmp .lt (15)]),
  (5, [.iload_n 1, .aload_n 0, .getfield 37, .if_icmp .gt (7)]),
  (13, [.iconst (1), .goto (4)]),
  (17, [.iconst (0)]),
  (18, [.ireturn])]
def kd_95 : List (Nat × List Jvm.ClassFile.Instr) := [(0, [.aload_n 0, .getfield 37, .bipush (120), .if_icmp .lt (7)]),
  (9, [.iconst (1), .goto (4)]),
  (13, [.iconst (0)]),
  (14, [.ireturn])]
def kd_96 : List (Nat × List Jvm.ClassFile.Instr) := [(0, [.aload_n 0, .dup, .getfield 37, .iconst (1), .iadd, .putfield 37, .aload_n 0, .getfield 9, .aload_n 0, .getfield 37, .iload_n 1, .iastore, .aload_n 0, .getfield 15, .aload_n 0, .getfield 37, .iload_n 2, .iastore, .aload_n 0, .getfield 18, .aload_n 0, .getfield 37, .lload_n 3, .lastore, .aload_n 0, .getfield 22, .aload_n 0, .getfield 37, .lload 5, .lastore, .aload_n 0, .getfield 25, .aload_n 0, .getfield 37, .iload 7, .iastore, .aload_n 0, .getfield 37, .ireturn])]
def kd_97 : List (Nat × List Jvm.ClassFile.Instr) := [(0, [.aload_n 0, .getfield 15, .iconst (0), .iload_n 1, .iastore, .return_])]
def kd_98 : List (Nat × List Jvm.ClassFile.Instr) := [(0, [.aload_n 0, .getfield 9, .iload_n 1, .iaload, .ireturn])]
def kd_99 : List (Nat × List Jvm.ClassFile.Instr) := [(0, [.aload_n 0, .getfield 15, .iload_n 1, .iaload, .ireturn])]
def kd_100 : List (Nat × List Jvm.ClassFile.Instr) := [(0, [.aload_n 0, .getfield 18, .iload_n 1, .laload, .lreturn])]
def kd_101 : List (Nat × List Jvm.ClassFile.Instr) := [(0, [.lconst 1, .aload_n 0, .getfield 18, .iload_n 1, .laload, .lconst 1, .aload_n 0, .getfield 25, .iload_n 1, .iaload, .i2l, .ladd, .lmul, .ldc2_w 41, .ldiv, .ladd, .l2i, .ireturn])]
def kd_102 : List (Nat × List Jvm.ClassFile.Instr) := [(0, [.aload_n 0, .getfield 34, .iload_n 1, .iconst (2), .imul, .iload_n 2, .bipush (64), .idiv, .iadd, .laload, .iload_n 2, .bipush (64), .irem, .lushr, .lconst 1, .land, .lconst 0, .lcmp, .ifCond .eq (7)]),
  (25, [.iconst (1), .goto (4)]),
  (29, [.iconst (0)]),
  (30, [.ireturn])]
def kd_103 : List (Nat × List Jvm.ClassFile.Instr) := [(0, [.aload_n 0, .getfield 34, .iload_n 1, .iconst (2), .imul, .iload_n 2, .bipush (64), .idiv, .iadd, .dup2, .laload, .lconst 1, .iload_n 2, .bipush (64), .irem, .lshl, .lxor, .lastore, .return_])]
def kd_104 : List (Nat × List Jvm.ClassFile.Instr) := [(0, [.aload_n 0, .getfield 28, .iload_n 1, .lload_n 2, .lastore, .aload_n 0, .getfield 31, .iload_n 1, .lload 4, .lastore, .return_])]
def kd_105 : List (Nat × List Jvm.ClassFile.Instr) := [(0, [.iconst (0), .istore_n 3, .iconst (1), .istore 4]),
  (5, [.iload 4, .aload_n 0, .getfield 37, .if_icmp .gt (24)]),
  (14, [.lload_n 1, .aload_n 0, .getfield 31, .iload 4, .laload, .lcmp, .ifCond .gt (6)]),
  (26, [.iinc 3 (1)]),
  (29, [.iinc 4 (1), .goto (-27)]),
  (35, [.iload_n 3, .ireturn])]
def kd_106 : List (Nat × List Jvm.ClassFile.Instr) := [(0, [.lload_n 2, .aload_n 0, .getfield 31, .iload_n 1, .laload, .lcmp, .ifCond .gt (12)]),
  (11, [.aload_n 0, .getfield 28, .iload_n 1, .laload, .goto (9)]),
  (20, [.aload_n 0, .getfield 22, .iload_n 1, .laload]),
  (26, [.lstore 4, .lload 4, .lconst 0, .lcmp, .ifCond .le (19)]),
  (35, [.ldc2_w 43, .aload_n 0, .getfield 18, .iload_n 1, .laload, .lmul, .lload 4, .ldiv, .goto (6)]),
  (51, [.ldc2_w 45]),
  (54, [.lreturn])]
def kd_107 : List (Nat × List Jvm.ClassFile.Instr) := [(0, [.aload_n 0, .invokespecial 3, .aload_n 0, .sipush (2400), .newarray .int, .putfield 9, .aload_n 0, .iconst (0), .putfield 15, .aload_n 0, .lconst 0, .putfield 19, .aload_n 0, .iconst (0), .putfield 23, .return_])]
def kd_108 : List (Nat × List Jvm.ClassFile.Instr) := [(0, [.aload_n 0, .getfield 23, .ireturn])]
def kd_109 : List (Nat × List Jvm.ClassFile.Instr) := [(0, [.aload_n 0, .getfield 15, .ireturn])]
def kd_110 : List (Nat × List Jvm.ClassFile.Instr) := [(0, [.aload_n 0, .getfield 19, .lreturn])]
def kd_111 : List (Nat × List Jvm.ClassFile.Instr) := [(0, [.iload_n 1, .ifCond .lt (23)]),
  (4, [.iload_n 1, .aload_n 0, .getfield 15, .if_icmp .ge (15)]),
  (12, [.aload_n 0, .getfield 9, .iload_n 1, .iaload, .invokestatic 27, .goto (4)]),
  (24, [.iconst (0)]),
  (25, [.ireturn])]
def kd_112 : List (Nat × List Jvm.ClassFile.Instr) := [(0, [.aload_n 0, .iconst (0), .putfield 23, .aload_n 0, .iconst (0), .putfield 15, .aload_n 0, .lconst 0, .putfield 19, .return_])]
def kd_113 : List (Nat × List Jvm.ClassFile.Instr) := [(0, [.aload_n 0, .getfield 15, .sipush (2400), .if_icmp .ge (23)]),
  (10, [.aload_n 0, .getfield 9, .aload_n 0, .getfield 15, .iload_n 1, .iastore, .aload_n 0, .dup, .getfield 15, .iconst (1), .iadd, .putfield 15]),
  (30, [.return_])]
def kd_114 : List (Nat × List Jvm.ClassFile.Instr) := [(0, [.aload_n 0, .iconst (1), .putfield 23, .aload_n 0, .lload_n 1, .putfield 19, .return_])]
def kd_115 : List (Nat × List Jvm.ClassFile.Instr) := [(0, [.iload_n 1, .ifCond .lt (20)]),
  (4, [.iload_n 1, .aload_n 0, .getfield 15, .if_icmp .ge (12)]),
  (12, [.aload_n 0, .getfield 9, .iload_n 1, .iaload, .ifCond .ge (5)]),
  (21, [.iconst (0), .ireturn]),
  (23, [.aload_n 0, .getfield 9, .iload_n 1, .aload_n 0, .getfield 9, .iload_n 1, .iaload, .ineg, .iastore, .iconst (1), .ireturn])]
def kd_116 : List (Nat × List Jvm.ClassFile.Instr) := [(0, [.aload_n 0, .getfield 15, .aload_n 1, .getfield 15, .if_icmp .eq (5)]),
  (11, [.iconst (0), .ireturn]),
  (13, [.iconst (0), .istore_n 2]),
  (15, [.iload_n 2, .aload_n 0, .getfield 15, .if_icmp .ge (24)]),
  (23, [.aload_n 0, .iload_n 2, .invokevirtual 33, .aload_n 1, .iload_n 2, .invokevirtual 33, .if_icmp .eq (5)]),
  (36, [.iconst (0), .ireturn]),
  (38, [.iinc 2 (1), .goto (-26)]),
  (44, [.iconst (1), .ireturn])]
def kd_117 : List (Nat × List Jvm.ClassFile.Instr) := [(0, [.aload_n 0, .invokespecial 3, .aload_n 0, .new 9, .dup, .invokespecial 11, .putfield 12, .aload_n 0, .bipush (121), .newarray .long, .putfield 18, .aload_n 0, .bipush (121), .newarray .int, .putfield 22, .aload_n 0, .bipush (61), .newarray .long, .putfield 26, .aload_n 0, .bipush (121), .newarray .int, .putfield 29, .aload_n 0, .bipush (21), .newarray .long, .putfield 32, .aload_n 0, .iconst (0), .putfield 35, .aload_n 0, .iconst (0), .putfield 39, .aload_n 0, .iconst (0), .putfield 42, .aload_n 0, .iconst (0), .putfield 45, .aload_n 0, .aload_n 1, .putfield 48, .aload_n 0, .aload_n 2, .putfield 52, .return_])]
def kd_118 : List (Nat × List Jvm.ClassFile.Instr) := [(0, [.aload_n 0, .iload_n 1, .putfield 35, .aload_n 0, .iload_n 2, .putfield 39, .aload_n 0, .iload_n 3, .putfield 42, .aload_n 0, .iload 4, .putfield 45, .aload_n 0, .getfield 52, .iload_n 1, .invokevirtual 56, .return_])]
def kd_119 : List (Nat × List Jvm.ClassFile.Instr) := [(0, [.iconst (1), .istore_n 3]),
  (2, [.iload_n 3, .aload_n 0, .getfield 48, .invokevirtual 62, .if_icmp .gt (39)]),
  (13, [.aload_n 0, .getfield 26, .iload_n 3, .aload_n 0, .getfield 42, .iconst (2), .if_icmp .ne (18)]),
  (26, [.aload_n 0, .getfield 48, .iload_n 3, .invokevirtual 68, .ldc2_w 72, .lmul, .goto (4)]),
  (41, [.lconst 0]),
  (42, [.lastore, .iinc 3 (1), .goto (-44)]),
  (49, [.iconst (1), .istore_n 3]),
  (51, [.iload_n 3, .aload_n 0, .getfield 52, .invokevirtual 74, .if_icmp .gt (98)]),
  (62, [.aload_n 0, .getfield 52, .iload_n 3, .lload_n 1, .invokevirtual 75, .lstore 4, .aload_n 0, .getfield 42, .iconst (1), .if_icmp .ne (14)]),
  (81, [.aload_n 0, .getfield 52, .iload_n 3, .invokevirtual 79, .goto (5)]),
  (92, [.lload 4]),
  (94, [.lstore 6, .aload_n 0, .getfield 18, .iload_n 3, .lload 4, .ldc2_w 82, .lcmp, .ifCond .ne (9)]),
  (110, [.ldc2_w 82, .goto (11)]),
  (116, [.lload 6, .ldc2_w 72, .lmul, .lconst 1, .ladd]),
  (124, [.lastore, .aload_n 0, .getfield 22, .iload_n 3, .aload_n 0, .getfield 42, .iconst (2), .if_icmp .ne (14)]),
  (138, [.aload_n 0, .getfield 52, .iload_n 3, .invokevirtual 84, .goto (4)]),
  (149, [.iconst (0)]),
  (150, [.iastore, .iinc 3 (1), .goto (-103)]),
  (157, [.return_])]
def kd_120 : List (Nat × List Jvm.ClassFile.Instr) := [(0, [.aload_n 1, .invokevirtual 88, .aload_n 0, .getfield 35, .aload_n 0, .getfield 39, .if_icmp .ne (10)]),
  (15, [.aload_n 1, .lconst 0, .invokevirtual 93, .iconst (1), .ireturn]),
  (22, [.aload_n 0, .invokevirtual 97, .aload_n 0, .getfield 12, .aload_n 0, .invokevirtual 100, .invokevirtual 103, .lstore_n 2, .lload_n 2, .ldc2_w 106, .lcmp, .ifCond .lt (5)]),
  (46, [.iconst (0), .ireturn]),
  (48, [.aload_n 0, .aload_n 1, .lload_n 2, .invokevirtual 108, .aload_n 1, .lload_n 2, .ldc2_w 72, .ldiv, .invokevirtual 93, .iconst (1), .ireturn])]
def kd_121 : List (Nat × List Jvm.ClassFile.Instr) := [(0, [.aload_n 0, .invokevirtual 112, .iconst (0), .istore_n 2, .iconst (0), .istore_n 3]),
  (8, [.iload_n 3, .aload_n 1, .invokevirtual 115, .if_icmp .ge (51)]),
  (16, [.aload_n 1, .iload_n 3, .invokevirtual 118, .istore 4, .aload_n 0, .iload_n 2, .iload 4, .invokevirtual 121, .ifCond .ne (7)]),
  (33, [.ldc2_w 82, .lreturn]),
  (37, [.aload_n 0, .aload_n 0, .getfield 52, .iload_n 2, .invokevirtual 125, .invokevirtual 128, .aload_n 0, .iload 4, .invokevirtual 131, .iload 4, .istore_n 2, .iinc 3 (1), .goto (-53)]),
  (64, [.aload_n 0, .invokevirtual 134, .lstore_n 3, .lload_n 3, .ldc2_w 106, .lcmp, .ifCond .lt (9)]),
  (77, [.ldc2_w 82, .goto (8)]),
  (83, [.lload_n 3, .ldc2_w 72, .ldiv]),
  (88, [.lreturn])]
def kd_122 : List (Nat × List Jvm.ClassFile.Instr) := [(0, [.aload_n 0, .getfield 42, .iconst (2), .if_icmp .eq (5)]),
  (8, [.iconst (0), .ireturn]),
  (10, [.aload_n 0, .invokevirtual 138, .iconst (0), .istore_n 1, .lconst 0, .lstore_n 2, .iconst (1), .istore 4]),
  (21, [.iload 4, .aload_n 0, .getfield 48, .invokevirtual 62, .if_icmp .gt (62)]),
  (33, [.aload_n 0, .getfield 48, .iload 4, .invokevirtual 141, .ifCond .eq (44)]),
  (45, [.aload_n 0, .iload 4, .invokevirtual 145, .ifCond .eq (35)]),
  (54, [.aload_n 0, .getfield 48, .iload 4, .aload_n 0, .getfield 39, .invokevirtual 148, .lstore 5, .iload_n 1, .ifCond .eq (10)]),
  (73, [.lload 5, .lload_n 2, .lcmp, .ifCond .ge (9)]),
  (80, [.iload 4, .istore_n 1, .lload 5, .lstore_n 2]),
  (86, [.iinc 4 (1), .goto (-68)]),
  (92, [.iload_n 1, .ireturn])]
def kd_123 : List (Nat × List Jvm.ClassFile.Instr) := [(0, [.aload_n 0, .getfield 42, .iconst (2), .if_icmp .ne (8)]),
  (8, [.bipush (21), .goto (4)]),
  (13, [.iconst (1)]),
  (14, [.ireturn])]
def kd_124 : List (Nat × List Jvm.ClassFile.Instr) := [(0, [.aload_n 0, .getfield 45, .ireturn])]
def kd_125 : List (Nat × List Jvm.ClassFile.Instr) := [(0, [.aload_n 0, .getfield 18, .iload_n 2, .laload, .ldc2_w 82, .lcmp, .ifCond .eq (38)]),
  (13, [.aload_n 0, .getfield 52, .iload_n 2, .invokevirtual 152, .aload_n 0, .getfield 52, .iload_n 1, .invokevirtual 125, .if_icmp .ne (19)]),
  (32, [.aload_n 0, .getfield 52, .iload_n 1, .iload_n 2, .invokevirtual 155, .ifCond .ne (7)]),
  (44, [.iconst (1), .goto (4)]),
  (48, [.iconst (0)]),
  (49, [.ireturn])]
def kd_126 : List (Nat × List Jvm.ClassFile.Instr) := [(0, [.aload_n 0, .invokevirtual 158, .istore_n 1, .aload_n 0, .getfield 52, .invokevirtual 74, .iconst (1), .iadd, .iload_n 1, .imul, .istore_n 2, .aload_n 0, .getfield 12, .iload_n 2, .invokevirtual 161, .iconst (1), .istore_n 3]),
  (27, [.iload_n 3, .aload_n 0, .getfield 52, .invokevirtual 74, .if_icmp .gt (53)]),
  (38, [.iconst (0), .istore 4]),
  (41, [.iload 4, .iload_n 1, .if_icmp .ge (38)]),
  (47, [.aload_n 0, .getfield 52, .iload_n 3, .invokevirtual 125, .aload_n 0, .getfield 39, .if_icmp .ne (23)]),
  (62, [.aload_n 0, .getfield 12, .iload_n 3, .iload_n 1, .imul, .iload 4, .iadd, .lconst 0, .invokevirtual 164, .iinc 4 (1), .goto (-38)]),
  (82, [.iinc 3 (1), .goto (-58)]),
  (88, [.iconst (0), .istore_n 3]),
  (90, [.iload_n 3, .iload_n 2, .if_icmp .ge (54)]),
  (95, [.aload_n 0, .getfield 12, .invokevirtual 168, .istore 4, .iload 4, .ifCond .lt (12)]),
  (109, [.iload 4, .aload_n 0, .invokevirtual 100, .if_icmp .ne (4)]),
  (118, [.return_]),
  (119, [.aload_n 0, .iload 4, .iload_n 1, .idiv, .iload 4, .iload_n 1, .irem, .aload_n 0, .getfield 12, .iload 4, .invokevirtual 103, .invokevirtual 171, .iinc 3 (1), .goto (-53)]),
  (146, [.return_])]
def kd_127 : List (Nat × List Jvm.ClassFile.Instr) := [(0, [.aload_n 0, .invokevirtual 158, .istore 5, .aload_n 0, .getfield 26, .aload_n 0, .getfield 52, .iload_n 1, .invokevirtual 125, .laload, .lstore 6, .iload_n 2, .ifCond .le (29)]),
  (25, [.lload 6, .lconst 0, .lcmp, .ifCond .le (22)]),
  (32, [.aload_n 0, .getfield 12, .iload_n 1, .iload 5, .imul, .iload_n 2, .iadd, .iconst (1), .isub, .lload_n 3, .lload 6, .ladd, .invokevirtual 164]),
  (51, [.iload_n 2, .aload_n 0, .getfield 22, .iload_n 1, .iaload, .iadd, .istore 8, .iload_n 1, .ifCond .eq (10)]),
  (65, [.iload 8, .iload 5, .if_icmp .lt (4)]),
  (72, [.return_]),
  (73, [.iconst (0), .istore 9]),
  (76, [.iload 9, .aload_n 0, .getfield 52, .invokevirtual 74, .if_icmp .gt (42)]),
  (88, [.aload_n 0, .iload 9, .iload_n 1, .invokevirtual 121, .ifCond .eq (26)]),
  (98, [.aload_n 0, .getfield 12, .iload 9, .iload 5, .imul, .iload 8, .iadd, .lload_n 3, .aload_n 0, .getfield 18, .iload_n 1, .laload, .ladd, .invokevirtual 164]),
  (121, [.iinc 9 (1), .goto (-48)]),
  (127, [.return_])]
def kd_128 : List (Nat × List Jvm.ClassFile.Instr) := [(0, [.aload_n 0, .invokevirtual 112, .iconst (0), .istore 4, .iconst (0), .istore 5]),
  (10, [.iload 5, .sipush (2400), .if_icmp .ge (69)]),
  (18, [.aload_n 0, .getfield 52, .iload 4, .invokevirtual 125, .aload_n 0, .getfield 39, .if_icmp .eq (53)]),
  (34, [.aload_n 0, .aload_n 0, .getfield 52, .iload 4, .invokevirtual 125, .invokevirtual 128, .aload_n 0, .iload 4, .lload_n 2, .invokevirtual 175, .istore 6, .iload 6, .ifCond .ne (4)]),
  (61, [.return_]),
  (62, [.aload_n 0, .iload 6, .invokevirtual 131, .aload_n 1, .iload 6, .invokevirtual 179, .iload 6, .istore 4, .iinc 5 (1), .goto (-71)]),
  (84, [.return_])]
def kd_129 : List (Nat × List Jvm.ClassFile.Instr) := [(0, [.iconst (1), .istore 4]),
  (3, [.iload 4, .aload_n 0, .getfield 52, .invokevirtual 74, .if_icmp .gt (32)]),
  (15, [.aload_n 0, .iload_n 1, .iload 4, .invokevirtual 121, .ifCond .eq (16)]),
  (25, [.aload_n 0, .iload 4, .lload_n 2, .invokevirtual 182, .ifCond .eq (6)]),
  (35, [.iload 4, .ireturn]),
  (38, [.iinc 4 (1), .goto (-38)]),
  (44, [.iconst (0), .ireturn])]
def kd_130 : List (Nat × List Jvm.ClassFile.Instr) := [(0, [.aload_n 0, .invokevirtual 158, .istore 4, .aload_n 0, .getfield 22, .iload_n 1, .iaload, .istore 5]),
  (14, [.iload 5, .iload 4, .if_icmp .ge (56)]),
  (21, [.aload_n 0, .getfield 12, .iload_n 1, .iload 4, .imul, .iload 5, .iadd, .aload_n 0, .getfield 22, .iload_n 1, .iaload, .isub, .invokevirtual 103, .lstore 6, .aload_n 0, .getfield 32, .iload 5, .laload, .aload_n 0, .getfield 18, .iload_n 1, .laload, .ladd, .lload 6, .ladd, .lload_n 2, .lcmp, .ifCond .ne (5)]),
  (66, [.iconst (1), .ireturn]),
  (68, [.iinc 5 (1), .goto (-57)]),
  (74, [.iconst (0), .ireturn])]
def kd_131 : List (Nat × List Jvm.ClassFile.Instr) := [(0, [.iconst (0), .istore_n 1]),
  (2, [.iload_n 1, .bipush (21), .if_icmp .ge (18)]),
  (8, [.aload_n 0, .getfield 32, .iload_n 1, .ldc2_w 106, .lastore, .iinc 1 (1), .goto (-18)]),
  (23, [.aload_n 0, .getfield 32, .aload_n 0, .getfield 45, .lconst 0, .lastore, .return_])]
def kd_132 : List (Nat × List Jvm.ClassFile.Instr) := [(0, [.aload_n 0, .getfield 26, .iload_n 1, .laload, .lstore_n 2, .lload_n 2, .lconst 0, .lcmp, .ifCond .ne (4)]),
  (13, [.return_]),
  (14, [.iconst (0), .istore 4]),
  (17, [.iload 4, .bipush (20), .if_icmp .ge (39)]),
  (24, [.aload_n 0, .getfield 32, .iload 4, .iconst (1), .iadd, .aload_n 0, .getfield 32, .iload 4, .iconst (1), .iadd, .laload, .aload_n 0, .getfield 32, .iload 4, .laload, .lload_n 2, .ladd, .invokestatic 186, .lastore, .iinc 4 (1), .goto (-40)]),
  (60, [.return_])]
def kd_133 : List (Nat × List Jvm.ClassFile.Instr) := [(0, [.iconst (0), .istore_n 2]),
  (2, [.iload_n 2, .bipush (21), .if_icmp .ge (62)]),
  (8, [.iload_n 2, .aload_n 0, .getfield 22, .iload_n 1, .iaload, .iadd, .istore_n 3, .aload_n 0, .getfield 32, .iload_n 2, .iload_n 3, .bipush (21), .if_icmp .ge (32)]),
  (28, [.aload_n 0, .getfield 32, .iload_n 3, .laload, .ldc2_w 106, .lcmp, .ifCond .ge (19)]),
  (41, [.aload_n 0, .getfield 32, .iload_n 3, .laload, .aload_n 0, .getfield 18, .iload_n 1, .laload, .ladd, .goto (6)]),
  (57, [.ldc2_w 106]),
  (60, [.lastore, .iinc 2 (1), .goto (-62)]),
  (67, [.return_])]
def kd_134 : List (Nat × List Jvm.ClassFile.Instr) := [(0, [.ldc2_w 106, .lstore_n 1, .iconst (0), .istore_n 3]),
  (6, [.iload_n 3, .bipush (21), .if_icmp .ge (20)]),
  (12, [.lload_n 1, .aload_n 0, .getfield 32, .iload_n 3, .laload, .invokestatic 186, .lstore_n 1, .iinc 3 (1), .goto (-20)]),
  (29, [.lload_n 1, .lreturn])]
def kd_135 : List (Nat × List Jvm.ClassFile.Instr) := [(0, [.aload_n 0, .getfield 29, .iconst (0), .aload_n 0, .aload_n 0, .getfield 35, .aload_n 0, .getfield 45, .invokevirtual 192, .iastore, .iconst (1), .istore_n 1]),
  (20, [.iload_n 1, .aload_n 0, .getfield 52, .invokevirtual 74, .if_icmp .gt (16)]),
  (31, [.aload_n 0, .getfield 29, .iload_n 1, .iconst (-1), .iastore, .iinc 1 (1), .goto (-21)]),
  (44, [.iconst (1), .istore_n 1, .iconst (0), .istore_n 2]),
  (48, [.iload_n 1, .ifCond .eq (56)]),
  (52, [.iload_n 2, .sipush (2400), .if_icmp .gt (49)]),
  (59, [.iconst (0), .istore_n 1, .iconst (0), .istore_n 3]),
  (63, [.iload_n 3, .aload_n 0, .getfield 52, .invokevirtual 74, .if_icmp .gt (28)]),
  (74, [.aload_n 0, .getfield 29, .iload_n 3, .iaload, .ifCond .lt (13)]),
  (83, [.aload_n 0, .iload_n 3, .invokevirtual 196, .ifCond .eq (5)]),
  (91, [.iconst (1), .istore_n 1]),
  (93, [.iinc 3 (1), .goto (-33)]),
  (99, [.iinc 2 (1), .goto (-54)]),
  (105, [.return_])]
def kd_136 : List (Nat × List Jvm.ClassFile.Instr) := [(0, [.iconst (0), .istore_n 2, .iconst (1), .istore_n 3]),
  (4, [.iload_n 3, .aload_n 0, .getfield 52, .invokevirtual 74, .if_icmp .gt (81)]),
  (15, [.aload_n 0, .iload_n 1, .iload_n 3, .invokevirtual 121, .ifCond .eq (66)]),
  (24, [.aload_n 0, .getfield 29, .iload_n 1, .iaload, .aload_n 0, .getfield 22, .iload_n 3, .iaload, .if_icmp .lt (51)]),
  (39, [.aload_n 0, .aload_n 0, .getfield 52, .iload_n 3, .invokevirtual 125, .aload_n 0, .getfield 29, .iload_n 1, .iaload, .aload_n 0, .getfield 22, .iload_n 3, .iaload, .isub, .invokevirtual 192, .istore 4, .iload 4, .aload_n 0, .getfield 29, .iload_n 3, .iaload, .if_icmp .le (13)]),
  (77, [.aload_n 0, .getfield 29, .iload_n 3, .iload 4, .iastore, .iconst (1), .istore_n 2]),
  (87, [.iinc 3 (1), .goto (-86)]),
  (93, [.iload_n 2, .ireturn])]
def kd_137 : List (Nat × List Jvm.ClassFile.Instr) := [(0, [.aload_n 0, .getfield 48, .iload_n 1, .invokevirtual 141, .ifCond .eq (8)]),
  (11, [.bipush (20), .goto (4)]),
  (16, [.iload_n 2]),
  (17, [.ireturn])]
def kd_138 : List (Nat × List Jvm.ClassFile.Instr) := [(0, [.iconst (0), .istore_n 2]),
  (2, [.iload_n 2, .aload_n 0, .getfield 52, .invokevirtual 74, .if_icmp .gt (32)]),
  (13, [.aload_n 0, .getfield 29, .iload_n 2, .iaload, .ifCond .lt (17)]),
  (22, [.aload_n 0, .getfield 52, .iload_n 2, .invokevirtual 125, .iload_n 1, .if_icmp .ne (5)]),
  (34, [.iconst (1), .ireturn]),
  (36, [.iinc 2 (1), .goto (-37)]),
  (42, [.iconst (0), .ireturn])]
def kd_139 : List (Nat × List Jvm.ClassFile.Instr) := [(0, [.aload 8, .iconst (0), .aload_n 0, .iload_n 1, .iload_n 2, .lload_n 3, .lload 5, .iload 7, .invokevirtual 7, .i2l, .lastore, .goto (7)]),
  (19, [.astore 9, .iconst (1), .ireturn]),
  (23, [.iconst (0), .ireturn])]
def kd_140 : List (Nat × List Jvm.ClassFile.Instr) := [(0, [.new 8, .dup, .invokespecial 15, .astore_n 1, .new 16, .dup, .invokespecial 18, .astore_n 2, .iconst (1), .newarray .long, .astore_n 3, .iconst (0), .istore 4]),
  (23, [.iload 4, .aload_n 0, .arraylength, .bipush (8), .isub, .if_icmp .gt (1022)]),
  (33, [.aload_n 0, .iload 4, .iaload, .bipush (15), .iand, .tableswitch (1006) (0) (13) #[(72), (173), (345), (410), (479), (572), (597), (611), (724), (837), (894), (931), (956), (969)]]),
  (112, [.aload_n 1, .aload_n 0, .iload 4, .iconst (1), .iadd, .iaload, .i2l, .bipush (32), .lshl, .aload_n 0, .iload 4, .iconst (2), .iadd, .iaload, .i2l, .ldc2_w 19, .land, .lor, .aload_n 0, .iload 4, .iconst (3), .iadd, .iaload, .i2l, .bipush (32), .lshl, .aload_n 0, .iload 4, .iconst (4), .iadd, .iaload, .i2l, .ldc2_w 19, .land, .lor, .invokevirtual 21, .aload_n 2, .aload_n 0, .iload 4, .iconst (1), .iadd, .iaload, .i2l, .bipush (32), .lshl, .aload_n 0, .iload 4, .iconst (2), .iadd, .iaload, .i2l, .ldc2_w 19, .land, .lor, .aload_n 0, .iload 4, .iconst (3), .iadd, .iaload, .i2l, .bipush (32), .lshl, .aload_n 0, .iload 4, .iconst (4), .iadd, .iaload, .i2l, .ldc2_w 19, .land, .lor, .invokevirtual 25, .if_icmp .eq (838)]),
  (211, [.iconst (0), .ireturn]),
  (213, [.aload_n 1, .aload_n 0, .iload 4, .iconst (1), .iadd, .iaload, .aload_n 0, .iload 4, .iconst (2), .iadd, .iaload, .aload_n 0, .iload 4, .iconst (3), .iadd, .iaload, .i2l, .bipush (32), .lshl, .aload_n 0, .iload 4, .iconst (4), .iadd, .iaload, .i2l, .ldc2_w 19, .land, .lor, .aload_n 0, .iload 4, .iconst (5), .iadd, .iaload, .i2l, .bipush (32), .lshl, .aload_n 0, .iload 4, .bipush (6), .iadd, .iaload, .i2l, .ldc2_w 19, .land, .lor, .aload_n 0, .iload 4, .bipush (7), .iadd, .iaload, .aload_n 3, .invokestatic 26, .istore 5, .aload_n 2, .aload_n 0, .iload 4, .iconst (1), .iadd, .iaload, .aload_n 0, .iload 4, .iconst (2), .iadd, .iaload, .aload_n 0, .iload 4, .iconst (3), .iadd, .iaload, .i2l, .bipush (32), .lshl, .aload_n 0, .iload 4, .iconst (4), .iadd, .iaload, .i2l, .ldc2_w 19, .land, .lor, .aload_n 0, .iload 4, .iconst (5), .iadd, .iaload, .i2l, .bipush (32), .lshl, .aload_n 0, .iload 4, .bipush (6), .iadd, .iaload, .i2l, .ldc2_w 19, .land, .lor, .aload_n 0, .iload 4, .bipush (7), .iadd, .iaload, .invokevirtual 31, .istore 6, .aload_n 2, .invokevirtual 32, .iload 5, .if_icmp .eq (5)]),
  (363, [.iconst (0), .ireturn]),
  (365, [.iload 5, .ifCond .ne (15)]),
  (370, [.aload_n 3, .iconst (0), .laload, .iload 6, .i2l, .lcmp, .ifCond .eq (5)]),
  (380, [.iconst (0), .ireturn]),
  (382, [.goto (664)]),
  (385, [.aload_n 1, .aload_n 0, .iload 4, .iconst (1), .iadd, .iaload, .aload_n 0, .iload 4, .iconst (2), .iadd, .iaload, .aload_n 0, .iload 4, .iconst (3), .iadd, .iaload, .ifCond .eq (7)]),
  (407, [.iconst (1), .goto (4)]),
  (411, [.iconst (0)]),
  (412, [.invokevirtual 36, .aload_n 2, .aload_n 0, .iload 4, .iconst (1), .iadd, .iaload, .aload_n 0, .iload 4, .iconst (2), .iadd, .iaload, .aload_n 0, .iload 4, .iconst (3), .iadd, .iaload, .ifCond .eq (7)]),
  (437, [.iconst (1), .goto (4)]),
  (441, [.iconst (0)]),
  (442, [.invokevirtual 40, .if_icmp .eq (601)]),
  (448, [.iconst (0), .ireturn]),
  (450, [.aload_n 1, .aload_n 0, .iload 4, .iconst (1), .iadd, .iaload, .aload_n 0, .iload 4, .iconst (2), .iadd, .iaload, .i2l, .bipush (32), .lshl, .aload_n 0, .iload 4, .iconst (3), .iadd, .iaload, .i2l, .ldc2_w 19, .land, .lor, .invokevirtual 41, .aload_n 2, .aload_n 0, .iload 4, .iconst (1), .iadd, .iaload, .aload_n 0, .iload 4, .iconst (2), .iadd, .iaload, .i2l, .bipush (32), .lshl, .aload_n 0, .iload 4, .iconst (3), .iadd, .iaload, .i2l, .ldc2_w 19, .land, .lor, .invokevirtual 45, .if_icmp .eq (532)]),
  (517, [.iconst (0), .ireturn]),
  (519, [.aload_n 1, .aload_n 0, .iload 4, .iconst (1), .iadd, .iaload, .aload_n 0, .iload 4, .iconst (2), .iadd, .iaload, .aload_n 0, .iload 4, .iconst (3), .iadd, .iaload, .aload_n 0, .iload 4, .iconst (4), .iadd, .iaload, .i2l, .bipush (32), .lshl, .aload_n 0, .iload 4, .iconst (5), .iadd, .iaload, .i2l, .ldc2_w 19, .land, .lor, .invokevirtual 46, .aload_n 2, .aload_n 0, .iload 4, .iconst (1), .iadd, .iaload, .aload_n 0, .iload 4, .iconst (2), .iadd, .iaload, .aload_n 0, .iload 4, .iconst (3), .iadd, .iaload, .aload_n 0, .iload 4, .iconst (4), .iadd, .iaload, .i2l, .bipush (32), .lshl, .aload_n 0, .iload 4, .iconst (5), .iadd, .iaload, .i2l, .ldc2_w 19, .land, .lor, .invokevirtual 50, .if_icmp .eq (439)]),
  (610, [.iconst (0), .ireturn]),
  (612, [.aload_n 1, .aload_n 0, .iload 4, .iconst (1), .iadd, .iaload, .invokevirtual 51, .aload_n 2, .aload_n 0, .iload 4, .iconst (1), .iadd, .iaload, .invokevirtual 55, .if_icmp .eq (414)]),
  (635, [.iconst (0), .ireturn]),
  (637, [.aload_n 1, .invokevirtual 56, .aload_n 2, .invokevirtual 60, .lcmp, .ifCond .eq (400)]),
  (649, [.iconst (0), .ireturn]),
  (651, [.aload_n 1, .aload_n 0, .iload 4, .iconst (1), .iadd, .iaload, .i2l, .bipush (32), .lshl, .aload_n 0, .iload 4, .iconst (2), .iadd, .iaload, .i2l, .ldc2_w 19, .land, .lor, .aload_n 0, .iload 4, .iconst (3), .iadd, .iaload, .i2l, .bipush (32), .lshl, .aload_n 0, .iload 4, .iconst (4), .iadd, .iaload, .i2l, .ldc2_w 19, .land, .lor, .aload_n 0, .iload 4, .iconst (5), .iadd, .iaload, .invokevirtual 61, .aload_n 2, .aload_n 0, .iload 4, .iconst (1), .iadd, .iaload, .i2l, .bipush (32), .lshl, .aload_n 0, .iload 4, .iconst (2), .iadd, .iaload, .i2l, .ldc2_w 19, .land, .lor, .aload_n 0, .iload 4, .iconst (3), .iadd, .iaload, .i2l, .bipush (32), .lshl, .aload_n 0, .iload 4, .iconst (4), .iadd, .iaload, .i2l, .ldc2_w 19, .land, .lor, .aload_n 0, .iload 4, .iconst (5), .iadd, .iaload, .invokevirtual 65, .if_icmp .eq (287)]),
  (762, [.iconst (0), .ireturn]),
  (764, [.aload_n 1, .aload_n 0, .iload 4, .iconst (1), .iadd, .iaload, .aload_n 0, .iload 4, .iconst (2), .iadd, .iaload, .i2l, .bipush (32), .lshl, .aload_n 0, .iload 4, .iconst (3), .iadd, .iaload, .i2l, .ldc2_w 19, .land, .lor, .aload_n 0, .iload 4, .iconst (4), .iadd, .iaload, .i2l, .bipush (32), .lshl, .aload_n 0, .iload 4, .iconst (5), .iadd, .iaload, .i2l, .ldc2_w 19, .land, .lor, .invokevirtual 66, .aload_n 2, .aload_n 0, .iload 4, .iconst (1), .iadd, .iaload, .aload_n 0, .iload 4, .iconst (2), .iadd, .iaload, .i2l, .bipush (32), .lshl, .aload_n 0, .iload 4, .iconst (3), .iadd, .iaload, .i2l, .ldc2_w 19, .land, .lor, .aload_n 0, .iload 4, .iconst (4), .iadd, .iaload, .i2l, .bipush (32), .lshl, .aload_n 0, .iload 4, .iconst (5), .iadd, .iaload, .i2l, .ldc2_w 19, .land, .lor, .invokevirtual 70, .if_icmp .eq (174)]),
  (875, [.iconst (0), .ireturn]),
  (877, [.aload_n 1, .aload_n 0, .iload 4, .iconst (1), .iadd, .iaload, .i2l, .bipush (32), .lshl, .aload_n 0, .iload 4, .iconst (2), .iadd, .iaload, .i2l, .ldc2_w 19, .land, .lor, .invokevirtual 71, .aload_n 2, .aload_n 0, .iload 4, .iconst (1), .iadd, .iaload, .i2l, .bipush (32), .lshl, .aload_n 0, .iload 4, .iconst (2), .iadd, .iaload, .i2l, .ldc2_w 19, .land, .lor, .invokevirtual 75, .if_icmp .eq (117)]),
  (932, [.iconst (0), .ireturn]),
  (934, [.aload_n 1, .aload_n 0, .iload 4, .iconst (1), .iadd, .iaload, .aload_n 0, .iload 4, .iconst (2), .iadd, .iaload, .invokevirtual 76, .aload_n 2, .aload_n 0, .iload 4, .iconst (1), .iadd, .iaload, .aload_n 0, .iload 4, .iconst (2), .iadd, .iaload, .invokevirtual 80, .if_icmp .eq (80)]),
  (969, [.iconst (0), .ireturn]),
  (971, [.aload_n 1, .aload_n 0, .iload 4, .iconst (1), .iadd, .iaload, .invokevirtual 81, .aload_n 2, .aload_n 0, .iload 4, .iconst (1), .iadd, .iaload, .invokevirtual 84, .if_icmp .eq (55)]),
  (994, [.iconst (0), .ireturn]),
  (996, [.aload_n 1, .invokevirtual 85, .aload_n 2, .invokevirtual 88, .if_icmp .eq (42)]),
  (1007, [.iconst (0), .ireturn]),
  (1009, [.aload_n 1, .aload_n 0, .iload 4, .iconst (1), .iadd, .iaload, .aload_n 0, .iload 4, .iconst (2), .iadd, .iaload, .invokevirtual 89, .aload_n 2, .aload_n 0, .iload 4, .iconst (1), .iadd, .iaload, .aload_n 0, .iload 4, .iconst (2), .iadd, .iaload, .invokevirtual 92, .if_icmp .eq (5)]),
  (1044, [.iconst (0), .ireturn]),
  (1046, [.iinc 4 (8), .goto (-1026)]),
  (1052, [.iconst (1), .ireturn])]
def am_kdL : List (List (Nat × List Jvm.ClassFile.Instr)) := [kd_0, kd_1, kd_2, kd_3, kd_4, kd_5, kd_6, kd_7, kd_8, kd_9, kd_10, kd_11, kd_12, kd_13, kd_14, kd_15, kd_16, kd_17, kd_18, kd_19, kd_20, kd_21, kd_22, kd_23, kd_24, kd_25, kd_26, kd_27, kd_28, kd_29, kd_30, kd_31, kd_32, kd_33, kd_34, kd_35, kd_36, kd_37, kd_38, kd_39, kd_40, kd_41, kd_42, kd_43, kd_44, kd_45, kd_46, kd_47, kd_48, kd_49, kd_50, kd_51, kd_52, kd_53, kd_54, kd_55, kd_56, kd_57, kd_58, kd_59, kd_60, kd_61, kd_62, kd_63, kd_64, kd_65, kd_66, kd_67, kd_68, kd_69, kd_70, kd_71, kd_72, kd_73, kd_74, kd_75, kd_76, kd_77, kd_78, kd_79, kd_80, kd_81, kd_82, kd_83, kd_84, kd_85, kd_86, kd_87, kd_88, kd_89, kd_90, kd_91, kd_92, kd_93, kd_94, kd_95, kd_96, kd_97, kd_98, kd_99, kd_100, kd_101, kd_102, kd_103, kd_104, kd_105, kd_106, kd_107, kd_108, kd_109, kd_110, kd_111, kd_112, kd_113, kd_114, kd_115, kd_116, kd_117, kd_118, kd_119, kd_120, kd_121, kd_122, kd_123, kd_124, kd_125, kd_126, kd_127, kd_128, kd_129, kd_130, kd_131, kd_132, kd_133, kd_134, kd_135, kd_136, kd_137, kd_138, kd_139, kd_140]
def am_kd (j : Nat) : List (Nat × List Jvm.ClassFile.Instr) := am_kdL.getD j []
