def cR0 : String := "TrackVotes$Finder"
def cT0 : u_T := fun k => match k with
  | 0 => ("TrackVotes$Finder", "plane", "LTrackVotes$Plane;", true)
  | 1 => ("TrackVotes$Finder", "tracks", "[LTrackVotes$Track;", true)
  | 2 => ("TrackVotes$Finder", "found", "I", false)
  | 3 => ("TrackVotes$Finder", "bound", "[I", true)
  | 4 => ("TrackVotes$Finder", "bestVotes", "I", false)
  | _ => ("TrackVotes$Finder", "bestCell", "I", false)
def cY0 : Nat → FieldType := fun k => match k with
  | 0 => (.object "TrackVotes$Plane")
  | 1 => (.array (.object "TrackVotes$Track"))
  | 2 => .int
  | 3 => (.array .int)
  | 4 => .int
  | _ => .int
def cR1 : String := "TrackVotes$Ghosts"
def cT1 : u_T := fun k => match k with
  | 0 => ("TrackVotes$Ghosts", "known", "Z", false)
  | 1 => ("TrackVotes$Ghosts", "count", "I", false)
  | 2 => ("TrackVotes$Ghosts", "listed", "[I", true)
  | 3 => ("TrackVotes$Ghosts", "bends", "[I", true)
  | 4 => ("TrackVotes$Ghosts", "slopes", "[I", true)
  | 5 => ("TrackVotes$Ghosts", "cells", "[I", true)
  | 6 => ("TrackVotes$Ghosts", "sortedCell", "[I", true)
  | _ => ("TrackVotes$Ghosts", "sortedVotes", "[I", true)
def cY1 : Nat → FieldType := fun k => match k with
  | 0 => .boolean
  | 1 => .int
  | 2 => (.array .int)
  | 3 => (.array .int)
  | 4 => (.array .int)
  | 5 => (.array .int)
  | 6 => (.array .int)
  | _ => (.array .int)
def cR2 : String := "TrackVotes$History"
def cT2 : u_T := fun k => match k with
  | 0 => ("TrackVotes$History", "before", "[LTrackVotes$State;", true)
  | 1 => ("TrackVotes$History", "newest", "I", false)
  | 2 => ("TrackVotes$History", "count", "I", false)
  | 3 => ("TrackVotes$History", "kept", "[LTrackVotes$State;", true)
  | _ => ("TrackVotes$History", "there", "[Z", true)
def cY2 : Nat → FieldType := fun k => match k with
  | 0 => (.array (.object "TrackVotes$State"))
  | 1 => .int
  | 2 => .int
  | 3 => (.array (.object "TrackVotes$State"))
  | _ => (.array .boolean)
def cR3 : String := "TrackVotes$Items"
def cT3 : u_T := fun k => match k with
  | 0 => ("TrackVotes$Items", "numbers", "[I", true)
  | 1 => ("TrackVotes$Items", "actLetters", "[I", true)
  | _ => ("TrackVotes$Items", "actNumbers", "[I", true)
def cY3 : Nat → FieldType := fun k => match k with
  | 0 => (.array .int)
  | 1 => (.array .int)
  | _ => (.array .int)
def cR4 : String := "TrackVotes$Picture"
def cT4 : u_T := fun k => match k with
  | 0 => ("TrackVotes$Picture", "known", "Z", false)
  | 1 => ("TrackVotes$Picture", "finder", "LTrackVotes$Finder;", true)
  | 2 => ("TrackVotes$Picture", "lesser", "LTrackVotes$Finder;", true)
  | 3 => ("TrackVotes$Picture", "need", "I", false)
  | 4 => ("TrackVotes$Picture", "tracks", "I", false)
  | 5 => ("TrackVotes$Picture", "particles", "I", false)
  | 6 => ("TrackVotes$Picture", "trackOfHit", "[I", true)
  | 7 => ("TrackVotes$Picture", "countingLeft", "[I", true)
  | 8 => ("TrackVotes$Picture", "shared", "[I", true)
  | 9 => ("TrackVotes$Picture", "vertices", "I", false)
  | 10 => ("TrackVotes$Picture", "order", "[I", true)
  | 11 => ("TrackVotes$Picture", "vertexTracks", "[I", true)
  | 12 => ("TrackVotes$Picture", "vertexSum", "[I", true)
  | 13 => ("TrackVotes$Picture", "worthKnown", "[Z", true)
  | _ => ("TrackVotes$Picture", "worth", "[I", true)
def cY4 : Nat → FieldType := fun k => match k with
  | 0 => .boolean
  | 1 => (.object "TrackVotes$Finder")
  | 2 => (.object "TrackVotes$Finder")
  | 3 => .int
  | 4 => .int
  | 5 => .int
  | 6 => (.array .int)
  | 7 => (.array .int)
  | 8 => (.array .int)
  | 9 => .int
  | 10 => (.array .int)
  | 11 => (.array .int)
  | 12 => (.array .int)
  | 13 => (.array .boolean)
  | _ => (.array .int)
def cR5 : String := "TrackVotes$Plane"
def cT5 : u_T := fun k => match k with
  | 0 => ("TrackVotes$Plane", "shapes", "I", false)
  | 1 => ("TrackVotes$Plane", "bends", "[I", true)
  | 2 => ("TrackVotes$Plane", "slopes", "[I", true)
  | 3 => ("TrackVotes$Plane", "bendLifts", "[I", true)
  | 4 => ("TrackVotes$Plane", "slopeLifts", "[I", true)
  | 5 => ("TrackVotes$Plane", "width", "I", false)
  | 6 => ("TrackVotes$Plane", "voters", "I", false)
  | 7 => ("TrackVotes$Plane", "voter", "[I", true)
  | 8 => ("TrackVotes$Plane", "voterLayer", "[I", true)
  | 9 => ("TrackVotes$Plane", "voterY", "[I", true)
  | 10 => ("TrackVotes$Plane", "stamp", "I", false)
  | 11 => ("TrackVotes$Plane", "slotStamp", "[I", true)
  | 12 => ("TrackVotes$Plane", "slotCell", "[I", true)
  | 13 => ("TrackVotes$Plane", "slotLayers", "[I", true)
  | 14 => ("TrackVotes$Plane", "slotVotes", "[I", true)
  | 15 => ("TrackVotes$Plane", "used", "I", false)
  | 16 => ("TrackVotes$Plane", "usedSlot", "[I", true)
  | 17 => ("TrackVotes$Plane", "bestVotes", "I", false)
  | _ => ("TrackVotes$Plane", "bestCell", "I", false)
def cY5 : Nat → FieldType := fun k => match k with
  | 0 => .int
  | 1 => (.array .int)
  | 2 => (.array .int)
  | 3 => (.array .int)
  | 4 => (.array .int)
  | 5 => .int
  | 6 => .int
  | 7 => (.array .int)
  | 8 => (.array .int)
  | 9 => (.array .int)
  | 10 => .int
  | 11 => (.array .int)
  | 12 => (.array .int)
  | 13 => (.array .int)
  | 14 => (.array .int)
  | 15 => .int
  | 16 => (.array .int)
  | 17 => .int
  | _ => .int
def cR6 : String := "TrackVotes$State"
def cT6 : u_T := fun k => match k with
  | 0 => ("TrackVotes$State", "layers", "I", false)
  | 1 => ("TrackVotes$State", "x", "[I", true)
  | 2 => ("TrackVotes$State", "alive", "[Z", true)
  | 3 => ("TrackVotes$State", "hits", "I", false)
  | 4 => ("TrackVotes$State", "hitLayer", "[I", true)
  | 5 => ("TrackVotes$State", "hitY", "[I", true)
  | 6 => ("TrackVotes$State", "hitTime", "[I", true)
  | 7 => ("TrackVotes$State", "leftBy", "[I", true)
  | 8 => ("TrackVotes$State", "particles", "I", false)
  | 9 => ("TrackVotes$State", "start", "[I", true)
  | 10 => ("TrackVotes$State", "slope", "[I", true)
  | 11 => ("TrackVotes$State", "bend", "[I", true)
  | 12 => ("TrackVotes$State", "settings", "[I", true)
  | 13 => ("TrackVotes$State", "triggerBytes", "I", false)
  | _ => ("TrackVotes$State", "trigger", "[B", true)
def cY6 : Nat → FieldType := fun k => match k with
  | 0 => .int
  | 1 => (.array .int)
  | 2 => (.array .boolean)
  | 3 => .int
  | 4 => (.array .int)
  | 5 => (.array .int)
  | 6 => (.array .int)
  | 7 => (.array .int)
  | 8 => .int
  | 9 => (.array .int)
  | 10 => (.array .int)
  | 11 => (.array .int)
  | 12 => (.array .int)
  | 13 => .int
  | _ => (.array .byte)
def cR7 : String := "TrackVotes$Tape"
def cT7 : u_T := fun k => match k with
  | 0 => ("TrackVotes$Tape", "signs", "[B", true)
  | 1 => ("TrackVotes$Tape", "length", "I", false)
  | 2 => ("TrackVotes$Tape", "place", "I", false)
  | 3 => ("TrackVotes$Tape", "fault", "I", false)
  | 4 => ("TrackVotes$Tape", "number", "I", false)
  | _ => ("TrackVotes$Tape", "numberPlace", "I", false)
def cY7 : Nat → FieldType := fun k => match k with
  | 0 => (.array .byte)
  | 1 => .int
  | 2 => .int
  | 3 => .int
  | 4 => .int
  | _ => .int
def cR8 : String := "TrackVotes$Track"
def cT8 : u_T := fun k => match k with
  | 0 => ("TrackVotes$Track", "bend", "I", false)
  | 1 => ("TrackVotes$Track", "slope", "I", false)
  | 2 => ("TrackVotes$Track", "cell", "I", false)
  | 3 => ("TrackVotes$Track", "votes", "I", false)
  | 4 => ("TrackVotes$Track", "vertex", "I", false)
  | 5 => ("TrackVotes$Track", "smear", "I", false)
  | 6 => ("TrackVotes$Track", "hitOn", "[I", true)
  | 7 => ("TrackVotes$Track", "awayOn", "[I", true)
  | 8 => ("TrackVotes$Track", "lower", "J", false)
  | 9 => ("TrackVotes$Track", "upperStart", "J", false)
  | 10 => ("TrackVotes$Track", "upperSlope", "J", false)
  | _ => ("TrackVotes$Track", "upperOff", "J", false)
def cY8 : Nat → FieldType := fun k => match k with
  | 0 => .int
  | 1 => .int
  | 2 => .int
  | 3 => .int
  | 4 => .int
  | 5 => .int
  | 6 => (.array .int)
  | 7 => (.array .int)
  | 8 => .long
  | 9 => .long
  | 10 => .long
  | _ => .long
def cR9 : String := "TrackVotes$Trigger"
def cT9 : u_T := fun k => match k with
  | 0 => ("TrackVotes$Trigger", "values", "[I", true)
  | 1 => ("TrackVotes$Trigger", "signs", "[B", true)
  | 2 => ("TrackVotes$Trigger", "length", "I", false)
  | 3 => ("TrackVotes$Trigger", "place", "I", false)
  | 4 => ("TrackVotes$Trigger", "things", "I", false)
  | _ => ("TrackVotes$Trigger", "fault", "I", false)
def cY9 : Nat → FieldType := fun k => match k with
  | 0 => (.array .int)
  | 1 => (.array .byte)
  | 2 => .int
  | 3 => .int
  | 4 => .int
  | _ => .int
def cR10 : String := "TrackVotes$Waiting"
def cT10 : u_T := fun k => match k with
  | 0 => ("TrackVotes$Waiting", "lost", "I", false)
  | 1 => ("TrackVotes$Waiting", "late", "I", false)
  | 2 => ("TrackVotes$Waiting", "most", "I", false)
  | 3 => ("TrackVotes$Waiting", "last", "I", false)
  | 4 => ("TrackVotes$Waiting", "freeAt", "[I", true)
  | _ => ("TrackVotes$Waiting", "beginAt", "[I", true)
def cY10 : Nat → FieldType := fun k => match k with
  | 0 => .int
  | 1 => .int
  | 2 => .int
  | 3 => .int
  | 4 => (.array .int)
  | _ => (.array .int)
def cR11 : String := "TrackVotes"
def cT11 : u_T := fun k => match k with
  | 0 => ("TrackVotes", "state", "LTrackVotes$State;", true)
  | 1 => ("TrackVotes", "spare", "LTrackVotes$State;", true)
  | 2 => ("TrackVotes", "history", "LTrackVotes$History;", true)
  | 3 => ("TrackVotes", "tape", "LTrackVotes$Tape;", true)
  | 4 => ("TrackVotes", "items", "LTrackVotes$Items;", true)
  | 5 => ("TrackVotes", "reader", "LTrackVotes$Trigger;", true)
  | 6 => ("TrackVotes", "picture", "LTrackVotes$Picture;", true)
  | 7 => ("TrackVotes", "ghosts", "LTrackVotes$Ghosts;", true)
  | 8 => ("TrackVotes", "waiting", "LTrackVotes$Waiting;", true)
  | 9 => ("TrackVotes", "written", "[B", true)
  | 10 => ("TrackVotes", "writtenBytes", "I", false)
  | 11 => ("TrackVotes", "latestFault", "I", false)
  | _ => ("TrackVotes", "latestEnd", "I", false)
def cY11 : Nat → FieldType := fun k => match k with
  | 0 => (.object "TrackVotes$State")
  | 1 => (.object "TrackVotes$State")
  | 2 => (.object "TrackVotes$History")
  | 3 => (.object "TrackVotes$Tape")
  | 4 => (.object "TrackVotes$Items")
  | 5 => (.object "TrackVotes$Trigger")
  | 6 => (.object "TrackVotes$Picture")
  | 7 => (.object "TrackVotes$Ghosts")
  | 8 => (.object "TrackVotes$Waiting")
  | 9 => (.array .byte)
  | 10 => .int
  | 11 => .int
  | _ => .int
def cR12 : String := "TrackVotesModel"
def cT12 : u_T := fun k => match k with
  | 0 => ("TrackVotesModel", "all", "[I", true)
  | 1 => ("TrackVotesModel", "deeds", "I", false)
  | 2 => ("TrackVotesModel", "isKept", "[Z", true)
  | 3 => ("TrackVotesModel", "isFound", "Z", false)
  | 4 => ("TrackVotesModel", "tape", "[B", true)
  | 5 => ("TrackVotesModel", "taped", "I", false)
  | 6 => ("TrackVotesModel", "at", "I", false)
  | 7 => ("TrackVotesModel", "faultPlace", "I", false)
  | 8 => ("TrackVotesModel", "number", "I", false)
  | 9 => ("TrackVotesModel", "newCode", "[I", true)
  | 10 => ("TrackVotesModel", "waits", "[I", true)
  | 11 => ("TrackVotesModel", "codes", "I", false)
  | 12 => ("TrackVotesModel", "waiting", "I", false)
  | 13 => ("TrackVotesModel", "things", "I", false)
  | 14 => ("TrackVotesModel", "nested", "I", false)
  | 15 => ("TrackVotesModel", "pile", "[I", true)
  | 16 => ("TrackVotesModel", "isLeft", "[Z", true)
  | 17 => ("TrackVotesModel", "cellOf", "[I", true)
  | 18 => ("TrackVotesModel", "bestVotes", "I", false)
  | 19 => ("TrackVotesModel", "bestBend", "I", false)
  | 20 => ("TrackVotesModel", "bestSlope", "I", false)
  | 21 => ("TrackVotesModel", "bestPlace", "I", false)
  | 22 => ("TrackVotesModel", "tracks", "I", false)
  | 23 => ("TrackVotesModel", "bend", "[I", true)
  | 24 => ("TrackVotesModel", "slope", "[I", true)
  | 25 => ("TrackVotesModel", "place", "[I", true)
  | 26 => ("TrackVotesModel", "votesThere", "[I", true)
  | 27 => ("TrackVotesModel", "hitOn", "[I", true)
  | 28 => ("TrackVotesModel", "trackOf", "[I", true)
  | 29 => ("TrackVotesModel", "sumD", "[J", true)
  | 30 => ("TrackVotesModel", "sumA", "[J", true)
  | 31 => ("TrackVotesModel", "sumB", "[J", true)
  | 32 => ("TrackVotesModel", "sumOff", "[J", true)
  | 33 => ("TrackVotesModel", "vertexOf", "[I", true)
  | 34 => ("TrackVotesModel", "vertexMany", "[I", true)
  | 35 => ("TrackVotesModel", "vertexSum", "[J", true)
  | 36 => ("TrackVotesModel", "byStart", "[I", true)
  | 37 => ("TrackVotesModel", "vertices", "I", false)
  | 38 => ("TrackVotesModel", "ghosts", "[I", true)
  | 39 => ("TrackVotesModel", "ghostMany", "I", false)
  | 40 => ("TrackVotesModel", "free", "[I", true)
  | 41 => ("TrackVotesModel", "begun", "[I", true)
  | 42 => ("TrackVotesModel", "lostMany", "I", false)
  | 43 => ("TrackVotesModel", "lateMany", "I", false)
  | 44 => ("TrackVotesModel", "waitedMost", "I", false)
  | 45 => ("TrackVotesModel", "lastEnd", "I", false)
  | 46 => ("TrackVotesModel", "act", "[I", true)
  | 47 => ("TrackVotesModel", "actMany", "I", false)
  | 48 => ("TrackVotesModel", "endedAt", "I", false)
  | 49 => ("TrackVotesModel", "written", "[B", true)
  | _ => ("TrackVotesModel", "writtenLong", "I", false)
def cY12 : Nat → FieldType := fun k => match k with
  | 0 => (.array .int)
  | 1 => .int
  | 2 => (.array .boolean)
  | 3 => .boolean
  | 4 => (.array .byte)
  | 5 => .int
  | 6 => .int
  | 7 => .int
  | 8 => .int
  | 9 => (.array .int)
  | 10 => (.array .int)
  | 11 => .int
  | 12 => .int
  | 13 => .int
  | 14 => .int
  | 15 => (.array .int)
  | 16 => (.array .boolean)
  | 17 => (.array .int)
  | 18 => .int
  | 19 => .int
  | 20 => .int
  | 21 => .int
  | 22 => .int
  | 23 => (.array .int)
  | 24 => (.array .int)
  | 25 => (.array .int)
  | 26 => (.array .int)
  | 27 => (.array .int)
  | 28 => (.array .int)
  | 29 => (.array .long)
  | 30 => (.array .long)
  | 31 => (.array .long)
  | 32 => (.array .long)
  | 33 => (.array .int)
  | 34 => (.array .int)
  | 35 => (.array .long)
  | 36 => (.array .int)
  | 37 => .int
  | 38 => (.array .int)
  | 39 => .int
  | 40 => (.array .int)
  | 41 => (.array .int)
  | 42 => .int
  | 43 => .int
  | 44 => .int
  | 45 => .int
  | 46 => (.array .int)
  | 47 => .int
  | 48 => .int
  | 49 => (.array .byte)
  | _ => .int
def cR : Nat → String := fun c => match c with
  | 0 => cR0
  | 1 => cR1
  | 2 => cR2
  | 3 => cR3
  | 4 => cR4
  | 5 => cR5
  | 6 => cR6
  | 7 => cR7
  | 8 => cR8
  | 9 => cR9
  | 10 => cR10
  | 11 => cR11
  | _ => cR12
def cT : Nat → u_T := fun c => match c with
  | 0 => cT0
  | 1 => cT1
  | 2 => cT2
  | 3 => cT3
  | 4 => cT4
  | 5 => cT5
  | 6 => cT6
  | 7 => cT7
  | 8 => cT8
  | 9 => cT9
  | 10 => cT10
  | 11 => cT11
  | _ => cT12
def cY : Nat → (Nat → FieldType) := fun c => match c with
  | 0 => cY0
  | 1 => cY1
  | 2 => cY2
  | 3 => cY3
  | 4 => cY4
  | 5 => cY5
  | 6 => cY6
  | 7 => cY7
  | 8 => cY8
  | 9 => cY9
  | 10 => cY10
  | 11 => cY11
  | _ => cY12
def cN : Nat → Nat := fun c => match c with
  | 0 => 6
  | 1 => 8
  | 2 => 5
  | 3 => 3
  | 4 => 15
  | 5 => 19
  | 6 => 15
  | 7 => 6
  | 8 => 12
  | 9 => 6
  | 10 => 6
  | 11 => 13
  | _ => 51
abbrev cls : List vw_C := [(cR0, cT0, 6), (cR1, cT1, 8), (cR2, cT2, 5), (cR3, cT3, 3), (cR4, cT4, 15), (cR5, cT5, 19), (cR6, cT6, 15), (cR7, cT7, 6), (cR8, cT8, 12), (cR9, cT9, 6), (cR10, cT10, 6), (cR11, cT11, 13), (cR12, cT12, 51)]
/-- a method: name, code, locals, what it returns, arguments (its object among them), places of its words: code, static or instance, selects, initialized -/
abbrev gMI : Type := MethodName × ByteArray × Nat × Option FieldType × Nat × Nat × Nat × Nat × Nat
def mL0 : List gMI := [(⟨"TrackVotes", "<init>", "()V"⟩, prog_1_method_1_code, 1, none, 1, 132, 131, 0, 107),
  (⟨"TrackVotes$State", "<init>", "()V"⟩, prog_8_method_1_code, 1, none, 1, 140, 139, 0, 108),
  (⟨"TrackVotes$History", "<init>", "()V"⟩, prog_4_method_1_code, 2, none, 1, 233, 232, 0, 109),
  (⟨"TrackVotes$Tape", "<init>", "()V"⟩, prog_9_method_1_code, 1, none, 1, 258, 257, 0, 110),
  (⟨"TrackVotes$Items", "<init>", "()V"⟩, prog_5_method_1_code, 1, none, 1, 283, 282, 0, 111),
  (⟨"TrackVotes$Trigger", "<init>", "()V"⟩, prog_11_method_1_code, 1, none, 1, 299, 298, 0, 112),
  (⟨"java/lang/String", "length", "()I"⟩, prog_19_method_54_code, 1, (some .int), 1, 305, 303, 304, 113),
  (⟨"java/lang/String", "coder", "()B"⟩, prog_19_method_152_code, 1, (some .byte), 1, 309, 307, 308, 113),
  (⟨"TrackVotes$Picture", "<init>", "()V"⟩, prog_6_method_1_code, 1, none, 1, 335, 334, 0, 114),
  (⟨"TrackVotes$Finder", "<init>", "()V"⟩, prog_2_method_1_code, 2, none, 1, 341, 340, 0, 115),
  (⟨"TrackVotes$Plane", "<init>", "()V"⟩, prog_7_method_1_code, 1, none, 1, 347, 346, 0, 116),
  (⟨"TrackVotes$Track", "<init>", "()V"⟩, prog_10_method_1_code, 1, none, 1, 412, 411, 0, 117),
  (⟨"TrackVotes$Ghosts", "<init>", "()V"⟩, prog_3_method_1_code, 1, none, 1, 542, 541, 0, 118),
  (⟨"TrackVotes$Waiting", "<init>", "()V"⟩, prog_12_method_1_code, 1, none, 1, 573, 572, 0, 119),
  (⟨"TrackVotes", "feed", "(IIIII)I"⟩, prog_1_method_2_code, 6, (some .int), 6, 641, 639, 640, 107),
  (⟨"TrackVotes$Tape", "hasRoom", "(I)Z"⟩, prog_9_method_4_code, 2, (some .boolean), 2, 645, 643, 644, 110),
  (⟨"TrackVotes$Tape", "putWord", "(I)V"⟩, prog_9_method_5_code, 3, none, 2, 649, 647, 648, 110),
  (⟨"TrackVotes$Tape", "length", "()I"⟩, prog_9_method_2_code, 1, (some .int), 1, 653, 651, 652, 110),
  (⟨"TrackVotes", "end", "(I)I"⟩, prog_1_method_3_code, 2, (some .int), 2, 657, 655, 656, 107),
  (⟨"TrackVotes$Tape", "cutTo", "(I)V"⟩, prog_9_method_6_code, 2, none, 2, 661, 659, 660, 110),
  (⟨"java/lang/Math", "min", "(II)I"⟩, prog_18_method_69_code, 2, (some .int), 2, 664, 663, 0, 121),
  (⟨"java/lang/Math", "max", "(II)I"⟩, prog_18_method_65_code, 2, (some .int), 2, 667, 666, 0, 121),
  (⟨"TrackVotes", "text", "()I"⟩, prog_1_method_4_code, 2, (some .int), 1, 671, 669, 670, 107),
  (⟨"TrackVotes$State", "takeOver", "(LTrackVotes$State;)V"⟩, prog_8_method_2_code, 2, none, 2, 675, 673, 674, 108),
  (⟨"TrackVotes$State", "takeTrigger", "([BI)V"⟩, prog_8_method_3_code, 3, none, 3, 682, 680, 681, 108),
  (⟨"TrackVotes$Items", "readText", "(LTrackVotes$Tape;LTrackVotes$State;)I"⟩, prog_5_method_2_code, 4, (some .int), 3, 688, 686, 687, 111),
  (⟨"TrackVotes$Tape", "begin", "()V"⟩, prog_9_method_7_code, 1, none, 1, 692, 690, 691, 110),
  (⟨"TrackVotes$Tape", "atEnd", "()Z"⟩, prog_9_method_10_code, 1, (some .boolean), 1, 696, 694, 695, 110),
  (⟨"TrackVotes$Items", "readItem", "(LTrackVotes$Tape;LTrackVotes$State;)Z"⟩, prog_5_method_3_code, 7, (some .boolean), 3, 700, 699, 0, 111),
  (⟨"TrackVotes$Tape", "place", "()I"⟩, prog_9_method_11_code, 1, (some .int), 1, 704, 702, 703, 110),
  (⟨"TrackVotes$Tape", "next", "()I"⟩, prog_9_method_13_code, 2, (some .int), 1, 708, 706, 707, 110),
  (⟨"TrackVotes$Tape", "peek", "()I"⟩, prog_9_method_12_code, 1, (some .int), 1, 712, 710, 711, 110),
  (⟨"TrackVotes$Items", "numbersOfItem", "(I)I"⟩, prog_5_method_4_code, 1, (some .int), 1, 715, 714, 0, 111),
  (⟨"TrackVotes$Items", "isFull", "(ILTrackVotes$State;)Z"⟩, prog_5_method_5_code, 2, (some .boolean), 2, 718, 717, 0, 111),
  (⟨"TrackVotes$Tape", "fail", "(I)Z"⟩, prog_9_method_9_code, 2, (some .boolean), 2, 722, 720, 721, 110),
  (⟨"TrackVotes$Tape", "readNumber", "()Z"⟩, prog_9_method_15_code, 4, (some .boolean), 1, 726, 724, 725, 110),
  (⟨"TrackVotes", "isDigit", "(I)Z"⟩, prog_1_method_53_code, 1, (some .boolean), 1, 729, 728, 0, 107),
  (⟨"TrackVotes$Tape", "number", "()I"⟩, prog_9_method_16_code, 1, (some .int), 1, 735, 733, 734, 110),
  (⟨"TrackVotes$Items", "canBe", "(IIILTrackVotes$State;)Z"⟩, prog_5_method_6_code, 5, (some .boolean), 5, 739, 738, 1, 111),
  (⟨"TrackVotes", "within", "(III)Z"⟩, prog_1_method_51_code, 3, (some .boolean), 3, 742, 741, 0, 107)]
def mL1 : List gMI := [(⟨"TrackVotes$Items", "canBeOfHit", "(IILTrackVotes$State;)Z"⟩, prog_5_method_7_code, 3, (some .boolean), 3, 745, 744, 0, 111),
  (⟨"TrackVotes$State", "hasLayer", "(I)Z"⟩, prog_8_method_5_code, 2, (some .boolean), 2, 749, 747, 748, 108),
  (⟨"TrackVotes", "isHeight", "(I)Z"⟩, prog_1_method_52_code, 1, (some .boolean), 1, 752, 751, 0, 107),
  (⟨"TrackVotes$Items", "canBeOfParticle", "(II)Z"⟩, prog_5_method_8_code, 2, (some .boolean), 2, 755, 754, 0, 111),
  (⟨"TrackVotes$Items", "isSetting", "(II)Z"⟩, prog_5_method_9_code, 2, (some .boolean), 2, 758, 757, 0, 111),
  (⟨"TrackVotes$Items", "firstSetting", "(I)I"⟩, prog_5_method_10_code, 1, (some .int), 1, 765, 764, 0, 111),
  (⟨"TrackVotes$Tape", "numberPlace", "()I"⟩, prog_9_method_17_code, 1, (some .int), 1, 769, 767, 768, 110),
  (⟨"TrackVotes$Tape", "pass", "(C)Z"⟩, prog_9_method_14_code, 2, (some .boolean), 2, 773, 771, 772, 110),
  (⟨"TrackVotes$Items", "put", "(ILTrackVotes$State;)Z"⟩, prog_5_method_11_code, 4, (some .boolean), 3, 777, 776, 2, 111),
  (⟨"TrackVotes$State", "putLayer", "(I)Z"⟩, prog_8_method_19_code, 2, (some .boolean), 2, 781, 779, 780, 108),
  (⟨"TrackVotes$State", "putHit", "(IIII)I"⟩, prog_8_method_21_code, 5, (some .int), 5, 785, 783, 784, 108),
  (⟨"TrackVotes$State", "mayHit", "(III)Z"⟩, prog_8_method_20_code, 4, (some .boolean), 4, 789, 787, 788, 108),
  (⟨"TrackVotes$State", "putParticle", "(III)Z"⟩, prog_8_method_22_code, 6, (some .boolean), 4, 796, 794, 795, 108),
  (⟨"TrackVotes$State", "slopeLift", "(II)I"⟩, prog_8_method_16_code, 3, (some .int), 3, 800, 798, 799, 108),
  (⟨"java/lang/Math", "floorDiv", "(II)I"⟩, prog_18_method_47_code, 3, (some .int), 2, 803, 802, 0, 121),
  (⟨"TrackVotes$State", "bendLift", "(II)I"⟩, prog_8_method_17_code, 3, (some .int), 3, 807, 805, 806, 108),
  (⟨"TrackVotes$State", "set", "(II)V"⟩, prog_8_method_9_code, 3, none, 3, 812, 810, 811, 108),
  (⟨"TrackVotes$Tape", "faultPlace", "()I"⟩, prog_9_method_8_code, 1, (some .int), 1, 816, 814, 815, 110),
  (⟨"TrackVotes$History", "remember", "(LTrackVotes$State;)V"⟩, prog_4_method_3_code, 2, none, 2, 820, 818, 819, 109),
  (⟨"TrackVotes", "forgetPicture", "()V"⟩, prog_1_method_50_code, 1, none, 1, 826, 825, 3, 107),
  (⟨"TrackVotes$Picture", "forget", "()V"⟩, prog_6_method_2_code, 1, none, 1, 830, 828, 829, 114),
  (⟨"TrackVotes$Ghosts", "forget", "()V"⟩, prog_3_method_2_code, 1, none, 1, 834, 832, 833, 118),
  (⟨"TrackVotes", "trigger", "()I"⟩, prog_1_method_5_code, 2, (some .int), 1, 838, 836, 837, 107),
  (⟨"TrackVotes$Tape", "bytes", "()[B"⟩, prog_9_method_3_code, 1, (some (.array .byte)), 1, 842, 840, 841, 110),
  (⟨"TrackVotes$Trigger", "readFrom", "([BI)Z"⟩, prog_11_method_5_code, 4, (some .boolean), 3, 846, 844, 845, 112),
  (⟨"TrackVotes$Trigger", "readCond", "(I)Z"⟩, prog_11_method_8_code, 5, (some .boolean), 2, 853, 852, 4, 112),
  (⟨"TrackVotes$Trigger", "readBoth", "(I)Z"⟩, prog_11_method_9_code, 5, (some .boolean), 2, 857, 856, 5, 112),
  (⟨"TrackVotes$Trigger", "readTest", "(I)Z"⟩, prog_11_method_10_code, 4, (some .boolean), 2, 861, 860, 6, 112),
  (⟨"TrackVotes$Trigger", "peek", "()I"⟩, prog_11_method_6_code, 1, (some .int), 1, 865, 864, 7, 112),
  (⟨"TrackVotes$Trigger", "readComparison", "()Z"⟩, prog_11_method_11_code, 4, (some .boolean), 1, 869, 868, 8, 112),
  (⟨"TrackVotes$Trigger", "readSum", "()I"⟩, prog_11_method_12_code, 5, (some .int), 1, 873, 872, 9, 112),
  (⟨"TrackVotes$Trigger", "readThing", "()I"⟩, prog_11_method_13_code, 3, (some .int), 1, 877, 876, 10, 112),
  (⟨"java/lang/String", "indexOf", "(I)I"⟩, prog_19_method_79_code, 2, (some .int), 2, 881, 879, 880, 113),
  (⟨"java/lang/String", "indexOf", "(II)I"⟩, prog_19_method_80_code, 3, (some .int), 3, 885, 883, 884, 113),
  (⟨"java/lang/String", "isLatin1", "()Z"⟩, prog_19_method_154_code, 1, (some .boolean), 1, 889, 887, 888, 113),
  (⟨"java/lang/StringLatin1", "indexOf", "([BIII)I"⟩, prog_20_method_22_code, 4, (some .int), 4, 893, 892, 0, 123),
  (⟨"java/lang/StringLatin1", "canEncode", "(I)Z"⟩, prog_20_method_4_code, 1, (some .boolean), 1, 896, 895, 0, 123),
  (⟨"java/lang/StringLatin1", "indexOfChar", "([BIII)I"⟩, prog_20_method_23_code, 6, (some .int), 4, 901, 900, 0, 123),
  (⟨"TrackVotes$Trigger", "fail", "(I)V"⟩, prog_11_method_7_code, 2, none, 2, 955, 954, 11, 112),
  (⟨"TrackVotes$Trigger", "readNumber", "()I"⟩, prog_11_method_14_code, 3, (some .int), 1, 959, 958, 12, 112)]
def mL2 : List gMI := [(⟨"TrackVotes$Trigger", "faultPlace", "()I"⟩, prog_11_method_3_code, 1, (some .int), 1, 963, 961, 962, 112),
  (⟨"TrackVotes$Trigger", "things", "()I"⟩, prog_11_method_4_code, 1, (some .int), 1, 967, 965, 966, 112),
  (⟨"TrackVotes", "acts", "()I"⟩, prog_1_method_6_code, 4, (some .int), 1, 972, 970, 971, 107),
  (⟨"TrackVotes$Items", "readActs", "(LTrackVotes$Tape;)I"⟩, prog_5_method_12_code, 3, (some .int), 2, 976, 974, 975, 111),
  (⟨"TrackVotes$Items", "readAct", "(LTrackVotes$Tape;I)Z"⟩, prog_5_method_13_code, 7, (some .boolean), 3, 980, 979, 13, 111),
  (⟨"TrackVotes$Items", "numbersOfAct", "(I)I"⟩, prog_5_method_14_code, 1, (some .int), 1, 983, 982, 0, 111),
  (⟨"TrackVotes", "doAct", "(I)I"⟩, prog_1_method_7_code, 2, (some .int), 2, 987, 986, 14, 107),
  (⟨"TrackVotes$Items", "actLetter", "(I)I"⟩, prog_5_method_15_code, 2, (some .int), 2, 991, 989, 990, 111),
  (⟨"TrackVotes$Items", "actNumber", "(II)I"⟩, prog_5_method_16_code, 3, (some .int), 3, 995, 993, 994, 111),
  (⟨"TrackVotes", "add", "(III)I"⟩, prog_1_method_30_code, 4, (some .int), 4, 999, 997, 998, 107),
  (⟨"TrackVotes", "strike", "(I)I"⟩, prog_1_method_31_code, 2, (some .int), 2, 1005, 1003, 1004, 107),
  (⟨"TrackVotes$State", "hasHit", "(I)Z"⟩, prog_8_method_6_code, 2, (some .boolean), 2, 1009, 1007, 1008, 108),
  (⟨"TrackVotes$State", "countingHits", "()I"⟩, prog_8_method_11_code, 3, (some .int), 1, 1013, 1011, 1012, 108),
  (⟨"TrackVotes$State", "counts", "(I)Z"⟩, prog_8_method_10_code, 2, (some .boolean), 2, 1017, 1015, 1016, 108),
  (⟨"TrackVotes", "dead", "(I)I"⟩, prog_1_method_32_code, 2, (some .int), 2, 1022, 1020, 1021, 107),
  (⟨"TrackVotes", "need", "(I)I"⟩, prog_1_method_33_code, 3, (some .int), 2, 1027, 1025, 1026, 107),
  (⟨"TrackVotes$State", "setting", "(I)I"⟩, prog_8_method_8_code, 2, (some .int), 2, 1032, 1030, 1031, 108),
  (⟨"TrackVotes", "fault", "()I"⟩, prog_1_method_8_code, 1, (some .int), 1, 1037, 1035, 1036, 107),
  (⟨"TrackVotes", "ended", "()I"⟩, prog_1_method_9_code, 1, (some .int), 1, 1041, 1039, 1040, 107),
  (⟨"TrackVotes", "is", "(I)I"⟩, prog_1_method_10_code, 2, (some .int), 2, 1045, 1043, 1044, 107),
  (⟨"TrackVotes$State", "liveLayers", "()I"⟩, prog_8_method_15_code, 3, (some .int), 1, 1049, 1047, 1048, 108),
  (⟨"TrackVotes$History", "deeds", "()I"⟩, prog_4_method_2_code, 1, (some .int), 1, 1053, 1051, 1052, 109),
  (⟨"TrackVotes", "layer", "(II)I"⟩, prog_1_method_11_code, 3, (some .int), 3, 1057, 1055, 1056, 107),
  (⟨"TrackVotes$State", "countingHitsOn", "(I)I"⟩, prog_8_method_12_code, 4, (some .int), 2, 1061, 1059, 1060, 108),
  (⟨"TrackVotes", "hit", "(II)I"⟩, prog_1_method_12_code, 3, (some .int), 3, 1065, 1063, 1064, 107),
  (⟨"TrackVotes$Picture", "look", "(LTrackVotes$State;)LTrackVotes$Picture;"⟩, prog_6_method_3_code, 3, (some (.object "TrackVotes$Picture")), 2, 1071, 1069, 1070, 114),
  (⟨"TrackVotes$Finder", "find", "(LTrackVotes$State;II)V"⟩, prog_2_method_5_code, 6, none, 4, 1076, 1074, 1075, 115),
  (⟨"TrackVotes$Plane", "lay", "(LTrackVotes$State;I)V"⟩, prog_7_method_2_code, 4, none, 3, 1080, 1078, 1079, 116),
  (⟨"TrackVotes$Plane", "listShapes", "(II)V"⟩, prog_7_method_3_code, 8, none, 3, 1086, 1085, 15, 116),
  (⟨"TrackVotes$Plane", "liftLayers", "(LTrackVotes$State;)V"⟩, prog_7_method_4_code, 6, none, 2, 1090, 1089, 16, 116),
  (⟨"TrackVotes$Plane", "shapes", "()I"⟩, prog_7_method_5_code, 1, (some .int), 1, 1098, 1096, 1097, 116),
  (⟨"TrackVotes$Finder", "bestShape", "(I)I"⟩, prog_2_method_6_code, 5, (some .int), 2, 1102, 1101, 17, 115),
  (⟨"TrackVotes$Plane", "layersThatVote", "()I"⟩, prog_7_method_8_code, 3, (some .int), 1, 1106, 1104, 1105, 116),
  (⟨"java/lang/Integer", "bitCount", "(I)I"⟩, prog_17_method_49_code, 1, (some .int), 1, 1109, 1108, 0, 127),
  (⟨"TrackVotes$Plane", "tally", "(I)V"⟩, prog_7_method_9_code, 10, none, 2, 1116, 1114, 1115, 116),
  (⟨"TrackVotes$Plane", "bendOf", "(I)I"⟩, prog_7_method_6_code, 2, (some .int), 2, 1120, 1118, 1119, 116),
  (⟨"TrackVotes$Plane", "slopeOf", "(I)I"⟩, prog_7_method_7_code, 2, (some .int), 2, 1124, 1122, 1123, 116),
  (⟨"TrackVotes$Plane", "slotOf", "(I)I"⟩, prog_7_method_10_code, 4, (some .int), 2, 1129, 1128, 18, 116),
  (⟨"TrackVotes$Plane", "bestVotes", "()I"⟩, prog_7_method_11_code, 1, (some .int), 1, 1133, 1131, 1132, 116),
  (⟨"TrackVotes$Plane", "bestCell", "()I"⟩, prog_7_method_12_code, 1, (some .int), 1, 1137, 1135, 1136, 116)]
def mL3 : List gMI := [(⟨"TrackVotes$Track", "begin", "(IIII)V"⟩, prog_10_method_2_code, 6, none, 5, 1143, 1141, 1142, 117),
  (⟨"TrackVotes$Plane", "chooseHits", "(LTrackVotes$Track;)V"⟩, prog_7_method_16_code, 10, none, 2, 1147, 1145, 1146, 116),
  (⟨"java/lang/Math", "abs", "(I)I"⟩, prog_18_method_59_code, 1, (some .int), 1, 1150, 1149, 0, 121),
  (⟨"TrackVotes$Plane", "silence", "(LTrackVotes$Track;)V"⟩, prog_7_method_17_code, 4, none, 2, 1154, 1152, 1153, 116),
  (⟨"TrackVotes$Picture", "tracksBy", "(I)I"⟩, prog_6_method_4_code, 5, (some .int), 2, 1158, 1157, 19, 114),
  (⟨"TrackVotes$Finder", "found", "()I"⟩, prog_2_method_2_code, 1, (some .int), 1, 1162, 1160, 1161, 115),
  (⟨"TrackVotes$Finder", "trackAt", "(I)LTrackVotes$Track;"⟩, prog_2_method_4_code, 2, (some (.object "TrackVotes$Track")), 2, 1166, 1164, 1165, 115),
  (⟨"TrackVotes$Picture", "shareHits", "(LTrackVotes$State;)V"⟩, prog_6_method_5_code, 5, none, 2, 1170, 1169, 20, 114),
  (⟨"TrackVotes$State", "countingHitsLeftBy", "(I)I"⟩, prog_8_method_13_code, 4, (some .int), 2, 1174, 1172, 1173, 108),
  (⟨"TrackVotes$Picture", "shareHit", "(LTrackVotes$State;II)V"⟩, prog_6_method_6_code, 5, none, 4, 1178, 1177, 21, 114),
  (⟨"TrackVotes$State", "hasParticle", "(I)Z"⟩, prog_8_method_7_code, 2, (some .boolean), 2, 1183, 1181, 1182, 108),
  (⟨"TrackVotes$Picture", "drawLines", "(LTrackVotes$State;)V"⟩, prog_6_method_7_code, 4, none, 2, 1187, 1186, 22, 114),
  (⟨"TrackVotes$Track", "drawLine", "(LTrackVotes$State;)V"⟩, prog_10_method_4_code, 19, none, 2, 1191, 1189, 1190, 117),
  (⟨"TrackVotes$Track", "flatY", "(LTrackVotes$State;I)J"⟩, prog_10_method_3_code, 3, (some .long), 3, 1195, 1194, 23, 117),
  (⟨"java/lang/Math", "max", "(JJ)J"⟩, prog_18_method_66_code, 4, (some .long), 2, 1200, 1199, 0, 121),
  (⟨"TrackVotes$Track", "measureSmear", "(LTrackVotes$State;)V"⟩, prog_10_method_5_code, 7, none, 2, 1204, 1202, 1203, 117),
  (⟨"java/lang/Math", "abs", "(J)J"⟩, prog_18_method_61_code, 2, (some .long), 1, 1207, 1206, 0, 121),
  (⟨"TrackVotes$Picture", "orderTracks", "()V"⟩, prog_6_method_8_code, 3, none, 1, 1211, 1210, 24, 114),
  (⟨"TrackVotes$Picture", "startOf", "(I)I"⟩, prog_6_method_9_code, 3, (some .int), 2, 1215, 1214, 25, 114),
  (⟨"TrackVotes$Track", "flooredStart", "()I"⟩, prog_10_method_6_code, 1, (some .int), 1, 1219, 1217, 1218, 117),
  (⟨"java/lang/Math", "floorDiv", "(JJ)J"⟩, prog_18_method_49_code, 6, (some .long), 2, 1222, 1221, 0, 121),
  (⟨"TrackVotes$Picture", "joinVertices", "(I)V"⟩, prog_6_method_10_code, 5, none, 2, 1226, 1225, 26, 114),
  (⟨"TrackVotes$Picture", "trackOf", "(I)I"⟩, prog_6_method_14_code, 2, (some .int), 2, 1230, 1228, 1229, 114),
  (⟨"TrackVotes", "particle", "(II)I"⟩, prog_1_method_13_code, 3, (some .int), 3, 1234, 1232, 1233, 107),
  (⟨"TrackVotes$Picture", "tracks", "()I"⟩, prog_6_method_11_code, 1, (some .int), 1, 1240, 1238, 1239, 114),
  (⟨"TrackVotes$Picture", "foundOf", "(II)I"⟩, prog_6_method_24_code, 6, (some .int), 3, 1244, 1242, 1243, 114),
  (⟨"TrackVotes$Picture", "sharedOf", "(II)I"⟩, prog_6_method_21_code, 3, (some .int), 3, 1248, 1247, 27, 114),
  (⟨"TrackVotes", "lift", "(III)I"⟩, prog_1_method_14_code, 4, (some .int), 4, 1253, 1251, 1252, 107),
  (⟨"TrackVotes", "votes", "(III)I"⟩, prog_1_method_15_code, 4, (some .int), 4, 1259, 1257, 1258, 107),
  (⟨"TrackVotes$State", "votesFor", "(III)I"⟩, prog_8_method_18_code, 9, (some .int), 4, 1263, 1261, 1262, 108),
  (⟨"TrackVotes", "many", "(I)I"⟩, prog_1_method_16_code, 2, (some .int), 2, 1268, 1266, 1267, 107),
  (⟨"TrackVotes", "thing", "(I)I"⟩, prog_1_method_22_code, 2, (some .int), 2, 1272, 1270, 1271, 107),
  (⟨"TrackVotes$Picture", "vertices", "()I"⟩, prog_6_method_17_code, 1, (some .int), 1, 1276, 1274, 1275, 114),
  (⟨"TrackVotes$Ghosts", "look", "(LTrackVotes$State;LTrackVotes$Picture;)LTrackVotes$Ghosts;"⟩, prog_3_method_4_code, 3, (some (.object "TrackVotes$Ghosts")), 3, 1280, 1278, 1279, 118),
  (⟨"TrackVotes$Ghosts", "gather", "(LTrackVotes$State;LTrackVotes$Picture;)V"⟩, prog_3_method_5_code, 6, none, 3, 1284, 1283, 28, 118),
  (⟨"TrackVotes$Picture", "plane", "()LTrackVotes$Plane;"⟩, prog_6_method_13_code, 1, (some (.object "TrackVotes$Plane")), 1, 1289, 1287, 1288, 114),
  (⟨"TrackVotes$Finder", "plane", "()LTrackVotes$Plane;"⟩, prog_2_method_3_code, 1, (some (.object "TrackVotes$Plane")), 1, 1293, 1291, 1292, 115),
  (⟨"TrackVotes$Ghosts", "gatherShape", "(LTrackVotes$Plane;IILTrackVotes$Picture;)V"⟩, prog_3_method_6_code, 9, none, 5, 1302, 1301, 29, 118),
  (⟨"TrackVotes$Ghosts", "sortCells", "(LTrackVotes$Plane;I)I"⟩, prog_3_method_7_code, 8, (some .int), 3, 1308, 1307, 30, 118),
  (⟨"TrackVotes$Plane", "cells", "()I"⟩, prog_7_method_13_code, 1, (some .int), 1, 1312, 1310, 1311, 116)]
def mL4 : List gMI := [(⟨"TrackVotes$Plane", "votesAt", "(I)I"⟩, prog_7_method_15_code, 2, (some .int), 2, 1316, 1314, 1315, 116),
  (⟨"TrackVotes$Plane", "cellAt", "(I)I"⟩, prog_7_method_14_code, 2, (some .int), 2, 1320, 1318, 1319, 116),
  (⟨"TrackVotes$Ghosts", "isTrack", "(LTrackVotes$Picture;III)Z"⟩, prog_3_method_8_code, 6, (some .boolean), 4, 1323, 1322, 0, 118),
  (⟨"TrackVotes$Picture", "trackAt", "(I)LTrackVotes$Track;"⟩, prog_6_method_12_code, 2, (some (.object "TrackVotes$Track")), 2, 1328, 1326, 1327, 114),
  (⟨"TrackVotes$Ghosts", "list", "(IIII)V"⟩, prog_3_method_9_code, 6, none, 5, 1332, 1331, 31, 118),
  (⟨"TrackVotes$Ghosts", "count", "()I"⟩, prog_3_method_3_code, 1, (some .int), 1, 1337, 1335, 1336, 118),
  (⟨"TrackVotes$Picture", "mostVotes", "()I"⟩, prog_6_method_16_code, 2, (some .int), 1, 1341, 1339, 1340, 114),
  (⟨"TrackVotes$Picture", "hitsOnTracks", "()I"⟩, prog_6_method_15_code, 4, (some .int), 1, 1346, 1344, 1345, 114),
  (⟨"TrackVotes$Picture", "greatestVertex", "()I"⟩, prog_6_method_20_code, 3, (some .int), 1, 1350, 1348, 1349, 114),
  (⟨"TrackVotes", "track", "(II)I"⟩, prog_1_method_17_code, 4, (some .int), 3, 1355, 1353, 1354, 107),
  (⟨"TrackVotes$Picture", "mostLeftOn", "(I)I"⟩, prog_6_method_23_code, 2, (some .int), 2, 1361, 1359, 1360, 114),
  (⟨"TrackVotes$Picture", "purestOn", "(I)I"⟩, prog_6_method_22_code, 5, (some .int), 2, 1365, 1363, 1364, 114),
  (⟨"TrackVotes", "of", "(II)I"⟩, prog_1_method_18_code, 4, (some .int), 3, 1370, 1368, 1369, 107),
  (⟨"TrackVotes", "fit", "(II)J"⟩, prog_1_method_19_code, 4, (some .long), 3, 1374, 1372, 1373, 107),
  (⟨"TrackVotes", "upperOf", "(JJ)J"⟩, prog_1_method_55_code, 6, (some .long), 2, 1378, 1377, 0, 107),
  (⟨"TrackVotes", "commonDivisor", "(JJ)J"⟩, prog_1_method_54_code, 11, (some .long), 2, 1381, 1380, 0, 107),
  (⟨"TrackVotes", "lowerOf", "(JJ)J"⟩, prog_1_method_56_code, 6, (some .long), 2, 1385, 1384, 0, 107),
  (⟨"TrackVotes", "vertex", "(II)I"⟩, prog_1_method_20_code, 3, (some .int), 3, 1389, 1387, 1388, 107),
  (⟨"TrackVotes$Picture", "tracksIn", "(I)I"⟩, prog_6_method_18_code, 2, (some .int), 2, 1393, 1391, 1392, 114),
  (⟨"TrackVotes$Picture", "placeOf", "(I)I"⟩, prog_6_method_19_code, 3, (some .int), 2, 1397, 1395, 1396, 114),
  (⟨"TrackVotes", "yes", "()I"⟩, prog_1_method_21_code, 2, (some .int), 1, 1403, 1401, 1402, 107),
  (⟨"java/lang/String", "charAt", "(I)C"⟩, prog_19_method_56_code, 2, (some .char), 2, 1409, 1407, 1408, 113),
  (⟨"java/lang/StringLatin1", "charAt", "([BI)C"⟩, prog_20_method_2_code, 2, (some .char), 2, 1412, 1411, 0, 123),
  (⟨"java/lang/String", "checkIndex", "(II)V"⟩, prog_19_method_155_code, 2, none, 2, 1415, 1414, 0, 113),
  (⟨"jdk/internal/util/Preconditions", "checkIndex", "(IILjava/util/function/BiFunction;)I"⟩, prog_23_method_11_code, 3, (some .int), 3, 1418, 1417, 0, 125),
  (⟨"TrackVotes$State", "triggerHas", "(C)Z"⟩, prog_8_method_4_code, 3, (some .boolean), 2, 1429, 1427, 1428, 108),
  (⟨"TrackVotes$Trigger", "tell", "(II)V"⟩, prog_11_method_2_code, 3, none, 3, 1433, 1431, 1432, 112),
  (⟨"TrackVotes", "work", "()I"⟩, prog_1_method_23_code, 3, (some .int), 1, 1438, 1436, 1437, 107),
  (⟨"TrackVotes", "queue", "(IIIII)I"⟩, prog_1_method_25_code, 7, (some .int), 6, 1442, 1440, 1441, 107),
  (⟨"TrackVotes", "mayQueue", "(III)Z"⟩, prog_1_method_27_code, 3, (some .boolean), 3, 1445, 1444, 0, 107),
  (⟨"TrackVotes", "ticksFor", "(II)I"⟩, prog_1_method_24_code, 2, (some .int), 2, 1449, 1448, 0, 107),
  (⟨"TrackVotes$Waiting", "run", "(IIIIII)V"⟩, prog_12_method_2_code, 13, none, 7, 1454, 1452, 1453, 119),
  (⟨"TrackVotes$Waiting", "firstFree", "(I)I"⟩, prog_12_method_3_code, 4, (some .int), 2, 1458, 1457, 32, 119),
  (⟨"TrackVotes", "workers", "(III)I"⟩, prog_1_method_26_code, 6, (some .int), 4, 1463, 1461, 1462, 107),
  (⟨"TrackVotes", "worth", "(I)I"⟩, prog_1_method_28_code, 2, (some .int), 2, 1467, 1465, 1466, 107),
  (⟨"TrackVotes$Picture", "worthOf", "(LTrackVotes$State;I)I"⟩, prog_6_method_28_code, 3, (some .int), 3, 1471, 1469, 1470, 114),
  (⟨"TrackVotes", "bestNeed", "(I)I"⟩, prog_1_method_29_code, 3, (some .int), 2, 1476, 1474, 1475, 107),
  (⟨"TrackVotes$Picture", "theBestNeed", "()I"⟩, prog_6_method_27_code, 5, (some .int), 1, 1480, 1478, 1479, 114),
  (⟨"TrackVotes$Picture", "foundBy", "(I)I"⟩, prog_6_method_25_code, 5, (some .int), 2, 1484, 1482, 1483, 114),
  (⟨"TrackVotes$Picture", "loneBy", "(I)I"⟩, prog_6_method_26_code, 6, (some .int), 2, 1489, 1487, 1488, 114)]
def mL5 : List gMI := [(⟨"TrackVotes", "cross", "(III)J"⟩, prog_1_method_34_code, 16, (some .long), 4, 1500, 1498, 1499, 107),
  (⟨"TrackVotes", "predicted", "(II)I"⟩, prog_1_method_35_code, 4, (some .int), 3, 1506, 1504, 1505, 107),
  (⟨"TrackVotes$Track", "heightAt", "(LTrackVotes$State;I)I"⟩, prog_10_method_7_code, 5, (some .int), 3, 1510, 1508, 1509, 117),
  (⟨"TrackVotes", "missing", "(I)I"⟩, prog_1_method_36_code, 5, (some .int), 2, 1515, 1513, 1514, 107),
  (⟨"TrackVotes", "nearest", "(II)I"⟩, prog_1_method_37_code, 9, (some .int), 3, 1519, 1517, 1518, 107),
  (⟨"TrackVotes", "offset", "(II)I"⟩, prog_1_method_38_code, 8, (some .int), 3, 1524, 1522, 1523, 107),
  (⟨"TrackVotes", "align", "(II)I"⟩, prog_1_method_39_code, 5, (some .int), 3, 1529, 1527, 1528, 107),
  (⟨"TrackVotes", "ghost", "(II)I"⟩, prog_1_method_40_code, 3, (some .int), 3, 1534, 1532, 1533, 107),
  (⟨"TrackVotes$Ghosts", "ofPlace", "(II)I"⟩, prog_3_method_10_code, 5, (some .int), 3, 1538, 1536, 1537, 118),
  (⟨"TrackVotes$Ghosts", "tellGhost", "(III)I"⟩, prog_3_method_11_code, 4, (some .int), 4, 1542, 1541, 33, 118),
  (⟨"TrackVotes", "window", "(II)I"⟩, prog_1_method_41_code, 8, (some .int), 3, 1547, 1545, 1546, 107),
  (⟨"TrackVotes$State", "hitsBetween", "(II)I"⟩, prog_8_method_14_code, 5, (some .int), 3, 1551, 1549, 1550, 108),
  (⟨"TrackVotes", "undo", "()I"⟩, prog_1_method_42_code, 1, (some .int), 1, 1555, 1553, 1554, 107),
  (⟨"TrackVotes$History", "takeBack", "(LTrackVotes$State;)Z"⟩, prog_4_method_4_code, 2, (some .boolean), 2, 1559, 1557, 1558, 109),
  (⟨"TrackVotes", "keep", "(I)Z"⟩, prog_1_method_43_code, 2, (some .boolean), 2, 1563, 1561, 1562, 107),
  (⟨"TrackVotes$History", "store", "(ILTrackVotes$State;)Z"⟩, prog_4_method_6_code, 3, (some .boolean), 3, 1567, 1565, 1566, 109),
  (⟨"TrackVotes", "restore", "(I)Z"⟩, prog_1_method_44_code, 2, (some .boolean), 2, 1571, 1569, 1570, 107),
  (⟨"TrackVotes$History", "holds", "(I)Z"⟩, prog_4_method_5_code, 2, (some .boolean), 2, 1575, 1573, 1574, 109),
  (⟨"TrackVotes$History", "fetch", "(ILTrackVotes$State;)Z"⟩, prog_4_method_7_code, 3, (some .boolean), 3, 1579, 1577, 1578, 109),
  (⟨"TrackVotes", "write", "()I"⟩, prog_1_method_45_code, 2, (some .int), 1, 1584, 1582, 1583, 107),
  (⟨"TrackVotes", "writeSign", "(C)V"⟩, prog_1_method_48_code, 2, none, 2, 1588, 1587, 34, 107),
  (⟨"TrackVotes", "writeNumber", "(I)V"⟩, prog_1_method_47_code, 3, none, 2, 1592, 1591, 35, 107),
  (⟨"TrackVotes", "writeSettings", "(CII)V"⟩, prog_1_method_46_code, 5, none, 4, 1596, 1595, 36, 107),
  (⟨"TrackVotes", "octet", "(I)I"⟩, prog_1_method_49_code, 2, (some .int), 2, 1600, 1598, 1599, 107),
  (⟨"TrackVotesModel", "<init>", "()V"⟩, prog_14_method_3_code, 1, none, 1, 1605, 1604, 0, 120),
  (⟨"TrackVotesModel", "undo", "()I"⟩, prog_14_method_5_code, 1, (some .int), 1, 1765, 1763, 1764, 120),
  (⟨"TrackVotesModel", "copyRow", "(II)V"⟩, prog_14_method_2_code, 4, none, 3, 1769, 1768, 37, 120),
  (⟨"TrackVotesModel", "keep", "(I)Z"⟩, prog_14_method_6_code, 2, (some .boolean), 2, 1773, 1771, 1772, 120),
  (⟨"TrackVotesModel", "isIn", "(JJJ)Z"⟩, prog_14_method_1_code, 6, (some .boolean), 3, 1776, 1775, 0, 120),
  (⟨"TrackVotesModel", "restore", "(I)Z"⟩, prog_14_method_7_code, 2, (some .boolean), 2, 1780, 1778, 1779, 120),
  (⟨"TrackVotesModel", "deedOf", "(I)V"⟩, prog_14_method_4_code, 3, none, 2, 1784, 1783, 38, 120),
  (⟨"TrackVotesModel", "feed", "(IIIII)I"⟩, prog_14_method_9_code, 6, (some .int), 6, 1788, 1786, 1787, 120),
  (⟨"TrackVotesModel", "four", "(I)V"⟩, prog_14_method_8_code, 3, none, 2, 1792, 1791, 39, 120),
  (⟨"TrackVotesModel", "end", "(I)I"⟩, prog_14_method_10_code, 2, (some .int), 2, 1796, 1794, 1795, 120),
  (⟨"TrackVotesModel", "fault", "()I"⟩, prog_14_method_11_code, 1, (some .int), 1, 1800, 1798, 1799, 120),
  (⟨"TrackVotesModel", "text", "()I"⟩, prog_14_method_31_code, 2, (some .int), 1, 1804, 1802, 1803, 120),
  (⟨"TrackVotesModel", "beginText", "()V"⟩, prog_14_method_29_code, 1, none, 1, 1808, 1807, 40, 120),
  (⟨"TrackVotesModel", "readItem", "()Z"⟩, prog_14_method_28_code, 2, (some .boolean), 1, 1812, 1811, 41, 120),
  (⟨"TrackVotesModel", "here", "()I"⟩, prog_14_method_12_code, 1, (some .int), 1, 1816, 1815, 42, 120),
  (⟨"TrackVotesModel", "fails", "(I)Z"⟩, prog_14_method_14_code, 2, (some .boolean), 2, 1820, 1819, 43, 120)]
def mL6 : List gMI := [(⟨"TrackVotesModel", "readLayer", "()Z"⟩, prog_14_method_25_code, 2, (some .boolean), 1, 1824, 1823, 44, 120),
  (⟨"TrackVotesModel", "xOf", "(I)I"⟩, prog_14_method_20_code, 2, (some .int), 2, 1828, 1827, 45, 120),
  (⟨"TrackVotesModel", "reads", "(IIII)Z"⟩, prog_14_method_18_code, 5, (some .boolean), 5, 1832, 1831, 46, 120),
  (⟨"TrackVotesModel", "readNumber", "(II)Z"⟩, prog_14_method_17_code, 5, (some .boolean), 3, 1836, 1835, 47, 120),
  (⟨"TrackVotesModel", "readFigures", "(IIII)Z"⟩, prog_14_method_16_code, 6, (some .boolean), 5, 1840, 1839, 48, 120),
  (⟨"TrackVotesModel", "isFigure", "(I)Z"⟩, prog_14_method_13_code, 1, (some .boolean), 1, 1843, 1842, 0, 120),
  (⟨"TrackVotesModel", "takes", "(I)Z"⟩, prog_14_method_15_code, 2, (some .boolean), 2, 1847, 1846, 49, 120),
  (⟨"TrackVotesModel", "readHit", "()Z"⟩, prog_14_method_26_code, 2, (some .boolean), 1, 1851, 1850, 50, 120),
  (⟨"TrackVotesModel", "readParticle", "(I)Z"⟩, prog_14_method_27_code, 6, (some .boolean), 2, 1855, 1854, 51, 120),
  (⟨"TrackVotesModel", "liftAt", "(III)I"⟩, prog_14_method_23_code, 4, (some .int), 4, 1859, 1858, 52, 120),
  (⟨"TrackVotesModel", "floored", "(JJ)I"⟩, prog_14_method_19_code, 4, (some .int), 2, 1863, 1862, 0, 120),
  (⟨"TrackVotesModel", "bendAt", "(II)I"⟩, prog_14_method_22_code, 3, (some .int), 3, 1867, 1866, 53, 120),
  (⟨"TrackVotesModel", "puts", "(IIII)V"⟩, prog_14_method_24_code, 6, none, 5, 1874, 1873, 54, 120),
  (⟨"TrackVotesModel", "ends", "()Z"⟩, prog_14_method_30_code, 1, (some .boolean), 1, 1878, 1877, 55, 120),
  (⟨"TrackVotesModel", "trigger", "()I"⟩, prog_14_method_43_code, 3, (some .int), 1, 1882, 1880, 1881, 120),
  (⟨"TrackVotesModel", "readCond", "()Z"⟩, prog_14_method_42_code, 3, (some .boolean), 1, 1886, 1885, 56, 120),
  (⟨"TrackVotesModel", "readTest", "()Z"⟩, prog_14_method_41_code, 1, (some .boolean), 1, 1890, 1889, 57, 120),
  (⟨"TrackVotesModel", "readCompared", "()Z"⟩, prog_14_method_37_code, 2, (some .boolean), 1, 1894, 1893, 58, 120),
  (⟨"TrackVotesModel", "readSum", "()Z"⟩, prog_14_method_36_code, 2, (some .boolean), 1, 1898, 1897, 59, 120),
  (⟨"TrackVotesModel", "readThing", "()Z"⟩, prog_14_method_34_code, 2, (some .boolean), 1, 1902, 1901, 60, 120),
  (⟨"TrackVotesModel", "nameOf", "(I)I"⟩, prog_14_method_33_code, 1, (some .int), 1, 1905, 1904, 0, 120),
  (⟨"TrackVotesModel", "does", "(I)V"⟩, prog_14_method_32_code, 2, none, 2, 1909, 1908, 61, 120),
  (⟨"TrackVotesModel", "joins", "(I)Z"⟩, prog_14_method_35_code, 1, (some .boolean), 1, 1912, 1911, 0, 120),
  (⟨"TrackVotesModel", "negates", "()V"⟩, prog_14_method_40_code, 1, none, 1, 1916, 1915, 62, 120),
  (⟨"TrackVotesModel", "waitsAre", "(I)Z"⟩, prog_14_method_38_code, 2, (some .boolean), 2, 1920, 1919, 63, 120),
  (⟨"TrackVotesModel", "doesWaiting", "()V"⟩, prog_14_method_39_code, 1, none, 1, 1924, 1923, 64, 120),
  (⟨"TrackVotesModel", "yes", "()I"⟩, prog_14_method_45_code, 4, (some .int), 1, 1928, 1926, 1927, 120),
  (⟨"TrackVotesModel", "valueOf", "(I)I"⟩, prog_14_method_93_code, 2, (some .int), 2, 1932, 1931, 65, 120),
  (⟨"TrackVotesModel", "find", "()V"⟩, prog_14_method_63_code, 1, none, 1, 1936, 1935, 66, 120),
  (⟨"TrackVotesModel", "finds", "(II)V"⟩, prog_14_method_62_code, 6, none, 3, 1940, 1939, 67, 120),
  (⟨"TrackVotesModel", "layLeft", "(I)V"⟩, prog_14_method_60_code, 3, none, 2, 1944, 1943, 68, 120),
  (⟨"TrackVotesModel", "counts", "(II)Z"⟩, prog_14_method_47_code, 4, (some .boolean), 3, 1948, 1947, 69, 120),
  (⟨"TrackVotesModel", "ofHit", "(II)I"⟩, prog_14_method_48_code, 3, (some .int), 3, 1952, 1951, 70, 120),
  (⟨"TrackVotesModel", "isAlive", "(I)Z"⟩, prog_14_method_21_code, 2, (some .boolean), 2, 1956, 1955, 71, 120),
  (⟨"TrackVotesModel", "tries", "(II)V"⟩, prog_14_method_59_code, 5, none, 3, 1960, 1959, 72, 120),
  (⟨"TrackVotesModel", "layCells", "(II)V"⟩, prog_14_method_55_code, 4, none, 3, 1964, 1963, 73, 120),
  (⟨"TrackVotesModel", "isFirst", "(I)Z"⟩, prog_14_method_56_code, 3, (some .boolean), 2, 1968, 1967, 74, 120),
  (⟨"TrackVotesModel", "votesOf", "(I)I"⟩, prog_14_method_57_code, 4, (some .int), 2, 1972, 1971, 75, 120),
  (⟨"TrackVotesModel", "bits", "(I)I"⟩, prog_14_method_54_code, 3, (some .int), 1, 1975, 1974, 0, 120),
  (⟨"TrackVotesModel", "isAhead", "(IIIIIIII)Z"⟩, prog_14_method_58_code, 8, (some .boolean), 8, 1978, 1977, 0, 120)]
def mL7 : List gMI := [(⟨"TrackVotesModel", "size", "(I)I"⟩, prog_14_method_53_code, 1, (some .int), 1, 1981, 1980, 0, 120),
  (⟨"TrackVotesModel", "takesHits", "()V"⟩, prog_14_method_61_code, 8, none, 1, 1985, 1984, 76, 120),
  (⟨"TrackVotesModel", "layFits", "()V"⟩, prog_14_method_66_code, 19, none, 1, 1989, 1988, 77, 120),
  (⟨"TrackVotesModel", "straight", "(II)I"⟩, prog_14_method_65_code, 3, (some .int), 3, 1993, 1992, 78, 120),
  (⟨"TrackVotesModel", "layVertices", "()V"⟩, prog_14_method_73_code, 3, none, 1, 1998, 1997, 79, 120),
  (⟨"TrackVotesModel", "startOf", "(I)I"⟩, prog_14_method_67_code, 2, (some .int), 2, 2002, 2001, 80, 120),
  (⟨"TrackVotesModel", "floor", "(JJ)J"⟩, prog_14_method_64_code, 4, (some .long), 2, 2005, 2004, 0, 120),
  (⟨"TrackVotesModel", "layGhosts", "()V"⟩, prog_14_method_77_code, 5, none, 1, 2009, 2008, 81, 120),
  (⟨"TrackVotesModel", "isTracks", "(III)Z"⟩, prog_14_method_75_code, 5, (some .boolean), 4, 2013, 2012, 82, 120),
  (⟨"TrackVotesModel", "putGhost", "(IIII)V"⟩, prog_14_method_76_code, 7, none, 5, 2017, 2016, 83, 120),
  (⟨"TrackVotesModel", "countHits", "(I)I"⟩, prog_14_method_80_code, 4, (some .int), 2, 2021, 2020, 84, 120),
  (⟨"TrackVotesModel", "greatest", "([II)I"⟩, prog_14_method_92_code, 5, (some .int), 3, 2025, 2024, 85, 120),
  (⟨"TrackVotesModel", "aliveMany", "()I"⟩, prog_14_method_81_code, 3, (some .int), 1, 2029, 2028, 86, 120),
  (⟨"TrackVotesModel", "looseMany", "()I"⟩, prog_14_method_91_code, 3, (some .int), 1, 2033, 2032, 87, 120),
  (⟨"TrackVotesModel", "joined", "(III)I"⟩, prog_14_method_44_code, 3, (some .int), 3, 2036, 2035, 0, 120),
  (⟨"TrackVotesModel", "thing", "(I)I"⟩, prog_14_method_46_code, 2, (some .int), 2, 2040, 2038, 2039, 120),
  (⟨"TrackVotesModel", "fit", "(II)J"⟩, prog_14_method_71_code, 3, (some .long), 3, 2044, 2042, 2043, 120),
  (⟨"TrackVotesModel", "isTrack", "(I)Z"⟩, prog_14_method_52_code, 2, (some .boolean), 2, 2048, 2047, 88, 120),
  (⟨"TrackVotesModel", "fraction", "(JJI)J"⟩, prog_14_method_70_code, 7, (some .long), 3, 2053, 2052, 0, 120),
  (⟨"TrackVotesModel", "common", "(JJ)J"⟩, prog_14_method_69_code, 10, (some .long), 2, 2056, 2055, 0, 120),
  (⟨"TrackVotesModel", "cross", "(III)J"⟩, prog_14_method_72_code, 6, (some .long), 4, 2060, 2058, 2059, 120),
  (⟨"TrackVotesModel", "vertex", "(II)I"⟩, prog_14_method_74_code, 3, (some .int), 3, 2065, 2063, 2064, 120),
  (⟨"TrackVotesModel", "ghost", "(II)I"⟩, prog_14_method_78_code, 3, (some .int), 3, 2070, 2068, 2069, 120),
  (⟨"TrackVotesModel", "lesser", "(II)I"⟩, prog_14_method_79_code, 2, (some .int), 2, 2073, 2072, 0, 120),
  (⟨"TrackVotesModel", "is", "(I)I"⟩, prog_14_method_82_code, 2, (some .int), 2, 2078, 2076, 2077, 120),
  (⟨"TrackVotesModel", "layer", "(II)I"⟩, prog_14_method_83_code, 3, (some .int), 3, 2083, 2081, 2082, 120),
  (⟨"TrackVotesModel", "isLayer", "(I)Z"⟩, prog_14_method_49_code, 2, (some .boolean), 2, 2087, 2086, 89, 120),
  (⟨"TrackVotesModel", "hit", "(II)I"⟩, prog_14_method_84_code, 3, (some .int), 3, 2091, 2089, 2090, 120),
  (⟨"TrackVotesModel", "isHit", "(I)Z"⟩, prog_14_method_50_code, 2, (some .boolean), 2, 2095, 2094, 90, 120),
  (⟨"TrackVotesModel", "particle", "(II)I"⟩, prog_14_method_88_code, 3, (some .int), 3, 2099, 2097, 2098, 120),
  (⟨"TrackVotesModel", "isParticle", "(I)Z"⟩, prog_14_method_51_code, 2, (some .boolean), 2, 2103, 2102, 91, 120),
  (⟨"TrackVotesModel", "leftBy", "(I)I"⟩, prog_14_method_85_code, 4, (some .int), 2, 2108, 2107, 92, 120),
  (⟨"TrackVotesModel", "foundBy", "(I)I"⟩, prog_14_method_87_code, 6, (some .int), 2, 2112, 2111, 93, 120),
  (⟨"TrackVotesModel", "shared", "(II)I"⟩, prog_14_method_86_code, 5, (some .int), 3, 2116, 2115, 94, 120),
  (⟨"TrackVotesModel", "lift", "(III)I"⟩, prog_14_method_89_code, 4, (some .int), 4, 2120, 2118, 2119, 120),
  (⟨"TrackVotesModel", "votes", "(III)I"⟩, prog_14_method_90_code, 7, (some .int), 4, 2126, 2124, 2125, 120),
  (⟨"TrackVotesModel", "many", "(I)I"⟩, prog_14_method_94_code, 2, (some .int), 2, 2130, 2128, 2129, 120),
  (⟨"TrackVotesModel", "track", "(II)I"⟩, prog_14_method_97_code, 3, (some .int), 3, 2134, 2132, 2133, 120),
  (⟨"TrackVotesModel", "hitsOf", "(I)I"⟩, prog_14_method_96_code, 4, (some .int), 2, 2138, 2137, 95, 120),
  (⟨"TrackVotesModel", "smearOf", "(I)I"⟩, prog_14_method_68_code, 7, (some .int), 2, 2142, 2141, 96, 120)]
def mL8 : List gMI := [(⟨"TrackVotesModel", "pureOf", "(IZ)I"⟩, prog_14_method_95_code, 6, (some .int), 3, 2146, 2145, 97, 120),
  (⟨"TrackVotesModel", "of", "(II)I"⟩, prog_14_method_98_code, 3, (some .int), 3, 2150, 2148, 2149, 120),
  (⟨"TrackVotesModel", "work", "()I"⟩, prog_14_method_99_code, 1, (some .int), 1, 2154, 2152, 2153, 120),
  (⟨"TrackVotesModel", "queue", "(IIIII)I"⟩, prog_14_method_102_code, 6, (some .int), 6, 2158, 2156, 2157, 120),
  (⟨"TrackVotesModel", "isQueue", "(IIII)Z"⟩, prog_14_method_101_code, 4, (some .boolean), 4, 2161, 2160, 0, 120),
  (⟨"TrackVotesModel", "queues", "(IIII)V"⟩, prog_14_method_100_code, 12, none, 5, 2169, 2168, 98, 120),
  (⟨"TrackVotesModel", "workers", "(III)I"⟩, prog_14_method_103_code, 5, (some .int), 4, 2174, 2172, 2173, 120),
  (⟨"TrackVotesModel", "worth", "(I)I"⟩, prog_14_method_104_code, 3, (some .int), 2, 2178, 2176, 2177, 120),
  (⟨"TrackVotesModel", "bestNeed", "(I)I"⟩, prog_14_method_107_code, 8, (some .int), 2, 2182, 2180, 2181, 120),
  (⟨"TrackVotesModel", "foundMany", "()I"⟩, prog_14_method_105_code, 3, (some .int), 1, 2186, 2185, 99, 120),
  (⟨"TrackVotesModel", "nobodys", "()I"⟩, prog_14_method_106_code, 4, (some .int), 1, 2190, 2189, 100, 120),
  (⟨"TrackVotesModel", "add", "(III)I"⟩, prog_14_method_108_code, 4, (some .int), 4, 2194, 2192, 2193, 120),
  (⟨"TrackVotesModel", "strike", "(I)I"⟩, prog_14_method_109_code, 2, (some .int), 2, 2198, 2196, 2197, 120),
  (⟨"TrackVotesModel", "dead", "(I)I"⟩, prog_14_method_110_code, 2, (some .int), 2, 2202, 2200, 2201, 120),
  (⟨"TrackVotesModel", "need", "(I)I"⟩, prog_14_method_111_code, 3, (some .int), 2, 2206, 2204, 2205, 120),
  (⟨"TrackVotesModel", "align", "(II)I"⟩, prog_14_method_112_code, 5, (some .int), 3, 2210, 2208, 2209, 120),
  (⟨"TrackVotesModel", "predicted", "(II)I"⟩, prog_14_method_114_code, 3, (some .int), 3, 2215, 2213, 2214, 120),
  (⟨"TrackVotesModel", "predictedAt", "(II)I"⟩, prog_14_method_113_code, 3, (some .int), 3, 2219, 2218, 101, 120),
  (⟨"TrackVotesModel", "missing", "(I)I"⟩, prog_14_method_115_code, 4, (some .int), 2, 2223, 2221, 2222, 120),
  (⟨"TrackVotesModel", "nearest", "(II)I"⟩, prog_14_method_116_code, 7, (some .int), 3, 2227, 2225, 2226, 120),
  (⟨"TrackVotesModel", "offset", "(II)I"⟩, prog_14_method_117_code, 8, (some .int), 3, 2231, 2229, 2230, 120),
  (⟨"TrackVotesModel", "window", "(II)I"⟩, prog_14_method_118_code, 8, (some .int), 3, 2235, 2233, 2234, 120),
  (⟨"TrackVotesModel", "acts", "()I"⟩, prog_14_method_121_code, 2, (some .int), 1, 2240, 2238, 2239, 120),
  (⟨"TrackVotesModel", "readAct", "()Z"⟩, prog_14_method_119_code, 5, (some .boolean), 1, 2244, 2243, 102, 120),
  (⟨"TrackVotesModel", "doAct", "(I)I"⟩, prog_14_method_120_code, 2, (some .int), 2, 2248, 2247, 103, 120),
  (⟨"TrackVotesModel", "ended", "()I"⟩, prog_14_method_122_code, 1, (some .int), 1, 2256, 2254, 2255, 120),
  (⟨"TrackVotesModel", "write", "()I"⟩, prog_14_method_125_code, 2, (some .int), 1, 2260, 2258, 2259, 120),
  (⟨"TrackVotesModel", "writes", "(I)V"⟩, prog_14_method_123_code, 2, none, 2, 2264, 2263, 104, 120),
  (⟨"TrackVotesModel", "writeNumber", "(II)V"⟩, prog_14_method_124_code, 4, none, 3, 2268, 2267, 105, 120),
  (⟨"TrackVotesModel", "octet", "(I)I"⟩, prog_14_method_126_code, 2, (some .int), 2, 2272, 2270, 2271, 120),
  (⟨"TrackVotesLaw", "law", "([I)Z"⟩, code, 4, (some .boolean), 1, 0, 0, 0, 0)]
def mL : List gMI := mL0 ++ mL1 ++ mL2 ++ mL3 ++ mL4 ++ mL5 ++ mL6 ++ mL7 ++ mL8
abbrev gE : Type := Instr × Nat × Nat × Nat × Int × Nat
