def cR0 : String := "TrackVotes$Finder"
def cT0 : u_T := fun k => match k with
  | 0 => ("TrackVotes$Finder", "plane", "LTrackVotes$Plane;", true)
  | 1 => ("TrackVotes$Finder", "tracks", "[LTrackVotes$Track;", true)
  | 2 => ("TrackVotes$Finder", "found", "I", false)
  | 3 => ("TrackVotes$Finder", "bound", "[I", true)
  | 4 => ("TrackVotes$Finder", "bestVotes", "I", false)
  | _ => ("TrackVotes$Finder", "bestCell", "I", false)
def cY0 : Nat → FieldType := fun k => match k with
  | 0 => (.object "TrackVotes$Plane")
  | 1 => (.array (.object "TrackVotes$Track"))
  | 2 => .int
  | 3 => (.array .int)
  | 4 => .int
  | _ => .int
def cR1 : String := "TrackVotes$Ghosts"
def cT1 : u_T := fun k => match k with
  | 0 => ("TrackVotes$Ghosts", "known", "Z", false)
  | 1 => ("TrackVotes$Ghosts", "count", "I", false)
  | 2 => ("TrackVotes$Ghosts", "listed", "[I", true)
  | 3 => ("TrackVotes$Ghosts", "bends", "[I", true)
  | 4 => ("TrackVotes$Ghosts", "slopes", "[I", true)
  | 5 => ("TrackVotes$Ghosts", "cells", "[I", true)
  | 6 => ("TrackVotes$Ghosts", "sortedCell", "[I", true)
  | _ => ("TrackVotes$Ghosts", "sortedVotes", "[I", true)
def cY1 : Nat → FieldType := fun k => match k with
  | 0 => .boolean
  | 1 => .int
  | 2 => (.array .int)
  | 3 => (.array .int)
  | 4 => (.array .int)
  | 5 => (.array .int)
  | 6 => (.array .int)
  | _ => (.array .int)
def cR2 : String := "TrackVotes$History"
def cT2 : u_T := fun k => match k with
  | 0 => ("TrackVotes$History", "before", "[LTrackVotes$State;", true)
  | 1 => ("TrackVotes$History", "newest", "I", false)
  | 2 => ("TrackVotes$History", "count", "I", false)
  | 3 => ("TrackVotes$History", "kept", "[LTrackVotes$State;", true)
  | _ => ("TrackVotes$History", "there", "[Z", true)
def cY2 : Nat → FieldType := fun k => match k with
  | 0 => (.array (.object "TrackVotes$State"))
  | 1 => .int
  | 2 => .int
  | 3 => (.array (.object "TrackVotes$State"))
  | _ => (.array .boolean)
def cR3 : String := "TrackVotes$Items"
def cT3 : u_T := fun k => match k with
  | 0 => ("TrackVotes$Items", "numbers", "[I", true)
  | 1 => ("TrackVotes$Items", "actLetters", "[I", true)
  | _ => ("TrackVotes$Items", "actNumbers", "[I", true)
def cY3 : Nat → FieldType := fun k => match k with
  | 0 => (.array .int)
  | 1 => (.array .int)
  | _ => (.array .int)
def cR4 : String := "TrackVotes$Picture"
def cT4 : u_T := fun k => match k with
  | 0 => ("TrackVotes$Picture", "known", "Z", false)
  | 1 => ("TrackVotes$Picture", "finder", "LTrackVotes$Finder;", true)
  | 2 => ("TrackVotes$Picture", "lesser", "LTrackVotes$Finder;", true)
  | 3 => ("TrackVotes$Picture", "need", "I", false)
  | 4 => ("TrackVotes$Picture", "tracks", "I", false)
  | 5 => ("TrackVotes$Picture", "particles", "I", false)
  | 6 => ("TrackVotes$Picture", "trackOfHit", "[I", true)
  | 7 => ("TrackVotes$Picture", "countingLeft", "[I", true)
  | 8 => ("TrackVotes$Picture", "shared", "[I", true)
  | 9 => ("TrackVotes$Picture", "vertices", "I", false)
  | 10 => ("TrackVotes$Picture", "order", "[I", true)
  | 11 => ("TrackVotes$Picture", "vertexTracks", "[I", true)
  | 12 => ("TrackVotes$Picture", "vertexSum", "[I", true)
  | 13 => ("TrackVotes$Picture", "worthKnown", "[Z", true)
  | _ => ("TrackVotes$Picture", "worth", "[I", true)
def cY4 : Nat → FieldType := fun k => match k with
  | 0 => .boolean
  | 1 => (.object "TrackVotes$Finder")
  | 2 => (.object "TrackVotes$Finder")
  | 3 => .int
  | 4 => .int
  | 5 => .int
  | 6 => (.array .int)
  | 7 => (.array .int)
  | 8 => (.array .int)
  | 9 => .int
  | 10 => (.array .int)
  | 11 => (.array .int)
  | 12 => (.array .int)
  | 13 => (.array .boolean)
  | _ => (.array .int)
def cR5 : String := "TrackVotes$Plane"
def cT5 : u_T := fun k => match k with
  | 0 => ("TrackVotes$Plane", "shapes", "I", false)
  | 1 => ("TrackVotes$Plane", "bends", "[I", true)
  | 2 => ("TrackVotes$Plane", "slopes", "[I", true)
  | 3 => ("TrackVotes$Plane", "bendLifts", "[I", true)
  | 4 => ("TrackVotes$Plane", "slopeLifts", "[I", true)
  | 5 => ("TrackVotes$Plane", "width", "I", false)
  | 6 => ("TrackVotes$Plane", "voters", "I", false)
  | 7 => ("TrackVotes$Plane", "voter", "[I", true)
  | 8 => ("TrackVotes$Plane", "voterLayer", "[I", true)
  | 9 => ("TrackVotes$Plane", "voterY", "[I", true)
  | 10 => ("TrackVotes$Plane", "stamp", "I", false)
  | 11 => ("TrackVotes$Plane", "slotStamp", "[I", true)
  | 12 => ("TrackVotes$Plane", "slotCell", "[I", true)
  | 13 => ("TrackVotes$Plane", "slotLayers", "[I", true)
  | 14 => ("TrackVotes$Plane", "slotVotes", "[I", true)
  | 15 => ("TrackVotes$Plane", "used", "I", false)
  | 16 => ("TrackVotes$Plane", "usedSlot", "[I", true)
  | 17 => ("TrackVotes$Plane", "bestVotes", "I", false)
  | _ => ("TrackVotes$Plane", "bestCell", "I", false)
def cY5 : Nat → FieldType := fun k => match k with
  | 0 => .int
  | 1 => (.array .int)
  | 2 => (.array .int)
  | 3 => (.array .int)
  | 4 => (.array .int)
  | 5 => .int
  | 6 => .int
  | 7 => (.array .int)
  | 8 => (.array .int)
  | 9 => (.array .int)
  | 10 => .int
  | 11 => (.array .int)
  | 12 => (.array .int)
  | 13 => (.array .int)
  | 14 => (.array .int)
  | 15 => .int
  | 16 => (.array .int)
  | 17 => .int
  | _ => .int
def cR6 : String := "TrackVotes$State"
def cT6 : u_T := fun k => match k with
  | 0 => ("TrackVotes$State", "layers", "I", false)
  | 1 => ("TrackVotes$State", "x", "[I", true)
  | 2 => ("TrackVotes$State", "alive", "[Z", true)
  | 3 => ("TrackVotes$State", "hits", "I", false)
  | 4 => ("TrackVotes$State", "hitLayer", "[I", true)
  | 5 => ("TrackVotes$State", "hitY", "[I", true)
  | 6 => ("TrackVotes$State", "hitTime", "[I", true)
  | 7 => ("TrackVotes$State", "leftBy", "[I", true)
  | 8 => ("TrackVotes$State", "particles", "I", false)
  | 9 => ("TrackVotes$State", "start", "[I", true)
  | 10 => ("TrackVotes$State", "slope", "[I", true)
  | 11 => ("TrackVotes$State", "bend", "[I", true)
  | 12 => ("TrackVotes$State", "settings", "[I", true)
  | 13 => ("TrackVotes$State", "triggerBytes", "I", false)
  | _ => ("TrackVotes$State", "trigger", "[B", true)
def cY6 : Nat → FieldType := fun k => match k with
  | 0 => .int
  | 1 => (.array .int)
  | 2 => (.array .boolean)
  | 3 => .int
  | 4 => (.array .int)
  | 5 => (.array .int)
  | 6 => (.array .int)
  | 7 => (.array .int)
  | 8 => .int
  | 9 => (.array .int)
  | 10 => (.array .int)
  | 11 => (.array .int)
  | 12 => (.array .int)
  | 13 => .int
  | _ => (.array .byte)
def cR7 : String := "TrackVotes$Tape"
def cT7 : u_T := fun k => match k with
  | 0 => ("TrackVotes$Tape", "signs", "[B", true)
  | 1 => ("TrackVotes$Tape", "length", "I", false)
  | 2 => ("TrackVotes$Tape", "place", "I", false)
  | 3 => ("TrackVotes$Tape", "fault", "I", false)
  | 4 => ("TrackVotes$Tape", "number", "I", false)
  | _ => ("TrackVotes$Tape", "numberPlace", "I", false)
def cY7 : Nat → FieldType := fun k => match k with
  | 0 => (.array .byte)
  | 1 => .int
  | 2 => .int
  | 3 => .int
  | 4 => .int
  | _ => .int
def cR8 : String := "TrackVotes$Track"
def cT8 : u_T := fun k => match k with
  | 0 => ("TrackVotes$Track", "bend", "I", false)
  | 1 => ("TrackVotes$Track", "slope", "I", false)
  | 2 => ("TrackVotes$Track", "cell", "I", false)
  | 3 => ("TrackVotes$Track", "votes", "I", false)
  | 4 => ("TrackVotes$Track", "vertex", "I", false)
  | 5 => ("TrackVotes$Track", "smear", "I", false)
  | 6 => ("TrackVotes$Track", "hitOn", "[I", true)
  | 7 => ("TrackVotes$Track", "awayOn", "[I", true)
  | 8 => ("TrackVotes$Track", "lower", "J", false)
  | 9 => ("TrackVotes$Track", "upperStart", "J", false)
  | 10 => ("TrackVotes$Track", "upperSlope", "J", false)
  | _ => ("TrackVotes$Track", "upperOff", "J", false)
def cY8 : Nat → FieldType := fun k => match k with
  | 0 => .int
  | 1 => .int
  | 2 => .int
  | 3 => .int
  | 4 => .int
  | 5 => .int
  | 6 => (.array .int)
  | 7 => (.array .int)
  | 8 => .long
  | 9 => .long
  | 10 => .long
  | _ => .long
def cR9 : String := "TrackVotes$Trigger"
def cT9 : u_T := fun k => match k with
  | 0 => ("TrackVotes$Trigger", "values", "[I", true)
  | 1 => ("TrackVotes$Trigger", "signs", "[B", true)
  | 2 => ("TrackVotes$Trigger", "length", "I", false)
  | 3 => ("TrackVotes$Trigger", "place", "I", false)
  | 4 => ("TrackVotes$Trigger", "things", "I", false)
  | _ => ("TrackVotes$Trigger", "fault", "I", false)
def cY9 : Nat → FieldType := fun k => match k with
  | 0 => (.array .int)
  | 1 => (.array .byte)
  | 2 => .int
  | 3 => .int
  | 4 => .int
  | _ => .int
def cR10 : String := "TrackVotes$Waiting"
def cT10 : u_T := fun k => match k with
  | 0 => ("TrackVotes$Waiting", "lost", "I", false)
  | 1 => ("TrackVotes$Waiting", "late", "I", false)
  | 2 => ("TrackVotes$Waiting", "most", "I", false)
  | 3 => ("TrackVotes$Waiting", "last", "I", false)
  | 4 => ("TrackVotes$Waiting", "freeAt", "[I", true)
  | _ => ("TrackVotes$Waiting", "beginAt", "[I", true)
def cY10 : Nat → FieldType := fun k => match k with
  | 0 => .int
  | 1 => .int
  | 2 => .int
  | 3 => .int
  | 4 => (.array .int)
  | _ => (.array .int)
def cR11 : String := "TrackVotes"
def cT11 : u_T := fun k => match k with
  | 0 => ("TrackVotes", "state", "LTrackVotes$State;", true)
  | 1 => ("TrackVotes", "spare", "LTrackVotes$State;", true)
  | 2 => ("TrackVotes", "history", "LTrackVotes$History;", true)
  | 3 => ("TrackVotes", "tape", "LTrackVotes$Tape;", true)
  | 4 => ("TrackVotes", "items", "LTrackVotes$Items;", true)
  | 5 => ("TrackVotes", "reader", "LTrackVotes$Trigger;", true)
  | 6 => ("TrackVotes", "picture", "LTrackVotes$Picture;", true)
  | 7 => ("TrackVotes", "ghosts", "LTrackVotes$Ghosts;", true)
  | 8 => ("TrackVotes", "waiting", "LTrackVotes$Waiting;", true)
  | 9 => ("TrackVotes", "written", "[B", true)
  | 10 => ("TrackVotes", "writtenBytes", "I", false)
  | 11 => ("TrackVotes", "latestFault", "I", false)
  | _ => ("TrackVotes", "latestEnd", "I", false)
def cY11 : Nat → FieldType := fun k => match k with
  | 0 => (.object "TrackVotes$State")
  | 1 => (.object "TrackVotes$State")
  | 2 => (.object "TrackVotes$History")
  | 3 => (.object "TrackVotes$Tape")
  | 4 => (.object "TrackVotes$Items")
  | 5 => (.object "TrackVotes$Trigger")
  | 6 => (.object "TrackVotes$Picture")
  | 7 => (.object "TrackVotes$Ghosts")
  | 8 => (.object "TrackVotes$Waiting")
  | 9 => (.array .byte)
  | 10 => .int
  | 11 => .int
  | _ => .int
def cR12 : String := "TrackVotesModel"
def cT12 : u_T := fun k => match k with
  | 0 => ("TrackVotesModel", "all", "[I", true)
  | 1 => ("TrackVotesModel", "deeds", "I", false)
  | 2 => ("TrackVotesModel", "isKept", "[Z", true)
  | 3 => ("TrackVotesModel", "isFound", "Z", false)
  | 4 => ("TrackVotesModel", "tape", "[B", true)
  | 5 => ("TrackVotesModel", "taped", "I", false)
  | 6 => ("TrackVotesModel", "at", "I", false)
  | 7 => ("TrackVotesModel", "faultPlace", "I", false)
  | 8 => ("TrackVotesModel", "number", "I", false)
  | 9 => ("TrackVotesModel", "newCode", "[I", true)
  | 10 => ("TrackVotesModel", "waits", "[I", true)
  | 11 => ("TrackVotesModel", "codes", "I", false)
  | 12 => ("TrackVotesModel", "waiting", "I", false)
  | 13 => ("TrackVotesModel", "things", "I", false)
  | 14 => ("TrackVotesModel", "nested", "I", false)
  | 15 => ("TrackVotesModel", "pile", "[I", true)
  | 16 => ("TrackVotesModel", "isLeft", "[Z", true)
  | 17 => ("TrackVotesModel", "cellOf", "[I", true)
  | 18 => ("TrackVotesModel", "bestVotes", "I", false)
  | 19 => ("TrackVotesModel", "bestBend", "I", false)
  | 20 => ("TrackVotesModel", "bestSlope", "I", false)
  | 21 => ("TrackVotesModel", "bestPlace", "I", false)
  | 22 => ("TrackVotesModel", "tracks", "I", false)
  | 23 => ("TrackVotesModel", "bend", "[I", true)
  | 24 => ("TrackVotesModel", "slope", "[I", true)
  | 25 => ("TrackVotesModel", "place", "[I", true)
  | 26 => ("TrackVotesModel", "votesThere", "[I", true)
  | 27 => ("TrackVotesModel", "hitOn", "[I", true)
  | 28 => ("TrackVotesModel", "trackOf", "[I", true)
  | 29 => ("TrackVotesModel", "sumD", "[J", true)
  | 30 => ("TrackVotesModel", "sumA", "[J", true)
  | 31 => ("TrackVotesModel", "sumB", "[J", true)
  | 32 => ("TrackVotesModel", "sumOff", "[J", true)
  | 33 => ("TrackVotesModel", "vertexOf", "[I", true)
  | 34 => ("TrackVotesModel", "vertexMany", "[I", true)
  | 35 => ("TrackVotesModel", "vertexSum", "[J", true)
  | 36 => ("TrackVotesModel", "byStart", "[I", true)
  | 37 => ("TrackVotesModel", "vertices", "I", false)
  | 38 => ("TrackVotesModel", "ghosts", "[I", true)
  | 39 => ("TrackVotesModel", "ghostMany", "I", false)
  | 40 => ("TrackVotesModel", "free", "[I", true)
  | 41 => ("TrackVotesModel", "begun", "[I", true)
  | 42 => ("TrackVotesModel", "lostMany", "I", false)
  | 43 => ("TrackVotesModel", "lateMany", "I", false)
  | 44 => ("TrackVotesModel", "waitedMost", "I", false)
  | 45 => ("TrackVotesModel", "lastEnd", "I", false)
  | 46 => ("TrackVotesModel", "act", "[I", true)
  | 47 => ("TrackVotesModel", "actMany", "I", false)
  | 48 => ("TrackVotesModel", "endedAt", "I", false)
  | 49 => ("TrackVotesModel", "written", "[B", true)
  | _ => ("TrackVotesModel", "writtenLong", "I", false)
def cY12 : Nat → FieldType := fun k => match k with
  | 0 => (.array .int)
  | 1 => .int
  | 2 => (.array .boolean)
  | 3 => .boolean
  | 4 => (.array .byte)
  | 5 => .int
  | 6 => .int
  | 7 => .int
  | 8 => .int
  | 9 => (.array .int)
  | 10 => (.array .int)
  | 11 => .int
  | 12 => .int
  | 13 => .int
  | 14 => .int
  | 15 => (.array .int)
  | 16 => (.array .boolean)
  | 17 => (.array .int)
  | 18 => .int
  | 19 => .int
  | 20 => .int
  | 21 => .int
  | 22 => .int
  | 23 => (.array .int)
  | 24 => (.array .int)
  | 25 => (.array .int)
  | 26 => (.array .int)
  | 27 => (.array .int)
  | 28 => (.array .int)
  | 29 => (.array .long)
  | 30 => (.array .long)
  | 31 => (.array .long)
  | 32 => (.array .long)
  | 33 => (.array .int)
  | 34 => (.array .int)
  | 35 => (.array .long)
  | 36 => (.array .int)
  | 37 => .int
  | 38 => (.array .int)
  | 39 => .int
  | 40 => (.array .int)
  | 41 => (.array .int)
  | 42 => .int
  | 43 => .int
  | 44 => .int
  | 45 => .int
  | 46 => (.array .int)
  | 47 => .int
  | 48 => .int
  | 49 => (.array .byte)
  | _ => .int
def cR : Nat → String := fun c => match c with
  | 0 => cR0
  | 1 => cR1
  | 2 => cR2
  | 3 => cR3
  | 4 => cR4
  | 5 => cR5
  | 6 => cR6
  | 7 => cR7
  | 8 => cR8
  | 9 => cR9
  | 10 => cR10
  | 11 => cR11
  | _ => cR12
def cT : Nat → u_T := fun c => match c with
  | 0 => cT0
  | 1 => cT1
  | 2 => cT2
  | 3 => cT3
  | 4 => cT4
  | 5 => cT5
  | 6 => cT6
  | 7 => cT7
  | 8 => cT8
  | 9 => cT9
  | 10 => cT10
  | 11 => cT11
  | _ => cT12
def cY : Nat → (Nat → FieldType) := fun c => match c with
  | 0 => cY0
  | 1 => cY1
  | 2 => cY2
  | 3 => cY3
  | 4 => cY4
  | 5 => cY5
  | 6 => cY6
  | 7 => cY7
  | 8 => cY8
  | 9 => cY9
  | 10 => cY10
  | 11 => cY11
  | _ => cY12
def cN : Nat → Nat := fun c => match c with
  | 0 => 6
  | 1 => 8
  | 2 => 5
  | 3 => 3
  | 4 => 15
  | 5 => 19
  | 6 => 15
  | 7 => 6
  | 8 => 12
  | 9 => 6
  | 10 => 6
  | 11 => 13
  | _ => 51
abbrev cls : List vw_C := [(cR0, cT0, 6), (cR1, cT1, 8), (cR2, cT2, 5), (cR3, cT3, 3), (cR4, cT4, 15), (cR5, cT5, 19), (cR6, cT6, 15), (cR7, cT7, 6), (cR8, cT8, 12), (cR9, cT9, 6), (cR10, cT10, 6), (cR11, cT11, 13), (cR12, cT12, 51)]
/-- a method: name, code, locals, what it returns, arguments (its object among them), places of its words: code, static or instance, selects (100000 static, 100001 a constructor), initialized; its class; how many calls stand open below it (99: it calls itself); cells and slots that it makes -/
abbrev gMI : Type := MethodName × ByteArray × Nat × Option FieldType × Nat × Nat × Nat × Nat × Nat × Nat × Nat × Nat × Nat
abbrev gMN : Type := Nat × Nat × Nat × Nat × Nat × Nat × Nat × Nat × Nat
/-- the methods, by the places of their words -/
def mN : List gMN := [(132, 1, 131, 100001, 107, 11, 4, 329, 17562),
  (140, 1, 139, 100001, 108, 6, 1, 11, 801),
  (233, 1, 232, 100001, 109, 2, 2, 123, 8172),
  (258, 1, 257, 100001, 110, 7, 1, 1, 500),
  (283, 1, 282, 100001, 111, 3, 1, 3, 104),
  (299, 1, 298, 100001, 112, 9, 2, 2, 508),
  (305, 1, 303, 304, 113, 30, 1, 0, 0),
  (309, 1, 307, 308, 113, 30, 0, 0, 0),
  (335, 1, 334, 100001, 114, 4, 3, 160, 5592),
  (341, 1, 340, 100001, 115, 0, 2, 75, 2596),
  (347, 1, 346, 100001, 116, 5, 1, 12, 1710),
  (412, 1, 411, 100001, 117, 8, 1, 2, 16),
  (542, 1, 541, 100001, 118, 1, 1, 6, 669),
  (573, 1, 572, 100001, 119, 10, 1, 2, 208),
  (641, 6, 639, 640, 107, 11, 1, 0, 0),
  (645, 2, 643, 644, 110, 7, 0, 0, 0),
  (649, 2, 647, 648, 110, 7, 0, 0, 0),
  (653, 1, 651, 652, 110, 7, 0, 0, 0),
  (657, 2, 655, 656, 107, 11, 2, 0, 0),
  (661, 2, 659, 660, 110, 7, 1, 0, 0),
  (664, 2, 663, 100000, 121, 99, 0, 0, 0),
  (667, 2, 666, 100000, 121, 99, 0, 0, 0),
  (671, 1, 669, 670, 107, 11, 7, 0, 0),
  (675, 2, 673, 674, 108, 6, 2, 0, 0),
  (682, 3, 680, 681, 108, 6, 1, 0, 0),
  (688, 3, 686, 687, 111, 3, 6, 0, 0),
  (692, 1, 690, 691, 110, 7, 0, 0, 0),
  (696, 1, 694, 695, 110, 7, 0, 0, 0),
  (700, 3, 699, 0, 111, 3, 5, 0, 0),
  (704, 1, 702, 703, 110, 7, 0, 0, 0),
  (708, 1, 706, 707, 110, 7, 1, 0, 0),
  (712, 1, 710, 711, 110, 7, 0, 0, 0),
  (715, 1, 714, 100000, 111, 3, 0, 0, 0),
  (718, 2, 717, 100000, 111, 3, 0, 0, 0),
  (722, 2, 720, 721, 110, 7, 0, 0, 0),
  (726, 1, 724, 725, 110, 7, 2, 0, 0),
  (729, 1, 728, 100000, 107, 11, 0, 0, 0),
  (735, 1, 733, 734, 110, 7, 0, 0, 0),
  (739, 5, 738, 1, 111, 3, 2, 0, 0),
  (742, 3, 741, 100000, 107, 11, 0, 0, 0),
  (745, 3, 744, 100000, 111, 3, 1, 0, 0),
  (749, 2, 747, 748, 108, 6, 0, 0, 0),
  (752, 1, 751, 100000, 107, 11, 0, 0, 0),
  (755, 2, 754, 100000, 111, 3, 1, 0, 0),
  (758, 2, 757, 100000, 111, 3, 1, 0, 0),
  (765, 1, 764, 100000, 111, 3, 0, 0, 0),
  (769, 1, 767, 768, 110, 7, 0, 0, 0),
  (773, 2, 771, 772, 110, 7, 1, 0, 0),
  (777, 3, 776, 2, 111, 3, 4, 0, 0),
  (781, 2, 779, 780, 108, 6, 0, 0, 0),
  (785, 5, 783, 784, 108, 6, 2, 0, 0),
  (789, 4, 787, 788, 108, 6, 1, 0, 0),
  (796, 4, 794, 795, 108, 6, 3, 0, 0),
  (800, 3, 798, 799, 108, 6, 1, 0, 0),
  (803, 2, 802, 100000, 121, 99, 0, 0, 0),
  (807, 3, 805, 806, 108, 6, 1, 0, 0),
  (812, 3, 810, 811, 108, 6, 0, 0, 0),
  (816, 1, 814, 815, 110, 7, 0, 0, 0),
  (820, 2, 818, 819, 109, 2, 3, 0, 0),
  (826, 1, 825, 3, 107, 11, 1, 0, 0),
  (830, 1, 828, 829, 114, 4, 0, 0, 0),
  (834, 1, 832, 833, 118, 1, 0, 0, 0),
  (838, 1, 836, 837, 107, 11, 99, 0, 0),
  (842, 1, 840, 841, 110, 7, 0, 0, 0),
  (846, 3, 844, 845, 112, 9, 99, 0, 0),
  (853, 2, 852, 4, 112, 9, 99, 0, 0),
  (857, 2, 856, 5, 112, 9, 99, 0, 0),
  (861, 2, 860, 6, 112, 9, 99, 0, 0),
  (865, 1, 864, 7, 112, 9, 0, 0, 0),
  (869, 1, 868, 8, 112, 9, 6, 0, 0),
  (873, 1, 872, 9, 112, 9, 5, 0, 0),
  (877, 1, 876, 10, 112, 9, 4, 0, 0),
  (881, 2, 879, 880, 113, 30, 3, 0, 0),
  (885, 3, 883, 884, 113, 30, 2, 0, 0),
  (889, 1, 887, 888, 113, 30, 0, 0, 0),
  (893, 4, 892, 100000, 123, 99, 1, 0, 0),
  (896, 1, 895, 100000, 123, 99, 0, 0, 0),
  (901, 4, 900, 100000, 123, 99, 0, 0, 0),
  (955, 2, 954, 11, 112, 9, 0, 0, 0),
  (959, 1, 958, 12, 112, 9, 1, 0, 0),
  (963, 1, 961, 962, 112, 9, 0, 0, 0),
  (967, 1, 965, 966, 112, 9, 0, 0, 0),
  (972, 1, 970, 971, 107, 11, 6, 0, 0),
  (976, 2, 974, 975, 111, 3, 4, 0, 0),
  (980, 3, 979, 13, 111, 3, 3, 0, 0),
  (983, 1, 982, 100000, 111, 3, 0, 0, 0),
  (987, 2, 986, 14, 107, 11, 5, 0, 0),
  (991, 2, 989, 990, 111, 3, 1, 0, 0),
  (995, 3, 993, 994, 111, 3, 1, 0, 0),
  (999, 4, 997, 998, 107, 11, 4, 0, 0),
  (1005, 2, 1003, 1004, 107, 11, 4, 0, 0),
  (1009, 2, 1007, 1008, 108, 6, 0, 0, 0),
  (1013, 1, 1011, 1012, 108, 6, 2, 0, 0),
  (1017, 2, 1015, 1016, 108, 6, 1, 0, 0),
  (1022, 2, 1020, 1021, 107, 11, 4, 0, 0),
  (1027, 2, 1025, 1026, 107, 11, 4, 0, 0),
  (1032, 2, 1030, 1031, 108, 6, 0, 0, 0),
  (1037, 1, 1035, 1036, 107, 11, 0, 0, 0),
  (1041, 1, 1039, 1040, 107, 11, 0, 0, 0),
  (1045, 2, 1043, 1044, 107, 11, 3, 0, 0),
  (1049, 1, 1047, 1048, 108, 6, 0, 0, 0),
  (1053, 1, 1051, 1052, 109, 2, 0, 0, 0),
  (1057, 3, 1055, 1056, 107, 11, 3, 0, 0),
  (1061, 2, 1059, 1060, 108, 6, 2, 0, 0),
  (1065, 3, 1063, 1064, 107, 11, 6, 0, 0),
  (1071, 2, 1069, 1070, 114, 4, 5, 0, 0),
  (1076, 4, 1074, 1075, 115, 0, 4, 0, 0),
  (1080, 3, 1078, 1079, 116, 5, 3, 0, 0),
  (1086, 3, 1085, 15, 116, 5, 0, 0, 0),
  (1090, 2, 1089, 16, 116, 5, 2, 0, 0),
  (1098, 1, 1096, 1097, 116, 5, 0, 0, 0),
  (1102, 2, 1101, 17, 115, 0, 2, 0, 0),
  (1106, 1, 1104, 1105, 116, 5, 1, 0, 0),
  (1109, 1, 1108, 100000, 127, 99, 0, 0, 0),
  (1116, 2, 1114, 1115, 116, 5, 1, 0, 0),
  (1120, 2, 1118, 1119, 116, 5, 0, 0, 0),
  (1124, 2, 1122, 1123, 116, 5, 0, 0, 0),
  (1129, 2, 1128, 18, 116, 5, 0, 0, 0),
  (1133, 1, 1131, 1132, 116, 5, 0, 0, 0),
  (1137, 1, 1135, 1136, 116, 5, 0, 0, 0),
  (1143, 5, 1141, 1142, 117, 8, 0, 0, 0),
  (1147, 2, 1145, 1146, 116, 5, 1, 0, 0),
  (1150, 1, 1149, 100000, 121, 99, 0, 0, 0),
  (1154, 2, 1152, 1153, 116, 5, 0, 0, 0),
  (1158, 2, 1157, 19, 114, 4, 1, 0, 0),
  (1162, 1, 1160, 1161, 115, 0, 0, 0, 0),
  (1166, 2, 1164, 1165, 115, 0, 0, 0, 0),
  (1170, 2, 1169, 20, 114, 4, 3, 0, 0),
  (1174, 2, 1172, 1173, 108, 6, 2, 0, 0),
  (1178, 4, 1177, 21, 114, 4, 1, 0, 0),
  (1183, 2, 1181, 1182, 108, 6, 0, 0, 0),
  (1187, 2, 1186, 22, 114, 4, 4, 0, 0),
  (1191, 2, 1189, 1190, 117, 8, 3, 0, 0),
  (1195, 3, 1194, 23, 117, 8, 2, 0, 0),
  (1200, 2, 1199, 100000, 121, 99, 0, 0, 0),
  (1204, 2, 1202, 1203, 117, 8, 3, 0, 0),
  (1207, 1, 1206, 100000, 121, 99, 0, 0, 0),
  (1211, 1, 1210, 24, 114, 4, 3, 0, 0),
  (1215, 2, 1214, 25, 114, 4, 2, 0, 0),
  (1219, 1, 1217, 1218, 117, 8, 1, 0, 0),
  (1222, 2, 1221, 100000, 121, 99, 0, 0, 0),
  (1226, 2, 1225, 26, 114, 4, 3, 0, 0),
  (1230, 2, 1228, 1229, 114, 4, 0, 0, 0),
  (1234, 3, 1232, 1233, 107, 11, 6, 0, 0),
  (1240, 1, 1238, 1239, 114, 4, 0, 0, 0),
  (1244, 3, 1242, 1243, 114, 4, 2, 0, 0),
  (1248, 3, 1247, 27, 114, 4, 1, 0, 0),
  (1253, 4, 1251, 1252, 107, 11, 2, 0, 0),
  (1259, 4, 1257, 1258, 107, 11, 3, 0, 0),
  (1263, 4, 1261, 1262, 108, 6, 2, 0, 0),
  (1268, 2, 1266, 1267, 107, 11, 7, 0, 0),
  (1272, 2, 1270, 1271, 107, 11, 6, 0, 0),
  (1276, 1, 1274, 1275, 114, 4, 0, 0, 0),
  (1280, 3, 1278, 1279, 118, 1, 5, 0, 0),
  (1284, 3, 1283, 28, 118, 1, 4, 0, 0),
  (1289, 1, 1287, 1288, 114, 4, 1, 0, 0),
  (1293, 1, 1291, 1292, 115, 0, 0, 0, 0),
  (1302, 5, 1301, 29, 118, 1, 3, 0, 0),
  (1308, 3, 1307, 30, 118, 1, 1, 0, 0),
  (1312, 1, 1310, 1311, 116, 5, 0, 0, 0),
  (1316, 2, 1314, 1315, 116, 5, 0, 0, 0),
  (1320, 2, 1318, 1319, 116, 5, 0, 0, 0),
  (1323, 4, 1322, 100000, 118, 1, 2, 0, 0),
  (1328, 2, 1326, 1327, 114, 4, 1, 0, 0),
  (1332, 5, 1331, 31, 118, 1, 1, 0, 0),
  (1337, 1, 1335, 1336, 118, 1, 0, 0, 0),
  (1341, 1, 1339, 1340, 114, 4, 2, 0, 0),
  (1346, 1, 1344, 1345, 114, 4, 1, 0, 0),
  (1350, 1, 1348, 1349, 114, 4, 1, 0, 0),
  (1355, 3, 1353, 1354, 107, 11, 6, 0, 0),
  (1361, 2, 1359, 1360, 114, 4, 3, 0, 0),
  (1365, 2, 1363, 1364, 114, 4, 2, 0, 0),
  (1370, 3, 1368, 1369, 107, 11, 6, 0, 0),
  (1374, 3, 1372, 1373, 107, 11, 6, 0, 0),
  (1378, 2, 1377, 100000, 107, 11, 2, 0, 0),
  (1381, 2, 1380, 100000, 107, 11, 1, 0, 0),
  (1385, 2, 1384, 100000, 107, 11, 2, 0, 0),
  (1389, 3, 1387, 1388, 107, 11, 6, 0, 0),
  (1393, 2, 1391, 1392, 114, 4, 0, 0, 0),
  (1397, 2, 1395, 1396, 114, 4, 1, 0, 0),
  (1403, 1, 1401, 1402, 107, 11, 99, 0, 0),
  (1409, 2, 1407, 1408, 113, 30, 3, 0, 0),
  (1412, 2, 1411, 100000, 123, 99, 2, 0, 0),
  (1415, 2, 1414, 100000, 113, 30, 1, 0, 0),
  (1418, 3, 1417, 100000, 125, 99, 0, 0, 0),
  (1429, 2, 1427, 1428, 108, 6, 0, 0, 0),
  (1433, 3, 1431, 1432, 112, 9, 0, 0, 0),
  (1438, 1, 1436, 1437, 107, 11, 6, 0, 0),
  (1442, 6, 1440, 1441, 107, 11, 7, 0, 0),
  (1445, 3, 1444, 100000, 107, 11, 1, 0, 0),
  (1449, 2, 1448, 100000, 107, 11, 1, 0, 0),
  (1454, 7, 1452, 1453, 119, 10, 1, 0, 0),
  (1458, 2, 1457, 32, 119, 10, 0, 0, 0),
  (1463, 4, 1461, 1462, 107, 11, 7, 0, 0),
  (1467, 2, 1465, 1466, 107, 11, 6, 0, 0),
  (1471, 3, 1469, 1470, 114, 4, 5, 0, 0),
  (1476, 2, 1474, 1475, 107, 11, 6, 0, 0),
  (1480, 1, 1478, 1479, 114, 4, 4, 0, 0),
  (1484, 2, 1482, 1483, 114, 4, 3, 0, 0),
  (1489, 2, 1487, 1488, 114, 4, 3, 0, 0),
  (1500, 4, 1498, 1499, 107, 11, 6, 0, 0),
  (1506, 3, 1504, 1505, 107, 11, 6, 0, 0),
  (1510, 3, 1508, 1509, 117, 8, 2, 0, 0),
  (1515, 2, 1513, 1514, 107, 11, 6, 0, 0),
  (1519, 3, 1517, 1518, 107, 11, 6, 0, 0),
  (1524, 3, 1522, 1523, 107, 11, 6, 0, 0),
  (1529, 3, 1527, 1528, 107, 11, 4, 0, 0),
  (1534, 3, 1532, 1533, 107, 11, 6, 0, 0),
  (1538, 3, 1536, 1537, 118, 1, 1, 0, 0),
  (1542, 4, 1541, 33, 118, 1, 0, 0, 0),
  (1547, 3, 1545, 1546, 107, 11, 2, 0, 0),
  (1551, 3, 1549, 1550, 108, 6, 1, 0, 0),
  (1555, 1, 1553, 1554, 107, 11, 4, 0, 0),
  (1559, 2, 1557, 1558, 109, 2, 3, 0, 0),
  (1563, 2, 1561, 1562, 107, 11, 4, 0, 0),
  (1567, 3, 1565, 1566, 109, 2, 3, 0, 0),
  (1571, 2, 1569, 1570, 107, 11, 4, 0, 0),
  (1575, 2, 1573, 1574, 109, 2, 0, 0, 0),
  (1579, 3, 1577, 1578, 109, 2, 3, 0, 0),
  (1584, 1, 1582, 1583, 107, 11, 3, 0, 0),
  (1588, 2, 1587, 34, 107, 11, 0, 0, 0),
  (1592, 2, 1591, 35, 107, 11, 1, 0, 0),
  (1596, 4, 1595, 36, 107, 11, 2, 0, 0),
  (1600, 2, 1598, 1599, 107, 11, 0, 0, 0),
  (1605, 1, 1604, 100001, 120, 12, 1, 27, 7976),
  (1765, 1, 1763, 1764, 120, 12, 1, 0, 0),
  (1769, 3, 1768, 37, 120, 12, 0, 0, 0),
  (1773, 2, 1771, 1772, 120, 12, 1, 0, 0),
  (1776, 3, 1775, 100000, 120, 12, 0, 0, 0),
  (1780, 2, 1778, 1779, 120, 12, 2, 0, 0),
  (1784, 2, 1783, 38, 120, 12, 1, 0, 0),
  (1788, 6, 1786, 1787, 120, 12, 1, 0, 0),
  (1792, 2, 1791, 39, 120, 12, 0, 0, 0),
  (1796, 2, 1794, 1795, 120, 12, 1, 0, 0),
  (1800, 1, 1798, 1799, 120, 12, 0, 0, 0),
  (1804, 1, 1802, 1803, 120, 12, 6, 0, 0),
  (1808, 1, 1807, 40, 120, 12, 0, 0, 0),
  (1812, 1, 1811, 41, 120, 12, 5, 0, 0),
  (1816, 1, 1815, 42, 120, 12, 0, 0, 0),
  (1820, 2, 1819, 43, 120, 12, 0, 0, 0),
  (1824, 1, 1823, 44, 120, 12, 4, 0, 0),
  (1828, 2, 1827, 45, 120, 12, 0, 0, 0),
  (1832, 5, 1831, 46, 120, 12, 3, 0, 0),
  (1836, 3, 1835, 47, 120, 12, 2, 0, 0),
  (1840, 5, 1839, 48, 120, 12, 1, 0, 0),
  (1843, 1, 1842, 100000, 120, 12, 0, 0, 0),
  (1847, 2, 1846, 49, 120, 12, 1, 0, 0),
  (1851, 1, 1850, 50, 120, 12, 4, 0, 0),
  (1855, 2, 1854, 51, 120, 12, 4, 0, 0),
  (1859, 4, 1858, 52, 120, 12, 2, 0, 0),
  (1863, 2, 1862, 100000, 120, 12, 0, 0, 0),
  (1867, 3, 1866, 53, 120, 12, 1, 0, 0),
  (1874, 5, 1873, 54, 120, 12, 0, 0, 0),
  (1878, 1, 1877, 55, 120, 12, 0, 0, 0),
  (1882, 1, 1880, 1881, 120, 12, 7, 0, 0),
  (1886, 1, 1885, 56, 120, 12, 6, 0, 0),
  (1890, 1, 1889, 57, 120, 12, 5, 0, 0),
  (1894, 1, 1893, 58, 120, 12, 4, 0, 0),
  (1898, 1, 1897, 59, 120, 12, 3, 0, 0),
  (1902, 1, 1901, 60, 120, 12, 2, 0, 0),
  (1905, 1, 1904, 100000, 120, 12, 0, 0, 0),
  (1909, 2, 1908, 61, 120, 12, 0, 0, 0),
  (1912, 1, 1911, 100000, 120, 12, 0, 0, 0),
  (1916, 1, 1915, 62, 120, 12, 2, 0, 0),
  (1920, 2, 1919, 63, 120, 12, 0, 0, 0),
  (1924, 1, 1923, 64, 120, 12, 1, 0, 0),
  (1928, 1, 1926, 1927, 120, 12, 8, 0, 0),
  (1932, 2, 1931, 65, 120, 12, 7, 0, 0),
  (1936, 1, 1935, 66, 120, 12, 6, 0, 0),
  (1940, 3, 1939, 67, 120, 12, 5, 0, 0),
  (1944, 2, 1943, 68, 120, 12, 2, 0, 0),
  (1948, 3, 1947, 69, 120, 12, 1, 0, 0),
  (1952, 3, 1951, 70, 120, 12, 0, 0, 0),
  (1956, 2, 1955, 71, 120, 12, 0, 0, 0),
  (1960, 3, 1959, 72, 120, 12, 4, 0, 0),
  (1964, 3, 1963, 73, 120, 12, 3, 0, 0),
  (1968, 2, 1967, 74, 120, 12, 0, 0, 0),
  (1972, 2, 1971, 75, 120, 12, 1, 0, 0),
  (1975, 1, 1974, 100000, 120, 12, 0, 0, 0),
  (1978, 8, 1977, 100000, 120, 12, 1, 0, 0),
  (1981, 1, 1980, 100000, 120, 12, 0, 0, 0),
  (1985, 1, 1984, 76, 120, 12, 4, 0, 0),
  (1989, 1, 1988, 77, 120, 12, 3, 0, 0),
  (1993, 3, 1992, 78, 120, 12, 2, 0, 0),
  (1998, 1, 1997, 79, 120, 12, 2, 0, 0),
  (2002, 2, 2001, 80, 120, 12, 1, 0, 0),
  (2005, 2, 2004, 100000, 120, 12, 0, 0, 0),
  (2009, 1, 2008, 81, 120, 12, 4, 0, 0),
  (2013, 4, 2012, 82, 120, 12, 0, 0, 0),
  (2017, 5, 2016, 83, 120, 12, 2, 0, 0),
  (2021, 2, 2020, 84, 120, 12, 2, 0, 0),
  (2025, 3, 2024, 85, 120, 12, 0, 0, 0),
  (2029, 1, 2028, 86, 120, 12, 1, 0, 0),
  (2033, 1, 2032, 87, 120, 12, 2, 0, 0),
  (2036, 3, 2035, 100000, 120, 12, 0, 0, 0),
  (2040, 2, 2038, 2039, 120, 12, 8, 0, 0),
  (2044, 3, 2042, 2043, 120, 12, 7, 0, 0),
  (2048, 2, 2047, 88, 120, 12, 1, 0, 0),
  (2053, 3, 2052, 100000, 120, 12, 1, 0, 0),
  (2056, 2, 2055, 100000, 120, 12, 0, 0, 0),
  (2060, 4, 2058, 2059, 120, 12, 7, 0, 0),
  (2065, 3, 2063, 2064, 120, 12, 7, 0, 0),
  (2070, 3, 2068, 2069, 120, 12, 7, 0, 0),
  (2073, 2, 2072, 100000, 120, 12, 0, 0, 0),
  (2078, 2, 2076, 2077, 120, 12, 3, 0, 0),
  (2083, 3, 2081, 2082, 120, 12, 3, 0, 0),
  (2087, 2, 2086, 89, 120, 12, 1, 0, 0),
  (2091, 3, 2089, 2090, 120, 12, 7, 0, 0),
  (2095, 2, 2094, 90, 120, 12, 1, 0, 0),
  (2099, 3, 2097, 2098, 120, 12, 7, 0, 0),
  (2103, 2, 2102, 91, 120, 12, 1, 0, 0),
  (2108, 2, 2107, 92, 120, 12, 2, 0, 0),
  (2112, 2, 2111, 93, 120, 12, 3, 0, 0),
  (2116, 3, 2115, 94, 120, 12, 1, 0, 0),
  (2120, 4, 2118, 2119, 120, 12, 3, 0, 0),
  (2126, 4, 2124, 2125, 120, 12, 3, 0, 0),
  (2130, 2, 2128, 2129, 120, 12, 8, 0, 0),
  (2134, 3, 2132, 2133, 120, 12, 7, 0, 0),
  (2138, 2, 2137, 95, 120, 12, 0, 0, 0),
  (2142, 2, 2141, 96, 120, 12, 3, 0, 0),
  (2146, 3, 2145, 97, 120, 12, 2, 0, 0),
  (2150, 3, 2148, 2149, 120, 12, 7, 0, 0),
  (2154, 1, 2152, 2153, 120, 12, 7, 0, 0),
  (2158, 6, 2156, 2157, 120, 12, 9, 0, 0),
  (2161, 4, 2160, 100000, 120, 12, 1, 0, 0),
  (2169, 5, 2168, 98, 120, 12, 8, 0, 0),
  (2174, 4, 2172, 2173, 120, 12, 9, 0, 0),
  (2178, 2, 2176, 2177, 120, 12, 7, 0, 0),
  (2182, 2, 2180, 2181, 120, 12, 6, 0, 0),
  (2186, 1, 2185, 99, 120, 12, 4, 0, 0),
  (2190, 1, 2189, 100, 120, 12, 4, 0, 0),
  (2194, 4, 2192, 2193, 120, 12, 2, 0, 0),
  (2198, 2, 2196, 2197, 120, 12, 3, 0, 0),
  (2202, 2, 2200, 2201, 120, 12, 2, 0, 0),
  (2206, 2, 2204, 2205, 120, 12, 2, 0, 0),
  (2210, 3, 2208, 2209, 120, 12, 2, 0, 0),
  (2215, 3, 2213, 2214, 120, 12, 7, 0, 0),
  (2219, 3, 2218, 101, 120, 12, 2, 0, 0),
  (2223, 2, 2221, 2222, 120, 12, 7, 0, 0),
  (2227, 3, 2225, 2226, 120, 12, 7, 0, 0),
  (2231, 3, 2229, 2230, 120, 12, 7, 0, 0),
  (2235, 3, 2233, 2234, 120, 12, 1, 0, 0),
  (2240, 1, 2238, 2239, 120, 12, 5, 0, 0),
  (2244, 1, 2243, 102, 120, 12, 3, 0, 0),
  (2248, 2, 2247, 103, 120, 12, 4, 0, 0),
  (2256, 1, 2254, 2255, 120, 12, 0, 0, 0),
  (2260, 1, 2258, 2259, 120, 12, 2, 0, 0),
  (2264, 2, 2263, 104, 120, 12, 0, 0, 0),
  (2268, 3, 2267, 105, 120, 12, 1, 0, 0),
  (2272, 2, 2270, 2271, 120, 12, 1, 0, 0),
  (999999, 1, 0, 100000, 0, 99, 99, 358, 25602)]
def mD : gMI := (⟨"", "", ""⟩, .mk #[], 0, none, 0, 0, 0, 0, 0, 0, 0, 0, 0)
def mOf (e : gMN) : gMI := if e.1 = 999999 then (x, code, maxLocals, ret, e.2.1, e.1, e.2.2) else match lw_tbl[e.1]? with
  | some (.code n c m r) => (n, c, m, r, e.2.1, e.1, e.2.2)
  | _ => mD
def mt (y : Nat) : gMI := match mN[y]? with
  | some e => mOf e
  | none => mD
abbrev gE : Type := Instr × Nat × Nat × Nat × Int × Nat
