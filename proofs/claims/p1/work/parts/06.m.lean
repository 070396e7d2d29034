/-! ===== the memory behind the constructors ===== -/
def zKL : List (Nat × Nat) := [(98, 0), (20, 9), (20, 9), (20, 9), (30, 0), (21, 8), (11, 0), (6, 0), (20, 8), (22, 8), (20, 60), (20, 60), (20, 60), (20, 60), (20, 12), (20, 12), (20, 12), (20, 9), (21, 500), (6, 0), (20, 8), (22, 8), (20, 60), (20, 60), (20, 60), (20, 60), (20, 12), (20, 12), (20, 12), (20, 9), (21, 500), (2, 0), (24, 8), (24, 2), (22, 2), (6, 0), (20, 8), (22, 8), (20, 60), (20, 60), (20, 60), (20, 60), (20, 12), (20, 12), (20, 12), (20, 9), (21, 500), (6, 0), (20, 8), (22, 8), (20, 60), (20, 60), (20, 60), (20, 60), (20, 12), (20, 12), (20, 12), (20, 9), (21, 500), (6, 0), (20, 8), (22, 8), (20, 60), (20, 60), (20, 60), (20, 60), (20, 12), (20, 12), (20, 12), (20, 9), (21, 500), (6, 0), (20, 8), (22, 8), (20, 60), (20, 60), (20, 60), (20, 60), (20, 12), (20, 12), (20, 12), (20, 9), (21, 500), (6, 0), (20, 8), (22, 8), (20, 60), (20, 60), (20, 60), (20, 60), (20, 12), (20, 12), (20, 12), (20, 9), (21, 500), (6, 0), (20, 8), (22, 8), (20, 60), (20, 60), (20, 60), (20, 60), (20, 12), (20, 12), (20, 12), (20, 9), (21, 500), (6, 0), (20, 8), (22, 8), (20, 60), (20, 60), (20, 60), (20, 60), (20, 12), (20, 12), (20, 12), (20, 9), (21, 500), (6, 0), (20, 8), (22, 8), (20, 60), (20, 60), (20, 60), (20, 60), (20, 12), (20, 12), (20, 12), (20, 9), (21, 500), (6, 0), (20, 8), (22, 8), (20, 60), (20, 60), (20, 60), (20, 60), (20, 12), (20, 12), (20, 12), (20, 9), (21, 500), (6, 0), (20, 8), (22, 8), (20, 60), (20, 60), (20, 60), (20, 60), (20, 12), (20, 12), (20, 12), (20, 9), (21, 500), (7, 0), (21, 500), (3, 0), (20, 4), (20, 20), (20, 80), (9, 0), (20, 8), (21, 500), (4, 0), (0, 0), (5, 0), (20, 287), (20, 287), (20, 56), (20, 328), (20, 60), (20, 60), (20, 60), (20, 128), (20, 128), (20, 128), (20, 128), (20, 60), (25, 20), (20, 287), (8, 0), (20, 8), (20, 8), (8, 0), (20, 8), (20, 8), (8, 0), (20, 8), (20, 8), (8, 0), (20, 8), (20, 8), (8, 0), (20, 8), (20, 8), (8, 0), (20, 8), (20, 8), (8, 0), (20, 8), (20, 8), (8, 0), (20, 8), (20, 8), (8, 0), (20, 8), (20, 8), (8, 0), (20, 8), (20, 8), (8, 0), (20, 8), (20, 8), (8, 0), (20, 8), (20, 8), (8, 0), (20, 8), (20, 8), (8, 0), (20, 8), (20, 8), (8, 0), (20, 8), (20, 8), (8, 0), (20, 8), (20, 8), (8, 0), (20, 8), (20, 8), (8, 0), (20, 8), (20, 8), (8, 0), (20, 8), (20, 8), (8, 0), (20, 8), (20, 8), (0, 0), (5, 0), (20, 287), (20, 287), (20, 56), (20, 328), (20, 60), (20, 60), (20, 60), (20, 128), (20, 128), (20, 128), (20, 128), (20, 60), (25, 20), (20, 287), (8, 0), (20, 8), (20, 8), (8, 0), (20, 8), (20, 8), (8, 0), (20, 8), (20, 8), (8, 0), (20, 8), (20, 8), (8, 0), (20, 8), (20, 8), (8, 0), (20, 8), (20, 8), (8, 0), (20, 8), (20, 8), (8, 0), (20, 8), (20, 8), (8, 0), (20, 8), (20, 8), (8, 0), (20, 8), (20, 8), (8, 0), (20, 8), (20, 8), (8, 0), (20, 8), (20, 8), (8, 0), (20, 8), (20, 8), (8, 0), (20, 8), (20, 8), (8, 0), (20, 8), (20, 8), (8, 0), (20, 8), (20, 8), (8, 0), (20, 8), (20, 8), (8, 0), (20, 8), (20, 8), (8, 0), (20, 8), (20, 8), (8, 0), (20, 8), (20, 8), (20, 60), (20, 12), (20, 240), (20, 20), (20, 20), (20, 20), (22, 8), (20, 8), (1, 0), (20, 9), (20, 180), (20, 180), (20, 180), (20, 60), (20, 60), (10, 0), (20, 8), (20, 200), (21, 128), (12, 0), (20, 6072), (22, 2), (21, 500), (20, 200), (20, 40), (20, 60), (22, 60), (20, 60), (20, 20), (20, 20), (20, 20), (20, 20), (20, 160), (20, 60), (23, 20), (23, 20), (23, 20), (23, 20), (20, 20), (20, 20), (23, 20), (20, 20), (20, 84), (20, 8), (20, 200), (20, 80), (21, 150)]
def zPL : List (List (Option Nat)) := [[], [], [], [], [], [], [some 7, some 19, some 31, some 155, some 157, some 161, some 164, some 325, some 332, some 335], [none, some 8, some 9, none, some 10, some 11, some 12, some 13, none, some 14, some 15, some 16, some 17, none, some 18], [], [], [], [], [], [], [], [], [], [], [], [none, some 20, some 21, none, some 22, some 23, some 24, some 25, none, some 26, some 27, some 28, some 29, none, some 30], [], [], [], [], [], [], [], [], [], [], [], [some 32, none, none, some 33, some 34], [some 35, some 47, some 59, some 71, some 83, some 95, some 107, some 119], [some 131, some 143], [], [none, some 36, some 37, none, some 38, some 39, some 40, some 41, none, some 42, some 43, some 44, some 45, none, some 46], [], [], [], [], [], [], [], [], [], [], [], [none, some 48, some 49, none, some 50, some 51, some 52, some 53, none, some 54, some 55, some 56, some 57, none, some 58], [], [], [], [], [], [], [], [], [], [], [], [none, some 60, some 61, none, some 62, some 63, some 64, some 65, none, some 66, some 67, some 68, some 69, none, some 70], [], [], [], [], [], [], [], [], [], [], [], [none, some 72, some 73, none, some 74, some 75, some 76, some 77, none, some 78, some 79, some 80, some 81, none, some 82], [], [], [], [], [], [], [], [], [], [], [], [none, some 84, some 85, none, some 86, some 87, some 88, some 89, none, some 90, some 91, some 92, some 93, none, some 94], [], [], [], [], [], [], [], [], [], [], [], [none, some 96, some 97, none, some 98, some 99, some 100, some 101, none, some 102, some 103, some 104, some 105, none, some 106], [], [], [], [], [], [], [], [], [], [], [], [none, some 108, some 109, none, some 110, some 111, some 112, some 113, none, some 114, some 115, some 116, some 117, none, some 118], [], [], [], [], [], [], [], [], [], [], [], [none, some 120, some 121, none, some 122, some 123, some 124, some 125, none, some 126, some 127, some 128, some 129, none, some 130], [], [], [], [], [], [], [], [], [], [], [], [none, some 132, some 133, none, some 134, some 135, some 136, some 137, none, some 138, some 139, some 140, some 141, none, some 142], [], [], [], [], [], [], [], [], [], [], [], [none, some 144, some 145, none, some 146, some 147, some 148, some 149, none, some 150, some 151, some 152, some 153, none, some 154], [], [], [], [], [], [], [], [], [], [], [], [some 156], [], [some 158, some 159, some 160], [], [], [], [some 162, some 163], [], [], [none, some 165, some 241, none, none, none, some 317, some 318, some 319, none, some 320, some 321, some 322, some 323, some 324], [some 166, some 179, none, some 180], [none, some 167, some 168, some 169, some 170, none, none, some 171, some 172, some 173, none, some 174, some 175, some 176, some 177, none, some 178], [], [], [], [], [], [], [], [], [], [], [], [], [some 181, some 184, some 187, some 190, some 193, some 196, some 199, some 202, some 205, some 208, some 211, some 214, some 217, some 220, some 223, some 226, some 229, some 232, some 235, some 238], [], [none, none, none, none, none, none, some 182, some 183], [], [], [none, none, none, none, none, none, some 185, some 186], [], [], [none, none, none, none, none, none, some 188, some 189], [], [], [none, none, none, none, none, none, some 191, some 192], [], [], [none, none, none, none, none, none, some 194, some 195], [], [], [none, none, none, none, none, none, some 197, some 198], [], [], [none, none, none, none, none, none, some 200, some 201], [], [], [none, none, none, none, none, none, some 203, some 204], [], [], [none, none, none, none, none, none, some 206, some 207], [], [], [none, none, none, none, none, none, some 209, some 210], [], [], [none, none, none, none, none, none, some 212, some 213], [], [], [none, none, none, none, none, none, some 215, some 216], [], [], [none, none, none, none, none, none, some 218, some 219], [], [], [none, none, none, none, none, none, some 221, some 222], [], [], [none, none, none, none, none, none, some 224, some 225], [], [], [none, none, none, none, none, none, some 227, some 228], [], [], [none, none, none, none, none, none, some 230, some 231], [], [], [none, none, none, none, none, none, some 233, some 234], [], [], [none, none, none, none, none, none, some 236, some 237], [], [], [none, none, none, none, none, none, some 239, some 240], [], [], [some 242, some 255, none, some 256], [none, some 243, some 244, some 245, some 246, none, none, some 247, some 248, some 249, none, some 250, some 251, some 252, some 253, none, some 254], [], [], [], [], [], [], [], [], [], [], [], [], [some 257, some 260, some 263, some 266, some 269, some 272, some 275, some 278, some 281, some 284, some 287, some 290, some 293, some 296, some 299, some 302, some 305, some 308, some 311, some 314], [], [none, none, none, none, none, none, some 258, some 259], [], [], [none, none, none, none, none, none, some 261, some 262], [], [], [none, none, none, none, none, none, some 264, some 265], [], [], [none, none, none, none, none, none, some 267, some 268], [], [], [none, none, none, none, none, none, some 270, some 271], [], [], [none, none, none, none, none, none, some 273, some 274], [], [], [none, none, none, none, none, none, some 276, some 277], [], [], [none, none, none, none, none, none, some 279, some 280], [], [], [none, none, none, none, none, none, some 282, some 283], [], [], [none, none, none, none, none, none, some 285, some 286], [], [], [none, none, none, none, none, none, some 288, some 289], [], [], [none, none, none, none, none, none, some 291, some 292], [], [], [none, none, none, none, none, none, some 294, some 295], [], [], [none, none, none, none, none, none, some 297, some 298], [], [], [none, none, none, none, none, none, some 300, some 301], [], [], [none, none, none, none, none, none, some 303, some 304], [], [], [none, none, none, none, none, none, some 306, some 307], [], [], [none, none, none, none, none, none, some 309, some 310], [], [], [none, none, none, none, none, none, some 312, some 313], [], [], [none, none, none, none, none, none, some 315, some 316], [], [], [], [], [], [], [], [], [], [], [none, none, some 326, some 327, some 328, some 329, some 330, some 331], [], [], [], [], [], [], [none, none, none, none, some 333, some 334], [], [], [], [some 337, none, some 338, none, some 339, none, none, none, none, some 340, some 341, none, none, none, none, some 342, some 343, some 344, none, none, none, none, none, some 345, some 346, some 347, some 348, some 349, some 350, some 351, some 352, some 353, some 354, some 355, some 356, some 357, some 358, none, some 359, none, some 360, some 361, none, none, none, none, some 362, none, none, some 363], [], [], [], [], [], [], [], [], [], [], [], [], [], [], [], [], [], [], [], [], [], [], [], [], [], [], []]
def zIL : List (Nat × List Int32) := [(1, [1, 10, 10, 3, 20, 0, 999, 100, 50]), (2, [0, 0, 1, 2, 0, 0, 0, 1, 0]), (3, [3, 20, 500, 8, 999, 999, 999, 9999, 9999]), (5, [110, 104, 118, 103, 109, 108, 117, 111]), (6, [0, 0, 0, 0, 0, 0, 0, 0, 0, 0, 0, (-1), (-1)]), (17, [1, 10, 10, 3, 20, 0, 999, 100, 50]), (29, [1, 10, 10, 3, 20, 0, 999, 100, 50]), (45, [1, 10, 10, 3, 20, 0, 999, 100, 50]), (57, [1, 10, 10, 3, 20, 0, 999, 100, 50]), (69, [1, 10, 10, 3, 20, 0, 999, 100, 50]), (81, [1, 10, 10, 3, 20, 0, 999, 100, 50]), (93, [1, 10, 10, 3, 20, 0, 999, 100, 50]), (105, [1, 10, 10, 3, 20, 0, 999, 100, 50]), (117, [1, 10, 10, 3, 20, 0, 999, 100, 50]), (129, [1, 10, 10, 3, 20, 0, 999, 100, 50]), (141, [1, 10, 10, 3, 20, 0, 999, 100, 50]), (153, [1, 10, 10, 3, 20, 0, 999, 100, 50]), (155, [0, 0, 0, (-1), 0, 0]), (161, [0, 0, 0, 0, 0, (-1)]), (164, [0, 0, 0, 2, 0, 0, 0, 0, 0, 0, 0, 0, 0, 0, 0]), (166, [0, 0, 0, 0, 0, 1, 0, 0, 0, 0, 0, 0, 0, 0, 0, 0, 0, 0, 0]), (242, [0, 0, 0, 0, 0, 1, 0, 0, 0, 0, 0, 0, 0, 0, 0, 0, 0, 0, 0]), (336, [0, 0, 0, 0, 0, 0, 0, (-1), 0, 0, 0, 0, 0, 0, 0, 0, 0, 0, 0, 0, 0, 0, 0, 0, 0, 0, 0, 0, 0, 0, 0, 0, 0, 0, 0, 0, 0, 0, 0, 0, 0, 0, 0, 0, 0, 0, 0, 0, (-1), 0, 0]), (337, [0, 0, 0, 0, 0, 1, 10, 10, 3, 20, 0, 999, 100, 50])]
def zJL : List (Nat × List Int64) := [(181, [0, 0, 0, 0, 0, 0, 0, 0, 1, 0, 0, 0]), (184, [0, 0, 0, 0, 0, 0, 0, 0, 1, 0, 0, 0]), (187, [0, 0, 0, 0, 0, 0, 0, 0, 1, 0, 0, 0]), (190, [0, 0, 0, 0, 0, 0, 0, 0, 1, 0, 0, 0]), (193, [0, 0, 0, 0, 0, 0, 0, 0, 1, 0, 0, 0]), (196, [0, 0, 0, 0, 0, 0, 0, 0, 1, 0, 0, 0]), (199, [0, 0, 0, 0, 0, 0, 0, 0, 1, 0, 0, 0]), (202, [0, 0, 0, 0, 0, 0, 0, 0, 1, 0, 0, 0]), (205, [0, 0, 0, 0, 0, 0, 0, 0, 1, 0, 0, 0]), (208, [0, 0, 0, 0, 0, 0, 0, 0, 1, 0, 0, 0]), (211, [0, 0, 0, 0, 0, 0, 0, 0, 1, 0, 0, 0]), (214, [0, 0, 0, 0, 0, 0, 0, 0, 1, 0, 0, 0]), (217, [0, 0, 0, 0, 0, 0, 0, 0, 1, 0, 0, 0]), (220, [0, 0, 0, 0, 0, 0, 0, 0, 1, 0, 0, 0]), (223, [0, 0, 0, 0, 0, 0, 0, 0, 1, 0, 0, 0]), (226, [0, 0, 0, 0, 0, 0, 0, 0, 1, 0, 0, 0]), (229, [0, 0, 0, 0, 0, 0, 0, 0, 1, 0, 0, 0]), (232, [0, 0, 0, 0, 0, 0, 0, 0, 1, 0, 0, 0]), (235, [0, 0, 0, 0, 0, 0, 0, 0, 1, 0, 0, 0]), (238, [0, 0, 0, 0, 0, 0, 0, 0, 1, 0, 0, 0]), (257, [0, 0, 0, 0, 0, 0, 0, 0, 1, 0, 0, 0]), (260, [0, 0, 0, 0, 0, 0, 0, 0, 1, 0, 0, 0]), (263, [0, 0, 0, 0, 0, 0, 0, 0, 1, 0, 0, 0]), (266, [0, 0, 0, 0, 0, 0, 0, 0, 1, 0, 0, 0]), (269, [0, 0, 0, 0, 0, 0, 0, 0, 1, 0, 0, 0]), (272, [0, 0, 0, 0, 0, 0, 0, 0, 1, 0, 0, 0]), (275, [0, 0, 0, 0, 0, 0, 0, 0, 1, 0, 0, 0]), (278, [0, 0, 0, 0, 0, 0, 0, 0, 1, 0, 0, 0]), (281, [0, 0, 0, 0, 0, 0, 0, 0, 1, 0, 0, 0]), (284, [0, 0, 0, 0, 0, 0, 0, 0, 1, 0, 0, 0]), (287, [0, 0, 0, 0, 0, 0, 0, 0, 1, 0, 0, 0]), (290, [0, 0, 0, 0, 0, 0, 0, 0, 1, 0, 0, 0]), (293, [0, 0, 0, 0, 0, 0, 0, 0, 1, 0, 0, 0]), (296, [0, 0, 0, 0, 0, 0, 0, 0, 1, 0, 0, 0]), (299, [0, 0, 0, 0, 0, 0, 0, 0, 1, 0, 0, 0]), (302, [0, 0, 0, 0, 0, 0, 0, 0, 1, 0, 0, 0]), (305, [0, 0, 0, 0, 0, 0, 0, 0, 1, 0, 0, 0]), (308, [0, 0, 0, 0, 0, 0, 0, 0, 1, 0, 0, 0]), (311, [0, 0, 0, 0, 0, 0, 0, 0, 1, 0, 0, 0]), (314, [0, 0, 0, 0, 0, 0, 0, 0, 1, 0, 0, 0])]
def zK1 (n : Nat) : Nat → Nat × Nat := fun k => (zKL.take n).getD k (99, 0)
def zPq : Nat → Nat → Option Nat := fun k j => (zPL.getD k []).getD j none
def zI1 : Nat → Nat → Int32 := fun k j => ((zIL.lookup k).getD []).getD j 0
def zJ1 : Nat → Nat → Int64 := fun k j => ((zJL.lookup k).getD []).getD j 0
/-- behind the first constructor, behind both -/
def zMx : zM := (336, zK1 336, zI1, zJ1, zPq)
def zMe : zM := (364, zK1 364, zI1, zJ1, zPq)
/-- cells from the sixth on that hold the same -/
def zsimB (M M' : zM) : Bool := decide (zN M = zN M') && (List.range (zN M - 6)).all fun i => decide (zK M (i + 6) = zK M' (i + 6)) &&
  (if (zK M (i + 6)).1 < 20 then (List.range (cN (zK M (i + 6)).1)).all fun j => decide (zfv M (i + 6) (cY (zK M (i + 6)).1 j) j = zfv M' (i + 6) (cY (zK M (i + 6)).1 j) j)
   else if (zK M (i + 6)).1 < 23 then (List.range (zK M (i + 6)).2).all fun j => decide (zI M (i + 6) j = zI M' (i + 6) j)
   else if (zK M (i + 6)).1 = 23 then (List.range (zK M (i + 6)).2).all fun j => decide (zJ M (i + 6) j = zJ M' (i + 6) j)
   else (List.range (zK M (i + 6)).2).all fun j => decide (zP M (i + 6) j = zP M' (i + 6) j))
theorem zarrV {cA n : Nat} {f g : Nat → Value} (h : ∀ j, j < n → f j = g j) : arrV cA n f = arrV cA n g := by
  unfold arrV
  congr 1
  refine Array.ext_getElem? fun j => ?_
  by_cases hj : j < n
  · rw [Array.getElem?_ofFn, Array.getElem?_ofFn, dif_pos hj, dif_pos hj, h j hj]
  · rw [Array.getElem?_eq_none (by simp; omega), Array.getElem?_eq_none (by simp; omega)]
theorem zsim_at {X : zX} {M M' : zM} {H : Heap} {k a : Nat} (hK : zK M k = zK M' k)
    (h : if (zK M k).1 < 20 then ∀ j, j < cN (zK M k).1 → zfv M k (cY (zK M k).1 j) j = zfv M' k (cY (zK M k).1 j) j else if (zK M k).1 < 23 then ∀ j, j < (zK M k).2 → zI M k j = zI M' k j else if (zK M k).1 = 23 then ∀ j, j < (zK M k).2 → zJ M k j = zJ M' k j else ∀ j, j < (zK M k).2 → zP M k j = zP M' k j)
    (ha : va_at X.1 cls (a, zE X M k) H) : va_at X.1 cls (a, zE X M' k) H := by
  by_cases h1 : (zK M k).1 < 20
  · rw [if_pos h1] at h
    rw [zE_obj rfl h1] at ha
    rw [zE_obj (M := M') (c := (zK M k).1) (by rw [hK]) h1]
    rw [← List.map_congr_left (fun j hj => congrArg (zcv X) (h j (List.mem_range.mp hj)))]
    exact ha
  · rw [if_neg h1] at h
    by_cases h2 : (zK M k).1 < 23
    · rw [if_pos h2] at h
      rw [zE_int rfl (by omega) h2] at ha
      rw [zE_int (M := M') (c := (zK M k).1) (by rw [hK]) (by omega) h2, ← hK]
      refine Eq.trans ha ?_
      rw [vp_cell_i, vp_cell_i]
      exact congrArg some (zarrV fun j hj => by rw [h j hj])
    · rw [if_neg h2] at h
      by_cases h3 : (zK M k).1 = 23
      · rw [if_pos h3] at h
        rw [zE_long h3] at ha
        rw [zE_long (M := M') (by rw [← hK]; exact h3), ← hK]
        refine Eq.trans ha ?_
        rw [vp_cell_l, vp_cell_l]
        exact congrArg some (zarrV fun j hj => by rw [h j hj])
      · rw [if_neg h3] at h
        rw [zE_ref rfl (by omega)] at ha
        rw [zE_ref (M := M') (c := (zK M k).1) (by rw [hK]) (by omega), ← hK]
        refine Eq.trans ha ?_
        rw [vp_cell_q, vp_cell_q]
        exact congrArg some (zarrV fun j hj => by rw [h j hj])
/-- a memory in a plain form: the first six cells as at the start, no kinds beyond its end, bytes and booleans as such -/
def zgm (M : zM) : Prop := 6 ≤ zN M ∧ zWf M ∧ (∀ k, k < 6 → zK M k = zK zM0 k ∧ zI M k = zI zM0 k) ∧ ∀ k, (zK M k).1 < 30 → k < zN M
theorem zRel.sim {X : zX} {M M' : zM} {H : Heap} (h : zRel X M H) (hs : zsimB M M' = true) (hg : zgm M') : zRel X M' H := by
  obtain ⟨h1, h2, h3, h4, h5, h7, h8⟩ := h
  obtain ⟨g1, g2, g3, g4⟩ := hg
  unfold zsimB at hs
  rw [Bool.and_eq_true, decide_eq_true_eq] at hs
  obtain ⟨hN, hs⟩ := hs
  refine ⟨g1, by rw [h2, hN], fun k hk hb => ?_, g2, h5, g3, g4⟩
  have hkN : k < zN M := by rw [hN]; exact g4 k hb
  have hc := List.all_eq_true.mp hs (k - 6) (List.mem_range.mpr (show k - 6 < zN M - 6 by omega))
  rw [show k - 6 + 6 = k by omega, Bool.and_eq_true, decide_eq_true_eq] at hc
  refine zsim_at hc.1 ?_ (h3 k hk (by rw [hc.1]; exact hb))
  have hc := hc.2
  by_cases e1 : (zK M k).1 < 20
  · rw [if_pos e1] at hc ⊢
    exact fun j hj => of_decide_eq_true (List.all_eq_true.mp hc j (List.mem_range.mpr hj))
  · rw [if_neg e1] at hc ⊢
    by_cases e2 : (zK M k).1 < 23
    · rw [if_pos e2] at hc ⊢
      exact fun j hj => of_decide_eq_true (List.all_eq_true.mp hc j (List.mem_range.mpr hj))
    · rw [if_neg e2] at hc ⊢
      by_cases e3 : (zK M k).1 = 23
      · rw [if_pos e3] at hc ⊢
        exact fun j hj => of_decide_eq_true (List.all_eq_true.mp hc j (List.mem_range.mpr hj))
      · rw [if_neg e3] at hc ⊢
        exact fun j hj => of_decide_eq_true (List.all_eq_true.mp hc j (List.mem_range.mpr hj))
theorem zsim_K {X : zX} {M M' : zM} {H : Heap} (h : zRel X M H) (hs : zsimB M M' = true) (hg : zgm M') : zN M' = zN M ∧ ∀ k, k < zN M → zK M' k = zK M k := by
  unfold zsimB at hs
  rw [Bool.and_eq_true, decide_eq_true_eq] at hs
  refine ⟨hs.1.symm, fun k hk => ?_⟩
  by_cases h6 : k < 6
  · rw [(hg.2.2.1 k h6).1, (h.2.2.2.2.2.1 k h6).1]
  · have hc := List.all_eq_true.mp hs.2 (k - 6) (List.mem_range.mpr (show k - 6 < zN M - 6 by omega))
    rw [show k - 6 + 6 = k by omega, Bool.and_eq_true, decide_eq_true_eq] at hc
    exact hc.1.symm
theorem zGo.sim {X : zX} {l : Launch} {d kc ks y pc : Nat} {ls : List (Nat × Value)} {st : List Value} {M M' : zM} {Q : Option Value → zM → Prop} (hs : zsimB M M' = true) (hg : zgm M') (h : zGo X l d kc ks y pc ls st M' Q) : zGo X l d kc ks y pc ls st M Q := by
  intro p e R s m args below meth c H locs cells slots Qw lsA C
  have hK := zsim_K C.2.2.2.1 hs hg
  refine h p e R s m args below meth c H locs cells slots Qw lsA ⟨C.1, C.2.1, C.2.2.1, C.2.2.2.1.sim hs hg, C.2.2.2.2.1, ?_⟩
  obtain ⟨Me, f1, f2, f3⟩ := C.2.2.2.2.2
  have e1 := f1.1
  exact ⟨Me, ⟨by rw [hK.1]; exact e1, fun k hk => by rw [hK.2 k (by omega)]; exact f1.2.1 k hk, fun k k1 k2 => by rw [hK.1] at k2; rw [hK.2 k k2]; exact f1.2.2 k k1 k2⟩, f2, f3⟩
theorem zgm_of {n : Nat} {I : Nat → Nat → Int32} {J : Nat → Nat → Int64} {P : Nat → Nat → Option Nat} (h6 : 6 ≤ n) (hn : n ≤ zKL.length) (hI : ∀ k, k < 6 → I k = zI zM0 k) (hk : ∀ k, k < 6 → zK1 n k = zK zM0 k) (hw : zWf (n, zK1 n, I, J, P)) : zgm (n, zK1 n, I, J, P) := by
  refine ⟨h6, hw, fun k hk6 => ⟨hk k hk6, hI k hk6⟩, fun k h => ?_⟩
  show k < n
  rcases Nat.lt_or_ge k n with q | q
  · exact q
  · exfalso
    have h : (zK1 n k).1 < 30 := h
    unfold zK1 at h
    rw [List.getD_eq_getElem?_getD, List.getElem?_eq_none (by rw [List.length_take]; omega)] at h
    exact absurd h (by decide)
theorem zfit0 : fits .byte (.int 0) = true ∧ fits .boolean (.int 0) = true := ⟨rfl, rfl⟩
theorem zK1_21 : ∀ k, k < 364 → ((zKL.getD k (99, 0)).1 = 21 ∨ (zKL.getD k (99, 0)).1 = 22) → k = 5 ∨ zIL.lookup k = none := by decide +kernel
theorem zK1_le {n k : Nat} (h : (zK1 n k).1 ≠ 99) : zK1 n k = zKL.getD k (99, 0) ∧ k < 364 := by
  unfold zK1 at h ⊢
  rw [List.getD_eq_getElem?_getD, List.getElem?_take] at h ⊢
  by_cases hk : k < n
  · rw [if_pos hk] at h ⊢
    refine ⟨(List.getD_eq_getElem?_getD ..).symm, ?_⟩
    rcases Nat.lt_or_ge k 364 with q | q
    · exact q
    · rw [List.getElem?_eq_none (by rw [show zKL.length = 364 by decide +kernel]; exact q)] at h
      exact absurd rfl h
  · rw [if_neg hk] at h
    exact absurd rfl h
theorem zwf1 (n : Nat) (J : Nat → Nat → Int64) (P : Nat → Nat → Option Nat) : zWf (n, zK1 n, zI1, J, P) := by
  intro k j
  have key : ((zK1 n k).1 = 21 ∨ (zK1 n k).1 = 22) → k = 5 ∨ zI1 k j = 0 := by
    intro h
    obtain ⟨e1, e2⟩ := zK1_le (n := n) (k := k) (by rcases h with h | h <;> rw [h] <;> decide)
    rw [e1] at h
    rcases zK1_21 k e2 h with q | q
    · exact Or.inl q
    · right
      unfold zI1
      rw [q]
      rfl
  refine ⟨fun h => ?_, fun h => ?_⟩
  · rcases key (Or.inl h) with q | q
    · subst q
      show fits .byte (.int (zI1 5 j)) = true
      rcases Nat.lt_or_ge j 8 with hj | hj
      · exact (show ∀ j, j < 8 → fits .byte (.int (zI1 5 j)) = true by decide +kernel) j hj
      · rw [show zI1 5 j = 0 from by
          show (([110, 104, 118, 103, 109, 108, 117, 111] : List Int32)).getD j 0 = 0
          rw [List.getD_eq_getElem?_getD, List.getElem?_eq_none (show List.length ([110, 104, 118, 103, 109, 108, 117, 111] : List Int32) ≤ j from hj)]
          rfl]
        exact zfit0.1
    · show fits .byte (.int (zI1 k j)) = true
      rw [q]
      exact zfit0.1
  · rcases key (Or.inr h) with q | q
    · subst q
      have h : (zK1 n 5).1 = 22 := h
      obtain ⟨e1, -⟩ := zK1_le (n := n) (k := 5) (by rw [h]; decide)
      rw [e1] at h
      exact absurd h (by decide +kernel)
    · show fits .boolean (.int (zI1 k j)) = true
      rw [q]
      exact zfit0.2
theorem zI16 : ∀ k, k < 6 → zI1 k = zI zM0 k := by
  intro k hk
  match k, hk with
  | 0, _ => rfl
  | 1, _ => rfl
  | 2, _ => rfl
  | 3, _ => rfl
  | 4, _ => rfl
  | 5, _ => rfl
theorem zgx : zgm zMx := zgm_of (by decide) (by decide +kernel) zI16 (by decide +kernel) (zwf1 336 _ _)
theorem zge : zgm zMe := zgm_of (by decide) (by decide +kernel) zI16 (by decide +kernel) (zwf1 364 _ _)

