theorem lin100000 : (-100000 : Int32).toInt = (-100000) := by decide
theorem lin10 : (-10 : Int32).toInt = (-10) := by decide
theorem lin1 : (-1 : Int32).toInt = (-1) := by decide
theorem li0 : (0 : Int32).toInt = 0 := by decide
theorem li1 : (1 : Int32).toInt = 1 := by decide
theorem li2 : (2 : Int32).toInt = 2 := by decide
theorem li3 : (3 : Int32).toInt = 3 := by decide
theorem li4 : (4 : Int32).toInt = 4 := by decide
theorem li5 : (5 : Int32).toInt = 5 := by decide
theorem li6 : (6 : Int32).toInt = 6 := by decide
theorem li7 : (7 : Int32).toInt = 7 := by decide
theorem li8 : (8 : Int32).toInt = 8 := by decide
theorem li9 : (9 : Int32).toInt = 9 := by decide
theorem li10 : (10 : Int32).toInt = 10 := by decide
theorem li11 : (11 : Int32).toInt = 11 := by decide
theorem li12 : (12 : Int32).toInt = 12 := by decide
theorem li13 : (13 : Int32).toInt = 13 := by decide
theorem li14 : (14 : Int32).toInt = 14 := by decide
theorem li15 : (15 : Int32).toInt = 15 := by decide
theorem li16 : (16 : Int32).toInt = 16 := by decide
theorem li19 : (19 : Int32).toInt = 19 := by decide
theorem li20 : (20 : Int32).toInt = 20 := by decide
theorem li30 : (30 : Int32).toInt = 30 := by decide
theorem li50 : (50 : Int32).toInt = 50 := by decide
theorem li63 : (63 : Int32).toInt = 63 := by decide
theorem li100 : (100 : Int32).toInt = 100 := by decide
theorem li103 : (103 : Int32).toInt = 103 := by decide
theorem li104 : (104 : Int32).toInt = 104 := by decide
theorem li105 : (105 : Int32).toInt = 105 := by decide
theorem li106 : (106 : Int32).toInt = 106 := by decide
theorem li107 : (107 : Int32).toInt = 107 := by decide
theorem li108 : (108 : Int32).toInt = 108 := by decide
theorem li109 : (109 : Int32).toInt = 109 := by decide
theorem li110 : (110 : Int32).toInt = 110 := by decide
theorem li111 : (111 : Int32).toInt = 111 := by decide
theorem li112 : (112 : Int32).toInt = 112 := by decide
theorem li113 : (113 : Int32).toInt = 113 := by decide
theorem li114 : (114 : Int32).toInt = 114 := by decide
theorem li115 : (115 : Int32).toInt = 115 := by decide
theorem li116 : (116 : Int32).toInt = 116 := by decide
theorem li117 : (117 : Int32).toInt = 117 := by decide
theorem li118 : (118 : Int32).toInt = 118 := by decide
theorem li999 : (999 : Int32).toInt = 999 := by decide
theorem li1000 : (1000 : Int32).toInt = 1000 := by decide
theorem li252645135 : (252645135 : Int32).toInt = 252645135 := by decide
theorem li858993459 : (858993459 : Int32).toInt = 858993459 := by decide
theorem li1431655765 : (1431655765 : Int32).toInt = 1431655765 := by decide
theorem lln1000000000000 : (-1000000000000 : Int64).toInt = (-1000000000000) := by decide
theorem lln10 : (-10 : Int64).toInt = (-10) := by decide
theorem lln1 : (-1 : Int64).toInt = (-1) := by decide
theorem ll0 : (0 : Int64).toInt = 0 := by decide
theorem ll1 : (1 : Int64).toInt = 1 := by decide
theorem ll2 : (2 : Int64).toInt = 2 := by decide
theorem ll5 : (5 : Int64).toInt = 5 := by decide
theorem ll8 : (8 : Int64).toInt = 8 := by decide
theorem ll10 : (10 : Int64).toInt = 10 := by decide
theorem ll13 : (13 : Int64).toInt = 13 := by decide
theorem mf17 : zmf 17 1 7 0 1 := by unfold zmf; decide +kernel
theorem mf18 : zmf 18 2 11 2 2 := by unfold zmf; decide +kernel
theorem mf21 : zmf 21 2 99 0 2 := by unfold zmf; decide +kernel
theorem mf22 : zmf 22 1 11 7 2 := by unfold zmf; decide +kernel
theorem mf39 : zmf 39 3 11 0 3 := by unfold zmf; decide +kernel
theorem mf41 : zmf 41 2 6 0 2 := by unfold zmf; decide +kernel
theorem mf51 : zmf 51 4 6 1 4 := by unfold zmf; decide +kernel
theorem mf56 : zmf 56 3 6 0 3 := by unfold zmf; decide +kernel
theorem mf58 : zmf 58 2 2 3 2 := by unfold zmf; decide +kernel
theorem mf59 : zmf 59 1 11 1 1 := by unfold zmf; decide +kernel
theorem mf62 : zmf 62 1 11 99 2 := by unfold zmf; decide +kernel
theorem mf82 : zmf 82 1 11 6 4 := by unfold zmf; decide +kernel
theorem mf89 : zmf 89 4 11 4 4 := by unfold zmf; decide +kernel
theorem mf90 : zmf 90 2 11 4 2 := by unfold zmf; decide +kernel
theorem mf91 : zmf 91 2 6 0 2 := by unfold zmf; decide +kernel
theorem mf92 : zmf 92 1 6 2 3 := by unfold zmf; decide +kernel
theorem mf94 : zmf 94 2 11 4 2 := by unfold zmf; decide +kernel
theorem mf95 : zmf 95 2 11 4 3 := by unfold zmf; decide +kernel
theorem mf96 : zmf 96 2 6 0 2 := by unfold zmf; decide +kernel
theorem mf97 : zmf 97 1 11 0 1 := by unfold zmf; decide +kernel
theorem mf98 : zmf 98 1 11 0 1 := by unfold zmf; decide +kernel
theorem mf99 : zmf 99 2 11 3 2 := by unfold zmf; decide +kernel
theorem mf100 : zmf 100 1 6 0 3 := by unfold zmf; decide +kernel
theorem mf102 : zmf 102 3 11 3 3 := by unfold zmf; decide +kernel
theorem mf104 : zmf 104 3 11 6 3 := by unfold zmf; decide +kernel
theorem mf105 : zmf 105 2 4 5 3 := by unfold zmf; decide +kernel
theorem mf113 : zmf 113 1 99 0 1 := by unfold zmf; decide +kernel
theorem mf126 : zmf 126 2 0 0 2 := by unfold zmf; decide +kernel
theorem mf130 : zmf 130 2 6 0 2 := by unfold zmf; decide +kernel
theorem mf143 : zmf 143 3 11 6 3 := by unfold zmf; decide +kernel
theorem mf144 : zmf 144 1 4 0 1 := by unfold zmf; decide +kernel
theorem mf147 : zmf 147 4 11 2 4 := by unfold zmf; decide +kernel
theorem mf148 : zmf 148 4 11 3 4 := by unfold zmf; decide +kernel
theorem mf149 : zmf 149 4 6 2 9 := by unfold zmf; decide +kernel
theorem mf150 : zmf 150 2 11 7 2 := by unfold zmf; decide +kernel
theorem mf151 : zmf 151 2 11 6 2 := by unfold zmf; decide +kernel
theorem mf152 : zmf 152 1 4 0 1 := by unfold zmf; decide +kernel
theorem mf153 : zmf 153 3 1 5 3 := by unfold zmf; decide +kernel
theorem mf163 : zmf 163 2 4 1 2 := by unfold zmf; decide +kernel
theorem mf165 : zmf 165 1 1 0 1 := by unfold zmf; decide +kernel
theorem mf166 : zmf 166 1 4 2 2 := by unfold zmf; decide +kernel
theorem mf167 : zmf 167 1 4 1 4 := by unfold zmf; decide +kernel
theorem mf168 : zmf 168 1 4 1 3 := by unfold zmf; decide +kernel
theorem mf169 : zmf 169 3 11 6 4 := by unfold zmf; decide +kernel
theorem mf172 : zmf 172 3 11 6 4 := by unfold zmf; decide +kernel
theorem mf173 : zmf 173 3 11 6 4 := by unfold zmf; decide +kernel
theorem mf177 : zmf 177 3 11 6 3 := by unfold zmf; decide +kernel
theorem mf180 : zmf 180 1 11 99 2 := by unfold zmf; decide +kernel
theorem mf187 : zmf 187 1 11 6 3 := by unfold zmf; decide +kernel
theorem mf194 : zmf 194 2 11 6 2 := by unfold zmf; decide +kernel
theorem mf196 : zmf 196 2 11 6 3 := by unfold zmf; decide +kernel
theorem mf197 : zmf 197 1 4 4 5 := by unfold zmf; decide +kernel
theorem mf198 : zmf 198 2 4 3 5 := by unfold zmf; decide +kernel
theorem mf199 : zmf 199 2 4 3 6 := by unfold zmf; decide +kernel
theorem mf200 : zmf 200 4 11 6 16 := by unfold zmf; decide +kernel
theorem mf201 : zmf 201 3 11 6 4 := by unfold zmf; decide +kernel
theorem mf203 : zmf 203 2 11 6 5 := by unfold zmf; decide +kernel
theorem mf204 : zmf 204 3 11 6 9 := by unfold zmf; decide +kernel
theorem mf205 : zmf 205 3 11 6 8 := by unfold zmf; decide +kernel
theorem mf206 : zmf 206 3 11 4 5 := by unfold zmf; decide +kernel
theorem mf207 : zmf 207 3 11 6 3 := by unfold zmf; decide +kernel
theorem mf208 : zmf 208 3 1 1 5 := by unfold zmf; decide +kernel
theorem mf210 : zmf 210 3 11 2 8 := by unfold zmf; decide +kernel
theorem mf211 : zmf 211 3 6 1 5 := by unfold zmf; decide +kernel
theorem mf212 : zmf 212 1 11 4 1 := by unfold zmf; decide +kernel
theorem mf214 : zmf 214 2 11 4 2 := by unfold zmf; decide +kernel
theorem mf215 : zmf 215 3 2 3 3 := by unfold zmf; decide +kernel
theorem mf216 : zmf 216 2 11 4 2 := by unfold zmf; decide +kernel
theorem mf217 : zmf 217 2 2 0 2 := by unfold zmf; decide +kernel
theorem mf219 : zmf 219 1 11 3 2 := by unfold zmf; decide +kernel
theorem mf223 : zmf 223 2 11 0 2 := by unfold zmf; decide +kernel
theorem mf225 : zmf 225 1 12 1 1 := by unfold zmf; decide +kernel
theorem mf227 : zmf 227 2 12 1 2 := by unfold zmf; decide +kernel
theorem mf228 : zmf 228 3 12 0 6 := by unfold zmf; decide +kernel
theorem mf229 : zmf 229 2 12 2 2 := by unfold zmf; decide +kernel
theorem mf230 : zmf 230 2 12 1 3 := by unfold zmf; decide +kernel
theorem mf233 : zmf 233 2 12 1 2 := by unfold zmf; decide +kernel
theorem mf234 : zmf 234 1 12 0 1 := by unfold zmf; decide +kernel
theorem mf235 : zmf 235 1 12 6 2 := by unfold zmf; decide +kernel
theorem mf254 : zmf 254 1 12 7 3 := by unfold zmf; decide +kernel
theorem mf260 : zmf 260 1 12 0 1 := by unfold zmf; decide +kernel
theorem mf266 : zmf 266 1 12 8 4 := by unfold zmf; decide +kernel
theorem mf267 : zmf 267 2 12 7 2 := by unfold zmf; decide +kernel
theorem mf268 : zmf 268 1 12 6 1 := by unfold zmf; decide +kernel
theorem mf278 : zmf 278 1 12 0 3 := by unfold zmf; decide +kernel
theorem mf290 : zmf 290 2 12 2 4 := by unfold zmf; decide +kernel
theorem mf291 : zmf 291 3 12 0 5 := by unfold zmf; decide +kernel
theorem mf292 : zmf 292 1 12 1 3 := by unfold zmf; decide +kernel
theorem mf293 : zmf 293 1 12 2 3 := by unfold zmf; decide +kernel
theorem mf295 : zmf 295 2 12 8 2 := by unfold zmf; decide +kernel
theorem mf296 : zmf 296 3 12 7 3 := by unfold zmf; decide +kernel
theorem mf297 : zmf 297 2 12 1 2 := by unfold zmf; decide +kernel
theorem mf300 : zmf 300 4 12 7 6 := by unfold zmf; decide +kernel
theorem mf301 : zmf 301 3 12 7 3 := by unfold zmf; decide +kernel
theorem mf302 : zmf 302 3 12 7 3 := by unfold zmf; decide +kernel
theorem mf303 : zmf 303 2 12 0 2 := by unfold zmf; decide +kernel
theorem mf304 : zmf 304 2 12 3 2 := by unfold zmf; decide +kernel
theorem mf305 : zmf 305 3 12 3 3 := by unfold zmf; decide +kernel
theorem mf306 : zmf 306 2 12 1 2 := by unfold zmf; decide +kernel
theorem mf307 : zmf 307 3 12 7 3 := by unfold zmf; decide +kernel
theorem mf308 : zmf 308 2 12 1 2 := by unfold zmf; decide +kernel
theorem mf309 : zmf 309 3 12 7 3 := by unfold zmf; decide +kernel
theorem mf310 : zmf 310 2 12 1 2 := by unfold zmf; decide +kernel
theorem mf314 : zmf 314 4 12 3 4 := by unfold zmf; decide +kernel
theorem mf315 : zmf 315 4 12 3 7 := by unfold zmf; decide +kernel
theorem mf316 : zmf 316 2 12 8 2 := by unfold zmf; decide +kernel
theorem mf317 : zmf 317 3 12 7 3 := by unfold zmf; decide +kernel
theorem mf321 : zmf 321 3 12 7 3 := by unfold zmf; decide +kernel
theorem mf322 : zmf 322 1 12 7 1 := by unfold zmf; decide +kernel
theorem mf327 : zmf 327 2 12 7 3 := by unfold zmf; decide +kernel
theorem mf328 : zmf 328 2 12 6 8 := by unfold zmf; decide +kernel
theorem mf331 : zmf 331 4 12 2 4 := by unfold zmf; decide +kernel
theorem mf332 : zmf 332 2 12 3 2 := by unfold zmf; decide +kernel
theorem mf333 : zmf 333 2 12 2 2 := by unfold zmf; decide +kernel
theorem mf334 : zmf 334 2 12 2 3 := by unfold zmf; decide +kernel
theorem mf335 : zmf 335 3 12 2 5 := by unfold zmf; decide +kernel
theorem mf336 : zmf 336 3 12 7 3 := by unfold zmf; decide +kernel
theorem mf338 : zmf 338 2 12 7 4 := by unfold zmf; decide +kernel
theorem mf339 : zmf 339 3 12 7 7 := by unfold zmf; decide +kernel
theorem mf340 : zmf 340 3 12 7 8 := by unfold zmf; decide +kernel
theorem mf342 : zmf 342 1 12 5 2 := by unfold zmf; decide +kernel
theorem mf345 : zmf 345 1 12 0 1 := by unfold zmf; decide +kernel
theorem mf346 : zmf 346 1 12 2 2 := by unfold zmf; decide +kernel
theorem mf349 : zmf 349 2 12 1 2 := by unfold zmf; decide +kernel
theorem mr17 : (mt 17).2.2.2.1 = some .int := by decide +kernel
theorem mr18 : (mt 18).2.2.2.1 = some .int := by decide +kernel
theorem mr21 : (mt 21).2.2.2.1 = some .int := by decide +kernel
theorem mr39 : (mt 39).2.2.2.1 = some .boolean := by decide +kernel
theorem mr41 : (mt 41).2.2.2.1 = some .boolean := by decide +kernel
theorem mr51 : (mt 51).2.2.2.1 = some .boolean := by decide +kernel
theorem mr56 : (mt 56).2.2.2.1 = none := by decide +kernel
theorem mr89 : (mt 89).2.2.2.1 = some .int := by decide +kernel
theorem mr90 : (mt 90).2.2.2.1 = some .int := by decide +kernel
theorem mr91 : (mt 91).2.2.2.1 = some .boolean := by decide +kernel
theorem mr92 : (mt 92).2.2.2.1 = some .int := by decide +kernel
theorem mr94 : (mt 94).2.2.2.1 = some .int := by decide +kernel
theorem mr95 : (mt 95).2.2.2.1 = some .int := by decide +kernel
theorem mr96 : (mt 96).2.2.2.1 = some .int := by decide +kernel
theorem mr99 : (mt 99).2.2.2.1 = some .int := by decide +kernel
theorem mr100 : (mt 100).2.2.2.1 = some .int := by decide +kernel
theorem mr102 : (mt 102).2.2.2.1 = some .int := by decide +kernel
theorem mr104 : (mt 104).2.2.2.1 = some .int := by decide +kernel
theorem mr113 : (mt 113).2.2.2.1 = some .int := by decide +kernel
theorem mr126 : (mt 126).2.2.2.1 = some (.object "TrackVotes$Track") := by decide +kernel
theorem mr130 : (mt 130).2.2.2.1 = some .boolean := by decide +kernel
theorem mr143 : (mt 143).2.2.2.1 = some .int := by decide +kernel
theorem mr144 : (mt 144).2.2.2.1 = some .int := by decide +kernel
theorem mr147 : (mt 147).2.2.2.1 = some .int := by decide +kernel
theorem mr148 : (mt 148).2.2.2.1 = some .int := by decide +kernel
theorem mr149 : (mt 149).2.2.2.1 = some .int := by decide +kernel
theorem mr150 : (mt 150).2.2.2.1 = some .int := by decide +kernel
theorem mr151 : (mt 151).2.2.2.1 = some .int := by decide +kernel
theorem mr152 : (mt 152).2.2.2.1 = some .int := by decide +kernel
theorem mr163 : (mt 163).2.2.2.1 = some (.object "TrackVotes$Track") := by decide +kernel
theorem mr165 : (mt 165).2.2.2.1 = some .int := by decide +kernel
theorem mr166 : (mt 166).2.2.2.1 = some .int := by decide +kernel
theorem mr167 : (mt 167).2.2.2.1 = some .int := by decide +kernel
theorem mr168 : (mt 168).2.2.2.1 = some .int := by decide +kernel
theorem mr169 : (mt 169).2.2.2.1 = some .int := by decide +kernel
theorem mr172 : (mt 172).2.2.2.1 = some .int := by decide +kernel
theorem mr173 : (mt 173).2.2.2.1 = some .long := by decide +kernel
theorem mr177 : (mt 177).2.2.2.1 = some .int := by decide +kernel
theorem mr194 : (mt 194).2.2.2.1 = some .int := by decide +kernel
theorem mr196 : (mt 196).2.2.2.1 = some .int := by decide +kernel
theorem mr200 : (mt 200).2.2.2.1 = some .long := by decide +kernel
theorem mr201 : (mt 201).2.2.2.1 = some .int := by decide +kernel
theorem mr203 : (mt 203).2.2.2.1 = some .int := by decide +kernel
theorem mr204 : (mt 204).2.2.2.1 = some .int := by decide +kernel
theorem mr205 : (mt 205).2.2.2.1 = some .int := by decide +kernel
theorem mr206 : (mt 206).2.2.2.1 = some .int := by decide +kernel
theorem mr207 : (mt 207).2.2.2.1 = some .int := by decide +kernel
theorem mr208 : (mt 208).2.2.2.1 = some .int := by decide +kernel
theorem mr210 : (mt 210).2.2.2.1 = some .int := by decide +kernel
theorem mr211 : (mt 211).2.2.2.1 = some .int := by decide +kernel
theorem mr214 : (mt 214).2.2.2.1 = some .boolean := by decide +kernel
theorem mr215 : (mt 215).2.2.2.1 = some .boolean := by decide +kernel
theorem mr216 : (mt 216).2.2.2.1 = some .boolean := by decide +kernel
theorem mr217 : (mt 217).2.2.2.1 = some .boolean := by decide +kernel
theorem mr223 : (mt 223).2.2.2.1 = some .int := by decide +kernel
theorem mr227 : (mt 227).2.2.2.1 = some .boolean := by decide +kernel
theorem mr228 : (mt 228).2.2.2.1 = some .boolean := by decide +kernel
theorem mr229 : (mt 229).2.2.2.1 = some .boolean := by decide +kernel
theorem mr233 : (mt 233).2.2.2.1 = some .int := by decide +kernel
theorem mr260 : (mt 260).2.2.2.1 = some .int := by decide +kernel
theorem mr267 : (mt 267).2.2.2.1 = some .int := by decide +kernel
theorem mr278 : (mt 278).2.2.2.1 = some .int := by decide +kernel
theorem mr290 : (mt 290).2.2.2.1 = some .int := by decide +kernel
theorem mr291 : (mt 291).2.2.2.1 = some .int := by decide +kernel
theorem mr292 : (mt 292).2.2.2.1 = some .int := by decide +kernel
theorem mr293 : (mt 293).2.2.2.1 = some .int := by decide +kernel
theorem mr295 : (mt 295).2.2.2.1 = some .int := by decide +kernel
theorem mr296 : (mt 296).2.2.2.1 = some .long := by decide +kernel
theorem mr297 : (mt 297).2.2.2.1 = some .boolean := by decide +kernel
theorem mr300 : (mt 300).2.2.2.1 = some .long := by decide +kernel
theorem mr301 : (mt 301).2.2.2.1 = some .int := by decide +kernel
theorem mr302 : (mt 302).2.2.2.1 = some .int := by decide +kernel
theorem mr303 : (mt 303).2.2.2.1 = some .int := by decide +kernel
theorem mr304 : (mt 304).2.2.2.1 = some .int := by decide +kernel
theorem mr305 : (mt 305).2.2.2.1 = some .int := by decide +kernel
theorem mr306 : (mt 306).2.2.2.1 = some .boolean := by decide +kernel
theorem mr307 : (mt 307).2.2.2.1 = some .int := by decide +kernel
theorem mr308 : (mt 308).2.2.2.1 = some .boolean := by decide +kernel
theorem mr309 : (mt 309).2.2.2.1 = some .int := by decide +kernel
theorem mr310 : (mt 310).2.2.2.1 = some .boolean := by decide +kernel
theorem mr314 : (mt 314).2.2.2.1 = some .int := by decide +kernel
theorem mr315 : (mt 315).2.2.2.1 = some .int := by decide +kernel
theorem mr316 : (mt 316).2.2.2.1 = some .int := by decide +kernel
theorem mr317 : (mt 317).2.2.2.1 = some .int := by decide +kernel
theorem mr321 : (mt 321).2.2.2.1 = some .int := by decide +kernel
theorem mr327 : (mt 327).2.2.2.1 = some .int := by decide +kernel
theorem mr328 : (mt 328).2.2.2.1 = some .int := by decide +kernel
theorem mr331 : (mt 331).2.2.2.1 = some .int := by decide +kernel
theorem mr332 : (mt 332).2.2.2.1 = some .int := by decide +kernel
theorem mr333 : (mt 333).2.2.2.1 = some .int := by decide +kernel
theorem mr334 : (mt 334).2.2.2.1 = some .int := by decide +kernel
theorem mr335 : (mt 335).2.2.2.1 = some .int := by decide +kernel
theorem mr336 : (mt 336).2.2.2.1 = some .int := by decide +kernel
theorem mr338 : (mt 338).2.2.2.1 = some .int := by decide +kernel
theorem mr339 : (mt 339).2.2.2.1 = some .int := by decide +kernel
theorem mr340 : (mt 340).2.2.2.1 = some .int := by decide +kernel
theorem mr349 : (mt 349).2.2.2.1 = some .int := by decide +kernel
theorem t17_0 : zT 17 0 = some (.aload_n 0, 1, 0, 0, 0, 0) := by decide +kernel
theorem t17_1 : zT 17 1 = some (.getfield 15, 3, 7, 1, 0, 261) := by decide +kernel
theorem t17_4 : zT 17 4 = some (.ireturn, 1, 0, 0, 0, 0) := by decide +kernel
theorem t18_0 : zT 18 0 = some (.iload_n 1, 1, 1, 0, 0, 0) := by decide +kernel
theorem t18_1 : zT 18 1 = some (.ifCond .lt 14, 3, 15, 0, 0, 0) := by decide +kernel
theorem t18_4 : zT 18 4 = some (.iload_n 1, 1, 1, 0, 0, 0) := by decide +kernel
theorem t18_5 : zT 18 5 = some (.aload_n 0, 1, 0, 0, 0, 0) := by decide +kernel
theorem t18_6 : zT 18 6 = some (.getfield 29, 3, 11, 3, 0, 601) := by decide +kernel
theorem t18_9 : zT 18 9 = some (.invokevirtual 90, 3, 17, 0, 0, 650) := by decide +kernel
theorem t18_12 : zT 18 12 = some (.if_icmp .le 5, 3, 17, 0, 0, 0) := by decide +kernel
theorem t18_15 : zT 18 15 = some (.iconst (-1), 1, 0, 0, (-1), 0) := by decide +kernel
theorem t18_16 : zT 18 16 = some (.ireturn, 1, 0, 0, 0, 0) := by decide +kernel
theorem t21_0 : zT 21 0 = some (.iload_n 0, 1, 0, 0, 0, 0) := by decide +kernel
theorem t21_1 : zT 21 1 = some (.iload_n 1, 1, 1, 0, 0, 0) := by decide +kernel
theorem t21_2 : zT 21 2 = some (.if_icmp .lt 7, 3, 9, 0, 0, 0) := by decide +kernel
theorem t21_9 : zT 21 9 = some (.iload_n 1, 1, 1, 0, 0, 0) := by decide +kernel
theorem t21_10 : zT 21 10 = some (.ireturn, 1, 0, 0, 0, 0) := by decide +kernel
theorem t39_0 : zT 39 0 = some (.iload_n 0, 1, 0, 0, 0, 0) := by decide +kernel
theorem t39_1 : zT 39 1 = some (.iload_n 1, 1, 1, 0, 0, 0) := by decide +kernel
theorem t39_2 : zT 39 2 = some (.if_icmp .lt 12, 3, 14, 0, 0, 0) := by decide +kernel
theorem t39_5 : zT 39 5 = some (.iload_n 0, 1, 0, 0, 0, 0) := by decide +kernel
theorem t39_6 : zT 39 6 = some (.iload_n 2, 1, 2, 0, 0, 0) := by decide +kernel
theorem t39_7 : zT 39 7 = some (.if_icmp .gt 7, 3, 14, 0, 0, 0) := by decide +kernel
theorem t39_10 : zT 39 10 = some (.iconst 1, 1, 0, 0, 1, 0) := by decide +kernel
theorem t39_11 : zT 39 11 = some (.goto 4, 3, 15, 0, 0, 0) := by decide +kernel
theorem t39_14 : zT 39 14 = some (.iconst 0, 1, 0, 0, 0, 0) := by decide +kernel
theorem t39_15 : zT 39 15 = some (.ireturn, 1, 0, 0, 0, 0) := by decide +kernel
theorem t41_0 : zT 41 0 = some (.iload_n 1, 1, 1, 0, 0, 0) := by decide +kernel
theorem t41_1 : zT 41 1 = some (.ifCond .lt 15, 3, 16, 0, 0, 0) := by decide +kernel
theorem t41_4 : zT 41 4 = some (.iload_n 1, 1, 1, 0, 0, 0) := by decide +kernel
theorem t41_5 : zT 41 5 = some (.aload_n 0, 1, 0, 0, 0, 0) := by decide +kernel
theorem t41_6 : zT 41 6 = some (.getfield 9, 3, 6, 0, 0, 151) := by decide +kernel
theorem t41_9 : zT 41 9 = some (.if_icmp .ge 7, 3, 16, 0, 0, 0) := by decide +kernel
theorem t41_16 : zT 41 16 = some (.iconst 0, 1, 0, 0, 0, 0) := by decide +kernel
theorem t41_17 : zT 41 17 = some (.ireturn, 1, 0, 0, 0, 0) := by decide +kernel
theorem t51_0 : zT 51 0 = some (.aload_n 0, 1, 0, 0, 0, 0) := by decide +kernel
theorem t51_1 : zT 51 1 = some (.iload_n 1, 1, 1, 0, 0, 0) := by decide +kernel
theorem t51_2 : zT 51 2 = some (.invokevirtual 98, 3, 41, 0, 0, 790) := by decide +kernel
theorem t51_5 : zT 51 5 = some (.ifCond .eq 34, 3, 39, 0, 0, 0) := by decide +kernel
theorem t51_39 : zT 51 39 = some (.iconst 0, 1, 0, 0, 0, 0) := by decide +kernel
theorem t51_40 : zT 51 40 = some (.ireturn, 1, 0, 0, 0, 0) := by decide +kernel
theorem t56_0 : zT 56 0 = some (.iload_n 1, 1, 1, 0, 0, 0) := by decide +kernel
theorem t56_1 : zT 56 1 = some (.ifCond .lt 16, 3, 17, 0, 0, 0) := by decide +kernel
theorem t56_4 : zT 56 4 = some (.iload_n 1, 1, 1, 0, 0, 0) := by decide +kernel
theorem t56_5 : zT 56 5 = some (.bipush 9, 2, 0, 0, 9, 0) := by decide +kernel
theorem t56_7 : zT 56 7 = some (.if_icmp .ge 10, 3, 17, 0, 0, 0) := by decide +kernel
theorem t56_10 : zT 56 10 = some (.aload_n 0, 1, 0, 0, 0, 0) := by decide +kernel
theorem t56_11 : zT 56 11 = some (.getfield 58, 3, 6, 12, 0, 190) := by decide +kernel
theorem t56_14 : zT 56 14 = some (.iload_n 1, 1, 1, 0, 0, 0) := by decide +kernel
theorem t56_15 : zT 56 15 = some (.iload_n 2, 1, 2, 0, 0, 0) := by decide +kernel
theorem t56_16 : zT 56 16 = some (.iastore, 1, 0, 0, 0, 0) := by decide +kernel
theorem t56_17 : zT 56 17 = some (.return_, 1, 0, 0, 0, 0) := by decide +kernel
theorem t89_0 : zT 89 0 = some (.aload_n 0, 1, 0, 0, 0, 0) := by decide +kernel
theorem t89_1 : zT 89 1 = some (.getfield 12, 3, 11, 0, 0, 598) := by decide +kernel
theorem t89_4 : zT 89 4 = some (.iload_n 1, 1, 1, 0, 0, 0) := by decide +kernel
theorem t89_5 : zT 89 5 = some (.iload_n 2, 1, 2, 0, 0, 0) := by decide +kernel
theorem t89_6 : zT 89 6 = some (.iload_n 3, 1, 3, 0, 0, 0) := by decide +kernel
theorem t89_7 : zT 89 7 = some (.invokevirtual 402, 3, 51, 0, 0, 1000) := by decide +kernel
theorem t89_10 : zT 89 10 = some (.ifCond .ne 5, 3, 15, 0, 0, 0) := by decide +kernel
theorem t89_13 : zT 89 13 = some (.iconst (-1), 1, 0, 0, (-1), 0) := by decide +kernel
theorem t89_14 : zT 89 14 = some (.ireturn, 1, 0, 0, 0, 0) := by decide +kernel
theorem t90_0 : zT 90 0 = some (.aload_n 0, 1, 0, 0, 0, 0) := by decide +kernel
theorem t90_1 : zT 90 1 = some (.getfield 12, 3, 11, 0, 0, 598) := by decide +kernel
theorem t90_4 : zT 90 4 = some (.iload_n 1, 1, 1, 0, 0, 0) := by decide +kernel
theorem t90_5 : zT 90 5 = some (.invokevirtual 193, 3, 91, 0, 0, 1006) := by decide +kernel
theorem t90_8 : zT 90 8 = some (.ifCond .eq 15, 3, 23, 0, 0, 0) := by decide +kernel
theorem t90_23 : zT 90 23 = some (.iconst (-1), 1, 0, 0, (-1), 0) := by decide +kernel
theorem t90_24 : zT 90 24 = some (.ireturn, 1, 0, 0, 0, 0) := by decide +kernel
theorem t91_0 : zT 91 0 = some (.iload_n 1, 1, 1, 0, 0, 0) := by decide +kernel
theorem t91_1 : zT 91 1 = some (.ifCond .lt 15, 3, 16, 0, 0, 0) := by decide +kernel
theorem t91_4 : zT 91 4 = some (.iload_n 1, 1, 1, 0, 0, 0) := by decide +kernel
theorem t91_5 : zT 91 5 = some (.aload_n 0, 1, 0, 0, 0, 0) := by decide +kernel
theorem t91_6 : zT 91 6 = some (.getfield 23, 3, 6, 3, 0, 164) := by decide +kernel
theorem t91_9 : zT 91 9 = some (.if_icmp .ge 7, 3, 16, 0, 0, 0) := by decide +kernel
theorem t91_16 : zT 91 16 = some (.iconst 0, 1, 0, 0, 0, 0) := by decide +kernel
theorem t91_17 : zT 91 17 = some (.ireturn, 1, 0, 0, 0, 0) := by decide +kernel
theorem t92_0 : zT 92 0 = some (.iconst 0, 1, 0, 0, 0, 0) := by decide +kernel
theorem t92_1 : zT 92 1 = some (.istore_n 1, 1, 1, 0, 0, 0) := by decide +kernel
theorem t92_2 : zT 92 2 = some (.iconst 0, 1, 0, 0, 0, 0) := by decide +kernel
theorem t92_3 : zT 92 3 = some (.istore_n 2, 1, 2, 0, 0, 0) := by decide +kernel
theorem t92_4 : zT 92 4 = some (.iload_n 2, 1, 2, 0, 0, 0) := by decide +kernel
theorem t92_5 : zT 92 5 = some (.aload_n 0, 1, 0, 0, 0, 0) := by decide +kernel
theorem t92_6 : zT 92 6 = some (.getfield 23, 3, 6, 3, 0, 164) := by decide +kernel
theorem t92_9 : zT 92 9 = some (.if_icmp .ge 20, 3, 29, 0, 0, 0) := by decide +kernel
theorem t92_29 : zT 92 29 = some (.iload_n 1, 1, 1, 0, 0, 0) := by decide +kernel
theorem t92_30 : zT 92 30 = some (.ireturn, 1, 0, 0, 0, 0) := by decide +kernel
theorem t94_0 : zT 94 0 = some (.aload_n 0, 1, 0, 0, 0, 0) := by decide +kernel
theorem t94_1 : zT 94 1 = some (.getfield 12, 3, 11, 0, 0, 598) := by decide +kernel
theorem t94_4 : zT 94 4 = some (.iload_n 1, 1, 1, 0, 0, 0) := by decide +kernel
theorem t94_5 : zT 94 5 = some (.invokevirtual 179, 3, 41, 0, 0, 1023) := by decide +kernel
theorem t94_8 : zT 94 8 = some (.ifCond .ne 5, 3, 13, 0, 0, 0) := by decide +kernel
theorem t94_11 : zT 94 11 = some (.iconst (-1), 1, 0, 0, (-1), 0) := by decide +kernel
theorem t94_12 : zT 94 12 = some (.ireturn, 1, 0, 0, 0, 0) := by decide +kernel
theorem t95_0 : zT 95 0 = some (.iload_n 1, 1, 1, 0, 0, 0) := by decide +kernel
theorem t95_1 : zT 95 1 = some (.iconst 2, 1, 0, 0, 2, 0) := by decide +kernel
theorem t95_2 : zT 95 2 = some (.bipush 8, 2, 0, 0, 8, 0) := by decide +kernel
theorem t95_4 : zT 95 4 = some (.invokestatic 246, 3, 39, 1, 0, 1028) := by decide +kernel
theorem t95_7 : zT 95 7 = some (.ifCond .ne 5, 3, 12, 0, 0, 0) := by decide +kernel
theorem t95_10 : zT 95 10 = some (.iconst (-1), 1, 0, 0, (-1), 0) := by decide +kernel
theorem t95_11 : zT 95 11 = some (.ireturn, 1, 0, 0, 0, 0) := by decide +kernel
theorem t95_12 : zT 95 12 = some (.aload_n 0, 1, 0, 0, 0, 0) := by decide +kernel
theorem t95_13 : zT 95 13 = some (.getfield 22, 3, 11, 2, 0, 600) := by decide +kernel
theorem t95_16 : zT 95 16 = some (.aload_n 0, 1, 0, 0, 0, 0) := by decide +kernel
theorem t95_17 : zT 95 17 = some (.getfield 12, 3, 11, 0, 0, 598) := by decide +kernel
theorem t95_20 : zT 95 20 = some (.invokevirtual 108, 3, 58, 0, 0, 817) := by decide +kernel
theorem t95_23 : zT 95 23 = some (.aload_n 0, 1, 0, 0, 0, 0) := by decide +kernel
theorem t95_24 : zT 95 24 = some (.invokevirtual 111, 3, 59, 0, 0, 823) := by decide +kernel
theorem t95_27 : zT 95 27 = some (.aload_n 0, 1, 0, 0, 0, 0) := by decide +kernel
theorem t95_28 : zT 95 28 = some (.getfield 12, 3, 11, 0, 0, 598) := by decide +kernel
theorem t95_31 : zT 95 31 = some (.iconst 3, 1, 0, 0, 3, 0) := by decide +kernel
theorem t95_32 : zT 95 32 = some (.invokevirtual 158, 3, 96, 0, 0, 1029) := by decide +kernel
theorem t95_35 : zT 95 35 = some (.istore_n 2, 1, 2, 0, 0, 0) := by decide +kernel
theorem t95_36 : zT 95 36 = some (.aload_n 0, 1, 0, 0, 0, 0) := by decide +kernel
theorem t95_37 : zT 95 37 = some (.getfield 12, 3, 11, 0, 0, 598) := by decide +kernel
theorem t95_40 : zT 95 40 = some (.iconst 3, 1, 0, 0, 3, 0) := by decide +kernel
theorem t95_41 : zT 95 41 = some (.iload_n 1, 1, 1, 0, 0, 0) := by decide +kernel
theorem t95_42 : zT 95 42 = some (.invokevirtual 409, 3, 56, 0, 0, 1033) := by decide +kernel
theorem t95_45 : zT 95 45 = some (.iload_n 2, 1, 2, 0, 0, 0) := by decide +kernel
theorem t95_46 : zT 95 46 = some (.ireturn, 1, 0, 0, 0, 0) := by decide +kernel
theorem t96_0 : zT 96 0 = some (.iload_n 1, 1, 1, 0, 0, 0) := by decide +kernel
theorem t96_1 : zT 96 1 = some (.ifCond .lt 18, 3, 19, 0, 0, 0) := by decide +kernel
theorem t96_4 : zT 96 4 = some (.iload_n 1, 1, 1, 0, 0, 0) := by decide +kernel
theorem t96_5 : zT 96 5 = some (.bipush 9, 2, 0, 0, 9, 0) := by decide +kernel
theorem t96_7 : zT 96 7 = some (.if_icmp .ge 12, 3, 19, 0, 0, 0) := by decide +kernel
theorem t96_10 : zT 96 10 = some (.aload_n 0, 1, 0, 0, 0, 0) := by decide +kernel
theorem t96_11 : zT 96 11 = some (.getfield 58, 3, 6, 12, 0, 190) := by decide +kernel
theorem t96_14 : zT 96 14 = some (.iload_n 1, 1, 1, 0, 0, 0) := by decide +kernel
theorem t96_15 : zT 96 15 = some (.iaload, 1, 0, 0, 0, 0) := by decide +kernel
theorem t96_16 : zT 96 16 = some (.goto 4, 3, 20, 0, 0, 0) := by decide +kernel
theorem t96_20 : zT 96 20 = some (.ireturn, 1, 0, 0, 0, 0) := by decide +kernel
theorem t99_0 : zT 99 0 = some (.iload_n 1, 1, 1, 0, 0, 0) := by decide +kernel
theorem t99_1 : zT 99 1 = some (.iconst 5, 1, 0, 0, 5, 0) := by decide +kernel
theorem t99_2 : zT 99 2 = some (.if_icmp .lt 20, 3, 22, 0, 0, 0) := by decide +kernel
theorem t99_5 : zT 99 5 = some (.iload_n 1, 1, 1, 0, 0, 0) := by decide +kernel
theorem t99_6 : zT 99 6 = some (.bipush 14, 2, 0, 0, 14, 0) := by decide +kernel
theorem t99_8 : zT 99 8 = some (.if_icmp .ge 14, 3, 22, 0, 0, 0) := by decide +kernel
theorem t99_22 : zT 99 22 = some (.iload_n 1, 1, 1, 0, 0, 0) := by decide +kernel
theorem t99_23 : zT 99 23 = some (.tableswitch 133 0 15 #[77, 85, 93, 101, 109, 133, 133, 133, 133, 133, 133, 133, 133, 133, 117, 125], 77, 0, 0, 0, 0) := by decide +kernel
theorem t99_156 : zT 99 156 = some (.iconst (-1), 1, 0, 0, (-1), 0) := by decide +kernel
theorem t99_157 : zT 99 157 = some (.ireturn, 1, 0, 0, 0, 0) := by decide +kernel
theorem t100_0 : zT 100 0 = some (.iconst 0, 1, 0, 0, 0, 0) := by decide +kernel
theorem t100_1 : zT 100 1 = some (.istore_n 1, 1, 1, 0, 0, 0) := by decide +kernel
theorem t100_2 : zT 100 2 = some (.iconst 0, 1, 0, 0, 0, 0) := by decide +kernel
theorem t100_3 : zT 100 3 = some (.istore_n 2, 1, 2, 0, 0, 0) := by decide +kernel
theorem t100_4 : zT 100 4 = some (.iload_n 2, 1, 2, 0, 0, 0) := by decide +kernel
theorem t100_5 : zT 100 5 = some (.aload_n 0, 1, 0, 0, 0, 0) := by decide +kernel
theorem t100_6 : zT 100 6 = some (.getfield 9, 3, 6, 0, 0, 151) := by decide +kernel
theorem t100_9 : zT 100 9 = some (.if_icmp .ge 21, 3, 30, 0, 0, 0) := by decide +kernel
theorem t100_30 : zT 100 30 = some (.iload_n 1, 1, 1, 0, 0, 0) := by decide +kernel
theorem t100_31 : zT 100 31 = some (.ireturn, 1, 0, 0, 0, 0) := by decide +kernel
theorem t102_0 : zT 102 0 = some (.aload_n 0, 1, 0, 0, 0, 0) := by decide +kernel
theorem t102_1 : zT 102 1 = some (.getfield 12, 3, 11, 0, 0, 598) := by decide +kernel
theorem t102_4 : zT 102 4 = some (.iload_n 1, 1, 1, 0, 0, 0) := by decide +kernel
theorem t102_5 : zT 102 5 = some (.invokevirtual 179, 3, 41, 0, 0, 1023) := by decide +kernel
theorem t102_8 : zT 102 8 = some (.ifCond .ne 5, 3, 13, 0, 0, 0) := by decide +kernel
theorem t102_11 : zT 102 11 = some (.iconst (-1), 1, 0, 0, (-1), 0) := by decide +kernel
theorem t102_12 : zT 102 12 = some (.ireturn, 1, 0, 0, 0, 0) := by decide +kernel
theorem t104_0 : zT 104 0 = some (.aload_n 0, 1, 0, 0, 0, 0) := by decide +kernel
theorem t104_1 : zT 104 1 = some (.getfield 12, 3, 11, 0, 0, 598) := by decide +kernel
theorem t104_4 : zT 104 4 = some (.iload_n 1, 1, 1, 0, 0, 0) := by decide +kernel
theorem t104_5 : zT 104 5 = some (.invokevirtual 193, 3, 91, 0, 0, 1006) := by decide +kernel
theorem t104_8 : zT 104 8 = some (.ifCond .ne 6, 3, 14, 0, 0, 0) := by decide +kernel
theorem t104_11 : zT 104 11 = some (.ldc 196, 2, 0, 0, (-100000), 1066) := by decide +kernel
theorem t104_13 : zT 104 13 = some (.ireturn, 1, 0, 0, 0, 0) := by decide +kernel
theorem t113_0 : zT 113 0 = some (.iload_n 0, 1, 0, 0, 0, 0) := by decide +kernel
theorem t113_1 : zT 113 1 = some (.iload_n 0, 1, 0, 0, 0, 0) := by decide +kernel
theorem t113_2 : zT 113 2 = some (.iconst 1, 1, 0, 0, 1, 0) := by decide +kernel
theorem t113_3 : zT 113 3 = some (.iushr, 1, 0, 0, 0, 0) := by decide +kernel
theorem t113_4 : zT 113 4 = some (.ldc_w 265, 3, 0, 0, 1431655765, 1110) := by decide +kernel
theorem t113_7 : zT 113 7 = some (.iand, 1, 0, 0, 0, 0) := by decide +kernel
theorem t113_8 : zT 113 8 = some (.isub, 1, 0, 0, 0, 0) := by decide +kernel
theorem t113_9 : zT 113 9 = some (.istore_n 0, 1, 0, 0, 0, 0) := by decide +kernel
theorem t113_10 : zT 113 10 = some (.iload_n 0, 1, 0, 0, 0, 0) := by decide +kernel
theorem t113_11 : zT 113 11 = some (.ldc_w 266, 3, 0, 0, 858993459, 1111) := by decide +kernel
theorem t113_14 : zT 113 14 = some (.iand, 1, 0, 0, 0, 0) := by decide +kernel
theorem t113_15 : zT 113 15 = some (.iload_n 0, 1, 0, 0, 0, 0) := by decide +kernel
theorem t113_16 : zT 113 16 = some (.iconst 2, 1, 0, 0, 2, 0) := by decide +kernel
theorem t113_17 : zT 113 17 = some (.iushr, 1, 0, 0, 0, 0) := by decide +kernel
theorem t113_18 : zT 113 18 = some (.ldc_w 266, 3, 0, 0, 858993459, 1111) := by decide +kernel
theorem t113_21 : zT 113 21 = some (.iand, 1, 0, 0, 0, 0) := by decide +kernel
theorem t113_22 : zT 113 22 = some (.iadd, 1, 0, 0, 0, 0) := by decide +kernel
theorem t113_23 : zT 113 23 = some (.istore_n 0, 1, 0, 0, 0, 0) := by decide +kernel
theorem t113_24 : zT 113 24 = some (.iload_n 0, 1, 0, 0, 0, 0) := by decide +kernel
theorem t113_25 : zT 113 25 = some (.iload_n 0, 1, 0, 0, 0, 0) := by decide +kernel
theorem t113_26 : zT 113 26 = some (.iconst 4, 1, 0, 0, 4, 0) := by decide +kernel
theorem t113_27 : zT 113 27 = some (.iushr, 1, 0, 0, 0, 0) := by decide +kernel
theorem t113_28 : zT 113 28 = some (.iadd, 1, 0, 0, 0, 0) := by decide +kernel
theorem t113_29 : zT 113 29 = some (.ldc_w 267, 3, 0, 0, 252645135, 1112) := by decide +kernel
theorem t113_32 : zT 113 32 = some (.iand, 1, 0, 0, 0, 0) := by decide +kernel
theorem t113_33 : zT 113 33 = some (.istore_n 0, 1, 0, 0, 0, 0) := by decide +kernel
theorem t113_34 : zT 113 34 = some (.iload_n 0, 1, 0, 0, 0, 0) := by decide +kernel
theorem t113_35 : zT 113 35 = some (.iload_n 0, 1, 0, 0, 0, 0) := by decide +kernel
theorem t113_36 : zT 113 36 = some (.bipush 8, 2, 0, 0, 8, 0) := by decide +kernel
theorem t113_38 : zT 113 38 = some (.iushr, 1, 0, 0, 0, 0) := by decide +kernel
theorem t113_39 : zT 113 39 = some (.iadd, 1, 0, 0, 0, 0) := by decide +kernel
theorem t113_40 : zT 113 40 = some (.istore_n 0, 1, 0, 0, 0, 0) := by decide +kernel
theorem t113_41 : zT 113 41 = some (.iload_n 0, 1, 0, 0, 0, 0) := by decide +kernel
theorem t113_42 : zT 113 42 = some (.iload_n 0, 1, 0, 0, 0, 0) := by decide +kernel
theorem t113_43 : zT 113 43 = some (.bipush 16, 2, 0, 0, 16, 0) := by decide +kernel
theorem t113_45 : zT 113 45 = some (.iushr, 1, 0, 0, 0, 0) := by decide +kernel
theorem t113_46 : zT 113 46 = some (.iadd, 1, 0, 0, 0, 0) := by decide +kernel
theorem t113_47 : zT 113 47 = some (.istore_n 0, 1, 0, 0, 0, 0) := by decide +kernel
theorem t113_48 : zT 113 48 = some (.iload_n 0, 1, 0, 0, 0, 0) := by decide +kernel
theorem t113_49 : zT 113 49 = some (.bipush 63, 2, 0, 0, 63, 0) := by decide +kernel
theorem t113_51 : zT 113 51 = some (.iand, 1, 0, 0, 0, 0) := by decide +kernel
theorem t113_52 : zT 113 52 = some (.ireturn, 1, 0, 0, 0, 0) := by decide +kernel
theorem t126_0 : zT 126 0 = some (.iload_n 1, 1, 1, 0, 0, 0) := by decide +kernel
theorem t126_1 : zT 126 1 = some (.ifCond .lt 20, 3, 21, 0, 0, 0) := by decide +kernel
theorem t126_21 : zT 126 21 = some (.aconst_null, 1, 0, 0, 0, 0) := by decide +kernel
theorem t126_22 : zT 126 22 = some (.areturn, 1, 0, 0, 0, 0) := by decide +kernel
theorem t130_0 : zT 130 0 = some (.iload_n 1, 1, 1, 0, 0, 0) := by decide +kernel
theorem t130_1 : zT 130 1 = some (.ifCond .lt 15, 3, 16, 0, 0, 0) := by decide +kernel
theorem t130_4 : zT 130 4 = some (.iload_n 1, 1, 1, 0, 0, 0) := by decide +kernel
theorem t130_5 : zT 130 5 = some (.aload_n 0, 1, 0, 0, 0, 0) := by decide +kernel
theorem t130_6 : zT 130 6 = some (.getfield 38, 3, 6, 8, 0, 180) := by decide +kernel
theorem t130_9 : zT 130 9 = some (.if_icmp .ge 7, 3, 16, 0, 0, 0) := by decide +kernel
theorem t130_16 : zT 130 16 = some (.iconst 0, 1, 0, 0, 0, 0) := by decide +kernel
theorem t130_17 : zT 130 17 = some (.ireturn, 1, 0, 0, 0, 0) := by decide +kernel
theorem t143_0 : zT 143 0 = some (.aload_n 0, 1, 0, 0, 0, 0) := by decide +kernel
theorem t143_1 : zT 143 1 = some (.getfield 12, 3, 11, 0, 0, 598) := by decide +kernel
theorem t143_4 : zT 143 4 = some (.iload_n 1, 1, 1, 0, 0, 0) := by decide +kernel
theorem t143_5 : zT 143 5 = some (.invokevirtual 219, 3, 130, 0, 0, 1235) := by decide +kernel
theorem t143_8 : zT 143 8 = some (.ifCond .ne 6, 3, 14, 0, 0, 0) := by decide +kernel
theorem t143_11 : zT 143 11 = some (.ldc 196, 2, 0, 0, (-100000), 1066) := by decide +kernel
theorem t143_13 : zT 143 13 = some (.ireturn, 1, 0, 0, 0, 0) := by decide +kernel
theorem t144_0 : zT 144 0 = some (.aload_n 0, 1, 0, 0, 0, 0) := by decide +kernel
theorem t144_1 : zT 144 1 = some (.getfield 29, 3, 4, 4, 0, 496) := by decide +kernel
theorem t144_4 : zT 144 4 = some (.ireturn, 1, 0, 0, 0, 0) := by decide +kernel
theorem t147_0 : zT 147 0 = some (.aload_n 0, 1, 0, 0, 0, 0) := by decide +kernel
theorem t147_1 : zT 147 1 = some (.getfield 12, 3, 11, 0, 0, 598) := by decide +kernel
theorem t147_4 : zT 147 4 = some (.iload_n 1, 1, 1, 0, 0, 0) := by decide +kernel
theorem t147_5 : zT 147 5 = some (.invokevirtual 179, 3, 41, 0, 0, 1023) := by decide +kernel
theorem t147_8 : zT 147 8 = some (.ifCond .eq 27, 3, 35, 0, 0, 0) := by decide +kernel
theorem t147_35 : zT 147 35 = some (.ldc 196, 2, 0, 0, (-100000), 1066) := by decide +kernel
theorem t147_37 : zT 147 37 = some (.ireturn, 1, 0, 0, 0, 0) := by decide +kernel
theorem t148_0 : zT 148 0 = some (.iload_n 1, 1, 1, 0, 0, 0) := by decide +kernel
theorem t148_1 : zT 148 1 = some (.aload_n 0, 1, 0, 0, 0, 0) := by decide +kernel
theorem t148_2 : zT 148 2 = some (.getfield 12, 3, 11, 0, 0, 598) := by decide +kernel
theorem t148_5 : zT 148 5 = some (.iconst 0, 1, 0, 0, 0, 0) := by decide +kernel
theorem t148_6 : zT 148 6 = some (.invokevirtual 158, 3, 96, 0, 0, 1029) := by decide +kernel
theorem t148_9 : zT 148 9 = some (.ineg, 1, 0, 0, 0, 0) := by decide +kernel
theorem t148_10 : zT 148 10 = some (.aload_n 0, 1, 0, 0, 0, 0) := by decide +kernel
theorem t148_11 : zT 148 11 = some (.getfield 12, 3, 11, 0, 0, 598) := by decide +kernel
theorem t148_14 : zT 148 14 = some (.iconst 0, 1, 0, 0, 0, 0) := by decide +kernel
theorem t148_15 : zT 148 15 = some (.invokevirtual 158, 3, 96, 0, 0, 1029) := by decide +kernel
theorem t148_18 : zT 148 18 = some (.invokestatic 246, 3, 39, 1, 0, 1028) := by decide +kernel
theorem t148_21 : zT 148 21 = some (.ifCond .eq 27, 3, 48, 0, 0, 0) := by decide +kernel
theorem t148_24 : zT 148 24 = some (.iload_n 2, 1, 2, 0, 0, 0) := by decide +kernel
theorem t148_25 : zT 148 25 = some (.aload_n 0, 1, 0, 0, 0, 0) := by decide +kernel
theorem t148_26 : zT 148 26 = some (.getfield 12, 3, 11, 0, 0, 598) := by decide +kernel
theorem t148_29 : zT 148 29 = some (.iconst 1, 1, 0, 0, 1, 0) := by decide +kernel
theorem t148_30 : zT 148 30 = some (.invokevirtual 158, 3, 96, 0, 0, 1029) := by decide +kernel
theorem t148_33 : zT 148 33 = some (.ineg, 1, 0, 0, 0, 0) := by decide +kernel
theorem t148_34 : zT 148 34 = some (.aload_n 0, 1, 0, 0, 0, 0) := by decide +kernel
theorem t148_35 : zT 148 35 = some (.getfield 12, 3, 11, 0, 0, 598) := by decide +kernel
theorem t148_38 : zT 148 38 = some (.iconst 1, 1, 0, 0, 1, 0) := by decide +kernel
theorem t148_39 : zT 148 39 = some (.invokevirtual 158, 3, 96, 0, 0, 1029) := by decide +kernel
theorem t148_42 : zT 148 42 = some (.invokestatic 246, 3, 39, 1, 0, 1028) := by decide +kernel
theorem t148_45 : zT 148 45 = some (.ifCond .ne 5, 3, 50, 0, 0, 0) := by decide +kernel
theorem t148_48 : zT 148 48 = some (.iconst (-1), 1, 0, 0, (-1), 0) := by decide +kernel
theorem t148_49 : zT 148 49 = some (.ireturn, 1, 0, 0, 0, 0) := by decide +kernel
theorem t148_50 : zT 148 50 = some (.aload_n 0, 1, 0, 0, 0, 0) := by decide +kernel
theorem t148_51 : zT 148 51 = some (.getfield 12, 3, 11, 0, 0, 598) := by decide +kernel
theorem t148_54 : zT 148 54 = some (.iload_n 1, 1, 1, 0, 0, 0) := by decide +kernel
theorem t148_55 : zT 148 55 = some (.iload_n 2, 1, 2, 0, 0, 0) := by decide +kernel
theorem t148_56 : zT 148 56 = some (.iload_n 3, 1, 3, 0, 0, 0) := by decide +kernel
theorem t148_57 : zT 148 57 = some (.invokevirtual 250, 3, 149, 0, 0, 1260) := by decide +kernel
theorem t148_60 : zT 148 60 = some (.ireturn, 1, 0, 0, 0, 0) := by decide +kernel
theorem t149_0 : zT 149 0 = some (.iconst 1, 1, 0, 0, 1, 0) := by decide +kernel
theorem t149_1 : zT 149 1 = some (.aload_n 0, 1, 0, 0, 0, 0) := by decide +kernel
theorem t149_2 : zT 149 2 = some (.getfield 58, 3, 6, 12, 0, 190) := by decide +kernel
theorem t149_5 : zT 149 5 = some (.iconst 2, 1, 0, 0, 2, 0) := by decide +kernel
theorem t149_6 : zT 149 6 = some (.iaload, 1, 0, 0, 0, 0) := by decide +kernel
theorem t149_7 : zT 149 7 = some (.invokestatic 84, 3, 21, 1, 0, 684) := by decide +kernel
theorem t149_10 : zT 149 10 = some (.istore 4, 2, 0, 0, 0, 0) := by decide +kernel
theorem t149_12 : zT 149 12 = some (.iconst 0, 1, 0, 0, 0, 0) := by decide +kernel
theorem t149_13 : zT 149 13 = some (.istore 5, 2, 0, 0, 0, 0) := by decide +kernel
theorem t149_15 : zT 149 15 = some (.iconst 0, 1, 0, 0, 0, 0) := by decide +kernel
theorem t149_16 : zT 149 16 = some (.istore 6, 2, 0, 0, 0, 0) := by decide +kernel
theorem t149_18 : zT 149 18 = some (.iload 6, 2, 0, 0, 0, 0) := by decide +kernel
theorem t149_20 : zT 149 20 = some (.aload_n 0, 1, 0, 0, 0, 0) := by decide +kernel
theorem t149_21 : zT 149 21 = some (.getfield 23, 3, 6, 3, 0, 164) := by decide +kernel
theorem t149_24 : zT 149 24 = some (.if_icmp .ge 72, 3, 96, 0, 0, 0) := by decide +kernel
theorem t149_96 : zT 149 96 = some (.iload 5, 2, 0, 0, 0, 0) := by decide +kernel
theorem t149_98 : zT 149 98 = some (.invokestatic 110, 3, 113, 1, 0, 1264) := by decide +kernel
theorem t149_101 : zT 149 101 = some (.ireturn, 1, 0, 0, 0, 0) := by decide +kernel
theorem t150_0 : zT 150 0 = some (.iload_n 1, 1, 1, 0, 0, 0) := by decide +kernel
theorem t150_1 : zT 150 1 = some (.tableswitch 81 0 5 #[39, 46, 53, 60, 67, 74], 39, 0, 0, 0, 0) := by decide +kernel
theorem t150_40 : zT 150 40 = some (.aload_n 0, 1, 0, 0, 0, 0) := by decide +kernel
theorem t150_41 : zT 150 41 = some (.bipush 110, 2, 0, 0, 110, 0) := by decide +kernel
theorem t150_43 : zT 150 43 = some (.invokevirtual 253, 3, 151, 0, 0, 1269) := by decide +kernel
theorem t150_46 : zT 150 46 = some (.ireturn, 1, 0, 0, 0, 0) := by decide +kernel
theorem t150_47 : zT 150 47 = some (.aload_n 0, 1, 0, 0, 0, 0) := by decide +kernel
theorem t150_48 : zT 150 48 = some (.bipush 103, 2, 0, 0, 103, 0) := by decide +kernel
theorem t150_50 : zT 150 50 = some (.invokevirtual 253, 3, 151, 0, 0, 1269) := by decide +kernel
theorem t150_53 : zT 150 53 = some (.ireturn, 1, 0, 0, 0, 0) := by decide +kernel
theorem t150_54 : zT 150 54 = some (.aload_n 0, 1, 0, 0, 0, 0) := by decide +kernel
theorem t150_55 : zT 150 55 = some (.bipush 118, 2, 0, 0, 118, 0) := by decide +kernel
theorem t150_57 : zT 150 57 = some (.invokevirtual 253, 3, 151, 0, 0, 1269) := by decide +kernel
theorem t150_60 : zT 150 60 = some (.ireturn, 1, 0, 0, 0, 0) := by decide +kernel
theorem t150_61 : zT 150 61 = some (.aload_n 0, 1, 0, 0, 0, 0) := by decide +kernel
theorem t150_62 : zT 150 62 = some (.bipush 117, 2, 0, 0, 117, 0) := by decide +kernel
theorem t150_64 : zT 150 64 = some (.invokevirtual 253, 3, 151, 0, 0, 1269) := by decide +kernel
theorem t150_67 : zT 150 67 = some (.ireturn, 1, 0, 0, 0, 0) := by decide +kernel
theorem t150_68 : zT 150 68 = some (.aload_n 0, 1, 0, 0, 0, 0) := by decide +kernel
theorem t150_69 : zT 150 69 = some (.bipush 109, 2, 0, 0, 109, 0) := by decide +kernel
theorem t150_71 : zT 150 71 = some (.invokevirtual 253, 3, 151, 0, 0, 1269) := by decide +kernel
theorem t150_74 : zT 150 74 = some (.ireturn, 1, 0, 0, 0, 0) := by decide +kernel
theorem t150_75 : zT 150 75 = some (.aload_n 0, 1, 0, 0, 0, 0) := by decide +kernel
theorem t150_76 : zT 150 76 = some (.bipush 111, 2, 0, 0, 111, 0) := by decide +kernel
theorem t150_78 : zT 150 78 = some (.invokevirtual 253, 3, 151, 0, 0, 1269) := by decide +kernel
theorem t150_81 : zT 150 81 = some (.ireturn, 1, 0, 0, 0, 0) := by decide +kernel
theorem t150_82 : zT 150 82 = some (.iconst (-1), 1, 0, 0, (-1), 0) := by decide +kernel
theorem t150_83 : zT 150 83 = some (.ireturn, 1, 0, 0, 0, 0) := by decide +kernel
theorem t151_0 : zT 151 0 = some (.iload_n 1, 1, 1, 0, 0, 0) := by decide +kernel
theorem t151_1 : zT 151 1 = some (.tableswitch 204 103 118 #[117, 94, 204, 204, 204, 158, 143, 79, 189, 204, 204, 204, 204, 204, 166, 102], 79, 0, 0, 0, 0) := by decide +kernel
theorem t151_80 : zT 151 80 = some (.aload_n 0, 1, 0, 0, 0, 0) := by decide +kernel
theorem t151_81 : zT 151 81 = some (.getfield 50, 3, 11, 6, 0, 604) := by decide +kernel
theorem t151_84 : zT 151 84 = some (.aload_n 0, 1, 0, 0, 0, 0) := by decide +kernel
theorem t151_85 : zT 151 85 = some (.getfield 12, 3, 11, 0, 0, 598) := by decide +kernel
theorem t151_88 : zT 151 88 = some (.invokevirtual 212, 3, 105, 0, 0, 1068) := by decide +kernel
theorem t151_91 : zT 151 91 = some (.invokevirtual 234, 3, 144, 0, 0, 1237) := by decide +kernel
theorem t151_94 : zT 151 94 = some (.ireturn, 1, 0, 0, 0, 0) := by decide +kernel
theorem t151_95 : zT 151 95 = some (.aload_n 0, 1, 0, 0, 0, 0) := by decide +kernel
theorem t151_96 : zT 151 96 = some (.getfield 12, 3, 11, 0, 0, 598) := by decide +kernel
theorem t151_99 : zT 151 99 = some (.invokevirtual 170, 3, 92, 0, 0, 1010) := by decide +kernel
theorem t151_102 : zT 151 102 = some (.ireturn, 1, 0, 0, 0, 0) := by decide +kernel
theorem t151_103 : zT 151 103 = some (.aload_n 0, 1, 0, 0, 0, 0) := by decide +kernel
theorem t151_104 : zT 151 104 = some (.getfield 50, 3, 11, 6, 0, 604) := by decide +kernel
theorem t151_107 : zT 151 107 = some (.aload_n 0, 1, 0, 0, 0, 0) := by decide +kernel
theorem t151_108 : zT 151 108 = some (.getfield 12, 3, 11, 0, 0, 598) := by decide +kernel
theorem t151_111 : zT 151 111 = some (.invokevirtual 212, 3, 105, 0, 0, 1068) := by decide +kernel
theorem t151_114 : zT 151 114 = some (.invokevirtual 312, 3, 152, 0, 0, 1273) := by decide +kernel
theorem t151_117 : zT 151 117 = some (.ireturn, 1, 0, 0, 0, 0) := by decide +kernel
theorem t151_118 : zT 151 118 = some (.aload_n 0, 1, 0, 0, 0, 0) := by decide +kernel
theorem t151_119 : zT 151 119 = some (.getfield 57, 3, 11, 7, 0, 605) := by decide +kernel
theorem t151_122 : zT 151 122 = some (.aload_n 0, 1, 0, 0, 0, 0) := by decide +kernel
theorem t151_123 : zT 151 123 = some (.getfield 12, 3, 11, 0, 0, 598) := by decide +kernel
theorem t151_126 : zT 151 126 = some (.aload_n 0, 1, 0, 0, 0, 0) := by decide +kernel
theorem t151_127 : zT 151 127 = some (.getfield 50, 3, 11, 6, 0, 604) := by decide +kernel
theorem t151_130 : zT 151 130 = some (.aload_n 0, 1, 0, 0, 0, 0) := by decide +kernel
theorem t151_131 : zT 151 131 = some (.getfield 12, 3, 11, 0, 0, 598) := by decide +kernel
theorem t151_134 : zT 151 134 = some (.invokevirtual 212, 3, 105, 0, 0, 1068) := by decide +kernel
theorem t151_137 : zT 151 137 = some (.invokevirtual 344, 3, 153, 0, 0, 1277) := by decide +kernel
theorem t151_140 : zT 151 140 = some (.invokevirtual 347, 3, 165, 0, 0, 1334) := by decide +kernel
theorem t151_143 : zT 151 143 = some (.ireturn, 1, 0, 0, 0, 0) := by decide +kernel
theorem t151_144 : zT 151 144 = some (.aload_n 0, 1, 0, 0, 0, 0) := by decide +kernel
theorem t151_145 : zT 151 145 = some (.getfield 50, 3, 11, 6, 0, 604) := by decide +kernel
theorem t151_148 : zT 151 148 = some (.aload_n 0, 1, 0, 0, 0, 0) := by decide +kernel
theorem t151_149 : zT 151 149 = some (.getfield 12, 3, 11, 0, 0, 598) := by decide +kernel
theorem t151_152 : zT 151 152 = some (.invokevirtual 212, 3, 105, 0, 0, 1068) := by decide +kernel
theorem t151_155 : zT 151 155 = some (.invokevirtual 350, 3, 166, 0, 0, 1338) := by decide +kernel
theorem t151_158 : zT 151 158 = some (.ireturn, 1, 0, 0, 0, 0) := by decide +kernel
theorem t151_159 : zT 151 159 = some (.aload_n 0, 1, 0, 0, 0, 0) := by decide +kernel
theorem t151_160 : zT 151 160 = some (.getfield 12, 3, 11, 0, 0, 598) := by decide +kernel
theorem t151_163 : zT 151 163 = some (.invokevirtual 164, 3, 100, 0, 0, 1046) := by decide +kernel
theorem t151_166 : zT 151 166 = some (.ireturn, 1, 0, 0, 0, 0) := by decide +kernel
theorem t151_167 : zT 151 167 = some (.aload_n 0, 1, 0, 0, 0, 0) := by decide +kernel
theorem t151_168 : zT 151 168 = some (.getfield 12, 3, 11, 0, 0, 598) := by decide +kernel
theorem t151_171 : zT 151 171 = some (.invokevirtual 170, 3, 92, 0, 0, 1010) := by decide +kernel
theorem t151_174 : zT 151 174 = some (.aload_n 0, 1, 0, 0, 0, 0) := by decide +kernel
theorem t151_175 : zT 151 175 = some (.getfield 50, 3, 11, 6, 0, 604) := by decide +kernel
theorem t151_178 : zT 151 178 = some (.aload_n 0, 1, 0, 0, 0, 0) := by decide +kernel
theorem t151_179 : zT 151 179 = some (.getfield 12, 3, 11, 0, 0, 598) := by decide +kernel
theorem t151_182 : zT 151 182 = some (.invokevirtual 212, 3, 105, 0, 0, 1068) := by decide +kernel
theorem t151_185 : zT 151 185 = some (.invokevirtual 353, 3, 167, 0, 0, 1343) := by decide +kernel
theorem t151_188 : zT 151 188 = some (.isub, 1, 0, 0, 0, 0) := by decide +kernel
theorem t151_189 : zT 151 189 = some (.ireturn, 1, 0, 0, 0, 0) := by decide +kernel
theorem t151_190 : zT 151 190 = some (.aload_n 0, 1, 0, 0, 0, 0) := by decide +kernel
theorem t151_191 : zT 151 191 = some (.getfield 50, 3, 11, 6, 0, 604) := by decide +kernel
theorem t151_194 : zT 151 194 = some (.aload_n 0, 1, 0, 0, 0, 0) := by decide +kernel
theorem t151_195 : zT 151 195 = some (.getfield 12, 3, 11, 0, 0, 598) := by decide +kernel
theorem t151_198 : zT 151 198 = some (.invokevirtual 212, 3, 105, 0, 0, 1068) := by decide +kernel
theorem t151_201 : zT 151 201 = some (.invokevirtual 356, 3, 168, 0, 0, 1347) := by decide +kernel
theorem t151_204 : zT 151 204 = some (.ireturn, 1, 0, 0, 0, 0) := by decide +kernel
theorem t151_205 : zT 151 205 = some (.iconst (-1), 1, 0, 0, (-1), 0) := by decide +kernel
theorem t151_206 : zT 151 206 = some (.ireturn, 1, 0, 0, 0, 0) := by decide +kernel
theorem t152_0 : zT 152 0 = some (.aload_n 0, 1, 0, 0, 0, 0) := by decide +kernel
theorem t152_1 : zT 152 1 = some (.getfield 45, 3, 4, 9, 0, 501) := by decide +kernel
theorem t152_4 : zT 152 4 = some (.ireturn, 1, 0, 0, 0, 0) := by decide +kernel
theorem t163_0 : zT 163 0 = some (.iload_n 1, 1, 1, 0, 0, 0) := by decide +kernel
theorem t163_1 : zT 163 1 = some (.aload_n 0, 1, 0, 0, 0, 0) := by decide +kernel
theorem t163_2 : zT 163 2 = some (.getfield 29, 3, 4, 4, 0, 496) := by decide +kernel
theorem t163_5 : zT 163 5 = some (.if_icmp .ge 14, 3, 19, 0, 0, 0) := by decide +kernel
theorem t163_8 : zT 163 8 = some (.aload_n 0, 1, 0, 0, 0, 0) := by decide +kernel
theorem t163_9 : zT 163 9 = some (.getfield 18, 3, 4, 1, 0, 493) := by decide +kernel
theorem t163_12 : zT 163 12 = some (.iload_n 1, 1, 1, 0, 0, 0) := by decide +kernel
theorem t163_13 : zT 163 13 = some (.invokevirtual 96, 3, 126, 0, 0, 1163) := by decide +kernel
theorem t163_16 : zT 163 16 = some (.goto 4, 3, 20, 0, 0, 0) := by decide +kernel
theorem t163_19 : zT 163 19 = some (.aconst_null, 1, 0, 0, 0, 0) := by decide +kernel
theorem t163_20 : zT 163 20 = some (.areturn, 1, 0, 0, 0, 0) := by decide +kernel
theorem t165_0 : zT 165 0 = some (.aload_n 0, 1, 0, 0, 0, 0) := by decide +kernel
theorem t165_1 : zT 165 1 = some (.getfield 15, 3, 1, 1, 0, 545) := by decide +kernel
theorem t165_4 : zT 165 4 = some (.ireturn, 1, 0, 0, 0, 0) := by decide +kernel
theorem t166_0 : zT 166 0 = some (.aload_n 0, 1, 0, 0, 0, 0) := by decide +kernel
theorem t166_1 : zT 166 1 = some (.iconst 0, 1, 0, 0, 0, 0) := by decide +kernel
theorem t166_2 : zT 166 2 = some (.invokevirtual 146, 3, 163, 0, 0, 1342) := by decide +kernel
theorem t166_5 : zT 166 5 = some (.astore_n 1, 1, 1, 0, 0, 0) := by decide +kernel
theorem t166_6 : zT 166 6 = some (.aload_n 1, 1, 1, 0, 0, 0) := by decide +kernel
theorem t166_7 : zT 166 7 = some (.ifnonnull 7, 3, 14, 0, 0, 0) := by decide +kernel
theorem t166_10 : zT 166 10 = some (.iconst 0, 1, 0, 0, 0, 0) := by decide +kernel
theorem t166_11 : zT 166 11 = some (.goto 7, 3, 18, 0, 0, 0) := by decide +kernel
theorem t166_18 : zT 166 18 = some (.ireturn, 1, 0, 0, 0, 0) := by decide +kernel
theorem t167_0 : zT 167 0 = some (.iconst 0, 1, 0, 0, 0, 0) := by decide +kernel
theorem t167_1 : zT 167 1 = some (.istore_n 1, 1, 1, 0, 0, 0) := by decide +kernel
theorem t167_2 : zT 167 2 = some (.iconst 0, 1, 0, 0, 0, 0) := by decide +kernel
theorem t167_3 : zT 167 3 = some (.istore_n 2, 1, 2, 0, 0, 0) := by decide +kernel
theorem t167_4 : zT 167 4 = some (.iload_n 2, 1, 2, 0, 0, 0) := by decide +kernel
theorem t167_5 : zT 167 5 = some (.aload_n 0, 1, 0, 0, 0, 0) := by decide +kernel
theorem t167_6 : zT 167 6 = some (.getfield 29, 3, 4, 4, 0, 496) := by decide +kernel
theorem t167_9 : zT 167 9 = some (.if_icmp .ge 33, 3, 42, 0, 0, 0) := by decide +kernel
theorem t167_42 : zT 167 42 = some (.iload_n 1, 1, 1, 0, 0, 0) := by decide +kernel
theorem t167_43 : zT 167 43 = some (.ireturn, 1, 0, 0, 0, 0) := by decide +kernel
theorem t168_0 : zT 168 0 = some (.iconst 0, 1, 0, 0, 0, 0) := by decide +kernel
theorem t168_1 : zT 168 1 = some (.istore_n 1, 1, 1, 0, 0, 0) := by decide +kernel
theorem t168_2 : zT 168 2 = some (.iconst 0, 1, 0, 0, 0, 0) := by decide +kernel
theorem t168_3 : zT 168 3 = some (.istore_n 2, 1, 2, 0, 0, 0) := by decide +kernel
theorem t168_4 : zT 168 4 = some (.iload_n 2, 1, 2, 0, 0, 0) := by decide +kernel
theorem t168_5 : zT 168 5 = some (.aload_n 0, 1, 0, 0, 0, 0) := by decide +kernel
theorem t168_6 : zT 168 6 = some (.getfield 45, 3, 4, 9, 0, 501) := by decide +kernel
theorem t168_9 : zT 168 9 = some (.if_icmp .ge 20, 3, 29, 0, 0, 0) := by decide +kernel
theorem t168_29 : zT 168 29 = some (.iload_n 1, 1, 1, 0, 0, 0) := by decide +kernel
