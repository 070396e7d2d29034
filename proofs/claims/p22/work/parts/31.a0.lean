theorem li13 : (13 : Int32).toInt = 13 := by decide
theorem li104 : (104 : Int32).toInt = 104 := by decide
theorem li112 : (112 : Int32).toInt = 112 := by decide
theorem li120 : (120 : Int32).toInt = 120 := by decide
theorem li270 : (270 : Int32).toInt = 270 := by decide
theorem li506 : (506 : Int32).toInt = 506 := by decide
theorem lln9999 : (-9999 : Int64).toInt = (-9999) := by decide
theorem lln999 : (-999 : Int64).toInt = (-999) := by decide
theorem lln99 : (-99 : Int64).toInt = (-99) := by decide
theorem ll2 : (2 : Int64).toInt = 2 := by decide
theorem ll3 : (3 : Int64).toInt = 3 := by decide
theorem ll4 : (4 : Int64).toInt = 4 := by decide
theorem ll5 : (5 : Int64).toInt = 5 := by decide
theorem ll8 : (8 : Int64).toInt = 8 := by decide
theorem ll13 : (13 : Int64).toInt = 13 := by decide
theorem ll19 : (19 : Int64).toInt = 19 := by decide
theorem ll50 : (50 : Int64).toInt = 50 := by decide
theorem ll99 : (99 : Int64).toInt = 99 := by decide
theorem ll100 : (100 : Int64).toInt = 100 := by decide
theorem ll200 : (200 : Int64).toInt = 200 := by decide
theorem ll999 : (999 : Int64).toInt = 999 := by decide
theorem ll1000 : (1000 : Int64).toInt = 1000 := by decide
theorem ll9999 : (9999 : Int64).toInt = 9999 := by decide
theorem ll10000 : (10000 : Int64).toInt = 10000 := by decide
theorem mf225 : zmf 225 1 12 1 1 := by unfold zmf; decide +kernel
theorem mf226 : zmf 226 3 12 0 4 := by unfold zmf; decide +kernel
theorem mf227 : zmf 227 2 12 1 2 := by unfold zmf; decide +kernel
theorem mf228 : zmf 228 3 12 0 6 := by unfold zmf; decide +kernel
theorem mf229 : zmf 229 2 12 2 2 := by unfold zmf; decide +kernel
theorem mf230 : zmf 230 2 12 1 3 := by unfold zmf; decide +kernel
theorem mf231 : zmf 231 6 12 1 6 := by unfold zmf; decide +kernel
theorem mf232 : zmf 232 2 12 0 3 := by unfold zmf; decide +kernel
theorem mf233 : zmf 233 2 12 1 2 := by unfold zmf; decide +kernel
theorem mf234 : zmf 234 1 12 0 1 := by unfold zmf; decide +kernel
theorem mf235 : zmf 235 1 12 6 2 := by unfold zmf; decide +kernel
theorem mf236 : zmf 236 1 12 0 1 := by unfold zmf; decide +kernel
theorem mf237 : zmf 237 1 12 5 2 := by unfold zmf; decide +kernel
theorem mf238 : zmf 238 1 12 0 1 := by unfold zmf; decide +kernel
theorem mf239 : zmf 239 2 12 0 2 := by unfold zmf; decide +kernel
theorem mf240 : zmf 240 1 12 4 2 := by unfold zmf; decide +kernel
theorem mf241 : zmf 241 2 12 0 2 := by unfold zmf; decide +kernel
theorem mf242 : zmf 242 5 12 3 5 := by unfold zmf; decide +kernel
theorem mf243 : zmf 243 3 12 2 5 := by unfold zmf; decide +kernel
theorem mf244 : zmf 244 5 12 1 6 := by unfold zmf; decide +kernel
theorem mf245 : zmf 245 1 12 0 1 := by unfold zmf; decide +kernel
theorem mf246 : zmf 246 2 12 1 2 := by unfold zmf; decide +kernel
theorem mf247 : zmf 247 1 12 4 2 := by unfold zmf; decide +kernel
theorem mf248 : zmf 248 2 12 4 6 := by unfold zmf; decide +kernel
theorem mf249 : zmf 249 4 12 2 4 := by unfold zmf; decide +kernel
theorem mf250 : zmf 250 2 12 0 4 := by unfold zmf; decide +kernel
theorem mf251 : zmf 251 3 12 1 3 := by unfold zmf; decide +kernel
theorem mf252 : zmf 252 5 12 0 6 := by unfold zmf; decide +kernel
theorem mf253 : zmf 253 1 12 0 1 := by unfold zmf; decide +kernel
theorem mf260 : zmf 260 1 12 0 1 := by unfold zmf; decide +kernel
theorem mf262 : zmf 262 1 12 0 1 := by unfold zmf; decide +kernel
theorem mf267 : zmf 267 2 12 7 2 := by unfold zmf; decide +kernel
theorem mf268 : zmf 268 1 12 6 1 := by unfold zmf; decide +kernel
theorem mf269 : zmf 269 3 12 5 6 := by unfold zmf; decide +kernel
theorem mf270 : zmf 270 2 12 2 3 := by unfold zmf; decide +kernel
theorem mf271 : zmf 271 3 12 1 4 := by unfold zmf; decide +kernel
theorem mf272 : zmf 272 3 12 0 3 := by unfold zmf; decide +kernel
theorem mf273 : zmf 273 2 12 0 2 := by unfold zmf; decide +kernel
theorem mf274 : zmf 274 3 12 4 5 := by unfold zmf; decide +kernel
theorem mf275 : zmf 275 3 12 3 4 := by unfold zmf; decide +kernel
theorem mf276 : zmf 276 2 12 0 3 := by unfold zmf; decide +kernel
theorem mf277 : zmf 277 2 12 1 4 := by unfold zmf; decide +kernel
theorem mf278 : zmf 278 1 12 0 3 := by unfold zmf; decide +kernel
theorem mf279 : zmf 279 8 12 1 8 := by unfold zmf; decide +kernel
theorem mf280 : zmf 280 1 12 0 1 := by unfold zmf; decide +kernel
theorem mf281 : zmf 281 1 12 4 8 := by unfold zmf; decide +kernel
theorem mf282 : zmf 282 1 12 3 19 := by unfold zmf; decide +kernel
theorem mf283 : zmf 283 3 12 2 3 := by unfold zmf; decide +kernel
theorem mf284 : zmf 284 1 12 2 3 := by unfold zmf; decide +kernel
theorem mf285 : zmf 285 2 12 1 2 := by unfold zmf; decide +kernel
theorem mf286 : zmf 286 2 12 0 4 := by unfold zmf; decide +kernel
theorem mf287 : zmf 287 1 12 4 5 := by unfold zmf; decide +kernel
theorem mf288 : zmf 288 4 12 0 5 := by unfold zmf; decide +kernel
theorem mf289 : zmf 289 5 12 2 7 := by unfold zmf; decide +kernel
theorem mf290 : zmf 290 2 12 2 4 := by unfold zmf; decide +kernel
theorem mf291 : zmf 291 3 12 0 5 := by unfold zmf; decide +kernel
theorem mf292 : zmf 292 1 12 1 3 := by unfold zmf; decide +kernel
theorem mf293 : zmf 293 1 12 2 3 := by unfold zmf; decide +kernel
theorem mf294 : zmf 294 3 12 0 3 := by unfold zmf; decide +kernel
theorem mf295 : zmf 295 2 12 8 2 := by unfold zmf; decide +kernel
theorem mf296 : zmf 296 3 12 7 3 := by unfold zmf; decide +kernel
theorem mf297 : zmf 297 2 12 1 2 := by unfold zmf; decide +kernel
theorem mf298 : zmf 298 3 12 1 7 := by unfold zmf; decide +kernel
theorem mf299 : zmf 299 2 12 0 10 := by unfold zmf; decide +kernel
theorem mf300 : zmf 300 4 12 7 6 := by unfold zmf; decide +kernel
theorem mf301 : zmf 301 3 12 7 3 := by unfold zmf; decide +kernel
theorem mf302 : zmf 302 3 12 7 3 := by unfold zmf; decide +kernel
theorem mf303 : zmf 303 2 12 0 2 := by unfold zmf; decide +kernel
theorem mf304 : zmf 304 2 12 3 2 := by unfold zmf; decide +kernel
theorem mf305 : zmf 305 3 12 3 3 := by unfold zmf; decide +kernel
theorem mf306 : zmf 306 2 12 1 2 := by unfold zmf; decide +kernel
theorem mf307 : zmf 307 3 12 7 3 := by unfold zmf; decide +kernel
theorem mf308 : zmf 308 2 12 1 2 := by unfold zmf; decide +kernel
theorem mf309 : zmf 309 3 12 7 3 := by unfold zmf; decide +kernel
theorem mf310 : zmf 310 2 12 1 2 := by unfold zmf; decide +kernel
theorem mf311 : zmf 311 2 12 2 4 := by unfold zmf; decide +kernel
theorem mf312 : zmf 312 2 12 3 6 := by unfold zmf; decide +kernel
theorem mf313 : zmf 313 3 12 1 5 := by unfold zmf; decide +kernel
theorem mf314 : zmf 314 4 12 3 4 := by unfold zmf; decide +kernel
theorem mf315 : zmf 315 4 12 3 7 := by unfold zmf; decide +kernel
theorem mf316 : zmf 316 2 12 8 2 := by unfold zmf; decide +kernel
theorem mf317 : zmf 317 3 12 7 3 := by unfold zmf; decide +kernel
theorem mf318 : zmf 318 2 12 0 4 := by unfold zmf; decide +kernel
theorem mf319 : zmf 319 2 12 3 7 := by unfold zmf; decide +kernel
theorem mf320 : zmf 320 3 12 2 6 := by unfold zmf; decide +kernel
theorem mf321 : zmf 321 3 12 7 3 := by unfold zmf; decide +kernel
theorem mf322 : zmf 322 1 12 7 1 := by unfold zmf; decide +kernel
theorem mf323 : zmf 323 6 12 9 6 := by unfold zmf; decide +kernel
theorem mf324 : zmf 324 4 12 1 4 := by unfold zmf; decide +kernel
theorem mf325 : zmf 325 5 12 8 12 := by unfold zmf; decide +kernel
theorem mf326 : zmf 326 4 12 9 5 := by unfold zmf; decide +kernel
theorem mf327 : zmf 327 2 12 7 3 := by unfold zmf; decide +kernel
theorem mf328 : zmf 328 2 12 6 8 := by unfold zmf; decide +kernel
theorem mf329 : zmf 329 1 12 4 3 := by unfold zmf; decide +kernel
theorem mf330 : zmf 330 1 12 4 4 := by unfold zmf; decide +kernel
theorem mf331 : zmf 331 4 12 2 4 := by unfold zmf; decide +kernel
theorem mf332 : zmf 332 2 12 3 2 := by unfold zmf; decide +kernel
theorem mf333 : zmf 333 2 12 2 2 := by unfold zmf; decide +kernel
theorem mf334 : zmf 334 2 12 2 3 := by unfold zmf; decide +kernel
theorem mf335 : zmf 335 3 12 2 5 := by unfold zmf; decide +kernel
theorem mf336 : zmf 336 3 12 7 3 := by unfold zmf; decide +kernel
theorem mf337 : zmf 337 3 12 2 3 := by unfold zmf; decide +kernel
theorem mf338 : zmf 338 2 12 7 4 := by unfold zmf; decide +kernel
theorem mf339 : zmf 339 3 12 7 7 := by unfold zmf; decide +kernel
theorem mf340 : zmf 340 3 12 7 8 := by unfold zmf; decide +kernel
theorem mf341 : zmf 341 3 12 1 8 := by unfold zmf; decide +kernel
theorem mf342 : zmf 342 1 12 5 2 := by unfold zmf; decide +kernel
theorem mf343 : zmf 343 1 12 3 5 := by unfold zmf; decide +kernel
theorem mf344 : zmf 344 2 12 4 2 := by unfold zmf; decide +kernel
theorem mf345 : zmf 345 1 12 0 1 := by unfold zmf; decide +kernel
theorem mf346 : zmf 346 1 12 2 2 := by unfold zmf; decide +kernel
theorem mf347 : zmf 347 2 12 0 2 := by unfold zmf; decide +kernel
theorem mf348 : zmf 348 3 12 1 4 := by unfold zmf; decide +kernel
theorem mf349 : zmf 349 2 12 1 2 := by unfold zmf; decide +kernel
theorem mr225 : (mt 225).2.2.2.1 = some .int := by decide +kernel
theorem mr226 : (mt 226).2.2.2.1 = none := by decide +kernel
theorem mr227 : (mt 227).2.2.2.1 = some .boolean := by decide +kernel
theorem mr228 : (mt 228).2.2.2.1 = some .boolean := by decide +kernel
theorem mr229 : (mt 229).2.2.2.1 = some .boolean := by decide +kernel
theorem mr230 : (mt 230).2.2.2.1 = none := by decide +kernel
theorem mr231 : (mt 231).2.2.2.1 = some .int := by decide +kernel
theorem mr232 : (mt 232).2.2.2.1 = none := by decide +kernel
theorem mr233 : (mt 233).2.2.2.1 = some .int := by decide +kernel
theorem mr234 : (mt 234).2.2.2.1 = some .int := by decide +kernel
theorem mr235 : (mt 235).2.2.2.1 = some .int := by decide +kernel
theorem mr236 : (mt 236).2.2.2.1 = none := by decide +kernel
theorem mr237 : (mt 237).2.2.2.1 = some .boolean := by decide +kernel
theorem mr238 : (mt 238).2.2.2.1 = some .int := by decide +kernel
theorem mr239 : (mt 239).2.2.2.1 = some .boolean := by decide +kernel
theorem mr240 : (mt 240).2.2.2.1 = some .boolean := by decide +kernel
theorem mr241 : (mt 241).2.2.2.1 = some .int := by decide +kernel
theorem mr242 : (mt 242).2.2.2.1 = some .boolean := by decide +kernel
theorem mr243 : (mt 243).2.2.2.1 = some .boolean := by decide +kernel
theorem mr244 : (mt 244).2.2.2.1 = some .boolean := by decide +kernel
theorem mr245 : (mt 245).2.2.2.1 = some .boolean := by decide +kernel
theorem mr246 : (mt 246).2.2.2.1 = some .boolean := by decide +kernel
theorem mr247 : (mt 247).2.2.2.1 = some .boolean := by decide +kernel
theorem mr248 : (mt 248).2.2.2.1 = some .boolean := by decide +kernel
theorem mr249 : (mt 249).2.2.2.1 = some .int := by decide +kernel
theorem mr250 : (mt 250).2.2.2.1 = some .int := by decide +kernel
theorem mr251 : (mt 251).2.2.2.1 = some .int := by decide +kernel
theorem mr252 : (mt 252).2.2.2.1 = none := by decide +kernel
theorem mr253 : (mt 253).2.2.2.1 = some .boolean := by decide +kernel
theorem mr260 : (mt 260).2.2.2.1 = some .int := by decide +kernel
theorem mr262 : (mt 262).2.2.2.1 = some .boolean := by decide +kernel
theorem mr267 : (mt 267).2.2.2.1 = some .int := by decide +kernel
theorem mr268 : (mt 268).2.2.2.1 = none := by decide +kernel
theorem mr269 : (mt 269).2.2.2.1 = none := by decide +kernel
theorem mr270 : (mt 270).2.2.2.1 = none := by decide +kernel
theorem mr271 : (mt 271).2.2.2.1 = some .boolean := by decide +kernel
theorem mr272 : (mt 272).2.2.2.1 = some .int := by decide +kernel
theorem mr273 : (mt 273).2.2.2.1 = some .boolean := by decide +kernel
theorem mr274 : (mt 274).2.2.2.1 = none := by decide +kernel
theorem mr275 : (mt 275).2.2.2.1 = none := by decide +kernel
theorem mr276 : (mt 276).2.2.2.1 = some .boolean := by decide +kernel
theorem mr277 : (mt 277).2.2.2.1 = some .int := by decide +kernel
theorem mr278 : (mt 278).2.2.2.1 = some .int := by decide +kernel
theorem mr279 : (mt 279).2.2.2.1 = some .boolean := by decide +kernel
theorem mr280 : (mt 280).2.2.2.1 = some .int := by decide +kernel
theorem mr281 : (mt 281).2.2.2.1 = none := by decide +kernel
theorem mr282 : (mt 282).2.2.2.1 = none := by decide +kernel
theorem mr283 : (mt 283).2.2.2.1 = some .int := by decide +kernel
theorem mr284 : (mt 284).2.2.2.1 = none := by decide +kernel
theorem mr285 : (mt 285).2.2.2.1 = some .int := by decide +kernel
theorem mr286 : (mt 286).2.2.2.1 = some .long := by decide +kernel
theorem mr287 : (mt 287).2.2.2.1 = none := by decide +kernel
theorem mr288 : (mt 288).2.2.2.1 = some .boolean := by decide +kernel
theorem mr289 : (mt 289).2.2.2.1 = none := by decide +kernel
theorem mr290 : (mt 290).2.2.2.1 = some .int := by decide +kernel
theorem mr291 : (mt 291).2.2.2.1 = some .int := by decide +kernel
theorem mr292 : (mt 292).2.2.2.1 = some .int := by decide +kernel
theorem mr293 : (mt 293).2.2.2.1 = some .int := by decide +kernel
theorem mr294 : (mt 294).2.2.2.1 = some .int := by decide +kernel
theorem mr295 : (mt 295).2.2.2.1 = some .int := by decide +kernel
theorem mr296 : (mt 296).2.2.2.1 = some .long := by decide +kernel
theorem mr297 : (mt 297).2.2.2.1 = some .boolean := by decide +kernel
theorem mr298 : (mt 298).2.2.2.1 = some .long := by decide +kernel
theorem mr299 : (mt 299).2.2.2.1 = some .long := by decide +kernel
theorem mr300 : (mt 300).2.2.2.1 = some .long := by decide +kernel
theorem mr301 : (mt 301).2.2.2.1 = some .int := by decide +kernel
theorem mr302 : (mt 302).2.2.2.1 = some .int := by decide +kernel
theorem mr303 : (mt 303).2.2.2.1 = some .int := by decide +kernel
theorem mr304 : (mt 304).2.2.2.1 = some .int := by decide +kernel
theorem mr305 : (mt 305).2.2.2.1 = some .int := by decide +kernel
theorem mr306 : (mt 306).2.2.2.1 = some .boolean := by decide +kernel
theorem mr307 : (mt 307).2.2.2.1 = some .int := by decide +kernel
theorem mr308 : (mt 308).2.2.2.1 = some .boolean := by decide +kernel
theorem mr309 : (mt 309).2.2.2.1 = some .int := by decide +kernel
theorem mr310 : (mt 310).2.2.2.1 = some .boolean := by decide +kernel
theorem mr311 : (mt 311).2.2.2.1 = some .int := by decide +kernel
theorem mr312 : (mt 312).2.2.2.1 = some .int := by decide +kernel
theorem mr313 : (mt 313).2.2.2.1 = some .int := by decide +kernel
theorem mr314 : (mt 314).2.2.2.1 = some .int := by decide +kernel
theorem mr315 : (mt 315).2.2.2.1 = some .int := by decide +kernel
theorem mr316 : (mt 316).2.2.2.1 = some .int := by decide +kernel
theorem mr317 : (mt 317).2.2.2.1 = some .int := by decide +kernel
theorem mr318 : (mt 318).2.2.2.1 = some .int := by decide +kernel
theorem mr319 : (mt 319).2.2.2.1 = some .int := by decide +kernel
theorem mr320 : (mt 320).2.2.2.1 = some .int := by decide +kernel
theorem mr321 : (mt 321).2.2.2.1 = some .int := by decide +kernel
theorem mr322 : (mt 322).2.2.2.1 = some .int := by decide +kernel
theorem mr323 : (mt 323).2.2.2.1 = some .int := by decide +kernel
theorem mr324 : (mt 324).2.2.2.1 = some .boolean := by decide +kernel
theorem mr325 : (mt 325).2.2.2.1 = none := by decide +kernel
theorem mr326 : (mt 326).2.2.2.1 = some .int := by decide +kernel
theorem mr327 : (mt 327).2.2.2.1 = some .int := by decide +kernel
theorem mr328 : (mt 328).2.2.2.1 = some .int := by decide +kernel
theorem mr329 : (mt 329).2.2.2.1 = some .int := by decide +kernel
theorem mr330 : (mt 330).2.2.2.1 = some .int := by decide +kernel
theorem mr331 : (mt 331).2.2.2.1 = some .int := by decide +kernel
theorem mr332 : (mt 332).2.2.2.1 = some .int := by decide +kernel
theorem mr333 : (mt 333).2.2.2.1 = some .int := by decide +kernel
theorem mr334 : (mt 334).2.2.2.1 = some .int := by decide +kernel
theorem mr335 : (mt 335).2.2.2.1 = some .int := by decide +kernel
theorem mr336 : (mt 336).2.2.2.1 = some .int := by decide +kernel
theorem mr337 : (mt 337).2.2.2.1 = some .int := by decide +kernel
theorem mr338 : (mt 338).2.2.2.1 = some .int := by decide +kernel
theorem mr339 : (mt 339).2.2.2.1 = some .int := by decide +kernel
theorem mr340 : (mt 340).2.2.2.1 = some .int := by decide +kernel
theorem mr341 : (mt 341).2.2.2.1 = some .int := by decide +kernel
theorem mr342 : (mt 342).2.2.2.1 = some .int := by decide +kernel
theorem mr343 : (mt 343).2.2.2.1 = some .boolean := by decide +kernel
theorem mr344 : (mt 344).2.2.2.1 = some .int := by decide +kernel
theorem mr345 : (mt 345).2.2.2.1 = some .int := by decide +kernel
theorem mr346 : (mt 346).2.2.2.1 = some .int := by decide +kernel
theorem mr347 : (mt 347).2.2.2.1 = none := by decide +kernel
theorem mr348 : (mt 348).2.2.2.1 = none := by decide +kernel
theorem mr349 : (mt 349).2.2.2.1 = some .int := by decide +kernel
theorem t225_0 : zT 225 0 = some (.aload_n 0, 1, 0, 0, 0, 0) := (congrArg (fun t => List.lookup 0 t) gt225).trans rfl
theorem t225_1 : zT 225 1 = some (.getfield 101, 3, 12, 1, 0, 1608) := (congrArg (fun t => List.lookup 1 t) gt225).trans rfl
theorem t225_4 : zT 225 4 = some (.ifCond .ne 5, 3, 9, 0, 0, 0) := (congrArg (fun t => List.lookup 4 t) gt225).trans rfl
theorem t225_7 : zT 225 7 = some (.iconst (-1), 1, 0, 0, (-1), 0) := (congrArg (fun t => List.lookup 7 t) gt225).trans rfl
theorem t225_8 : zT 225 8 = some (.ireturn, 1, 0, 0, 0, 0) := (congrArg (fun t => List.lookup 8 t) gt225).trans rfl
theorem t225_9 : zT 225 9 = some (.aload_n 0, 1, 0, 0, 0, 0) := (congrArg (fun t => List.lookup 9 t) gt225).trans rfl
theorem t225_10 : zT 225 10 = some (.dup, 1, 0, 0, 0, 0) := (congrArg (fun t => List.lookup 10 t) gt225).trans rfl
theorem t225_11 : zT 225 11 = some (.getfield 101, 3, 12, 1, 0, 1608) := (congrArg (fun t => List.lookup 11 t) gt225).trans rfl
theorem t225_14 : zT 225 14 = some (.iconst 1, 1, 0, 0, 1, 0) := (congrArg (fun t => List.lookup 14 t) gt225).trans rfl
theorem t225_15 : zT 225 15 = some (.isub, 1, 0, 0, 0, 0) := (congrArg (fun t => List.lookup 15 t) gt225).trans rfl
theorem t225_16 : zT 225 16 = some (.putfield 101, 3, 12, 1, 0, 1608) := (congrArg (fun t => List.lookup 16 t) gt225).trans rfl
theorem t225_19 : zT 225 19 = some (.aload_n 0, 1, 0, 0, 0, 0) := (congrArg (fun t => List.lookup 19 t) gt225).trans rfl
theorem t225_20 : zT 225 20 = some (.iconst 3, 1, 0, 0, 3, 0) := (congrArg (fun t => List.lookup 20 t) gt225).trans rfl
theorem t225_21 : zT 225 21 = some (.aload_n 0, 1, 0, 0, 0, 0) := (congrArg (fun t => List.lookup 21 t) gt225).trans rfl
theorem t225_22 : zT 225 22 = some (.getfield 101, 3, 12, 1, 0, 1608) := (congrArg (fun t => List.lookup 22 t) gt225).trans rfl
theorem t225_25 : zT 225 25 = some (.iadd, 1, 0, 0, 0, 0) := (congrArg (fun t => List.lookup 25 t) gt225).trans rfl
theorem t225_26 : zT 225 26 = some (.iconst 0, 1, 0, 0, 0, 0) := (congrArg (fun t => List.lookup 26 t) gt225).trans rfl
theorem t225_27 : zT 225 27 = some (.invokevirtual 104, 3, 226, 0, 0, 1766) := (congrArg (fun t => List.lookup 27 t) gt225).trans rfl
theorem t225_30 : zT 225 30 = some (.aload_n 0, 1, 0, 0, 0, 0) := (congrArg (fun t => List.lookup 30 t) gt225).trans rfl
theorem t225_31 : zT 225 31 = some (.iconst 0, 1, 0, 0, 0, 0) := (congrArg (fun t => List.lookup 31 t) gt225).trans rfl
theorem t225_32 : zT 225 32 = some (.putfield 108, 3, 12, 3, 0, 1610) := (congrArg (fun t => List.lookup 32 t) gt225).trans rfl
theorem t225_35 : zT 225 35 = some (.aload_n 0, 1, 0, 0, 0, 0) := (congrArg (fun t => List.lookup 35 t) gt225).trans rfl
theorem t225_36 : zT 225 36 = some (.getfield 101, 3, 12, 1, 0, 1608) := (congrArg (fun t => List.lookup 36 t) gt225).trans rfl
theorem t225_39 : zT 225 39 = some (.ireturn, 1, 0, 0, 0, 0) := (congrArg (fun t => List.lookup 39 t) gt225).trans rfl
theorem t226_0 : zT 226 0 = some (.iconst 0, 1, 0, 0, 0, 0) := (congrArg (fun t => List.lookup 0 t) gt226).trans rfl
theorem t226_1 : zT 226 1 = some (.istore_n 3, 1, 3, 0, 0, 0) := (congrArg (fun t => List.lookup 1 t) gt226).trans rfl
theorem t226_2 : zT 226 2 = some (.iload_n 3, 1, 3, 0, 0, 0) := (congrArg (fun t => List.lookup 2 t) gt226).trans rfl
theorem t226_3 : zT 226 3 = some (.sipush 506, 3, 0, 0, 506, 0) := (congrArg (fun t => List.lookup 3 t) gt226).trans rfl
theorem t226_6 : zT 226 6 = some (.if_icmp .ge 33, 3, 39, 0, 0, 0) := (congrArg (fun t => List.lookup 6 t) gt226).trans rfl
theorem t226_9 : zT 226 9 = some (.aload_n 0, 1, 0, 0, 0, 0) := (congrArg (fun t => List.lookup 9 t) gt226).trans rfl
theorem t226_10 : zT 226 10 = some (.getfield 3, 3, 12, 0, 0, 1607) := (congrArg (fun t => List.lookup 10 t) gt226).trans rfl
theorem t226_13 : zT 226 13 = some (.sipush 506, 3, 0, 0, 506, 0) := (congrArg (fun t => List.lookup 13 t) gt226).trans rfl
theorem t226_16 : zT 226 16 = some (.iload_n 2, 1, 2, 0, 0, 0) := (congrArg (fun t => List.lookup 16 t) gt226).trans rfl
theorem t226_17 : zT 226 17 = some (.imul, 1, 0, 0, 0, 0) := (congrArg (fun t => List.lookup 17 t) gt226).trans rfl
theorem t226_18 : zT 226 18 = some (.iload_n 3, 1, 3, 0, 0, 0) := (congrArg (fun t => List.lookup 18 t) gt226).trans rfl
theorem t226_19 : zT 226 19 = some (.iadd, 1, 0, 0, 0, 0) := (congrArg (fun t => List.lookup 19 t) gt226).trans rfl
theorem t226_20 : zT 226 20 = some (.aload_n 0, 1, 0, 0, 0, 0) := (congrArg (fun t => List.lookup 20 t) gt226).trans rfl
theorem t226_21 : zT 226 21 = some (.getfield 3, 3, 12, 0, 0, 1607) := (congrArg (fun t => List.lookup 21 t) gt226).trans rfl
theorem t226_24 : zT 226 24 = some (.sipush 506, 3, 0, 0, 506, 0) := (congrArg (fun t => List.lookup 24 t) gt226).trans rfl
theorem t226_27 : zT 226 27 = some (.iload_n 1, 1, 1, 0, 0, 0) := (congrArg (fun t => List.lookup 27 t) gt226).trans rfl
theorem t226_28 : zT 226 28 = some (.imul, 1, 0, 0, 0, 0) := (congrArg (fun t => List.lookup 28 t) gt226).trans rfl
theorem t226_29 : zT 226 29 = some (.iload_n 3, 1, 3, 0, 0, 0) := (congrArg (fun t => List.lookup 29 t) gt226).trans rfl
theorem t226_30 : zT 226 30 = some (.iadd, 1, 0, 0, 0, 0) := (congrArg (fun t => List.lookup 30 t) gt226).trans rfl
theorem t226_31 : zT 226 31 = some (.iaload, 1, 0, 0, 0, 0) := (congrArg (fun t => List.lookup 31 t) gt226).trans rfl
theorem t226_32 : zT 226 32 = some (.iastore, 1, 0, 0, 0, 0) := (congrArg (fun t => List.lookup 32 t) gt226).trans rfl
theorem t226_33 : zT 226 33 = some (.iinc 3 1, 3, 0, 0, 0, 0) := (congrArg (fun t => List.lookup 33 t) gt226).trans rfl
theorem t226_36 : zT 226 36 = some (.goto (-34), 3, 2, 0, 0, 0) := (congrArg (fun t => List.lookup 36 t) gt226).trans rfl
theorem t226_39 : zT 226 39 = some (.return_, 1, 0, 0, 0, 0) := (congrArg (fun t => List.lookup 39 t) gt226).trans rfl
theorem t227_0 : zT 227 0 = some (.iload_n 1, 1, 1, 0, 0, 0) := (congrArg (fun t => List.lookup 0 t) gt227).trans rfl
theorem t227_1 : zT 227 1 = some (.i2l, 1, 0, 0, 0, 0) := (congrArg (fun t => List.lookup 1 t) gt227).trans rfl
theorem t227_2 : zT 227 2 = some (.lconst 0, 1, 0, 0, 0, 0) := (congrArg (fun t => List.lookup 2 t) gt227).trans rfl
theorem t227_3 : zT 227 3 = some (.lconst 1, 1, 0, 0, 1, 0) := (congrArg (fun t => List.lookup 3 t) gt227).trans rfl
theorem t227_4 : zT 227 4 = some (.invokestatic 112, 3, 228, 1, 0, 1774) := (congrArg (fun t => List.lookup 4 t) gt227).trans rfl
theorem t227_7 : zT 227 7 = some (.ifCond .ne 5, 3, 12, 0, 0, 0) := (congrArg (fun t => List.lookup 7 t) gt227).trans rfl
theorem t227_10 : zT 227 10 = some (.iconst 0, 1, 0, 0, 0, 0) := (congrArg (fun t => List.lookup 10 t) gt227).trans rfl
theorem t227_11 : zT 227 11 = some (.ireturn, 1, 0, 0, 0, 0) := (congrArg (fun t => List.lookup 11 t) gt227).trans rfl
theorem t227_12 : zT 227 12 = some (.aload_n 0, 1, 0, 0, 0, 0) := (congrArg (fun t => List.lookup 12 t) gt227).trans rfl
theorem t227_13 : zT 227 13 = some (.iconst 0, 1, 0, 0, 0, 0) := (congrArg (fun t => List.lookup 13 t) gt227).trans rfl
theorem t227_14 : zT 227 14 = some (.iconst 1, 1, 0, 0, 1, 0) := (congrArg (fun t => List.lookup 14 t) gt227).trans rfl
theorem t227_15 : zT 227 15 = some (.iload_n 1, 1, 1, 0, 0, 0) := (congrArg (fun t => List.lookup 15 t) gt227).trans rfl
theorem t227_16 : zT 227 16 = some (.iadd, 1, 0, 0, 0, 0) := (congrArg (fun t => List.lookup 16 t) gt227).trans rfl
theorem t227_17 : zT 227 17 = some (.invokevirtual 104, 3, 226, 0, 0, 1766) := (congrArg (fun t => List.lookup 17 t) gt227).trans rfl
theorem t227_20 : zT 227 20 = some (.aload_n 0, 1, 0, 0, 0, 0) := (congrArg (fun t => List.lookup 20 t) gt227).trans rfl
theorem t227_21 : zT 227 21 = some (.getfield 13, 3, 12, 2, 0, 1609) := (congrArg (fun t => List.lookup 21 t) gt227).trans rfl
theorem t227_24 : zT 227 24 = some (.iload_n 1, 1, 1, 0, 0, 0) := (congrArg (fun t => List.lookup 24 t) gt227).trans rfl
theorem t227_25 : zT 227 25 = some (.iconst 1, 1, 0, 0, 1, 0) := (congrArg (fun t => List.lookup 25 t) gt227).trans rfl
theorem t227_26 : zT 227 26 = some (.bastore, 1, 0, 0, 0, 0) := (congrArg (fun t => List.lookup 26 t) gt227).trans rfl
theorem t227_27 : zT 227 27 = some (.iconst 1, 1, 0, 0, 1, 0) := (congrArg (fun t => List.lookup 27 t) gt227).trans rfl
theorem t227_28 : zT 227 28 = some (.ireturn, 1, 0, 0, 0, 0) := (congrArg (fun t => List.lookup 28 t) gt227).trans rfl
theorem t228_0 : zT 228 0 = some (.lload_n 0, 1, 0, 0, 0, 0) := (congrArg (fun t => List.lookup 0 t) gt228).trans rfl
theorem t228_1 : zT 228 1 = some (.lload_n 2, 1, 2, 0, 0, 0) := (congrArg (fun t => List.lookup 1 t) gt228).trans rfl
theorem t228_2 : zT 228 2 = some (.lcmp, 1, 0, 0, 0, 0) := (congrArg (fun t => List.lookup 2 t) gt228).trans rfl
theorem t228_3 : zT 228 3 = some (.ifCond .lt 14, 3, 17, 0, 0, 0) := (congrArg (fun t => List.lookup 3 t) gt228).trans rfl
theorem t228_6 : zT 228 6 = some (.lload_n 0, 1, 0, 0, 0, 0) := (congrArg (fun t => List.lookup 6 t) gt228).trans rfl
theorem t228_7 : zT 228 7 = some (.lload 4, 2, 0, 0, 0, 0) := (congrArg (fun t => List.lookup 7 t) gt228).trans rfl
theorem t228_9 : zT 228 9 = some (.lcmp, 1, 0, 0, 0, 0) := (congrArg (fun t => List.lookup 9 t) gt228).trans rfl
theorem t228_10 : zT 228 10 = some (.ifCond .gt 7, 3, 17, 0, 0, 0) := (congrArg (fun t => List.lookup 10 t) gt228).trans rfl
theorem t228_13 : zT 228 13 = some (.iconst 1, 1, 0, 0, 1, 0) := (congrArg (fun t => List.lookup 13 t) gt228).trans rfl
theorem t228_14 : zT 228 14 = some (.goto 4, 3, 18, 0, 0, 0) := (congrArg (fun t => List.lookup 14 t) gt228).trans rfl
theorem t228_17 : zT 228 17 = some (.iconst 0, 1, 0, 0, 0, 0) := (congrArg (fun t => List.lookup 17 t) gt228).trans rfl
theorem t228_18 : zT 228 18 = some (.ireturn, 1, 0, 0, 0, 0) := (congrArg (fun t => List.lookup 18 t) gt228).trans rfl
theorem t229_0 : zT 229 0 = some (.iload_n 1, 1, 1, 0, 0, 0) := (congrArg (fun t => List.lookup 0 t) gt229).trans rfl
theorem t229_1 : zT 229 1 = some (.i2l, 1, 0, 0, 0, 0) := (congrArg (fun t => List.lookup 1 t) gt229).trans rfl
theorem t229_2 : zT 229 2 = some (.lconst 0, 1, 0, 0, 0, 0) := (congrArg (fun t => List.lookup 2 t) gt229).trans rfl
theorem t229_3 : zT 229 3 = some (.lconst 1, 1, 0, 0, 1, 0) := (congrArg (fun t => List.lookup 3 t) gt229).trans rfl
theorem t229_4 : zT 229 4 = some (.invokestatic 112, 3, 228, 1, 0, 1774) := (congrArg (fun t => List.lookup 4 t) gt229).trans rfl
theorem t229_7 : zT 229 7 = some (.ifCond .eq 12, 3, 19, 0, 0, 0) := (congrArg (fun t => List.lookup 7 t) gt229).trans rfl
theorem t229_10 : zT 229 10 = some (.aload_n 0, 1, 0, 0, 0, 0) := (congrArg (fun t => List.lookup 10 t) gt229).trans rfl
theorem t229_11 : zT 229 11 = some (.getfield 13, 3, 12, 2, 0, 1609) := (congrArg (fun t => List.lookup 11 t) gt229).trans rfl
theorem t229_14 : zT 229 14 = some (.iload_n 1, 1, 1, 0, 0, 0) := (congrArg (fun t => List.lookup 14 t) gt229).trans rfl
theorem t229_15 : zT 229 15 = some (.baload, 1, 0, 0, 0, 0) := (congrArg (fun t => List.lookup 15 t) gt229).trans rfl
theorem t229_16 : zT 229 16 = some (.ifCond .ne 5, 3, 21, 0, 0, 0) := (congrArg (fun t => List.lookup 16 t) gt229).trans rfl
theorem t229_19 : zT 229 19 = some (.iconst 0, 1, 0, 0, 0, 0) := (congrArg (fun t => List.lookup 19 t) gt229).trans rfl
theorem t229_20 : zT 229 20 = some (.ireturn, 1, 0, 0, 0, 0) := (congrArg (fun t => List.lookup 20 t) gt229).trans rfl
theorem t229_21 : zT 229 21 = some (.aload_n 0, 1, 0, 0, 0, 0) := (congrArg (fun t => List.lookup 21 t) gt229).trans rfl
theorem t229_22 : zT 229 22 = some (.iconst 0, 1, 0, 0, 0, 0) := (congrArg (fun t => List.lookup 22 t) gt229).trans rfl
theorem t229_23 : zT 229 23 = some (.invokevirtual 116, 3, 230, 0, 0, 1781) := (congrArg (fun t => List.lookup 23 t) gt229).trans rfl
theorem t229_26 : zT 229 26 = some (.aload_n 0, 1, 0, 0, 0, 0) := (congrArg (fun t => List.lookup 26 t) gt229).trans rfl
theorem t229_27 : zT 229 27 = some (.iconst 1, 1, 0, 0, 1, 0) := (congrArg (fun t => List.lookup 27 t) gt229).trans rfl
theorem t229_28 : zT 229 28 = some (.iload_n 1, 1, 1, 0, 0, 0) := (congrArg (fun t => List.lookup 28 t) gt229).trans rfl
theorem t229_29 : zT 229 29 = some (.iadd, 1, 0, 0, 0, 0) := (congrArg (fun t => List.lookup 29 t) gt229).trans rfl
theorem t229_30 : zT 229 30 = some (.iconst 0, 1, 0, 0, 0, 0) := (congrArg (fun t => List.lookup 30 t) gt229).trans rfl
theorem t229_31 : zT 229 31 = some (.invokevirtual 104, 3, 226, 0, 0, 1766) := (congrArg (fun t => List.lookup 31 t) gt229).trans rfl
theorem t229_34 : zT 229 34 = some (.iconst 1, 1, 0, 0, 1, 0) := (congrArg (fun t => List.lookup 34 t) gt229).trans rfl
theorem t229_35 : zT 229 35 = some (.ireturn, 1, 0, 0, 0, 0) := (congrArg (fun t => List.lookup 35 t) gt229).trans rfl
theorem t230_0 : zT 230 0 = some (.aload_n 0, 1, 0, 0, 0, 0) := (congrArg (fun t => List.lookup 0 t) gt230).trans rfl
theorem t230_1 : zT 230 1 = some (.getfield 101, 3, 12, 1, 0, 1608) := (congrArg (fun t => List.lookup 1 t) gt230).trans rfl
theorem t230_4 : zT 230 4 = some (.bipush 8, 2, 0, 0, 8, 0) := (congrArg (fun t => List.lookup 4 t) gt230).trans rfl
theorem t230_6 : zT 230 6 = some (.if_icmp .ne 39, 3, 45, 0, 0, 0) := (congrArg (fun t => List.lookup 6 t) gt230).trans rfl
theorem t230_9 : zT 230 9 = some (.iconst 1, 1, 0, 0, 1, 0) := (congrArg (fun t => List.lookup 9 t) gt230).trans rfl
theorem t230_10 : zT 230 10 = some (.istore_n 2, 1, 2, 0, 0, 0) := (congrArg (fun t => List.lookup 10 t) gt230).trans rfl
theorem t230_11 : zT 230 11 = some (.iload_n 2, 1, 2, 0, 0, 0) := (congrArg (fun t => List.lookup 11 t) gt230).trans rfl
theorem t230_12 : zT 230 12 = some (.bipush 8, 2, 0, 0, 8, 0) := (congrArg (fun t => List.lookup 12 t) gt230).trans rfl
theorem t230_14 : zT 230 14 = some (.if_icmp .ge 21, 3, 35, 0, 0, 0) := (congrArg (fun t => List.lookup 14 t) gt230).trans rfl
theorem t230_17 : zT 230 17 = some (.aload_n 0, 1, 0, 0, 0, 0) := (congrArg (fun t => List.lookup 17 t) gt230).trans rfl
theorem t230_18 : zT 230 18 = some (.iconst 3, 1, 0, 0, 3, 0) := (congrArg (fun t => List.lookup 18 t) gt230).trans rfl
theorem t230_19 : zT 230 19 = some (.iload_n 2, 1, 2, 0, 0, 0) := (congrArg (fun t => List.lookup 19 t) gt230).trans rfl
theorem t230_20 : zT 230 20 = some (.iadd, 1, 0, 0, 0, 0) := (congrArg (fun t => List.lookup 20 t) gt230).trans rfl
theorem t230_21 : zT 230 21 = some (.iconst 3, 1, 0, 0, 3, 0) := (congrArg (fun t => List.lookup 21 t) gt230).trans rfl
theorem t230_22 : zT 230 22 = some (.iload_n 2, 1, 2, 0, 0, 0) := (congrArg (fun t => List.lookup 22 t) gt230).trans rfl
theorem t230_23 : zT 230 23 = some (.iadd, 1, 0, 0, 0, 0) := (congrArg (fun t => List.lookup 23 t) gt230).trans rfl
theorem t230_24 : zT 230 24 = some (.iconst 1, 1, 0, 0, 1, 0) := (congrArg (fun t => List.lookup 24 t) gt230).trans rfl
theorem t230_25 : zT 230 25 = some (.isub, 1, 0, 0, 0, 0) := (congrArg (fun t => List.lookup 25 t) gt230).trans rfl
theorem t230_26 : zT 230 26 = some (.invokevirtual 104, 3, 226, 0, 0, 1766) := (congrArg (fun t => List.lookup 26 t) gt230).trans rfl
theorem t230_29 : zT 230 29 = some (.iinc 2 1, 3, 0, 0, 0, 0) := (congrArg (fun t => List.lookup 29 t) gt230).trans rfl
theorem t230_32 : zT 230 32 = some (.goto (-21), 3, 11, 0, 0, 0) := (congrArg (fun t => List.lookup 32 t) gt230).trans rfl
theorem t230_35 : zT 230 35 = some (.aload_n 0, 1, 0, 0, 0, 0) := (congrArg (fun t => List.lookup 35 t) gt230).trans rfl
theorem t230_36 : zT 230 36 = some (.dup, 1, 0, 0, 0, 0) := (congrArg (fun t => List.lookup 36 t) gt230).trans rfl
theorem t230_37 : zT 230 37 = some (.getfield 101, 3, 12, 1, 0, 1608) := (congrArg (fun t => List.lookup 37 t) gt230).trans rfl
theorem t230_40 : zT 230 40 = some (.iconst 1, 1, 0, 0, 1, 0) := (congrArg (fun t => List.lookup 40 t) gt230).trans rfl
theorem t230_41 : zT 230 41 = some (.isub, 1, 0, 0, 0, 0) := (congrArg (fun t => List.lookup 41 t) gt230).trans rfl
theorem t230_42 : zT 230 42 = some (.putfield 101, 3, 12, 1, 0, 1608) := (congrArg (fun t => List.lookup 42 t) gt230).trans rfl
theorem t230_45 : zT 230 45 = some (.aload_n 0, 1, 0, 0, 0, 0) := (congrArg (fun t => List.lookup 45 t) gt230).trans rfl
theorem t230_46 : zT 230 46 = some (.iload_n 1, 1, 1, 0, 0, 0) := (congrArg (fun t => List.lookup 46 t) gt230).trans rfl
theorem t230_47 : zT 230 47 = some (.iconst 3, 1, 0, 0, 3, 0) := (congrArg (fun t => List.lookup 47 t) gt230).trans rfl
theorem t230_48 : zT 230 48 = some (.aload_n 0, 1, 0, 0, 0, 0) := (congrArg (fun t => List.lookup 48 t) gt230).trans rfl
theorem t230_49 : zT 230 49 = some (.getfield 101, 3, 12, 1, 0, 1608) := (congrArg (fun t => List.lookup 49 t) gt230).trans rfl
theorem t230_52 : zT 230 52 = some (.iadd, 1, 0, 0, 0, 0) := (congrArg (fun t => List.lookup 52 t) gt230).trans rfl
theorem t230_53 : zT 230 53 = some (.invokevirtual 104, 3, 226, 0, 0, 1766) := (congrArg (fun t => List.lookup 53 t) gt230).trans rfl
theorem t230_56 : zT 230 56 = some (.aload_n 0, 1, 0, 0, 0, 0) := (congrArg (fun t => List.lookup 56 t) gt230).trans rfl
theorem t230_57 : zT 230 57 = some (.dup, 1, 0, 0, 0, 0) := (congrArg (fun t => List.lookup 57 t) gt230).trans rfl
theorem t230_58 : zT 230 58 = some (.getfield 101, 3, 12, 1, 0, 1608) := (congrArg (fun t => List.lookup 58 t) gt230).trans rfl
theorem t230_61 : zT 230 61 = some (.iconst 1, 1, 0, 0, 1, 0) := (congrArg (fun t => List.lookup 61 t) gt230).trans rfl
theorem t230_62 : zT 230 62 = some (.iadd, 1, 0, 0, 0, 0) := (congrArg (fun t => List.lookup 62 t) gt230).trans rfl
theorem t230_63 : zT 230 63 = some (.putfield 101, 3, 12, 1, 0, 1608) := (congrArg (fun t => List.lookup 63 t) gt230).trans rfl
theorem t230_66 : zT 230 66 = some (.aload_n 0, 1, 0, 0, 0, 0) := (congrArg (fun t => List.lookup 66 t) gt230).trans rfl
theorem t230_67 : zT 230 67 = some (.iconst 0, 1, 0, 0, 0, 0) := (congrArg (fun t => List.lookup 67 t) gt230).trans rfl
theorem t230_68 : zT 230 68 = some (.putfield 108, 3, 12, 3, 0, 1610) := (congrArg (fun t => List.lookup 68 t) gt230).trans rfl
theorem t230_71 : zT 230 71 = some (.return_, 1, 0, 0, 0, 0) := (congrArg (fun t => List.lookup 71 t) gt230).trans rfl
theorem t231_0 : zT 231 0 = some (.aload_n 0, 1, 0, 0, 0, 0) := (congrArg (fun t => List.lookup 0 t) gt231).trans rfl
theorem t231_1 : zT 231 1 = some (.getfield 120, 3, 12, 5, 0, 1612) := (congrArg (fun t => List.lookup 1 t) gt231).trans rfl
theorem t231_4 : zT 231 4 = some (.bipush 20, 2, 0, 0, 20, 0) := (congrArg (fun t => List.lookup 4 t) gt231).trans rfl
theorem t231_6 : zT 231 6 = some (.iadd, 1, 0, 0, 0, 0) := (congrArg (fun t => List.lookup 6 t) gt231).trans rfl
theorem t231_7 : zT 231 7 = some (.sipush 500, 3, 0, 0, 500, 0) := (congrArg (fun t => List.lookup 7 t) gt231).trans rfl
theorem t231_10 : zT 231 10 = some (.if_icmp .le 5, 3, 15, 0, 0, 0) := (congrArg (fun t => List.lookup 10 t) gt231).trans rfl
theorem t231_13 : zT 231 13 = some (.iconst (-1), 1, 0, 0, (-1), 0) := (congrArg (fun t => List.lookup 13 t) gt231).trans rfl
theorem t231_14 : zT 231 14 = some (.ireturn, 1, 0, 0, 0, 0) := (congrArg (fun t => List.lookup 14 t) gt231).trans rfl
theorem t231_15 : zT 231 15 = some (.aload_n 0, 1, 0, 0, 0, 0) := (congrArg (fun t => List.lookup 15 t) gt231).trans rfl
theorem t231_16 : zT 231 16 = some (.iload_n 1, 1, 1, 0, 0, 0) := (congrArg (fun t => List.lookup 16 t) gt231).trans rfl
theorem t231_17 : zT 231 17 = some (.invokevirtual 123, 3, 232, 0, 0, 1789) := (congrArg (fun t => List.lookup 17 t) gt231).trans rfl
theorem t231_20 : zT 231 20 = some (.aload_n 0, 1, 0, 0, 0, 0) := (congrArg (fun t => List.lookup 20 t) gt231).trans rfl
theorem t231_21 : zT 231 21 = some (.iload_n 2, 1, 2, 0, 0, 0) := (congrArg (fun t => List.lookup 21 t) gt231).trans rfl
theorem t231_22 : zT 231 22 = some (.invokevirtual 123, 3, 232, 0, 0, 1789) := (congrArg (fun t => List.lookup 22 t) gt231).trans rfl
theorem t231_25 : zT 231 25 = some (.aload_n 0, 1, 0, 0, 0, 0) := (congrArg (fun t => List.lookup 25 t) gt231).trans rfl
theorem t231_26 : zT 231 26 = some (.iload_n 3, 1, 3, 0, 0, 0) := (congrArg (fun t => List.lookup 26 t) gt231).trans rfl
theorem t231_27 : zT 231 27 = some (.invokevirtual 123, 3, 232, 0, 0, 1789) := (congrArg (fun t => List.lookup 27 t) gt231).trans rfl
theorem t231_30 : zT 231 30 = some (.aload_n 0, 1, 0, 0, 0, 0) := (congrArg (fun t => List.lookup 30 t) gt231).trans rfl
theorem t231_31 : zT 231 31 = some (.iload 4, 2, 0, 0, 0, 0) := (congrArg (fun t => List.lookup 31 t) gt231).trans rfl
theorem t231_33 : zT 231 33 = some (.invokevirtual 123, 3, 232, 0, 0, 1789) := (congrArg (fun t => List.lookup 33 t) gt231).trans rfl
theorem t231_36 : zT 231 36 = some (.aload_n 0, 1, 0, 0, 0, 0) := (congrArg (fun t => List.lookup 36 t) gt231).trans rfl
theorem t231_37 : zT 231 37 = some (.iload 5, 2, 0, 0, 0, 0) := (congrArg (fun t => List.lookup 37 t) gt231).trans rfl
theorem t231_39 : zT 231 39 = some (.invokevirtual 123, 3, 232, 0, 0, 1789) := (congrArg (fun t => List.lookup 39 t) gt231).trans rfl
theorem t231_42 : zT 231 42 = some (.aload_n 0, 1, 0, 0, 0, 0) := (congrArg (fun t => List.lookup 42 t) gt231).trans rfl
theorem t231_43 : zT 231 43 = some (.getfield 120, 3, 12, 5, 0, 1612) := (congrArg (fun t => List.lookup 43 t) gt231).trans rfl
theorem t231_46 : zT 231 46 = some (.ireturn, 1, 0, 0, 0, 0) := (congrArg (fun t => List.lookup 46 t) gt231).trans rfl
theorem t232_0 : zT 232 0 = some (.bipush 24, 2, 0, 0, 24, 0) := (congrArg (fun t => List.lookup 0 t) gt232).trans rfl
theorem t232_2 : zT 232 2 = some (.istore_n 2, 1, 2, 0, 0, 0) := (congrArg (fun t => List.lookup 2 t) gt232).trans rfl
theorem t232_3 : zT 232 3 = some (.iload_n 2, 1, 2, 0, 0, 0) := (congrArg (fun t => List.lookup 3 t) gt232).trans rfl
theorem t232_4 : zT 232 4 = some (.ifCond .lt 32, 3, 36, 0, 0, 0) := (congrArg (fun t => List.lookup 4 t) gt232).trans rfl
theorem t232_7 : zT 232 7 = some (.aload_n 0, 1, 0, 0, 0, 0) := (congrArg (fun t => List.lookup 7 t) gt232).trans rfl
theorem t232_8 : zT 232 8 = some (.getfield 17, 3, 12, 4, 0, 1611) := (congrArg (fun t => List.lookup 8 t) gt232).trans rfl
theorem t232_11 : zT 232 11 = some (.aload_n 0, 1, 0, 0, 0, 0) := (congrArg (fun t => List.lookup 11 t) gt232).trans rfl
theorem t232_12 : zT 232 12 = some (.getfield 120, 3, 12, 5, 0, 1612) := (congrArg (fun t => List.lookup 12 t) gt232).trans rfl
theorem t232_15 : zT 232 15 = some (.iload_n 1, 1, 1, 0, 0, 0) := (congrArg (fun t => List.lookup 15 t) gt232).trans rfl
theorem t232_16 : zT 232 16 = some (.iload_n 2, 1, 2, 0, 0, 0) := (congrArg (fun t => List.lookup 16 t) gt232).trans rfl
theorem t232_17 : zT 232 17 = some (.ishr, 1, 0, 0, 0, 0) := (congrArg (fun t => List.lookup 17 t) gt232).trans rfl
theorem t232_18 : zT 232 18 = some (.i2b, 1, 0, 0, 0, 0) := (congrArg (fun t => List.lookup 18 t) gt232).trans rfl
theorem t232_19 : zT 232 19 = some (.bastore, 1, 0, 0, 0, 0) := (congrArg (fun t => List.lookup 19 t) gt232).trans rfl
theorem t232_20 : zT 232 20 = some (.aload_n 0, 1, 0, 0, 0, 0) := (congrArg (fun t => List.lookup 20 t) gt232).trans rfl
theorem t232_21 : zT 232 21 = some (.dup, 1, 0, 0, 0, 0) := (congrArg (fun t => List.lookup 21 t) gt232).trans rfl
theorem t232_22 : zT 232 22 = some (.getfield 120, 3, 12, 5, 0, 1612) := (congrArg (fun t => List.lookup 22 t) gt232).trans rfl
theorem t232_25 : zT 232 25 = some (.iconst 1, 1, 0, 0, 1, 0) := (congrArg (fun t => List.lookup 25 t) gt232).trans rfl
theorem t232_26 : zT 232 26 = some (.iadd, 1, 0, 0, 0, 0) := (congrArg (fun t => List.lookup 26 t) gt232).trans rfl
theorem t232_27 : zT 232 27 = some (.putfield 120, 3, 12, 5, 0, 1612) := (congrArg (fun t => List.lookup 27 t) gt232).trans rfl
theorem t232_30 : zT 232 30 = some (.iinc 2 (-8), 3, 0, 0, 0, 0) := (congrArg (fun t => List.lookup 30 t) gt232).trans rfl
theorem t232_33 : zT 232 33 = some (.goto (-30), 3, 3, 0, 0, 0) := (congrArg (fun t => List.lookup 33 t) gt232).trans rfl
theorem t232_36 : zT 232 36 = some (.return_, 1, 0, 0, 0, 0) := (congrArg (fun t => List.lookup 36 t) gt232).trans rfl
theorem t233_0 : zT 233 0 = some (.iload_n 1, 1, 1, 0, 0, 0) := (congrArg (fun t => List.lookup 0 t) gt233).trans rfl
theorem t233_1 : zT 233 1 = some (.i2l, 1, 0, 0, 0, 0) := (congrArg (fun t => List.lookup 1 t) gt233).trans rfl
theorem t233_2 : zT 233 2 = some (.lconst 0, 1, 0, 0, 0, 0) := (congrArg (fun t => List.lookup 2 t) gt233).trans rfl
theorem t233_3 : zT 233 3 = some (.aload_n 0, 1, 0, 0, 0, 0) := (congrArg (fun t => List.lookup 3 t) gt233).trans rfl
theorem t233_4 : zT 233 4 = some (.getfield 120, 3, 12, 5, 0, 1612) := (congrArg (fun t => List.lookup 4 t) gt233).trans rfl
theorem t233_7 : zT 233 7 = some (.i2l, 1, 0, 0, 0, 0) := (congrArg (fun t => List.lookup 7 t) gt233).trans rfl
theorem t233_8 : zT 233 8 = some (.invokestatic 112, 3, 228, 1, 0, 1774) := (congrArg (fun t => List.lookup 8 t) gt233).trans rfl
theorem t233_11 : zT 233 11 = some (.ifCond .ne 5, 3, 16, 0, 0, 0) := (congrArg (fun t => List.lookup 11 t) gt233).trans rfl
theorem t233_14 : zT 233 14 = some (.iconst (-1), 1, 0, 0, (-1), 0) := (congrArg (fun t => List.lookup 14 t) gt233).trans rfl
theorem t233_15 : zT 233 15 = some (.ireturn, 1, 0, 0, 0, 0) := (congrArg (fun t => List.lookup 15 t) gt233).trans rfl
theorem t233_16 : zT 233 16 = some (.aload_n 0, 1, 0, 0, 0, 0) := (congrArg (fun t => List.lookup 16 t) gt233).trans rfl
theorem t233_17 : zT 233 17 = some (.iload_n 1, 1, 1, 0, 0, 0) := (congrArg (fun t => List.lookup 17 t) gt233).trans rfl
theorem t233_18 : zT 233 18 = some (.putfield 120, 3, 12, 5, 0, 1612) := (congrArg (fun t => List.lookup 18 t) gt233).trans rfl
theorem t233_21 : zT 233 21 = some (.iload_n 1, 1, 1, 0, 0, 0) := (congrArg (fun t => List.lookup 21 t) gt233).trans rfl
theorem t233_22 : zT 233 22 = some (.ireturn, 1, 0, 0, 0, 0) := (congrArg (fun t => List.lookup 22 t) gt233).trans rfl
theorem t234_0 : zT 234 0 = some (.aload_n 0, 1, 0, 0, 0, 0) := (congrArg (fun t => List.lookup 0 t) gt234).trans rfl
theorem t234_1 : zT 234 1 = some (.getfield 21, 3, 12, 7, 0, 1614) := (congrArg (fun t => List.lookup 1 t) gt234).trans rfl
theorem t234_4 : zT 234 4 = some (.ireturn, 1, 0, 0, 0, 0) := (congrArg (fun t => List.lookup 4 t) gt234).trans rfl
theorem t235_0 : zT 235 0 = some (.aload_n 0, 1, 0, 0, 0, 0) := (congrArg (fun t => List.lookup 0 t) gt235).trans rfl
theorem t235_1 : zT 235 1 = some (.iconst 0, 1, 0, 0, 0, 0) := (congrArg (fun t => List.lookup 1 t) gt235).trans rfl
theorem t235_2 : zT 235 2 = some (.bipush 11, 2, 0, 0, 11, 0) := (congrArg (fun t => List.lookup 2 t) gt235).trans rfl
theorem t235_4 : zT 235 4 = some (.invokevirtual 104, 3, 226, 0, 0, 1766) := (congrArg (fun t => List.lookup 4 t) gt235).trans rfl
theorem t235_7 : zT 235 7 = some (.aload_n 0, 1, 0, 0, 0, 0) := (congrArg (fun t => List.lookup 7 t) gt235).trans rfl
theorem t235_8 : zT 235 8 = some (.invokevirtual 195, 3, 236, 0, 0, 1805) := (congrArg (fun t => List.lookup 8 t) gt235).trans rfl
theorem t235_11 : zT 235 11 = some (.iconst 0, 1, 0, 0, 0, 0) := (congrArg (fun t => List.lookup 11 t) gt235).trans rfl
theorem t235_12 : zT 235 12 = some (.istore_n 1, 1, 1, 0, 0, 0) := (congrArg (fun t => List.lookup 12 t) gt235).trans rfl
theorem t235_13 : zT 235 13 = some (.aload_n 0, 1, 0, 0, 0, 0) := (congrArg (fun t => List.lookup 13 t) gt235).trans rfl
theorem t235_14 : zT 235 14 = some (.getfield 21, 3, 12, 7, 0, 1614) := (congrArg (fun t => List.lookup 14 t) gt235).trans rfl
theorem t235_17 : zT 235 17 = some (.iconst (-1), 1, 0, 0, (-1), 0) := (congrArg (fun t => List.lookup 17 t) gt235).trans rfl
theorem t235_18 : zT 235 18 = some (.if_icmp .ne 27, 3, 45, 0, 0, 0) := (congrArg (fun t => List.lookup 18 t) gt235).trans rfl
theorem t235_21 : zT 235 21 = some (.aload_n 0, 1, 0, 0, 0, 0) := (congrArg (fun t => List.lookup 21 t) gt235).trans rfl
theorem t235_22 : zT 235 22 = some (.getfield 126, 3, 12, 6, 0, 1613) := (congrArg (fun t => List.lookup 22 t) gt235).trans rfl
theorem t235_25 : zT 235 25 = some (.aload_n 0, 1, 0, 0, 0, 0) := (congrArg (fun t => List.lookup 25 t) gt235).trans rfl
theorem t235_26 : zT 235 26 = some (.getfield 120, 3, 12, 5, 0, 1612) := (congrArg (fun t => List.lookup 26 t) gt235).trans rfl
theorem t235_29 : zT 235 29 = some (.if_icmp .ge 16, 3, 45, 0, 0, 0) := (congrArg (fun t => List.lookup 29 t) gt235).trans rfl
theorem t235_32 : zT 235 32 = some (.aload_n 0, 1, 0, 0, 0, 0) := (congrArg (fun t => List.lookup 32 t) gt235).trans rfl
theorem t235_33 : zT 235 33 = some (.invokevirtual 198, 3, 237, 0, 0, 1809) := (congrArg (fun t => List.lookup 33 t) gt235).trans rfl
theorem t235_36 : zT 235 36 = some (.ifCond .eq (-23), 3, 13, 0, 0, 0) := (congrArg (fun t => List.lookup 36 t) gt235).trans rfl
theorem t235_39 : zT 235 39 = some (.iinc 1 1, 3, 0, 0, 0, 0) := (congrArg (fun t => List.lookup 39 t) gt235).trans rfl
theorem t235_42 : zT 235 42 = some (.goto (-29), 3, 13, 0, 0, 0) := (congrArg (fun t => List.lookup 42 t) gt235).trans rfl
theorem t235_45 : zT 235 45 = some (.aload_n 0, 1, 0, 0, 0, 0) := (congrArg (fun t => List.lookup 45 t) gt235).trans rfl
theorem t235_46 : zT 235 46 = some (.invokevirtual 201, 3, 253, 0, 0, 1875) := (congrArg (fun t => List.lookup 46 t) gt235).trans rfl
theorem t235_49 : zT 235 49 = some (.ifCond .eq 11, 3, 60, 0, 0, 0) := (congrArg (fun t => List.lookup 49 t) gt235).trans rfl
theorem t235_52 : zT 235 52 = some (.aload_n 0, 1, 0, 0, 0, 0) := (congrArg (fun t => List.lookup 52 t) gt235).trans rfl
theorem t235_53 : zT 235 53 = some (.bipush 11, 2, 0, 0, 11, 0) := (congrArg (fun t => List.lookup 53 t) gt235).trans rfl
theorem t235_55 : zT 235 55 = some (.invokevirtual 116, 3, 230, 0, 0, 1781) := (congrArg (fun t => List.lookup 55 t) gt235).trans rfl
theorem t235_58 : zT 235 58 = some (.iload_n 1, 1, 1, 0, 0, 0) := (congrArg (fun t => List.lookup 58 t) gt235).trans rfl
theorem t235_59 : zT 235 59 = some (.ireturn, 1, 0, 0, 0, 0) := (congrArg (fun t => List.lookup 59 t) gt235).trans rfl
theorem t235_60 : zT 235 60 = some (.aload_n 0, 1, 0, 0, 0, 0) := (congrArg (fun t => List.lookup 60 t) gt235).trans rfl
theorem t235_61 : zT 235 61 = some (.bipush 11, 2, 0, 0, 11, 0) := (congrArg (fun t => List.lookup 61 t) gt235).trans rfl
theorem t235_63 : zT 235 63 = some (.iconst 0, 1, 0, 0, 0, 0) := (congrArg (fun t => List.lookup 63 t) gt235).trans rfl
theorem t235_64 : zT 235 64 = some (.invokevirtual 104, 3, 226, 0, 0, 1766) := (congrArg (fun t => List.lookup 64 t) gt235).trans rfl
theorem t235_67 : zT 235 67 = some (.iconst (-1), 1, 0, 0, (-1), 0) := (congrArg (fun t => List.lookup 67 t) gt235).trans rfl
theorem t235_68 : zT 235 68 = some (.ireturn, 1, 0, 0, 0, 0) := (congrArg (fun t => List.lookup 68 t) gt235).trans rfl
theorem t236_0 : zT 236 0 = some (.aload_n 0, 1, 0, 0, 0, 0) := (congrArg (fun t => List.lookup 0 t) gt236).trans rfl
theorem t236_1 : zT 236 1 = some (.iconst 0, 1, 0, 0, 0, 0) := (congrArg (fun t => List.lookup 1 t) gt236).trans rfl
theorem t236_2 : zT 236 2 = some (.putfield 126, 3, 12, 6, 0, 1613) := (congrArg (fun t => List.lookup 2 t) gt236).trans rfl
theorem t236_5 : zT 236 5 = some (.aload_n 0, 1, 0, 0, 0, 0) := (congrArg (fun t => List.lookup 5 t) gt236).trans rfl
theorem t236_6 : zT 236 6 = some (.iconst (-1), 1, 0, 0, (-1), 0) := (congrArg (fun t => List.lookup 6 t) gt236).trans rfl
theorem t236_7 : zT 236 7 = some (.putfield 21, 3, 12, 7, 0, 1614) := (congrArg (fun t => List.lookup 7 t) gt236).trans rfl
theorem t236_10 : zT 236 10 = some (.return_, 1, 0, 0, 0, 0) := (congrArg (fun t => List.lookup 10 t) gt236).trans rfl
theorem t237_0 : zT 237 0 = some (.aload_n 0, 1, 0, 0, 0, 0) := (congrArg (fun t => List.lookup 0 t) gt237).trans (by decide +kernel)
theorem t237_1 : zT 237 1 = some (.invokevirtual 129, 3, 238, 0, 0, 1813) := (congrArg (fun t => List.lookup 1 t) gt237).trans (by decide +kernel)
theorem t237_4 : zT 237 4 = some (.istore_n 1, 1, 1, 0, 0, 0) := (congrArg (fun t => List.lookup 4 t) gt237).trans (by decide +kernel)
theorem t237_5 : zT 237 5 = some (.iload_n 1, 1, 1, 0, 0, 0) := (congrArg (fun t => List.lookup 5 t) gt237).trans (by decide +kernel)
theorem t237_6 : zT 237 6 = some (.bipush 114, 2, 0, 0, 114, 0) := (congrArg (fun t => List.lookup 6 t) gt237).trans (by decide +kernel)
theorem t237_8 : zT 237 8 = some (.if_icmp .ne 14, 3, 22, 0, 0, 0) := (congrArg (fun t => List.lookup 8 t) gt237).trans (by decide +kernel)
theorem t237_11 : zT 237 11 = some (.aload_n 0, 1, 0, 0, 0, 0) := (congrArg (fun t => List.lookup 11 t) gt237).trans (by decide +kernel)
theorem t237_12 : zT 237 12 = some (.getfield 3, 3, 12, 0, 0, 1607) := (congrArg (fun t => List.lookup 12 t) gt237).trans (by decide +kernel)
theorem t237_15 : zT 237 15 = some (.iconst 0, 1, 0, 0, 0, 0) := (congrArg (fun t => List.lookup 15 t) gt237).trans (by decide +kernel)
theorem t237_16 : zT 237 16 = some (.iaload, 1, 0, 0, 0, 0) := (congrArg (fun t => List.lookup 16 t) gt237).trans (by decide +kernel)
theorem t237_17 : zT 237 17 = some (.bipush 8, 2, 0, 0, 8, 0) := (congrArg (fun t => List.lookup 17 t) gt237).trans (by decide +kernel)
theorem t237_19 : zT 237 19 = some (.if_icmp .eq 37, 3, 56, 0, 0, 0) := (congrArg (fun t => List.lookup 19 t) gt237).trans (by decide +kernel)
theorem t237_22 : zT 237 22 = some (.iload_n 1, 1, 1, 0, 0, 0) := (congrArg (fun t => List.lookup 22 t) gt237).trans (by decide +kernel)
theorem t237_23 : zT 237 23 = some (.bipush 104, 2, 0, 0, 104, 0) := (congrArg (fun t => List.lookup 23 t) gt237).trans (by decide +kernel)
theorem t237_25 : zT 237 25 = some (.if_icmp .ne 14, 3, 39, 0, 0, 0) := (congrArg (fun t => List.lookup 25 t) gt237).trans (by decide +kernel)
theorem t237_28 : zT 237 28 = some (.aload_n 0, 1, 0, 0, 0, 0) := (congrArg (fun t => List.lookup 28 t) gt237).trans (by decide +kernel)
theorem t237_29 : zT 237 29 = some (.getfield 3, 3, 12, 0, 0, 1607) := (congrArg (fun t => List.lookup 29 t) gt237).trans (by decide +kernel)
theorem t237_32 : zT 237 32 = some (.iconst 1, 1, 0, 0, 1, 0) := (congrArg (fun t => List.lookup 32 t) gt237).trans (by decide +kernel)
theorem t237_33 : zT 237 33 = some (.iaload, 1, 0, 0, 0, 0) := (congrArg (fun t => List.lookup 33 t) gt237).trans (by decide +kernel)
theorem t237_34 : zT 237 34 = some (.bipush 60, 2, 0, 0, 60, 0) := (congrArg (fun t => List.lookup 34 t) gt237).trans (by decide +kernel)
theorem t237_36 : zT 237 36 = some (.if_icmp .eq 20, 3, 56, 0, 0, 0) := (congrArg (fun t => List.lookup 36 t) gt237).trans (by decide +kernel)
theorem t237_39 : zT 237 39 = some (.iload_n 1, 1, 1, 0, 0, 0) := (congrArg (fun t => List.lookup 39 t) gt237).trans (by decide +kernel)
theorem t237_40 : zT 237 40 = some (.bipush 112, 2, 0, 0, 112, 0) := (congrArg (fun t => List.lookup 40 t) gt237).trans (by decide +kernel)
theorem t237_42 : zT 237 42 = some (.if_icmp .ne 23, 3, 65, 0, 0, 0) := (congrArg (fun t => List.lookup 42 t) gt237).trans (by decide +kernel)
theorem t237_45 : zT 237 45 = some (.aload_n 0, 1, 0, 0, 0, 0) := (congrArg (fun t => List.lookup 45 t) gt237).trans (by decide +kernel)
theorem t237_46 : zT 237 46 = some (.getfield 3, 3, 12, 0, 0, 1607) := (congrArg (fun t => List.lookup 46 t) gt237).trans (by decide +kernel)
theorem t237_49 : zT 237 49 = some (.iconst 2, 1, 0, 0, 2, 0) := (congrArg (fun t => List.lookup 49 t) gt237).trans (by decide +kernel)
theorem t237_50 : zT 237 50 = some (.iaload, 1, 0, 0, 0, 0) := (congrArg (fun t => List.lookup 50 t) gt237).trans (by decide +kernel)
theorem t237_51 : zT 237 51 = some (.bipush 12, 2, 0, 0, 12, 0) := (congrArg (fun t => List.lookup 51 t) gt237).trans (by decide +kernel)
theorem t237_53 : zT 237 53 = some (.if_icmp .ne 12, 3, 65, 0, 0, 0) := (congrArg (fun t => List.lookup 53 t) gt237).trans (by decide +kernel)
theorem t237_56 : zT 237 56 = some (.aload_n 0, 1, 0, 0, 0, 0) := (congrArg (fun t => List.lookup 56 t) gt237).trans (by decide +kernel)
theorem t237_57 : zT 237 57 = some (.aload_n 0, 1, 0, 0, 0, 0) := (congrArg (fun t => List.lookup 57 t) gt237).trans (by decide +kernel)
theorem t237_58 : zT 237 58 = some (.getfield 126, 3, 12, 6, 0, 1613) := (congrArg (fun t => List.lookup 58 t) gt237).trans (by decide +kernel)
theorem t237_61 : zT 237 61 = some (.invokevirtual 133, 3, 239, 0, 0, 1817) := (congrArg (fun t => List.lookup 61 t) gt237).trans (by decide +kernel)
theorem t237_64 : zT 237 64 = some (.ireturn, 1, 0, 0, 0, 0) := (congrArg (fun t => List.lookup 64 t) gt237).trans (by decide +kernel)
theorem t237_65 : zT 237 65 = some (.aload_n 0, 1, 0, 0, 0, 0) := (congrArg (fun t => List.lookup 65 t) gt237).trans (by decide +kernel)
theorem t237_66 : zT 237 66 = some (.dup, 1, 0, 0, 0, 0) := (congrArg (fun t => List.lookup 66 t) gt237).trans (by decide +kernel)
theorem t237_67 : zT 237 67 = some (.getfield 126, 3, 12, 6, 0, 1613) := (congrArg (fun t => List.lookup 67 t) gt237).trans (by decide +kernel)
theorem t237_70 : zT 237 70 = some (.iconst 1, 1, 0, 0, 1, 0) := (congrArg (fun t => List.lookup 70 t) gt237).trans (by decide +kernel)
theorem t237_71 : zT 237 71 = some (.iadd, 1, 0, 0, 0, 0) := (congrArg (fun t => List.lookup 71 t) gt237).trans (by decide +kernel)
theorem t237_72 : zT 237 72 = some (.putfield 126, 3, 12, 6, 0, 1613) := (congrArg (fun t => List.lookup 72 t) gt237).trans (by decide +kernel)
theorem t237_75 : zT 237 75 = some (.iload_n 1, 1, 1, 0, 0, 0) := (congrArg (fun t => List.lookup 75 t) gt237).trans (by decide +kernel)
theorem t237_76 : zT 237 76 = some (.tableswitch 257 103 119 #[166, 89, 257, 257, 257, 257, 257, 257, 257, 94, 221, 84, 105, 257, 257, 257, 179], 84, 0, 0, 0, 0) := (congrArg (fun t => List.lookup 76 t) gt237).trans (by decide +kernel)
theorem t237_160 : zT 237 160 = some (.aload_n 0, 1, 0, 0, 0, 0) := (congrArg (fun t => List.lookup 160 t) gt237).trans (by decide +kernel)
theorem t237_161 : zT 237 161 = some (.invokevirtual 185, 3, 240, 0, 0, 1821) := (congrArg (fun t => List.lookup 161 t) gt237).trans (by decide +kernel)
theorem t237_164 : zT 237 164 = some (.ireturn, 1, 0, 0, 0, 0) := (congrArg (fun t => List.lookup 164 t) gt237).trans (by decide +kernel)
theorem t237_165 : zT 237 165 = some (.aload_n 0, 1, 0, 0, 0, 0) := (congrArg (fun t => List.lookup 165 t) gt237).trans (by decide +kernel)
theorem t237_166 : zT 237 166 = some (.invokevirtual 189, 3, 247, 0, 0, 1848) := (congrArg (fun t => List.lookup 166 t) gt237).trans (by decide +kernel)
theorem t237_169 : zT 237 169 = some (.ireturn, 1, 0, 0, 0, 0) := (congrArg (fun t => List.lookup 169 t) gt237).trans (by decide +kernel)
theorem t237_170 : zT 237 170 = some (.aload_n 0, 1, 0, 0, 0, 0) := (congrArg (fun t => List.lookup 170 t) gt237).trans (by decide +kernel)
theorem t237_171 : zT 237 171 = some (.aload_n 0, 1, 0, 0, 0, 0) := (congrArg (fun t => List.lookup 171 t) gt237).trans (by decide +kernel)
theorem t237_172 : zT 237 172 = some (.getfield 126, 3, 12, 6, 0, 1613) := (congrArg (fun t => List.lookup 172 t) gt237).trans (by decide +kernel)
theorem t237_175 : zT 237 175 = some (.iconst 1, 1, 0, 0, 1, 0) := (congrArg (fun t => List.lookup 175 t) gt237).trans (by decide +kernel)
theorem t237_176 : zT 237 176 = some (.isub, 1, 0, 0, 0, 0) := (congrArg (fun t => List.lookup 176 t) gt237).trans (by decide +kernel)
theorem t237_177 : zT 237 177 = some (.invokevirtual 192, 3, 248, 0, 0, 1852) := (congrArg (fun t => List.lookup 177 t) gt237).trans (by decide +kernel)
theorem t237_180 : zT 237 180 = some (.ireturn, 1, 0, 0, 0, 0) := (congrArg (fun t => List.lookup 180 t) gt237).trans (by decide +kernel)
theorem t237_181 : zT 237 181 = some (.aload_n 0, 1, 0, 0, 0, 0) := (congrArg (fun t => List.lookup 181 t) gt237).trans (by decide +kernel)
theorem t237_182 : zT 237 182 = some (.iconst 5, 1, 0, 0, 5, 0) := (congrArg (fun t => List.lookup 182 t) gt237).trans (by decide +kernel)
theorem t237_183 : zT 237 183 = some (.iconst 0, 1, 0, 0, 0, 0) := (congrArg (fun t => List.lookup 183 t) gt237).trans (by decide +kernel)
theorem t237_184 : zT 237 184 = some (.iconst 3, 1, 0, 0, 3, 0) := (congrArg (fun t => List.lookup 184 t) gt237).trans (by decide +kernel)
theorem t237_185 : zT 237 185 = some (.bipush 44, 2, 0, 0, 44, 0) := (congrArg (fun t => List.lookup 185 t) gt237).trans (by decide +kernel)
theorem t237_187 : zT 237 187 = some (.invokevirtual 170, 3, 242, 0, 0, 1829) := (congrArg (fun t => List.lookup 187 t) gt237).trans (by decide +kernel)
theorem t237_190 : zT 237 190 = some (.ifCond .eq 50, 3, 240, 0, 0, 0) := (congrArg (fun t => List.lookup 190 t) gt237).trans (by decide +kernel)
theorem t237_193 : zT 237 193 = some (.aload_n 0, 1, 0, 0, 0, 0) := (congrArg (fun t => List.lookup 193 t) gt237).trans (by decide +kernel)
theorem t237_194 : zT 237 194 = some (.bipush 6, 2, 0, 0, 6, 0) := (congrArg (fun t => List.lookup 194 t) gt237).trans (by decide +kernel)
theorem t237_196 : zT 237 196 = some (.iconst 0, 1, 0, 0, 0, 0) := (congrArg (fun t => List.lookup 196 t) gt237).trans (by decide +kernel)
theorem t237_197 : zT 237 197 = some (.bipush 20, 2, 0, 0, 20, 0) := (congrArg (fun t => List.lookup 197 t) gt237).trans (by decide +kernel)
theorem t237_199 : zT 237 199 = some (.bipush 44, 2, 0, 0, 44, 0) := (congrArg (fun t => List.lookup 199 t) gt237).trans (by decide +kernel)
theorem t237_201 : zT 237 201 = some (.invokevirtual 170, 3, 242, 0, 0, 1829) := (congrArg (fun t => List.lookup 201 t) gt237).trans (by decide +kernel)
theorem t237_204 : zT 237 204 = some (.ifCond .eq 36, 3, 240, 0, 0, 0) := (congrArg (fun t => List.lookup 204 t) gt237).trans (by decide +kernel)
theorem t237_207 : zT 237 207 = some (.aload_n 0, 1, 0, 0, 0, 0) := (congrArg (fun t => List.lookup 207 t) gt237).trans (by decide +kernel)
theorem t237_208 : zT 237 208 = some (.bipush 7, 2, 0, 0, 7, 0) := (congrArg (fun t => List.lookup 208 t) gt237).trans (by decide +kernel)
theorem t237_210 : zT 237 210 = some (.iconst 1, 1, 0, 0, 1, 0) := (congrArg (fun t => List.lookup 210 t) gt237).trans (by decide +kernel)
theorem t237_211 : zT 237 211 = some (.sipush 500, 3, 0, 0, 500, 0) := (congrArg (fun t => List.lookup 211 t) gt237).trans (by decide +kernel)
theorem t237_214 : zT 237 214 = some (.bipush 44, 2, 0, 0, 44, 0) := (congrArg (fun t => List.lookup 214 t) gt237).trans (by decide +kernel)
theorem t237_216 : zT 237 216 = some (.invokevirtual 170, 3, 242, 0, 0, 1829) := (congrArg (fun t => List.lookup 216 t) gt237).trans (by decide +kernel)
theorem t237_219 : zT 237 219 = some (.ifCond .eq 21, 3, 240, 0, 0, 0) := (congrArg (fun t => List.lookup 219 t) gt237).trans (by decide +kernel)
theorem t237_222 : zT 237 222 = some (.aload_n 0, 1, 0, 0, 0, 0) := (congrArg (fun t => List.lookup 222 t) gt237).trans (by decide +kernel)
theorem t237_223 : zT 237 223 = some (.bipush 8, 2, 0, 0, 8, 0) := (congrArg (fun t => List.lookup 223 t) gt237).trans (by decide +kernel)
theorem t237_225 : zT 237 225 = some (.iconst 2, 1, 0, 0, 2, 0) := (congrArg (fun t => List.lookup 225 t) gt237).trans (by decide +kernel)
theorem t237_226 : zT 237 226 = some (.bipush 8, 2, 0, 0, 8, 0) := (congrArg (fun t => List.lookup 226 t) gt237).trans (by decide +kernel)
theorem t237_228 : zT 237 228 = some (.bipush 59, 2, 0, 0, 59, 0) := (congrArg (fun t => List.lookup 228 t) gt237).trans (by decide +kernel)
theorem t237_230 : zT 237 230 = some (.invokevirtual 170, 3, 242, 0, 0, 1829) := (congrArg (fun t => List.lookup 230 t) gt237).trans (by decide +kernel)
theorem t237_233 : zT 237 233 = some (.ifCond .eq 7, 3, 240, 0, 0, 0) := (congrArg (fun t => List.lookup 233 t) gt237).trans (by decide +kernel)
theorem t237_236 : zT 237 236 = some (.iconst 1, 1, 0, 0, 1, 0) := (congrArg (fun t => List.lookup 236 t) gt237).trans (by decide +kernel)
theorem t237_237 : zT 237 237 = some (.goto 4, 3, 241, 0, 0, 0) := (congrArg (fun t => List.lookup 237 t) gt237).trans (by decide +kernel)
theorem t237_240 : zT 237 240 = some (.iconst 0, 1, 0, 0, 0, 0) := (congrArg (fun t => List.lookup 240 t) gt237).trans (by decide +kernel)
theorem t237_241 : zT 237 241 = some (.ireturn, 1, 0, 0, 0, 0) := (congrArg (fun t => List.lookup 241 t) gt237).trans (by decide +kernel)
theorem t237_242 : zT 237 242 = some (.aload_n 0, 1, 0, 0, 0, 0) := (congrArg (fun t => List.lookup 242 t) gt237).trans (by decide +kernel)
theorem t237_243 : zT 237 243 = some (.bipush 9, 2, 0, 0, 9, 0) := (congrArg (fun t => List.lookup 243 t) gt237).trans (by decide +kernel)
theorem t237_245 : zT 237 245 = some (.iconst 0, 1, 0, 0, 0, 0) := (congrArg (fun t => List.lookup 245 t) gt237).trans (by decide +kernel)
theorem t237_246 : zT 237 246 = some (.sipush 999, 3, 0, 0, 999, 0) := (congrArg (fun t => List.lookup 246 t) gt237).trans (by decide +kernel)
theorem t237_249 : zT 237 249 = some (.bipush 59, 2, 0, 0, 59, 0) := (congrArg (fun t => List.lookup 249 t) gt237).trans (by decide +kernel)
theorem t237_251 : zT 237 251 = some (.invokevirtual 170, 3, 242, 0, 0, 1829) := (congrArg (fun t => List.lookup 251 t) gt237).trans (by decide +kernel)
theorem t237_254 : zT 237 254 = some (.ireturn, 1, 0, 0, 0, 0) := (congrArg (fun t => List.lookup 254 t) gt237).trans (by decide +kernel)
theorem t237_255 : zT 237 255 = some (.aload_n 0, 1, 0, 0, 0, 0) := (congrArg (fun t => List.lookup 255 t) gt237).trans (by decide +kernel)
theorem t237_256 : zT 237 256 = some (.bipush 10, 2, 0, 0, 10, 0) := (congrArg (fun t => List.lookup 256 t) gt237).trans (by decide +kernel)
theorem t237_258 : zT 237 258 = some (.iconst 0, 1, 0, 0, 0, 0) := (congrArg (fun t => List.lookup 258 t) gt237).trans (by decide +kernel)
theorem t237_259 : zT 237 259 = some (.sipush 999, 3, 0, 0, 999, 0) := (congrArg (fun t => List.lookup 259 t) gt237).trans (by decide +kernel)
theorem t237_262 : zT 237 262 = some (.bipush 44, 2, 0, 0, 44, 0) := (congrArg (fun t => List.lookup 262 t) gt237).trans (by decide +kernel)
theorem t237_264 : zT 237 264 = some (.invokevirtual 170, 3, 242, 0, 0, 1829) := (congrArg (fun t => List.lookup 264 t) gt237).trans (by decide +kernel)
theorem t237_267 : zT 237 267 = some (.ifCond .eq 28, 3, 295, 0, 0, 0) := (congrArg (fun t => List.lookup 267 t) gt237).trans (by decide +kernel)
theorem t237_270 : zT 237 270 = some (.aload_n 0, 1, 0, 0, 0, 0) := (congrArg (fun t => List.lookup 270 t) gt237).trans (by decide +kernel)
theorem t237_271 : zT 237 271 = some (.bipush 11, 2, 0, 0, 11, 0) := (congrArg (fun t => List.lookup 271 t) gt237).trans (by decide +kernel)
theorem t237_273 : zT 237 273 = some (.aload_n 0, 1, 0, 0, 0, 0) := (congrArg (fun t => List.lookup 273 t) gt237).trans (by decide +kernel)
theorem t237_274 : zT 237 274 = some (.getfield 3, 3, 12, 0, 0, 1607) := (congrArg (fun t => List.lookup 274 t) gt237).trans (by decide +kernel)
theorem t237_277 : zT 237 277 = some (.bipush 10, 2, 0, 0, 10, 0) := (congrArg (fun t => List.lookup 277 t) gt237).trans (by decide +kernel)
theorem t237_279 : zT 237 279 = some (.iaload, 1, 0, 0, 0, 0) := (congrArg (fun t => List.lookup 279 t) gt237).trans (by decide +kernel)
theorem t237_280 : zT 237 280 = some (.sipush 999, 3, 0, 0, 999, 0) := (congrArg (fun t => List.lookup 280 t) gt237).trans (by decide +kernel)
theorem t237_283 : zT 237 283 = some (.bipush 59, 2, 0, 0, 59, 0) := (congrArg (fun t => List.lookup 283 t) gt237).trans (by decide +kernel)
theorem t237_285 : zT 237 285 = some (.invokevirtual 170, 3, 242, 0, 0, 1829) := (congrArg (fun t => List.lookup 285 t) gt237).trans (by decide +kernel)
theorem t237_288 : zT 237 288 = some (.ifCond .eq 7, 3, 295, 0, 0, 0) := (congrArg (fun t => List.lookup 288 t) gt237).trans (by decide +kernel)
theorem t237_291 : zT 237 291 = some (.iconst 1, 1, 0, 0, 1, 0) := (congrArg (fun t => List.lookup 291 t) gt237).trans (by decide +kernel)
theorem t237_292 : zT 237 292 = some (.goto 4, 3, 296, 0, 0, 0) := (congrArg (fun t => List.lookup 292 t) gt237).trans (by decide +kernel)
theorem t237_295 : zT 237 295 = some (.iconst 0, 1, 0, 0, 0, 0) := (congrArg (fun t => List.lookup 295 t) gt237).trans (by decide +kernel)
theorem t237_296 : zT 237 296 = some (.ireturn, 1, 0, 0, 0, 0) := (congrArg (fun t => List.lookup 296 t) gt237).trans (by decide +kernel)
theorem t237_297 : zT 237 297 = some (.aload_n 0, 1, 0, 0, 0, 0) := (congrArg (fun t => List.lookup 297 t) gt237).trans (by decide +kernel)
theorem t237_298 : zT 237 298 = some (.bipush 12, 2, 0, 0, 12, 0) := (congrArg (fun t => List.lookup 298 t) gt237).trans (by decide +kernel)
theorem t237_300 : zT 237 300 = some (.iconst 1, 1, 0, 0, 1, 0) := (congrArg (fun t => List.lookup 300 t) gt237).trans (by decide +kernel)
theorem t237_301 : zT 237 301 = some (.sipush 9999, 3, 0, 0, 9999, 0) := (congrArg (fun t => List.lookup 301 t) gt237).trans (by decide +kernel)
theorem t237_304 : zT 237 304 = some (.bipush 44, 2, 0, 0, 44, 0) := (congrArg (fun t => List.lookup 304 t) gt237).trans (by decide +kernel)
theorem t237_306 : zT 237 306 = some (.invokevirtual 170, 3, 242, 0, 0, 1829) := (congrArg (fun t => List.lookup 306 t) gt237).trans (by decide +kernel)
theorem t237_309 : zT 237 309 = some (.ifCond .eq 22, 3, 331, 0, 0, 0) := (congrArg (fun t => List.lookup 309 t) gt237).trans (by decide +kernel)
theorem t237_312 : zT 237 312 = some (.aload_n 0, 1, 0, 0, 0, 0) := (congrArg (fun t => List.lookup 312 t) gt237).trans (by decide +kernel)
theorem t237_313 : zT 237 313 = some (.bipush 13, 2, 0, 0, 13, 0) := (congrArg (fun t => List.lookup 313 t) gt237).trans (by decide +kernel)
theorem t237_315 : zT 237 315 = some (.iconst 0, 1, 0, 0, 0, 0) := (congrArg (fun t => List.lookup 315 t) gt237).trans (by decide +kernel)
theorem t237_316 : zT 237 316 = some (.sipush 9999, 3, 0, 0, 9999, 0) := (congrArg (fun t => List.lookup 316 t) gt237).trans (by decide +kernel)
theorem t237_319 : zT 237 319 = some (.bipush 59, 2, 0, 0, 59, 0) := (congrArg (fun t => List.lookup 319 t) gt237).trans (by decide +kernel)
theorem t237_321 : zT 237 321 = some (.invokevirtual 170, 3, 242, 0, 0, 1829) := (congrArg (fun t => List.lookup 321 t) gt237).trans (by decide +kernel)
theorem t237_324 : zT 237 324 = some (.ifCond .eq 7, 3, 331, 0, 0, 0) := (congrArg (fun t => List.lookup 324 t) gt237).trans (by decide +kernel)
theorem t237_327 : zT 237 327 = some (.iconst 1, 1, 0, 0, 1, 0) := (congrArg (fun t => List.lookup 327 t) gt237).trans (by decide +kernel)
theorem t237_328 : zT 237 328 = some (.goto 4, 3, 332, 0, 0, 0) := (congrArg (fun t => List.lookup 328 t) gt237).trans (by decide +kernel)
theorem t237_331 : zT 237 331 = some (.iconst 0, 1, 0, 0, 0, 0) := (congrArg (fun t => List.lookup 331 t) gt237).trans (by decide +kernel)
theorem t237_332 : zT 237 332 = some (.ireturn, 1, 0, 0, 0, 0) := (congrArg (fun t => List.lookup 332 t) gt237).trans (by decide +kernel)
theorem t237_333 : zT 237 333 = some (.aload_n 0, 1, 0, 0, 0, 0) := (congrArg (fun t => List.lookup 333 t) gt237).trans (by decide +kernel)
theorem t237_334 : zT 237 334 = some (.aload_n 0, 1, 0, 0, 0, 0) := (congrArg (fun t => List.lookup 334 t) gt237).trans (by decide +kernel)
theorem t237_335 : zT 237 335 = some (.getfield 126, 3, 12, 6, 0, 1613) := (congrArg (fun t => List.lookup 335 t) gt237).trans (by decide +kernel)
theorem t237_338 : zT 237 338 = some (.iconst 1, 1, 0, 0, 1, 0) := (congrArg (fun t => List.lookup 338 t) gt237).trans (by decide +kernel)
theorem t237_339 : zT 237 339 = some (.isub, 1, 0, 0, 0, 0) := (congrArg (fun t => List.lookup 339 t) gt237).trans (by decide +kernel)
theorem t237_340 : zT 237 340 = some (.invokevirtual 133, 3, 239, 0, 0, 1817) := (congrArg (fun t => List.lookup 340 t) gt237).trans (by decide +kernel)
theorem t237_343 : zT 237 343 = some (.ireturn, 1, 0, 0, 0, 0) := (congrArg (fun t => List.lookup 343 t) gt237).trans (by decide +kernel)
theorem t238_0 : zT 238 0 = some (.aload_n 0, 1, 0, 0, 0, 0) := (congrArg (fun t => List.lookup 0 t) gt238).trans rfl
theorem t238_1 : zT 238 1 = some (.getfield 126, 3, 12, 6, 0, 1613) := (congrArg (fun t => List.lookup 1 t) gt238).trans rfl
theorem t238_4 : zT 238 4 = some (.aload_n 0, 1, 0, 0, 0, 0) := (congrArg (fun t => List.lookup 4 t) gt238).trans rfl
theorem t238_5 : zT 238 5 = some (.getfield 120, 3, 12, 5, 0, 1612) := (congrArg (fun t => List.lookup 5 t) gt238).trans rfl
theorem t238_8 : zT 238 8 = some (.if_icmp .ge 19, 3, 27, 0, 0, 0) := (congrArg (fun t => List.lookup 8 t) gt238).trans rfl
theorem t238_11 : zT 238 11 = some (.aload_n 0, 1, 0, 0, 0, 0) := (congrArg (fun t => List.lookup 11 t) gt238).trans rfl
theorem t238_12 : zT 238 12 = some (.getfield 17, 3, 12, 4, 0, 1611) := (congrArg (fun t => List.lookup 12 t) gt238).trans rfl
theorem t238_15 : zT 238 15 = some (.aload_n 0, 1, 0, 0, 0, 0) := (congrArg (fun t => List.lookup 15 t) gt238).trans rfl
theorem t238_16 : zT 238 16 = some (.getfield 126, 3, 12, 6, 0, 1613) := (congrArg (fun t => List.lookup 16 t) gt238).trans rfl
theorem t238_19 : zT 238 19 = some (.baload, 1, 0, 0, 0, 0) := (congrArg (fun t => List.lookup 19 t) gt238).trans rfl
theorem t238_20 : zT 238 20 = some (.sipush 255, 3, 0, 0, 255, 0) := (congrArg (fun t => List.lookup 20 t) gt238).trans rfl
theorem t238_23 : zT 238 23 = some (.iand, 1, 0, 0, 0, 0) := (congrArg (fun t => List.lookup 23 t) gt238).trans rfl
theorem t238_24 : zT 238 24 = some (.goto 4, 3, 28, 0, 0, 0) := (congrArg (fun t => List.lookup 24 t) gt238).trans rfl
theorem t238_27 : zT 238 27 = some (.iconst (-1), 1, 0, 0, (-1), 0) := (congrArg (fun t => List.lookup 27 t) gt238).trans rfl
theorem t238_28 : zT 238 28 = some (.ireturn, 1, 0, 0, 0, 0) := (congrArg (fun t => List.lookup 28 t) gt238).trans rfl
theorem t239_0 : zT 239 0 = some (.aload_n 0, 1, 0, 0, 0, 0) := (congrArg (fun t => List.lookup 0 t) gt239).trans rfl
theorem t239_1 : zT 239 1 = some (.iload_n 1, 1, 1, 0, 0, 0) := (congrArg (fun t => List.lookup 1 t) gt239).trans rfl
theorem t239_2 : zT 239 2 = some (.putfield 21, 3, 12, 7, 0, 1614) := (congrArg (fun t => List.lookup 2 t) gt239).trans rfl
theorem t239_5 : zT 239 5 = some (.iconst 0, 1, 0, 0, 0, 0) := (congrArg (fun t => List.lookup 5 t) gt239).trans rfl
theorem t239_6 : zT 239 6 = some (.ireturn, 1, 0, 0, 0, 0) := (congrArg (fun t => List.lookup 6 t) gt239).trans rfl
theorem t240_0 : zT 240 0 = some (.aload_n 0, 1, 0, 0, 0, 0) := (congrArg (fun t => List.lookup 0 t) gt240).trans rfl
theorem t240_1 : zT 240 1 = some (.getfield 3, 3, 12, 0, 0, 1607) := (congrArg (fun t => List.lookup 1 t) gt240).trans rfl
theorem t240_4 : zT 240 4 = some (.iconst 0, 1, 0, 0, 0, 0) := (congrArg (fun t => List.lookup 4 t) gt240).trans rfl
theorem t240_5 : zT 240 5 = some (.iaload, 1, 0, 0, 0, 0) := (congrArg (fun t => List.lookup 5 t) gt240).trans rfl
theorem t240_6 : zT 240 6 = some (.istore_n 1, 1, 1, 0, 0, 0) := (congrArg (fun t => List.lookup 6 t) gt240).trans rfl
theorem t240_7 : zT 240 7 = some (.aload_n 0, 1, 0, 0, 0, 0) := (congrArg (fun t => List.lookup 7 t) gt240).trans rfl
theorem t240_8 : zT 240 8 = some (.bipush 14, 2, 0, 0, 14, 0) := (congrArg (fun t => List.lookup 8 t) gt240).trans rfl
theorem t240_10 : zT 240 10 = some (.iconst 2, 1, 0, 0, 2, 0) := (congrArg (fun t => List.lookup 10 t) gt240).trans rfl
theorem t240_11 : zT 240 11 = some (.iload_n 1, 1, 1, 0, 0, 0) := (congrArg (fun t => List.lookup 11 t) gt240).trans rfl
theorem t240_12 : zT 240 12 = some (.imul, 1, 0, 0, 0, 0) := (congrArg (fun t => List.lookup 12 t) gt240).trans rfl
theorem t240_13 : zT 240 13 = some (.iadd, 1, 0, 0, 0, 0) := (congrArg (fun t => List.lookup 13 t) gt240).trans rfl
theorem t240_14 : zT 240 14 = some (.iload_n 1, 1, 1, 0, 0, 0) := (congrArg (fun t => List.lookup 14 t) gt240).trans rfl
theorem t240_15 : zT 240 15 = some (.ifCond .ne 7, 3, 22, 0, 0, 0) := (congrArg (fun t => List.lookup 15 t) gt240).trans rfl
theorem t240_18 : zT 240 18 = some (.iconst 1, 1, 0, 0, 1, 0) := (congrArg (fun t => List.lookup 18 t) gt240).trans rfl
theorem t240_19 : zT 240 19 = some (.goto 12, 3, 31, 0, 0, 0) := (congrArg (fun t => List.lookup 19 t) gt240).trans rfl
theorem t240_22 : zT 240 22 = some (.aload_n 0, 1, 0, 0, 0, 0) := (congrArg (fun t => List.lookup 22 t) gt240).trans rfl
theorem t240_23 : zT 240 23 = some (.iload_n 1, 1, 1, 0, 0, 0) := (congrArg (fun t => List.lookup 23 t) gt240).trans rfl
theorem t240_24 : zT 240 24 = some (.iconst 1, 1, 0, 0, 1, 0) := (congrArg (fun t => List.lookup 24 t) gt240).trans rfl
theorem t240_25 : zT 240 25 = some (.isub, 1, 0, 0, 0, 0) := (congrArg (fun t => List.lookup 25 t) gt240).trans rfl
theorem t240_26 : zT 240 26 = some (.invokevirtual 154, 3, 241, 0, 0, 1825) := (congrArg (fun t => List.lookup 26 t) gt240).trans rfl
theorem t240_29 : zT 240 29 = some (.iconst 1, 1, 0, 0, 1, 0) := (congrArg (fun t => List.lookup 29 t) gt240).trans rfl
theorem t240_30 : zT 240 30 = some (.iadd, 1, 0, 0, 0, 0) := (congrArg (fun t => List.lookup 30 t) gt240).trans rfl
theorem t240_31 : zT 240 31 = some (.sipush 999, 3, 0, 0, 999, 0) := (congrArg (fun t => List.lookup 31 t) gt240).trans rfl
theorem t240_34 : zT 240 34 = some (.bipush 59, 2, 0, 0, 59, 0) := (congrArg (fun t => List.lookup 34 t) gt240).trans rfl
theorem t240_36 : zT 240 36 = some (.invokevirtual 170, 3, 242, 0, 0, 1829) := (congrArg (fun t => List.lookup 36 t) gt240).trans rfl
theorem t240_39 : zT 240 39 = some (.ifCond .ne 5, 3, 44, 0, 0, 0) := (congrArg (fun t => List.lookup 39 t) gt240).trans rfl
theorem t240_42 : zT 240 42 = some (.iconst 0, 1, 0, 0, 0, 0) := (congrArg (fun t => List.lookup 42 t) gt240).trans rfl
