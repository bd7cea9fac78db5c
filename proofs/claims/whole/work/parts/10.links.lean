/-! METHODS AND LINKS, out of the tables -/
def kX6_init : MK := (yX6_init, cX6_init, 2, (Option.none : Option Jvm.ClassFile.FieldType))
set_option maxRecDepth 20000 in
theorem mX6_init : MI kX6_init 0 := ⟨⟨TB_of 84 (by decide +kernel) rfl, TB_of 64 (by decide +kernel) (by decide +kernel), by decide +kernel, by decide +kernel, by decide +kernel, by decide +kernel⟩, TB_of 83 (by decide +kernel) (by decide +kernel), rfl⟩
def kX4_init : MK := (yX4_init, cX4_init, 2, (Option.none : Option Jvm.ClassFile.FieldType))
set_option maxRecDepth 20000 in
theorem mX4_init : MI kX4_init 0 := ⟨⟨TB_of 92 (by decide +kernel) rfl, TB_of 65 (by decide +kernel) (by decide +kernel), by decide +kernel, by decide +kernel, by decide +kernel, by decide +kernel⟩, TB_of 91 (by decide +kernel) (by decide +kernel), rfl⟩
def kX2_init : MK := (yX2_init, cX2_init, 1, (Option.none : Option Jvm.ClassFile.FieldType))
set_option maxRecDepth 20000 in
theorem mX2_init : MI kX2_init 0 := ⟨⟨TB_of 99 (by decide +kernel) rfl, TB_of 66 (by decide +kernel) (by decide +kernel), by decide +kernel, by decide +kernel, by decide +kernel, by decide +kernel⟩, TB_of 98 (by decide +kernel) (by decide +kernel), rfl⟩
def kX1_init : MK := (yX1_init, cX1_init, 1, (Option.none : Option Jvm.ClassFile.FieldType))
set_option maxRecDepth 20000 in
theorem mX1_init : MI kX1_init 0 := ⟨⟨TB_of 184 (by decide +kernel) rfl, TB_of 67 (by decide +kernel) (by decide +kernel), by decide +kernel, by decide +kernel, by decide +kernel, by decide +kernel⟩, TB_of 183 (by decide +kernel) (by decide +kernel), rfl⟩
def kX5_init : MK := (yX5_init, cX5_init, 1, (Option.none : Option Jvm.ClassFile.FieldType))
set_option maxRecDepth 20000 in
theorem mX5_init : MI kX5_init 0 := ⟨⟨TB_of 208 (by decide +kernel) rfl, TB_of 68 (by decide +kernel) (by decide +kernel), by decide +kernel, by decide +kernel, by decide +kernel, by decide +kernel⟩, TB_of 207 (by decide +kernel) (by decide +kernel), rfl⟩
def kX3_init : MK := (yX3_init, cX3_init, 1, (Option.none : Option Jvm.ClassFile.FieldType))
set_option maxRecDepth 20000 in
theorem mX3_init : MI kX3_init 0 := ⟨⟨TB_of 233 (by decide +kernel) rfl, TB_of 69 (by decide +kernel) (by decide +kernel), by decide +kernel, by decide +kernel, by decide +kernel, by decide +kernel⟩, TB_of 232 (by decide +kernel) (by decide +kernel), rfl⟩
def kX0_init : MK := (yX0_init, cX0_init, 1, (Option.none : Option Jvm.ClassFile.FieldType))
set_option maxRecDepth 20000 in
theorem mX0_init : MI kX0_init 0 := ⟨⟨TB_of 263 (by decide +kernel) rfl, TB_of 70 (by decide +kernel) (by decide +kernel), by decide +kernel, by decide +kernel, by decide +kernel, by decide +kernel⟩, TB_of 262 (by decide +kernel) (by decide +kernel), rfl⟩
def kX6_row : MK := (yX6_row, cX6_row, 4, (some .int))
set_option maxRecDepth 20000 in
theorem mX6_row : MV kX6_row 3 := ⟨⟨TB_of 319 (by decide +kernel) rfl, TB_of 64 (by decide +kernel) (by decide +kernel), by decide +kernel, by decide +kernel, by decide +kernel, by decide +kernel⟩, TB_of 317 (by decide +kernel) (by decide +kernel), TB_of 318 (by decide +kernel) (by decide +kernel)⟩
def kX6_isShelf : MK := (yX6_isShelf, cX6_isShelf, 2, (some .boolean))
set_option maxRecDepth 20000 in
theorem mX6_isShelf : MV kX6_isShelf 1 := ⟨⟨TB_of 323 (by decide +kernel) rfl, TB_of 64 (by decide +kernel) (by decide +kernel), by decide +kernel, by decide +kernel, by decide +kernel, by decide +kernel⟩, TB_of 322 (by decide +kernel) (by decide +kernel), TB_of 0 (by decide +kernel) (by decide +kernel)⟩
def kX6_refuse : MK := (yX6_refuse, cX6_refuse, 3, (some .int))
set_option maxRecDepth 20000 in
theorem mX6_refuse : MV kX6_refuse 1 := ⟨⟨TB_of 327 (by decide +kernel) rfl, TB_of 64 (by decide +kernel) (by decide +kernel), by decide +kernel, by decide +kernel, by decide +kernel, by decide +kernel⟩, TB_of 326 (by decide +kernel) (by decide +kernel), TB_of 1 (by decide +kernel) (by decide +kernel)⟩
def kX6_shelfAt : MK := (yX6_shelfAt, cX6_shelfAt, 2, (some (.object "ThirdEvening$Shelf")))
set_option maxRecDepth 20000 in
theorem mX6_shelfAt : MV kX6_shelfAt 1 := ⟨⟨TB_of 331 (by decide +kernel) rfl, TB_of 64 (by decide +kernel) (by decide +kernel), by decide +kernel, by decide +kernel, by decide +kernel, by decide +kernel⟩, TB_of 330 (by decide +kernel) (by decide +kernel), TB_of 2 (by decide +kernel) (by decide +kernel)⟩
def kX5_holdRow : MK := (yX5_holdRow, cX5_holdRow, 3, (Option.none : Option Jvm.ClassFile.FieldType))
set_option maxRecDepth 20000 in
theorem mX5_holdRow : MV kX5_holdRow 2 := ⟨⟨TB_of 335 (by decide +kernel) rfl, TB_of 68 (by decide +kernel) (by decide +kernel), by decide +kernel, by decide +kernel, by decide +kernel, by decide +kernel⟩, TB_of 333 (by decide +kernel) (by decide +kernel), TB_of 334 (by decide +kernel) (by decide +kernel)⟩
def kJ7_fill_d0a16 : MK := (yJ7_fill_d0a16, cJ7_fill_d0a16, 5, (Option.none : Option Jvm.ClassFile.FieldType))
set_option maxRecDepth 20000 in
theorem mJ7_fill_d0a16 : MS kJ7_fill_d0a16 2 := ⟨⟨TB_of 338 (by decide +kernel) rfl, TB_of 72 (by decide +kernel) (by decide +kernel), by decide +kernel, by decide +kernel, by decide +kernel, by decide +kernel⟩, TB_of 337 (by decide +kernel) (by decide +kernel)⟩
def kX6_set : MK := (yX6_set, cX6_set, 6, (some .int))
set_option maxRecDepth 20000 in
theorem mX6_set : MV kX6_set 3 := ⟨⟨TB_of 342 (by decide +kernel) rfl, TB_of 64 (by decide +kernel) (by decide +kernel), by decide +kernel, by decide +kernel, by decide +kernel, by decide +kernel⟩, TB_of 340 (by decide +kernel) (by decide +kernel), TB_of 341 (by decide +kernel) (by decide +kernel)⟩
def kX6_whyNoRow : MK := (yX6_whyNoRow, cX6_whyNoRow, 3, (some .int))
set_option maxRecDepth 20000 in
theorem mX6_whyNoRow : MV kX6_whyNoRow 1 := ⟨⟨TB_of 346 (by decide +kernel) rfl, TB_of 64 (by decide +kernel) (by decide +kernel), by decide +kernel, by decide +kernel, by decide +kernel, by decide +kernel⟩, TB_of 345 (by decide +kernel) (by decide +kernel), TB_of 3 (by decide +kernel) (by decide +kernel)⟩
def kX5_isPerson : MK := (yX5_isPerson, cX5_isPerson, 1, (some .boolean))
set_option maxRecDepth 20000 in
theorem mX5_isPerson : MV kX5_isPerson 0 := ⟨⟨TB_of 350 (by decide +kernel) rfl, TB_of 68 (by decide +kernel) (by decide +kernel), by decide +kernel, by decide +kernel, by decide +kernel, by decide +kernel⟩, TB_of 348 (by decide +kernel) (by decide +kernel), TB_of 349 (by decide +kernel) (by decide +kernel)⟩
def kX5_isRow : MK := (yX5_isRow, cX5_isRow, 1, (some .boolean))
set_option maxRecDepth 20000 in
theorem mX5_isRow : MV kX5_isRow 0 := ⟨⟨TB_of 354 (by decide +kernel) rfl, TB_of 68 (by decide +kernel) (by decide +kernel), by decide +kernel, by decide +kernel, by decide +kernel, by decide +kernel⟩, TB_of 352 (by decide +kernel) (by decide +kernel), TB_of 353 (by decide +kernel) (by decide +kernel)⟩
def kX5_hasElement : MK := (yX5_hasElement, cX5_hasElement, 2, (some .boolean))
set_option maxRecDepth 20000 in
theorem mX5_hasElement : MV kX5_hasElement 1 := ⟨⟨TB_of 358 (by decide +kernel) rfl, TB_of 68 (by decide +kernel) (by decide +kernel), by decide +kernel, by decide +kernel, by decide +kernel, by decide +kernel⟩, TB_of 356 (by decide +kernel) (by decide +kernel), TB_of 357 (by decide +kernel) (by decide +kernel)⟩
def kX5_put : MK := (yX5_put, cX5_put, 4, (Option.none : Option Jvm.ClassFile.FieldType))
set_option maxRecDepth 20000 in
theorem mX5_put : MV kX5_put 2 := ⟨⟨TB_of 362 (by decide +kernel) rfl, TB_of 68 (by decide +kernel) (by decide +kernel), by decide +kernel, by decide +kernel, by decide +kernel, by decide +kernel⟩, TB_of 360 (by decide +kernel) (by decide +kernel), TB_of 361 (by decide +kernel) (by decide +kernel)⟩
def kX6_copy : MK := (yX6_copy, cX6_copy, 9, (some .int))
set_option maxRecDepth 20000 in
theorem mX6_copy : MV kX6_copy 5 := ⟨⟨TB_of 366 (by decide +kernel) rfl, TB_of 64 (by decide +kernel) (by decide +kernel), by decide +kernel, by decide +kernel, by decide +kernel, by decide +kernel⟩, TB_of 364 (by decide +kernel) (by decide +kernel), TB_of 365 (by decide +kernel) (by decide +kernel)⟩
def kX5_hasStretch : MK := (yX5_hasStretch, cX5_hasStretch, 3, (some .boolean))
set_option maxRecDepth 20000 in
theorem mX5_hasStretch : MV kX5_hasStretch 2 := ⟨⟨TB_of 370 (by decide +kernel) rfl, TB_of 68 (by decide +kernel) (by decide +kernel), by decide +kernel, by decide +kernel, by decide +kernel, by decide +kernel⟩, TB_of 368 (by decide +kernel) (by decide +kernel), TB_of 369 (by decide +kernel) (by decide +kernel)⟩
def kX6_element : MK := (yX6_element, cX6_element, 3, (some .long))
set_option maxRecDepth 20000 in
theorem mX6_element : MV kX6_element 2 := ⟨⟨TB_of 377 (by decide +kernel) rfl, TB_of 64 (by decide +kernel) (by decide +kernel), by decide +kernel, by decide +kernel, by decide +kernel, by decide +kernel⟩, TB_of 375 (by decide +kernel) (by decide +kernel), TB_of 376 (by decide +kernel) (by decide +kernel)⟩
def kX5_elementAt : MK := (yX5_elementAt, cX5_elementAt, 2, (some .long))
set_option maxRecDepth 20000 in
theorem mX5_elementAt : MV kX5_elementAt 1 := ⟨⟨TB_of 381 (by decide +kernel) rfl, TB_of 68 (by decide +kernel) (by decide +kernel), by decide +kernel, by decide +kernel, by decide +kernel, by decide +kernel⟩, TB_of 379 (by decide +kernel) (by decide +kernel), TB_of 380 (by decide +kernel) (by decide +kernel)⟩
def kX6_show : MK := (yX6_show, cX6_show, 3, (some .int))
set_option maxRecDepth 20000 in
theorem mX6_show : MV kX6_show 2 := ⟨⟨TB_of 385 (by decide +kernel) rfl, TB_of 64 (by decide +kernel) (by decide +kernel), by decide +kernel, by decide +kernel, by decide +kernel, by decide +kernel⟩, TB_of 383 (by decide +kernel) (by decide +kernel), TB_of 384 (by decide +kernel) (by decide +kernel)⟩
def kX4_has : MK := (yX4_has, cX4_has, 2, (some .boolean))
set_option maxRecDepth 20000 in
theorem mX4_has : MV kX4_has 1 := ⟨⟨TB_of 389 (by decide +kernel) rfl, TB_of 65 (by decide +kernel) (by decide +kernel), by decide +kernel, by decide +kernel, by decide +kernel, by decide +kernel⟩, TB_of 387 (by decide +kernel) (by decide +kernel), TB_of 388 (by decide +kernel) (by decide +kernel)⟩
def kX5_holdPerson : MK := (yX5_holdPerson, cX5_holdPerson, 2, (Option.none : Option Jvm.ClassFile.FieldType))
set_option maxRecDepth 20000 in
theorem mX5_holdPerson : MV kX5_holdPerson 1 := ⟨⟨TB_of 393 (by decide +kernel) rfl, TB_of 68 (by decide +kernel) (by decide +kernel), by decide +kernel, by decide +kernel, by decide +kernel, by decide +kernel⟩, TB_of 391 (by decide +kernel) (by decide +kernel), TB_of 392 (by decide +kernel) (by decide +kernel)⟩
def kX6_holds : MK := (yX6_holds, cX6_holds, 3, (some .int))
set_option maxRecDepth 20000 in
theorem mX6_holds : MV kX6_holds 1 := ⟨⟨TB_of 397 (by decide +kernel) rfl, TB_of 64 (by decide +kernel) (by decide +kernel), by decide +kernel, by decide +kernel, by decide +kernel, by decide +kernel⟩, TB_of 395 (by decide +kernel) (by decide +kernel), TB_of 396 (by decide +kernel) (by decide +kernel)⟩
def kX6_says : MK := (yX6_says, cX6_says, 5, (some .int))
set_option maxRecDepth 20000 in
theorem mX6_says : MV kX6_says 2 := ⟨⟨TB_of 401 (by decide +kernel) rfl, TB_of 64 (by decide +kernel) (by decide +kernel), by decide +kernel, by decide +kernel, by decide +kernel, by decide +kernel⟩, TB_of 399 (by decide +kernel) (by decide +kernel), TB_of 400 (by decide +kernel) (by decide +kernel)⟩
def kX6_isKind : MK := (yX6_isKind, cX6_isKind, 1, (some .boolean))
set_option maxRecDepth 20000 in
theorem mX6_isKind : MS kX6_isKind 1 := ⟨⟨TB_of 404 (by decide +kernel) rfl, TB_of 64 (by decide +kernel) (by decide +kernel), by decide +kernel, by decide +kernel, by decide +kernel, by decide +kernel⟩, TB_of 403 (by decide +kernel) (by decide +kernel)⟩
def kX4_one : MK := (yX4_one, cX4_one, 2, (some (.object "ThirdEvening$Person")))
set_option maxRecDepth 20000 in
theorem mX4_one : MV kX4_one 1 := ⟨⟨TB_of 410 (by decide +kernel) rfl, TB_of 65 (by decide +kernel) (by decide +kernel), by decide +kernel, by decide +kernel, by decide +kernel, by decide +kernel⟩, TB_of 408 (by decide +kernel) (by decide +kernel), TB_of 409 (by decide +kernel) (by decide +kernel)⟩
def kX6_isUnder : MK := (yX6_isUnder, cX6_isUnder, 4, (some .boolean))
set_option maxRecDepth 20000 in
theorem mX6_isUnder : MS kX6_isUnder 2 := ⟨⟨TB_of 413 (by decide +kernel) rfl, TB_of 64 (by decide +kernel) (by decide +kernel), by decide +kernel, by decide +kernel, by decide +kernel, by decide +kernel⟩, TB_of 412 (by decide +kernel) (by decide +kernel)⟩
def kX6_kindAbove : MK := (yX6_kindAbove, cX6_kindAbove, 1, (some .int))
set_option maxRecDepth 20000 in
theorem mX6_kindAbove : MS kX6_kindAbove 1 := ⟨⟨TB_of 416 (by decide +kernel) rfl, TB_of 64 (by decide +kernel) (by decide +kernel), by decide +kernel, by decide +kernel, by decide +kernel, by decide +kernel⟩, TB_of 415 (by decide +kernel) (by decide +kernel)⟩
def kX2_sayingAs : MK := (yX2_sayingAs, cX2_sayingAs, 2, (some .int))
set_option maxRecDepth 20000 in
theorem mX2_sayingAs : MV kX2_sayingAs 1 := ⟨⟨TB_of 420 (by decide +kernel) rfl, TB_of 66 (by decide +kernel) (by decide +kernel), by decide +kernel, by decide +kernel, by decide +kernel, by decide +kernel⟩, TB_of 418 (by decide +kernel) (by decide +kernel), TB_of 419 (by decide +kernel) (by decide +kernel)⟩
def kX6_person : MK := (yX6_person, cX6_person, 5, (some .int))
set_option maxRecDepth 20000 in
theorem mX6_person : MV kX6_person 4 := ⟨⟨TB_of 424 (by decide +kernel) rfl, TB_of 64 (by decide +kernel) (by decide +kernel), by decide +kernel, by decide +kernel, by decide +kernel, by decide +kernel⟩, TB_of 422 (by decide +kernel) (by decide +kernel), TB_of 423 (by decide +kernel) (by decide +kernel)⟩
def kX4_isFull : MK := (yX4_isFull, cX4_isFull, 1, (some .boolean))
set_option maxRecDepth 20000 in
theorem mX4_isFull : MV kX4_isFull 0 := ⟨⟨TB_of 428 (by decide +kernel) rfl, TB_of 65 (by decide +kernel) (by decide +kernel), by decide +kernel, by decide +kernel, by decide +kernel, by decide +kernel⟩, TB_of 426 (by decide +kernel) (by decide +kernel), TB_of 427 (by decide +kernel) (by decide +kernel)⟩
def kX4_enrol : MK := (yX4_enrol, cX4_enrol, 5, (some .int))
set_option maxRecDepth 20000 in
theorem mX4_enrol : MV kX4_enrol 4 := ⟨⟨TB_of 432 (by decide +kernel) rfl, TB_of 65 (by decide +kernel) (by decide +kernel), by decide +kernel, by decide +kernel, by decide +kernel, by decide +kernel⟩, TB_of 430 (by decide +kernel) (by decide +kernel), TB_of 431 (by decide +kernel) (by decide +kernel)⟩
def kX2_enter : MK := (yX2_enter, cX2_enter, 5, (Option.none : Option Jvm.ClassFile.FieldType))
set_option maxRecDepth 20000 in
theorem mX2_enter : MV kX2_enter 4 := ⟨⟨TB_of 437 (by decide +kernel) rfl, TB_of 66 (by decide +kernel) (by decide +kernel), by decide +kernel, by decide +kernel, by decide +kernel, by decide +kernel⟩, TB_of 435 (by decide +kernel) (by decide +kernel), TB_of 436 (by decide +kernel) (by decide +kernel)⟩
def kX6_friend : MK := (yX6_friend, cX6_friend, 4, (some .int))
set_option maxRecDepth 20000 in
theorem mX6_friend : MV kX6_friend 2 := ⟨⟨TB_of 441 (by decide +kernel) rfl, TB_of 64 (by decide +kernel) (by decide +kernel), by decide +kernel, by decide +kernel, by decide +kernel, by decide +kernel⟩, TB_of 439 (by decide +kernel) (by decide +kernel), TB_of 440 (by decide +kernel) (by decide +kernel)⟩
def kX6_ask : MK := (yX6_ask, cX6_ask, 4, (some .int))
set_option maxRecDepth 20000 in
theorem mX6_ask : MV kX6_ask 2 := ⟨⟨TB_of 445 (by decide +kernel) rfl, TB_of 64 (by decide +kernel) (by decide +kernel), by decide +kernel, by decide +kernel, by decide +kernel, by decide +kernel⟩, TB_of 443 (by decide +kernel) (by decide +kernel), TB_of 444 (by decide +kernel) (by decide +kernel)⟩
def kX6_leastOf : MK := (yX6_leastOf, cX6_leastOf, 1, (some .int))
set_option maxRecDepth 20000 in
theorem mX6_leastOf : MS kX6_leastOf 1 := ⟨⟨TB_of 448 (by decide +kernel) rfl, TB_of 64 (by decide +kernel) (by decide +kernel), by decide +kernel, by decide +kernel, by decide +kernel, by decide +kernel⟩, TB_of 447 (by decide +kernel) (by decide +kernel)⟩
def kX6_mostOf : MK := (yX6_mostOf, cX6_mostOf, 1, (some .int))
set_option maxRecDepth 20000 in
theorem mX6_mostOf : MS kX6_mostOf 1 := ⟨⟨TB_of 453 (by decide +kernel) rfl, TB_of 64 (by decide +kernel) (by decide +kernel), by decide +kernel, by decide +kernel, by decide +kernel, by decide +kernel⟩, TB_of 452 (by decide +kernel) (by decide +kernel)⟩
def kX4_setting : MK := (yX4_setting, cX4_setting, 2, (some .int))
set_option maxRecDepth 20000 in
theorem mX4_setting : MV kX4_setting 1 := ⟨⟨TB_of 459 (by decide +kernel) rfl, TB_of 65 (by decide +kernel) (by decide +kernel), by decide +kernel, by decide +kernel, by decide +kernel, by decide +kernel⟩, TB_of 457 (by decide +kernel) (by decide +kernel), TB_of 458 (by decide +kernel) (by decide +kernel)⟩
def kX4_settle : MK := (yX4_settle, cX4_settle, 3, (Option.none : Option Jvm.ClassFile.FieldType))
set_option maxRecDepth 20000 in
theorem mX4_settle : MV kX4_settle 2 := ⟨⟨TB_of 463 (by decide +kernel) rfl, TB_of 65 (by decide +kernel) (by decide +kernel), by decide +kernel, by decide +kernel, by decide +kernel, by decide +kernel⟩, TB_of 461 (by decide +kernel) (by decide +kernel), TB_of 462 (by decide +kernel) (by decide +kernel)⟩
def kX6_go : MK := (yX6_go, cX6_go, 5, (some .int))
set_option maxRecDepth 20000 in
theorem mX6_go : MV kX6_go 2 := ⟨⟨TB_of 467 (by decide +kernel) rfl, TB_of 64 (by decide +kernel) (by decide +kernel), by decide +kernel, by decide +kernel, by decide +kernel, by decide +kernel⟩, TB_of 465 (by decide +kernel) (by decide +kernel), TB_of 466 (by decide +kernel) (by decide +kernel)⟩
def kX6_personOf : MK := (yX6_personOf, cX6_personOf, 3, (some .int))
set_option maxRecDepth 20000 in
theorem mX6_personOf : MV kX6_personOf 2 := ⟨⟨TB_of 471 (by decide +kernel) rfl, TB_of 64 (by decide +kernel) (by decide +kernel), by decide +kernel, by decide +kernel, by decide +kernel, by decide +kernel⟩, TB_of 469 (by decide +kernel) (by decide +kernel), TB_of 470 (by decide +kernel) (by decide +kernel)⟩
def kX2_mark : MK := (yX2_mark, cX2_mark, 2, (some .int))
set_option maxRecDepth 20000 in
theorem mX2_mark : MV kX2_mark 1 := ⟨⟨TB_of 475 (by decide +kernel) rfl, TB_of 66 (by decide +kernel) (by decide +kernel), by decide +kernel, by decide +kernel, by decide +kernel, by decide +kernel⟩, TB_of 473 (by decide +kernel) (by decide +kernel), TB_of 474 (by decide +kernel) (by decide +kernel)⟩
def kX6_school : MK := (yX6_school, cX6_school, 4, (some .int))
set_option maxRecDepth 20000 in
theorem mX6_school : MV kX6_school 1 := ⟨⟨TB_of 479 (by decide +kernel) rfl, TB_of 64 (by decide +kernel) (by decide +kernel), by decide +kernel, by decide +kernel, by decide +kernel, by decide +kernel⟩, TB_of 477 (by decide +kernel) (by decide +kernel), TB_of 478 (by decide +kernel) (by decide +kernel)⟩
def kX3_read : MK := (yX3_read, cX3_read, 4, (some .int))
set_option maxRecDepth 20000 in
theorem mX3_read : MV kX3_read 2 := ⟨⟨TB_of 483 (by decide +kernel) rfl, TB_of 69 (by decide +kernel) (by decide +kernel), by decide +kernel, by decide +kernel, by decide +kernel, by decide +kernel⟩, TB_of 481 (by decide +kernel) (by decide +kernel), TB_of 482 (by decide +kernel) (by decide +kernel)⟩
def kX4_become : MK := (yX4_become, cX4_become, 3, (Option.none : Option Jvm.ClassFile.FieldType))
set_option maxRecDepth 20000 in
theorem mX4_become : MV kX4_become 1 := ⟨⟨TB_of 487 (by decide +kernel) rfl, TB_of 65 (by decide +kernel) (by decide +kernel), by decide +kernel, by decide +kernel, by decide +kernel, by decide +kernel⟩, TB_of 485 (by decide +kernel) (by decide +kernel), TB_of 486 (by decide +kernel) (by decide +kernel)⟩
def kX2_become : MK := (yX2_become, cX2_become, 2, (Option.none : Option Jvm.ClassFile.FieldType))
set_option maxRecDepth 20000 in
theorem mX2_become : MV kX2_become 1 := ⟨⟨TB_of 491 (by decide +kernel) rfl, TB_of 66 (by decide +kernel) (by decide +kernel), by decide +kernel, by decide +kernel, by decide +kernel, by decide +kernel⟩, TB_of 489 (by decide +kernel) (by decide +kernel), TB_of 490 (by decide +kernel) (by decide +kernel)⟩
def kX5_intAt : MK := (yX5_intAt, cX5_intAt, 2, (some .int))
set_option maxRecDepth 20000 in
theorem mX5_intAt : MV kX5_intAt 1 := ⟨⟨TB_of 495 (by decide +kernel) rfl, TB_of 68 (by decide +kernel) (by decide +kernel), by decide +kernel, by decide +kernel, by decide +kernel, by decide +kernel⟩, TB_of 493 (by decide +kernel) (by decide +kernel), TB_of 494 (by decide +kernel) (by decide +kernel)⟩
def kX3_readItem : MK := (yX3_readItem, cX3_readItem, 3, (some .boolean))
set_option maxRecDepth 20000 in
theorem mX3_readItem : MV kX3_readItem 0 := ⟨⟨TB_of 500 (by decide +kernel) rfl, TB_of 69 (by decide +kernel) (by decide +kernel), by decide +kernel, by decide +kernel, by decide +kernel, by decide +kernel⟩, TB_of 499 (by decide +kernel) (by decide +kernel), TB_of 4 (by decide +kernel) (by decide +kernel)⟩
def kX3_readWord : MK := (yX3_readWord, cX3_readWord, 4, (some .int))
set_option maxRecDepth 20000 in
theorem mX3_readWord : MV kX3_readWord 0 := ⟨⟨TB_of 504 (by decide +kernel) rfl, TB_of 69 (by decide +kernel) (by decide +kernel), by decide +kernel, by decide +kernel, by decide +kernel, by decide +kernel⟩, TB_of 503 (by decide +kernel) (by decide +kernel), TB_of 5 (by decide +kernel) (by decide +kernel)⟩
def kX3_letter : MK := (yX3_letter, cX3_letter, 1, (some .int))
set_option maxRecDepth 20000 in
theorem mX3_letter : MV kX3_letter 0 := ⟨⟨TB_of 508 (by decide +kernel) rfl, TB_of 69 (by decide +kernel) (by decide +kernel), by decide +kernel, by decide +kernel, by decide +kernel, by decide +kernel⟩, TB_of 507 (by decide +kernel) (by decide +kernel), TB_of 6 (by decide +kernel) (by decide +kernel)⟩
def kX3_wordOf : MK := (yX3_wordOf, cX3_wordOf, 1, (some (.object "java/lang/String")))
set_option maxRecDepth 20000 in
theorem mX3_wordOf : MS kX3_wordOf 1 := ⟨⟨TB_of 511 (by decide +kernel) rfl, TB_of 69 (by decide +kernel) (by decide +kernel), by decide +kernel, by decide +kernel, by decide +kernel, by decide +kernel⟩, TB_of 510 (by decide +kernel) (by decide +kernel)⟩
def kX3_fail : MK := (yX3_fail, cX3_fail, 2, (some .boolean))
set_option maxRecDepth 20000 in
theorem mX3_fail : MV kX3_fail 1 := ⟨⟨TB_of 562 (by decide +kernel) rfl, TB_of 69 (by decide +kernel) (by decide +kernel), by decide +kernel, by decide +kernel, by decide +kernel, by decide +kernel⟩, TB_of 561 (by decide +kernel) (by decide +kernel), TB_of 7 (by decide +kernel) (by decide +kernel)⟩
def kX3_readSign : MK := (yX3_readSign, cX3_readSign, 2, (some .boolean))
set_option maxRecDepth 20000 in
theorem mX3_readSign : MV kX3_readSign 1 := ⟨⟨TB_of 574 (by decide +kernel) rfl, TB_of 69 (by decide +kernel) (by decide +kernel), by decide +kernel, by decide +kernel, by decide +kernel, by decide +kernel⟩, TB_of 573 (by decide +kernel) (by decide +kernel), TB_of 8 (by decide +kernel) (by decide +kernel)⟩
def kX3_readPerson : MK := (yX3_readPerson, cX3_readPerson, 5, (some .boolean))
set_option maxRecDepth 20000 in
theorem mX3_readPerson : MV kX3_readPerson 0 := ⟨⟨TB_of 579 (by decide +kernel) rfl, TB_of 69 (by decide +kernel) (by decide +kernel), by decide +kernel, by decide +kernel, by decide +kernel, by decide +kernel⟩, TB_of 578 (by decide +kernel) (by decide +kernel), TB_of 9 (by decide +kernel) (by decide +kernel)⟩
def kX3_readNumber : MK := (yX3_readNumber, cX3_readNumber, 4, (some .int))
set_option maxRecDepth 20000 in
theorem mX3_readNumber : MV kX3_readNumber 2 := ⟨⟨TB_of 584 (by decide +kernel) rfl, TB_of 69 (by decide +kernel) (by decide +kernel), by decide +kernel, by decide +kernel, by decide +kernel, by decide +kernel⟩, TB_of 583 (by decide +kernel) (by decide +kernel), TB_of 10 (by decide +kernel) (by decide +kernel)⟩
def kX3_isDigit : MK := (yX3_isDigit, cX3_isDigit, 1, (some .boolean))
set_option maxRecDepth 20000 in
theorem mX3_isDigit : MV kX3_isDigit 0 := ⟨⟨TB_of 588 (by decide +kernel) rfl, TB_of 69 (by decide +kernel) (by decide +kernel), by decide +kernel, by decide +kernel, by decide +kernel, by decide +kernel⟩, TB_of 587 (by decide +kernel) (by decide +kernel), TB_of 11 (by decide +kernel) (by decide +kernel)⟩
def kX3_readDigit : MK := (yX3_readDigit, cX3_readDigit, 2, (some .int))
set_option maxRecDepth 20000 in
theorem mX3_readDigit : MV kX3_readDigit 0 := ⟨⟨TB_of 592 (by decide +kernel) rfl, TB_of 69 (by decide +kernel) (by decide +kernel), by decide +kernel, by decide +kernel, by decide +kernel, by decide +kernel⟩, TB_of 591 (by decide +kernel) (by decide +kernel), TB_of 12 (by decide +kernel) (by decide +kernel)⟩
def kX3_readFriend : MK := (yX3_readFriend, cX3_readFriend, 3, (some .boolean))
set_option maxRecDepth 20000 in
theorem mX3_readFriend : MV kX3_readFriend 0 := ⟨⟨TB_of 597 (by decide +kernel) rfl, TB_of 69 (by decide +kernel) (by decide +kernel), by decide +kernel, by decide +kernel, by decide +kernel, by decide +kernel⟩, TB_of 596 (by decide +kernel) (by decide +kernel), TB_of 13 (by decide +kernel) (by decide +kernel)⟩
def kX3_readGone : MK := (yX3_readGone, cX3_readGone, 2, (some .boolean))
set_option maxRecDepth 20000 in
theorem mX3_readGone : MV kX3_readGone 0 := ⟨⟨TB_of 602 (by decide +kernel) rfl, TB_of 69 (by decide +kernel) (by decide +kernel), by decide +kernel, by decide +kernel, by decide +kernel, by decide +kernel⟩, TB_of 601 (by decide +kernel) (by decide +kernel), TB_of 14 (by decide +kernel) (by decide +kernel)⟩
def kX3_readSetting : MK := (yX3_readSetting, cX3_readSetting, 3, (some .boolean))
set_option maxRecDepth 20000 in
theorem mX3_readSetting : MV kX3_readSetting 1 := ⟨⟨TB_of 606 (by decide +kernel) rfl, TB_of 69 (by decide +kernel) (by decide +kernel), by decide +kernel, by decide +kernel, by decide +kernel, by decide +kernel⟩, TB_of 605 (by decide +kernel) (by decide +kernel), TB_of 15 (by decide +kernel) (by decide +kernel)⟩
def kX6_fault : MK := (yX6_fault, cX6_fault, 1, (some .int))
set_option maxRecDepth 20000 in
theorem mX6_fault : MV kX6_fault 0 := ⟨⟨TB_of 615 (by decide +kernel) rfl, TB_of 64 (by decide +kernel) (by decide +kernel), by decide +kernel, by decide +kernel, by decide +kernel, by decide +kernel⟩, TB_of 613 (by decide +kernel) (by decide +kernel), TB_of 614 (by decide +kernel) (by decide +kernel)⟩
def kX6_will : MK := (yX6_will, cX6_will, 2, (some .int))
set_option maxRecDepth 20000 in
theorem mX6_will : MV kX6_will 1 := ⟨⟨TB_of 619 (by decide +kernel) rfl, TB_of 64 (by decide +kernel) (by decide +kernel), by decide +kernel, by decide +kernel, by decide +kernel, by decide +kernel⟩, TB_of 617 (by decide +kernel) (by decide +kernel), TB_of 618 (by decide +kernel) (by decide +kernel)⟩
def kX4_pullOn : MK := (yX4_pullOn, cX4_pullOn, 2, (some .int))
set_option maxRecDepth 20000 in
theorem mX4_pullOn : MV kX4_pullOn 1 := ⟨⟨TB_of 623 (by decide +kernel) rfl, TB_of 65 (by decide +kernel) (by decide +kernel), by decide +kernel, by decide +kernel, by decide +kernel, by decide +kernel⟩, TB_of 621 (by decide +kernel) (by decide +kernel), TB_of 622 (by decide +kernel) (by decide +kernel)⟩
def kX2_pullOn : MK := (yX2_pullOn, cX2_pullOn, 6, (some .int))
set_option maxRecDepth 20000 in
theorem mX2_pullOn : MV kX2_pullOn 3 := ⟨⟨TB_of 627 (by decide +kernel) rfl, TB_of 66 (by decide +kernel) (by decide +kernel), by decide +kernel, by decide +kernel, by decide +kernel, by decide +kernel⟩, TB_of 625 (by decide +kernel) (by decide +kernel), TB_of 626 (by decide +kernel) (by decide +kernel)⟩
def kX2_isMatchDay : MK := (yX2_isMatchDay, cX2_isMatchDay, 3, (some .boolean))
set_option maxRecDepth 20000 in
theorem mX2_isMatchDay : MV kX2_isMatchDay 1 := ⟨⟨TB_of 637 (by decide +kernel) rfl, TB_of 66 (by decide +kernel) (by decide +kernel), by decide +kernel, by decide +kernel, by decide +kernel, by decide +kernel⟩, TB_of 636 (by decide +kernel) (by decide +kernel), TB_of 16 (by decide +kernel) (by decide +kernel)⟩
def kX6_tonight : MK := (yX6_tonight, cX6_tonight, 4, (some .int))
set_option maxRecDepth 20000 in
theorem mX6_tonight : MV kX6_tonight 1 := ⟨⟨TB_of 641 (by decide +kernel) rfl, TB_of 64 (by decide +kernel) (by decide +kernel), by decide +kernel, by decide +kernel, by decide +kernel, by decide +kernel⟩, TB_of 639 (by decide +kernel) (by decide +kernel), TB_of 640 (by decide +kernel) (by decide +kernel)⟩
def kX4_comers : MK := (yX4_comers, cX4_comers, 5, (some .int))
set_option maxRecDepth 20000 in
theorem mX4_comers : MV kX4_comers 1 := ⟨⟨TB_of 645 (by decide +kernel) rfl, TB_of 65 (by decide +kernel) (by decide +kernel), by decide +kernel, by decide +kernel, by decide +kernel, by decide +kernel⟩, TB_of 643 (by decide +kernel) (by decide +kernel), TB_of 644 (by decide +kernel) (by decide +kernel)⟩
def kX6_isIn : MK := (yX6_isIn, cX6_isIn, 2, (some .boolean))
set_option maxRecDepth 20000 in
theorem mX6_isIn : MS kX6_isIn 2 := ⟨⟨TB_of 649 (by decide +kernel) rfl, TB_of 64 (by decide +kernel) (by decide +kernel), by decide +kernel, by decide +kernel, by decide +kernel, by decide +kernel⟩, TB_of 648 (by decide +kernel) (by decide +kernel)⟩
def kX4_present : MK := (yX4_present, cX4_present, 3, (some .int))
set_option maxRecDepth 20000 in
theorem mX4_present : MV kX4_present 0 := ⟨⟨TB_of 653 (by decide +kernel) rfl, TB_of 65 (by decide +kernel) (by decide +kernel), by decide +kernel, by decide +kernel, by decide +kernel, by decide +kernel⟩, TB_of 651 (by decide +kernel) (by decide +kernel), TB_of 652 (by decide +kernel) (by decide +kernel)⟩
def kX4_stillComing : MK := (yX4_stillComing, cX4_stillComing, 4, (some .int))
set_option maxRecDepth 20000 in
theorem mX4_stillComing : MV kX4_stillComing 1 := ⟨⟨TB_of 657 (by decide +kernel) rfl, TB_of 65 (by decide +kernel) (by decide +kernel), by decide +kernel, by decide +kernel, by decide +kernel, by decide +kernel⟩, TB_of 656 (by decide +kernel) (by decide +kernel), TB_of 17 (by decide +kernel) (by decide +kernel)⟩
def kX4_comesWith : MK := (yX4_comesWith, cX4_comesWith, 4, (some .boolean))
set_option maxRecDepth 20000 in
theorem mX4_comesWith : MV kX4_comesWith 2 := ⟨⟨TB_of 661 (by decide +kernel) rfl, TB_of 65 (by decide +kernel) (by decide +kernel), by decide +kernel, by decide +kernel, by decide +kernel, by decide +kernel⟩, TB_of 660 (by decide +kernel) (by decide +kernel), TB_of 18 (by decide +kernel) (by decide +kernel)⟩
def kX4_seatedOf : MK := (yX4_seatedOf, cX4_seatedOf, 5, (some .int))
set_option maxRecDepth 20000 in
theorem mX4_seatedOf : MV kX4_seatedOf 1 := ⟨⟨TB_of 666 (by decide +kernel) rfl, TB_of 65 (by decide +kernel) (by decide +kernel), by decide +kernel, by decide +kernel, by decide +kernel, by decide +kernel⟩, TB_of 664 (by decide +kernel) (by decide +kernel), TB_of 665 (by decide +kernel) (by decide +kernel)⟩
def kX6_ahead : MK := (yX6_ahead, cX6_ahead, 3, (some .int))
set_option maxRecDepth 20000 in
theorem mX6_ahead : MV kX6_ahead 2 := ⟨⟨TB_of 670 (by decide +kernel) rfl, TB_of 64 (by decide +kernel) (by decide +kernel), by decide +kernel, by decide +kernel, by decide +kernel, by decide +kernel⟩, TB_of 668 (by decide +kernel) (by decide +kernel), TB_of 669 (by decide +kernel) (by decide +kernel)⟩
def kX6_isStretch : MK := (yX6_isStretch, cX6_isStretch, 1, (some .boolean))
set_option maxRecDepth 20000 in
theorem mX6_isStretch : MS kX6_isStretch 1 := ⟨⟨TB_of 673 (by decide +kernel) rfl, TB_of 64 (by decide +kernel) (by decide +kernel), by decide +kernel, by decide +kernel, by decide +kernel, by decide +kernel⟩, TB_of 672 (by decide +kernel) (by decide +kernel)⟩
def kX1_watch : MK := (yX1_watch, cX1_watch, 8, (Option.none : Option Jvm.ClassFile.FieldType))
set_option maxRecDepth 20000 in
theorem mX1_watch : MV kX1_watch 2 := ⟨⟨TB_of 677 (by decide +kernel) rfl, TB_of 67 (by decide +kernel) (by decide +kernel), by decide +kernel, by decide +kernel, by decide +kernel, by decide +kernel⟩, TB_of 675 (by decide +kernel) (by decide +kernel), TB_of 676 (by decide +kernel) (by decide +kernel)⟩
def kJ6_bitCount_0f7a4 : MK := (yJ6_bitCount_0f7a4, cJ6_bitCount_0f7a4, 1, (some .int))
set_option maxRecDepth 20000 in
theorem mJ6_bitCount_0f7a4 : MS kJ6_bitCount_0f7a4 1 := ⟨⟨TB_of 682 (by decide +kernel) rfl, TB_of 79 (by decide +kernel) (by decide +kernel), by decide +kernel, by decide +kernel, by decide +kernel, by decide +kernel⟩, TB_of 681 (by decide +kernel) (by decide +kernel)⟩
def kX4_endEvening : MK := (yX4_endEvening, cX4_endEvening, 3, (Option.none : Option Jvm.ClassFile.FieldType))
set_option maxRecDepth 20000 in
theorem mX4_endEvening : MV kX4_endEvening 1 := ⟨⟨TB_of 689 (by decide +kernel) rfl, TB_of 65 (by decide +kernel) (by decide +kernel), by decide +kernel, by decide +kernel, by decide +kernel, by decide +kernel⟩, TB_of 687 (by decide +kernel) (by decide +kernel), TB_of 688 (by decide +kernel) (by decide +kernel)⟩
def kX2_sat : MK := (yX2_sat, cX2_sat, 1, (Option.none : Option Jvm.ClassFile.FieldType))
set_option maxRecDepth 20000 in
theorem mX2_sat : MV kX2_sat 0 := ⟨⟨TB_of 693 (by decide +kernel) rfl, TB_of 66 (by decide +kernel) (by decide +kernel), by decide +kernel, by decide +kernel, by decide +kernel, by decide +kernel⟩, TB_of 691 (by decide +kernel) (by decide +kernel), TB_of 692 (by decide +kernel) (by decide +kernel)⟩
def kX2_stayedAway : MK := (yX2_stayedAway, cX2_stayedAway, 1, (Option.none : Option Jvm.ClassFile.FieldType))
set_option maxRecDepth 20000 in
theorem mX2_stayedAway : MV kX2_stayedAway 0 := ⟨⟨TB_of 700 (by decide +kernel) rfl, TB_of 66 (by decide +kernel) (by decide +kernel), by decide +kernel, by decide +kernel, by decide +kernel, by decide +kernel⟩, TB_of 698 (by decide +kernel) (by decide +kernel), TB_of 699 (by decide +kernel) (by decide +kernel)⟩
def kX6_worst : MK := (yX6_worst, cX6_worst, 3, (some .int))
set_option maxRecDepth 20000 in
theorem mX6_worst : MV kX6_worst 2 := ⟨⟨TB_of 706 (by decide +kernel) rfl, TB_of 64 (by decide +kernel) (by decide +kernel), by decide +kernel, by decide +kernel, by decide +kernel, by decide +kernel⟩, TB_of 704 (by decide +kernel) (by decide +kernel), TB_of 705 (by decide +kernel) (by decide +kernel)⟩
def kX6_ones : MK := (yX6_ones, cX6_ones, 4, (some .int))
set_option maxRecDepth 20000 in
theorem mX6_ones : MV kX6_ones 3 := ⟨⟨TB_of 710 (by decide +kernel) rfl, TB_of 64 (by decide +kernel) (by decide +kernel), by decide +kernel, by decide +kernel, by decide +kernel, by decide +kernel⟩, TB_of 708 (by decide +kernel) (by decide +kernel), TB_of 709 (by decide +kernel) (by decide +kernel)⟩
def kX6_ring : MK := (yX6_ring, cX6_ring, 8, (some .int))
set_option maxRecDepth 20000 in
theorem mX6_ring : MV kX6_ring 2 := ⟨⟨TB_of 714 (by decide +kernel) rfl, TB_of 64 (by decide +kernel) (by decide +kernel), by decide +kernel, by decide +kernel, by decide +kernel, by decide +kernel⟩, TB_of 712 (by decide +kernel) (by decide +kernel), TB_of 713 (by decide +kernel) (by decide +kernel)⟩
def kX6_begin : MK := (yX6_begin, cX6_begin, 5, (some .int))
set_option maxRecDepth 20000 in
theorem mX6_begin : MV kX6_begin 1 := ⟨⟨TB_of 718 (by decide +kernel) rfl, TB_of 64 (by decide +kernel) (by decide +kernel), by decide +kernel, by decide +kernel, by decide +kernel, by decide +kernel⟩, TB_of 716 (by decide +kernel) (by decide +kernel), TB_of 717 (by decide +kernel) (by decide +kernel)⟩
def kX6_room : MK := (yX6_room, cX6_room, 3, (some .int))
set_option maxRecDepth 20000 in
theorem mX6_room : MV kX6_room 1 := ⟨⟨TB_of 722 (by decide +kernel) rfl, TB_of 64 (by decide +kernel) (by decide +kernel), by decide +kernel, by decide +kernel, by decide +kernel, by decide +kernel⟩, TB_of 720 (by decide +kernel) (by decide +kernel), TB_of 721 (by decide +kernel) (by decide +kernel)⟩
def kX6_take : MK := (yX6_take, cX6_take, 6, (some .int))
set_option maxRecDepth 20000 in
theorem mX6_take : MV kX6_take 1 := ⟨⟨TB_of 726 (by decide +kernel) rfl, TB_of 64 (by decide +kernel) (by decide +kernel), by decide +kernel, by decide +kernel, by decide +kernel, by decide +kernel⟩, TB_of 724 (by decide +kernel) (by decide +kernel), TB_of 725 (by decide +kernel) (by decide +kernel)⟩
def kX4_dismissFrom : MK := (yX4_dismissFrom, cX4_dismissFrom, 3, (Option.none : Option Jvm.ClassFile.FieldType))
set_option maxRecDepth 20000 in
theorem mX4_dismissFrom : MV kX4_dismissFrom 1 := ⟨⟨TB_of 730 (by decide +kernel) rfl, TB_of 65 (by decide +kernel) (by decide +kernel), by decide +kernel, by decide +kernel, by decide +kernel, by decide +kernel⟩, TB_of 728 (by decide +kernel) (by decide +kernel), TB_of 729 (by decide +kernel) (by decide +kernel)⟩
def kX6_price : MK := (yX6_price, cX6_price, 3, (some .int))
set_option maxRecDepth 20000 in
theorem mX6_price : MV kX6_price 1 := ⟨⟨TB_of 735 (by decide +kernel) rfl, TB_of 64 (by decide +kernel) (by decide +kernel), by decide +kernel, by decide +kernel, by decide +kernel, by decide +kernel⟩, TB_of 733 (by decide +kernel) (by decide +kernel), TB_of 734 (by decide +kernel) (by decide +kernel)⟩
def kX4_payForAll : MK := (yX4_payForAll, cX4_payForAll, 3, (Option.none : Option Jvm.ClassFile.FieldType))
set_option maxRecDepth 20000 in
theorem mX4_payForAll : MV kX4_payForAll 1 := ⟨⟨TB_of 739 (by decide +kernel) rfl, TB_of 65 (by decide +kernel) (by decide +kernel), by decide +kernel, by decide +kernel, by decide +kernel, by decide +kernel⟩, TB_of 737 (by decide +kernel) (by decide +kernel), TB_of 738 (by decide +kernel) (by decide +kernel)⟩
def kX6_lost : MK := (yX6_lost, cX6_lost, 2, (some .int))
set_option maxRecDepth 20000 in
theorem mX6_lost : MV kX6_lost 1 := ⟨⟨TB_of 743 (by decide +kernel) rfl, TB_of 64 (by decide +kernel) (by decide +kernel), by decide +kernel, by decide +kernel, by decide +kernel, by decide +kernel⟩, TB_of 741 (by decide +kernel) (by decide +kernel), TB_of 742 (by decide +kernel) (by decide +kernel)⟩
def kX6_pairs : MK := (yX6_pairs, cX6_pairs, 4, (some .int))
set_option maxRecDepth 20000 in
theorem mX6_pairs : MV kX6_pairs 0 := ⟨⟨TB_of 747 (by decide +kernel) rfl, TB_of 64 (by decide +kernel) (by decide +kernel), by decide +kernel, by decide +kernel, by decide +kernel, by decide +kernel⟩, TB_of 745 (by decide +kernel) (by decide +kernel), TB_of 746 (by decide +kernel) (by decide +kernel)⟩
def kX6_chain : MK := (yX6_chain, cX6_chain, 5, (some .int))
set_option maxRecDepth 20000 in
theorem mX6_chain : MV kX6_chain 1 := ⟨⟨TB_of 751 (by decide +kernel) rfl, TB_of 64 (by decide +kernel) (by decide +kernel), by decide +kernel, by decide +kernel, by decide +kernel, by decide +kernel⟩, TB_of 749 (by decide +kernel) (by decide +kernel), TB_of 750 (by decide +kernel) (by decide +kernel)⟩
def kX6_keeps : MK := (yX6_keeps, cX6_keeps, 2, (some .int))
set_option maxRecDepth 20000 in
theorem mX6_keeps : MV kX6_keeps 1 := ⟨⟨TB_of 756 (by decide +kernel) rfl, TB_of 64 (by decide +kernel) (by decide +kernel), by decide +kernel, by decide +kernel, by decide +kernel, by decide +kernel⟩, TB_of 754 (by decide +kernel) (by decide +kernel), TB_of 755 (by decide +kernel) (by decide +kernel)⟩
def kX6_heldBy : MK := (yX6_heldBy, cX6_heldBy, 3, (some .int))
set_option maxRecDepth 20000 in
theorem mX6_heldBy : MV kX6_heldBy 1 := ⟨⟨TB_of 760 (by decide +kernel) rfl, TB_of 64 (by decide +kernel) (by decide +kernel), by decide +kernel, by decide +kernel, by decide +kernel, by decide +kernel⟩, TB_of 759 (by decide +kernel) (by decide +kernel), TB_of 19 (by decide +kernel) (by decide +kernel)⟩
def kX6_keep : MK := (yX6_keep, cX6_keep, 5, (some .int))
set_option maxRecDepth 20000 in
theorem mX6_keep : MV kX6_keep 0 := ⟨⟨TB_of 764 (by decide +kernel) rfl, TB_of 64 (by decide +kernel) (by decide +kernel), by decide +kernel, by decide +kernel, by decide +kernel, by decide +kernel⟩, TB_of 762 (by decide +kernel) (by decide +kernel), TB_of 763 (by decide +kernel) (by decide +kernel)⟩
def kX6_friends : MK := (yX6_friends, cX6_friends, 7, (some .int))
set_option maxRecDepth 20000 in
theorem mX6_friends : MV kX6_friends 3 := ⟨⟨TB_of 768 (by decide +kernel) rfl, TB_of 64 (by decide +kernel) (by decide +kernel), by decide +kernel, by decide +kernel, by decide +kernel, by decide +kernel⟩, TB_of 766 (by decide +kernel) (by decide +kernel), TB_of 767 (by decide +kernel) (by decide +kernel)⟩
def kX6_whyNoRegister : MK := (yX6_whyNoRegister, cX6_whyNoRegister, 4, (some .int))
set_option maxRecDepth 20000 in
theorem mX6_whyNoRegister : MV kX6_whyNoRegister 2 := ⟨⟨TB_of 772 (by decide +kernel) rfl, TB_of 64 (by decide +kernel) (by decide +kernel), by decide +kernel, by decide +kernel, by decide +kernel, by decide +kernel⟩, TB_of 771 (by decide +kernel) (by decide +kernel), TB_of 20 (by decide +kernel) (by decide +kernel)⟩
def kX1_firstWrong : MK := (yX1_firstWrong, cX1_firstWrong, 6, (some .int))
set_option maxRecDepth 20000 in
theorem mX1_firstWrong : MV kX1_firstWrong 3 := ⟨⟨TB_of 776 (by decide +kernel) rfl, TB_of 67 (by decide +kernel) (by decide +kernel), by decide +kernel, by decide +kernel, by decide +kernel, by decide +kernel⟩, TB_of 774 (by decide +kernel) (by decide +kernel), TB_of 775 (by decide +kernel) (by decide +kernel)⟩
def kX6_judge : MK := (yX6_judge, cX6_judge, 4, (some .int))
set_option maxRecDepth 20000 in
theorem mX6_judge : MV kX6_judge 2 := ⟨⟨TB_of 781 (by decide +kernel) rfl, TB_of 64 (by decide +kernel) (by decide +kernel), by decide +kernel, by decide +kernel, by decide +kernel, by decide +kernel⟩, TB_of 779 (by decide +kernel) (by decide +kernel), TB_of 780 (by decide +kernel) (by decide +kernel)⟩
def kX6_evenings : MK := (yX6_evenings, cX6_evenings, 2, (some .int))
set_option maxRecDepth 20000 in
theorem mX6_evenings : MV kX6_evenings 1 := ⟨⟨TB_of 785 (by decide +kernel) rfl, TB_of 64 (by decide +kernel) (by decide +kernel), by decide +kernel, by decide +kernel, by decide +kernel, by decide +kernel⟩, TB_of 783 (by decide +kernel) (by decide +kernel), TB_of 784 (by decide +kernel) (by decide +kernel)⟩
def kX6_drawn : MK := (yX6_drawn, cX6_drawn, 4, (some .int))
set_option maxRecDepth 20000 in
theorem mX6_drawn : MV kX6_drawn 1 := ⟨⟨TB_of 789 (by decide +kernel) rfl, TB_of 64 (by decide +kernel) (by decide +kernel), by decide +kernel, by decide +kernel, by decide +kernel, by decide +kernel⟩, TB_of 787 (by decide +kernel) (by decide +kernel), TB_of 788 (by decide +kernel) (by decide +kernel)⟩
def kX4_draw : MK := (yX4_draw, cX4_draw, 2, (some .int))
set_option maxRecDepth 20000 in
theorem mX4_draw : MV kX4_draw 1 := ⟨⟨TB_of 793 (by decide +kernel) rfl, TB_of 65 (by decide +kernel) (by decide +kernel), by decide +kernel, by decide +kernel, by decide +kernel, by decide +kernel⟩, TB_of 791 (by decide +kernel) (by decide +kernel), TB_of 792 (by decide +kernel) (by decide +kernel)⟩
def kX6_seed : MK := (yX6_seed, cX6_seed, 3, (some .int))
set_option maxRecDepth 20000 in
theorem mX6_seed : MV kX6_seed 1 := ⟨⟨TB_of 798 (by decide +kernel) rfl, TB_of 64 (by decide +kernel) (by decide +kernel), by decide +kernel, by decide +kernel, by decide +kernel, by decide +kernel⟩, TB_of 796 (by decide +kernel) (by decide +kernel), TB_of 797 (by decide +kernel) (by decide +kernel)⟩
def kX6_act : MK := (yX6_act, cX6_act, 4, (some .int))
set_option maxRecDepth 20000 in
theorem mX6_act : MV kX6_act 3 := ⟨⟨TB_of 802 (by decide +kernel) rfl, TB_of 64 (by decide +kernel) (by decide +kernel), by decide +kernel, by decide +kernel, by decide +kernel, by decide +kernel⟩, TB_of 800 (by decide +kernel) (by decide +kernel), TB_of 801 (by decide +kernel) (by decide +kernel)⟩
def kX0_forget : MK := (yX0_forget, cX0_forget, 1, (Option.none : Option Jvm.ClassFile.FieldType))
set_option maxRecDepth 20000 in
theorem mX0_forget : MV kX0_forget 0 := ⟨⟨TB_of 806 (by decide +kernel) rfl, TB_of 70 (by decide +kernel) (by decide +kernel), by decide +kernel, by decide +kernel, by decide +kernel, by decide +kernel⟩, TB_of 804 (by decide +kernel) (by decide +kernel), TB_of 805 (by decide +kernel) (by decide +kernel)⟩
def kX0_isMove : MK := (yX0_isMove, cX0_isMove, 1, (some .boolean))
set_option maxRecDepth 20000 in
theorem mX0_isMove : MS kX0_isMove 1 := ⟨⟨TB_of 809 (by decide +kernel) rfl, TB_of 70 (by decide +kernel) (by decide +kernel), by decide +kernel, by decide +kernel, by decide +kernel, by decide +kernel⟩, TB_of 808 (by decide +kernel) (by decide +kernel)⟩
def kX0_run : MK := (yX0_run, cX0_run, 5, (some .int))
set_option maxRecDepth 20000 in
theorem mX0_run : MV kX0_run 4 := ⟨⟨TB_of 813 (by decide +kernel) rfl, TB_of 70 (by decide +kernel) (by decide +kernel), by decide +kernel, by decide +kernel, by decide +kernel, by decide +kernel⟩, TB_of 811 (by decide +kernel) (by decide +kernel), TB_of 812 (by decide +kernel) (by decide +kernel)⟩
def kX0_call : MK := (yX0_call, cX0_call, 7, (some .int))
set_option maxRecDepth 20000 in
theorem mX0_call : MV kX0_call 4 := ⟨⟨TB_of 817 (by decide +kernel) rfl, TB_of 70 (by decide +kernel) (by decide +kernel), by decide +kernel, by decide +kernel, by decide +kernel, by decide +kernel⟩, TB_of 816 (by decide +kernel) (by decide +kernel), TB_of 21 (by decide +kernel) (by decide +kernel)⟩
def kX0_bodyOf : MK := (yX0_bodyOf, cX0_bodyOf, 3, (some .int))
set_option maxRecDepth 20000 in
theorem mX0_bodyOf : MS kX0_bodyOf 2 := ⟨⟨TB_of 821 (by decide +kernel) rfl, TB_of 70 (by decide +kernel) (by decide +kernel), by decide +kernel, by decide +kernel, by decide +kernel, by decide +kernel⟩, TB_of 820 (by decide +kernel) (by decide +kernel)⟩
def kX0_note : MK := (yX0_note, cX0_note, 2, (Option.none : Option Jvm.ClassFile.FieldType))
set_option maxRecDepth 20000 in
theorem mX0_note : MV kX0_note 1 := ⟨⟨TB_of 828 (by decide +kernel) rfl, TB_of 70 (by decide +kernel) (by decide +kernel), by decide +kernel, by decide +kernel, by decide +kernel, by decide +kernel⟩, TB_of 827 (by decide +kernel) (by decide +kernel), TB_of 22 (by decide +kernel) (by decide +kernel)⟩
def kX0_perform : MK := (yX0_perform, cX0_perform, 4, (some .int))
set_option maxRecDepth 20000 in
theorem mX0_perform : MV kX0_perform 3 := ⟨⟨TB_of 832 (by decide +kernel) rfl, TB_of 70 (by decide +kernel) (by decide +kernel), by decide +kernel, by decide +kernel, by decide +kernel, by decide +kernel⟩, TB_of 831 (by decide +kernel) (by decide +kernel), TB_of 23 (by decide +kernel) (by decide +kernel)⟩
def kX6_trace : MK := (yX6_trace, cX6_trace, 2, (some .int))
set_option maxRecDepth 20000 in
theorem mX6_trace : MV kX6_trace 1 := ⟨⟨TB_of 836 (by decide +kernel) rfl, TB_of 64 (by decide +kernel) (by decide +kernel), by decide +kernel, by decide +kernel, by decide +kernel, by decide +kernel⟩, TB_of 834 (by decide +kernel) (by decide +kernel), TB_of 835 (by decide +kernel) (by decide +kernel)⟩
def kX0_bodyAt : MK := (yX0_bodyAt, cX0_bodyAt, 2, (some .int))
set_option maxRecDepth 20000 in
theorem mX0_bodyAt : MV kX0_bodyAt 1 := ⟨⟨TB_of 840 (by decide +kernel) rfl, TB_of 70 (by decide +kernel) (by decide +kernel), by decide +kernel, by decide +kernel, by decide +kernel, by decide +kernel⟩, TB_of 838 (by decide +kernel) (by decide +kernel), TB_of 839 (by decide +kernel) (by decide +kernel)⟩
def kX6_image : MK := (yX6_image, cX6_image, 1, (some .int))
set_option maxRecDepth 20000 in
theorem mX6_image : MV kX6_image 0 := ⟨⟨TB_of 844 (by decide +kernel) rfl, TB_of 64 (by decide +kernel) (by decide +kernel), by decide +kernel, by decide +kernel, by decide +kernel, by decide +kernel⟩, TB_of 842 (by decide +kernel) (by decide +kernel), TB_of 843 (by decide +kernel) (by decide +kernel)⟩
def kX6_restore : MK := (yX6_restore, cX6_restore, 3, (some .int))
set_option maxRecDepth 20000 in
theorem mX6_restore : MV kX6_restore 0 := ⟨⟨TB_of 848 (by decide +kernel) rfl, TB_of 64 (by decide +kernel) (by decide +kernel), by decide +kernel, by decide +kernel, by decide +kernel, by decide +kernel⟩, TB_of 846 (by decide +kernel) (by decide +kernel), TB_of 847 (by decide +kernel) (by decide +kernel)⟩
def kX6_status : MK := (yX6_status, cX6_status, 2, (some .int))
set_option maxRecDepth 20000 in
theorem mX6_status : MV kX6_status 1 := ⟨⟨TB_of 852 (by decide +kernel) rfl, TB_of 64 (by decide +kernel) (by decide +kernel), by decide +kernel, by decide +kernel, by decide +kernel, by decide +kernel⟩, TB_of 850 (by decide +kernel) (by decide +kernel), TB_of 851 (by decide +kernel) (by decide +kernel)⟩
def kX4_comingsTogether : MK := (yX4_comingsTogether, cX4_comingsTogether, 3, (some .int))
set_option maxRecDepth 20000 in
theorem mX4_comingsTogether : MV kX4_comingsTogether 0 := ⟨⟨TB_of 856 (by decide +kernel) rfl, TB_of 65 (by decide +kernel) (by decide +kernel), by decide +kernel, by decide +kernel, by decide +kernel, by decide +kernel⟩, TB_of 854 (by decide +kernel) (by decide +kernel), TB_of 855 (by decide +kernel) (by decide +kernel)⟩
def kX7_init : MK := (yX7_init, cX7_init, 1, (Option.none : Option Jvm.ClassFile.FieldType))
set_option maxRecDepth 20000 in
theorem mX7_init : MI kX7_init 0 := ⟨⟨TB_of 861 (by decide +kernel) rfl, TB_of 71 (by decide +kernel) (by decide +kernel), by decide +kernel, by decide +kernel, by decide +kernel, by decide +kernel⟩, TB_of 860 (by decide +kernel) (by decide +kernel), rfl⟩
def kX7_row : MK := (yX7_row, cX7_row, 5, (some .int))
set_option maxRecDepth 20000 in
theorem mX7_row : MV kX7_row 3 := ⟨⟨TB_of 1017 (by decide +kernel) rfl, TB_of 71 (by decide +kernel) (by decide +kernel), by decide +kernel, by decide +kernel, by decide +kernel, by decide +kernel⟩, TB_of 1015 (by decide +kernel) (by decide +kernel), TB_of 1016 (by decide +kernel) (by decide +kernel)⟩
def kX7_isShelf : MK := (yX7_isShelf, cX7_isShelf, 2, (some .boolean))
set_option maxRecDepth 20000 in
theorem mX7_isShelf : MV kX7_isShelf 1 := ⟨⟨TB_of 1021 (by decide +kernel) rfl, TB_of 71 (by decide +kernel) (by decide +kernel), by decide +kernel, by decide +kernel, by decide +kernel, by decide +kernel⟩, TB_of 1020 (by decide +kernel) (by decide +kernel), TB_of 24 (by decide +kernel) (by decide +kernel)⟩
def kX7_no : MK := (yX7_no, cX7_no, 2, (some .int))
set_option maxRecDepth 20000 in
theorem mX7_no : MV kX7_no 1 := ⟨⟨TB_of 1025 (by decide +kernel) rfl, TB_of 71 (by decide +kernel) (by decide +kernel), by decide +kernel, by decide +kernel, by decide +kernel, by decide +kernel⟩, TB_of 1024 (by decide +kernel) (by decide +kernel), TB_of 25 (by decide +kernel) (by decide +kernel)⟩
def kX7_set : MK := (yX7_set, cX7_set, 5, (some .int))
set_option maxRecDepth 20000 in
theorem mX7_set : MV kX7_set 3 := ⟨⟨TB_of 1029 (by decide +kernel) rfl, TB_of 71 (by decide +kernel) (by decide +kernel), by decide +kernel, by decide +kernel, by decide +kernel, by decide +kernel⟩, TB_of 1027 (by decide +kernel) (by decide +kernel), TB_of 1028 (by decide +kernel) (by decide +kernel)⟩
def kX7_copy : MK := (yX7_copy, cX7_copy, 7, (some .int))
set_option maxRecDepth 20000 in
theorem mX7_copy : MV kX7_copy 5 := ⟨⟨TB_of 1033 (by decide +kernel) rfl, TB_of 71 (by decide +kernel) (by decide +kernel), by decide +kernel, by decide +kernel, by decide +kernel, by decide +kernel⟩, TB_of 1031 (by decide +kernel) (by decide +kernel), TB_of 1032 (by decide +kernel) (by decide +kernel)⟩
def kX7_element : MK := (yX7_element, cX7_element, 3, (some .long))
set_option maxRecDepth 20000 in
theorem mX7_element : MV kX7_element 2 := ⟨⟨TB_of 1037 (by decide +kernel) rfl, TB_of 71 (by decide +kernel) (by decide +kernel), by decide +kernel, by decide +kernel, by decide +kernel, by decide +kernel⟩, TB_of 1035 (by decide +kernel) (by decide +kernel), TB_of 1036 (by decide +kernel) (by decide +kernel)⟩
def kX7_show : MK := (yX7_show, cX7_show, 3, (some .int))
set_option maxRecDepth 20000 in
theorem mX7_show : MV kX7_show 2 := ⟨⟨TB_of 1041 (by decide +kernel) rfl, TB_of 71 (by decide +kernel) (by decide +kernel), by decide +kernel, by decide +kernel, by decide +kernel, by decide +kernel⟩, TB_of 1039 (by decide +kernel) (by decide +kernel), TB_of 1040 (by decide +kernel) (by decide +kernel)⟩
def kX7_isOne : MK := (yX7_isOne, cX7_isOne, 2, (some .boolean))
set_option maxRecDepth 20000 in
theorem mX7_isOne : MV kX7_isOne 1 := ⟨⟨TB_of 1045 (by decide +kernel) rfl, TB_of 71 (by decide +kernel) (by decide +kernel), by decide +kernel, by decide +kernel, by decide +kernel, by decide +kernel⟩, TB_of 1044 (by decide +kernel) (by decide +kernel), TB_of 26 (by decide +kernel) (by decide +kernel)⟩
def kX7_holds : MK := (yX7_holds, cX7_holds, 2, (some .int))
set_option maxRecDepth 20000 in
theorem mX7_holds : MV kX7_holds 1 := ⟨⟨TB_of 1049 (by decide +kernel) rfl, TB_of 71 (by decide +kernel) (by decide +kernel), by decide +kernel, by decide +kernel, by decide +kernel, by decide +kernel⟩, TB_of 1047 (by decide +kernel) (by decide +kernel), TB_of 1048 (by decide +kernel) (by decide +kernel)⟩
def kX7_says : MK := (yX7_says, cX7_says, 4, (some .int))
set_option maxRecDepth 20000 in
theorem mX7_says : MV kX7_says 2 := ⟨⟨TB_of 1053 (by decide +kernel) rfl, TB_of 71 (by decide +kernel) (by decide +kernel), by decide +kernel, by decide +kernel, by decide +kernel, by decide +kernel⟩, TB_of 1051 (by decide +kernel) (by decide +kernel), TB_of 1052 (by decide +kernel) (by decide +kernel)⟩
def kX7_isUnder : MK := (yX7_isUnder, cX7_isUnder, 3, (some .boolean))
set_option maxRecDepth 20000 in
theorem mX7_isUnder : MV kX7_isUnder 2 := ⟨⟨TB_of 1057 (by decide +kernel) rfl, TB_of 71 (by decide +kernel) (by decide +kernel), by decide +kernel, by decide +kernel, by decide +kernel, by decide +kernel⟩, TB_of 1056 (by decide +kernel) (by decide +kernel), TB_of 27 (by decide +kernel) (by decide +kernel)⟩
def kX7_person : MK := (yX7_person, cX7_person, 5, (some .int))
set_option maxRecDepth 20000 in
theorem mX7_person : MV kX7_person 4 := ⟨⟨TB_of 1061 (by decide +kernel) rfl, TB_of 71 (by decide +kernel) (by decide +kernel), by decide +kernel, by decide +kernel, by decide +kernel, by decide +kernel⟩, TB_of 1059 (by decide +kernel) (by decide +kernel), TB_of 1060 (by decide +kernel) (by decide +kernel)⟩
def kX7_isFrom : MK := (yX7_isFrom, cX7_isFrom, 4, (some .boolean))
set_option maxRecDepth 20000 in
theorem mX7_isFrom : MV kX7_isFrom 3 := ⟨⟨TB_of 1065 (by decide +kernel) rfl, TB_of 71 (by decide +kernel) (by decide +kernel), by decide +kernel, by decide +kernel, by decide +kernel, by decide +kernel⟩, TB_of 1064 (by decide +kernel) (by decide +kernel), TB_of 28 (by decide +kernel) (by decide +kernel)⟩
def kX7_adds : MK := (yX7_adds, cX7_adds, 5, (some .int))
set_option maxRecDepth 20000 in
theorem mX7_adds : MV kX7_adds 4 := ⟨⟨TB_of 1069 (by decide +kernel) rfl, TB_of 71 (by decide +kernel) (by decide +kernel), by decide +kernel, by decide +kernel, by decide +kernel, by decide +kernel⟩, TB_of 1068 (by decide +kernel) (by decide +kernel), TB_of 29 (by decide +kernel) (by decide +kernel)⟩
def kX7_friend : MK := (yX7_friend, cX7_friend, 4, (some .int))
set_option maxRecDepth 20000 in
theorem mX7_friend : MV kX7_friend 2 := ⟨⟨TB_of 1073 (by decide +kernel) rfl, TB_of 71 (by decide +kernel) (by decide +kernel), by decide +kernel, by decide +kernel, by decide +kernel, by decide +kernel⟩, TB_of 1071 (by decide +kernel) (by decide +kernel), TB_of 1072 (by decide +kernel) (by decide +kernel)⟩
def kX7_noTen : MK := (yX7_noTen, cX7_noTen, 2, (some .int))
set_option maxRecDepth 20000 in
theorem mX7_noTen : MV kX7_noTen 1 := ⟨⟨TB_of 1077 (by decide +kernel) rfl, TB_of 71 (by decide +kernel) (by decide +kernel), by decide +kernel, by decide +kernel, by decide +kernel, by decide +kernel⟩, TB_of 1076 (by decide +kernel) (by decide +kernel), TB_of 30 (by decide +kernel) (by decide +kernel)⟩
def kX7_ask : MK := (yX7_ask, cX7_ask, 4, (some .int))
set_option maxRecDepth 20000 in
theorem mX7_ask : MV kX7_ask 2 := ⟨⟨TB_of 1081 (by decide +kernel) rfl, TB_of 71 (by decide +kernel) (by decide +kernel), by decide +kernel, by decide +kernel, by decide +kernel, by decide +kernel⟩, TB_of 1079 (by decide +kernel) (by decide +kernel), TB_of 1080 (by decide +kernel) (by decide +kernel)⟩
def kX7_isAsked : MK := (yX7_isAsked, cX7_isAsked, 3, (some .boolean))
set_option maxRecDepth 20000 in
theorem mX7_isAsked : MV kX7_isAsked 2 := ⟨⟨TB_of 1085 (by decide +kernel) rfl, TB_of 71 (by decide +kernel) (by decide +kernel), by decide +kernel, by decide +kernel, by decide +kernel, by decide +kernel⟩, TB_of 1084 (by decide +kernel) (by decide +kernel), TB_of 31 (by decide +kernel) (by decide +kernel)⟩
def kX7_asks : MK := (yX7_asks, cX7_asks, 3, (Option.none : Option Jvm.ClassFile.FieldType))
set_option maxRecDepth 20000 in
theorem mX7_asks : MV kX7_asks 2 := ⟨⟨TB_of 1089 (by decide +kernel) rfl, TB_of 71 (by decide +kernel) (by decide +kernel), by decide +kernel, by decide +kernel, by decide +kernel, by decide +kernel⟩, TB_of 1088 (by decide +kernel) (by decide +kernel), TB_of 32 (by decide +kernel) (by decide +kernel)⟩
def kX7_go : MK := (yX7_go, cX7_go, 4, (some .int))
set_option maxRecDepth 20000 in
theorem mX7_go : MV kX7_go 2 := ⟨⟨TB_of 1093 (by decide +kernel) rfl, TB_of 71 (by decide +kernel) (by decide +kernel), by decide +kernel, by decide +kernel, by decide +kernel, by decide +kernel⟩, TB_of 1091 (by decide +kernel) (by decide +kernel), TB_of 1092 (by decide +kernel) (by decide +kernel)⟩
def kX7_personOf : MK := (yX7_personOf, cX7_personOf, 3, (some .int))
set_option maxRecDepth 20000 in
theorem mX7_personOf : MV kX7_personOf 2 := ⟨⟨TB_of 1097 (by decide +kernel) rfl, TB_of 71 (by decide +kernel) (by decide +kernel), by decide +kernel, by decide +kernel, by decide +kernel, by decide +kernel⟩, TB_of 1095 (by decide +kernel) (by decide +kernel), TB_of 1096 (by decide +kernel) (by decide +kernel)⟩
def kX7_school : MK := (yX7_school, cX7_school, 5, (some .int))
set_option maxRecDepth 20000 in
theorem mX7_school : MV kX7_school 1 := ⟨⟨TB_of 1101 (by decide +kernel) rfl, TB_of 71 (by decide +kernel) (by decide +kernel), by decide +kernel, by decide +kernel, by decide +kernel, by decide +kernel⟩, TB_of 1099 (by decide +kernel) (by decide +kernel), TB_of 1100 (by decide +kernel) (by decide +kernel)⟩
def kX7_wanted : MK := (yX7_wanted, cX7_wanted, 2, (some .int))
set_option maxRecDepth 20000 in
theorem mX7_wanted : MV kX7_wanted 1 := ⟨⟨TB_of 1105 (by decide +kernel) rfl, TB_of 71 (by decide +kernel) (by decide +kernel), by decide +kernel, by decide +kernel, by decide +kernel, by decide +kernel⟩, TB_of 1104 (by decide +kernel) (by decide +kernel), TB_of 33 (by decide +kernel) (by decide +kernel)⟩
def kX7_all : MK := (yX7_all, cX7_all, 4, (Option.none : Option Jvm.ClassFile.FieldType))
set_option maxRecDepth 20000 in
theorem mX7_all : MV kX7_all 2 := ⟨⟨TB_of 1109 (by decide +kernel) rfl, TB_of 71 (by decide +kernel) (by decide +kernel), by decide +kernel, by decide +kernel, by decide +kernel, by decide +kernel⟩, TB_of 1108 (by decide +kernel) (by decide +kernel), TB_of 34 (by decide +kernel) (by decide +kernel)⟩
def kX7_carries : MK := (yX7_carries, cX7_carries, 6, (some .int))
set_option maxRecDepth 20000 in
theorem mX7_carries : MV kX7_carries 4 := ⟨⟨TB_of 1113 (by decide +kernel) rfl, TB_of 71 (by decide +kernel) (by decide +kernel), by decide +kernel, by decide +kernel, by decide +kernel, by decide +kernel⟩, TB_of 1112 (by decide +kernel) (by decide +kernel), TB_of 35 (by decide +kernel) (by decide +kernel)⟩
def kX7_item : MK := (yX7_item, cX7_item, 4, (some .boolean))
set_option maxRecDepth 20000 in
theorem mX7_item : MV kX7_item 0 := ⟨⟨TB_of 1117 (by decide +kernel) rfl, TB_of 71 (by decide +kernel) (by decide +kernel), by decide +kernel, by decide +kernel, by decide +kernel, by decide +kernel⟩, TB_of 1116 (by decide +kernel) (by decide +kernel), TB_of 36 (by decide +kernel) (by decide +kernel)⟩
def kX7_isPerson : MK := (yX7_isPerson, cX7_isPerson, 2, (some .boolean))
set_option maxRecDepth 20000 in
theorem mX7_isPerson : MV kX7_isPerson 0 := ⟨⟨TB_of 1121 (by decide +kernel) rfl, TB_of 71 (by decide +kernel) (by decide +kernel), by decide +kernel, by decide +kernel, by decide +kernel, by decide +kernel⟩, TB_of 1120 (by decide +kernel) (by decide +kernel), TB_of 37 (by decide +kernel) (by decide +kernel)⟩
def kX7_sign : MK := (yX7_sign, cX7_sign, 2, (some .int))
set_option maxRecDepth 20000 in
theorem mX7_sign : MV kX7_sign 1 := ⟨⟨TB_of 1125 (by decide +kernel) rfl, TB_of 71 (by decide +kernel) (by decide +kernel), by decide +kernel, by decide +kernel, by decide +kernel, by decide +kernel⟩, TB_of 1124 (by decide +kernel) (by decide +kernel), TB_of 38 (by decide +kernel) (by decide +kernel)⟩
def kX7_wrong : MK := (yX7_wrong, cX7_wrong, 2, (some .boolean))
set_option maxRecDepth 20000 in
theorem mX7_wrong : MV kX7_wrong 1 := ⟨⟨TB_of 1129 (by decide +kernel) rfl, TB_of 71 (by decide +kernel) (by decide +kernel), by decide +kernel, by decide +kernel, by decide +kernel, by decide +kernel⟩, TB_of 1128 (by decide +kernel) (by decide +kernel), TB_of 39 (by decide +kernel) (by decide +kernel)⟩
def kX7_word : MK := (yX7_word, cX7_word, 6, (some .int))
set_option maxRecDepth 20000 in
theorem mX7_word : MV kX7_word 0 := ⟨⟨TB_of 1133 (by decide +kernel) rfl, TB_of 71 (by decide +kernel) (by decide +kernel), by decide +kernel, by decide +kernel, by decide +kernel, by decide +kernel⟩, TB_of 1132 (by decide +kernel) (by decide +kernel), TB_of 40 (by decide +kernel) (by decide +kernel)⟩
def kX7_reads : MK := (yX7_reads, cX7_reads, 2, (some .boolean))
set_option maxRecDepth 20000 in
theorem mX7_reads : MV kX7_reads 0 := ⟨⟨TB_of 1137 (by decide +kernel) rfl, TB_of 71 (by decide +kernel) (by decide +kernel), by decide +kernel, by decide +kernel, by decide +kernel, by decide +kernel⟩, TB_of 1136 (by decide +kernel) (by decide +kernel), TB_of 41 (by decide +kernel) (by decide +kernel)⟩
def kX7_isDigit : MK := (yX7_isDigit, cX7_isDigit, 1, (some .boolean))
set_option maxRecDepth 20000 in
theorem mX7_isDigit : MV kX7_isDigit 0 := ⟨⟨TB_of 1141 (by decide +kernel) rfl, TB_of 71 (by decide +kernel) (by decide +kernel), by decide +kernel, by decide +kernel, by decide +kernel, by decide +kernel⟩, TB_of 1140 (by decide +kernel) (by decide +kernel), TB_of 42 (by decide +kernel) (by decide +kernel)⟩
def kX7_isSo : MK := (yX7_isSo, cX7_isSo, 3, (some .boolean))
set_option maxRecDepth 20000 in
theorem mX7_isSo : MV kX7_isSo 2 := ⟨⟨TB_of 1145 (by decide +kernel) rfl, TB_of 71 (by decide +kernel) (by decide +kernel), by decide +kernel, by decide +kernel, by decide +kernel, by decide +kernel⟩, TB_of 1144 (by decide +kernel) (by decide +kernel), TB_of 43 (by decide +kernel) (by decide +kernel)⟩
def kX7_fault : MK := (yX7_fault, cX7_fault, 1, (some .int))
set_option maxRecDepth 20000 in
theorem mX7_fault : MV kX7_fault 0 := ⟨⟨TB_of 1149 (by decide +kernel) rfl, TB_of 71 (by decide +kernel) (by decide +kernel), by decide +kernel, by decide +kernel, by decide +kernel, by decide +kernel⟩, TB_of 1147 (by decide +kernel) (by decide +kernel), TB_of 1148 (by decide +kernel) (by decide +kernel)⟩
def kX7_will : MK := (yX7_will, cX7_will, 2, (some .int))
set_option maxRecDepth 20000 in
theorem mX7_will : MV kX7_will 1 := ⟨⟨TB_of 1153 (by decide +kernel) rfl, TB_of 71 (by decide +kernel) (by decide +kernel), by decide +kernel, by decide +kernel, by decide +kernel, by decide +kernel⟩, TB_of 1151 (by decide +kernel) (by decide +kernel), TB_of 1152 (by decide +kernel) (by decide +kernel)⟩
def kX7_wills : MK := (yX7_wills, cX7_wills, 5, (some .int))
set_option maxRecDepth 20000 in
theorem mX7_wills : MV kX7_wills 1 := ⟨⟨TB_of 1157 (by decide +kernel) rfl, TB_of 71 (by decide +kernel) (by decide +kernel), by decide +kernel, by decide +kernel, by decide +kernel, by decide +kernel⟩, TB_of 1156 (by decide +kernel) (by decide +kernel), TB_of 44 (by decide +kernel) (by decide +kernel)⟩
def kX7_tonight : MK := (yX7_tonight, cX7_tonight, 2, (some .int))
set_option maxRecDepth 20000 in
theorem mX7_tonight : MV kX7_tonight 1 := ⟨⟨TB_of 1161 (by decide +kernel) rfl, TB_of 71 (by decide +kernel) (by decide +kernel), by decide +kernel, by decide +kernel, by decide +kernel, by decide +kernel⟩, TB_of 1159 (by decide +kernel) (by decide +kernel), TB_of 1160 (by decide +kernel) (by decide +kernel)⟩
def kX7_comes : MK := (yX7_comes, cX7_comes, 4, (Option.none : Option Jvm.ClassFile.FieldType))
set_option maxRecDepth 20000 in
theorem mX7_comes : MV kX7_comes 1 := ⟨⟨TB_of 1165 (by decide +kernel) rfl, TB_of 71 (by decide +kernel) (by decide +kernel), by decide +kernel, by decide +kernel, by decide +kernel, by decide +kernel⟩, TB_of 1164 (by decide +kernel) (by decide +kernel), TB_of 45 (by decide +kernel) (by decide +kernel)⟩
def kX7_stillComes : MK := (yX7_stillComes, cX7_stillComes, 6, (some .boolean))
set_option maxRecDepth 20000 in
theorem mX7_stillComes : MV kX7_stillComes 2 := ⟨⟨TB_of 1169 (by decide +kernel) rfl, TB_of 71 (by decide +kernel) (by decide +kernel), by decide +kernel, by decide +kernel, by decide +kernel, by decide +kernel⟩, TB_of 1168 (by decide +kernel) (by decide +kernel), TB_of 46 (by decide +kernel) (by decide +kernel)⟩
def kX7_ahead : MK := (yX7_ahead, cX7_ahead, 3, (some .int))
set_option maxRecDepth 20000 in
theorem mX7_ahead : MV kX7_ahead 2 := ⟨⟨TB_of 1173 (by decide +kernel) rfl, TB_of 71 (by decide +kernel) (by decide +kernel), by decide +kernel, by decide +kernel, by decide +kernel, by decide +kernel⟩, TB_of 1171 (by decide +kernel) (by decide +kernel), TB_of 1172 (by decide +kernel) (by decide +kernel)⟩
def kX7_isMany : MK := (yX7_isMany, cX7_isMany, 2, (some .boolean))
set_option maxRecDepth 20000 in
theorem mX7_isMany : MV kX7_isMany 1 := ⟨⟨TB_of 1177 (by decide +kernel) rfl, TB_of 71 (by decide +kernel) (by decide +kernel), by decide +kernel, by decide +kernel, by decide +kernel, by decide +kernel⟩, TB_of 1176 (by decide +kernel) (by decide +kernel), TB_of 47 (by decide +kernel) (by decide +kernel)⟩
def kX7_runs : MK := (yX7_runs, cX7_runs, 4, (Option.none : Option Jvm.ClassFile.FieldType))
set_option maxRecDepth 20000 in
theorem mX7_runs : MV kX7_runs 1 := ⟨⟨TB_of 1181 (by decide +kernel) rfl, TB_of 71 (by decide +kernel) (by decide +kernel), by decide +kernel, by decide +kernel, by decide +kernel, by decide +kernel⟩, TB_of 1180 (by decide +kernel) (by decide +kernel), TB_of 48 (by decide +kernel) (by decide +kernel)⟩
def kX7_passes : MK := (yX7_passes, cX7_passes, 2, (Option.none : Option Jvm.ClassFile.FieldType))
set_option maxRecDepth 20000 in
theorem mX7_passes : MV kX7_passes 0 := ⟨⟨TB_of 1185 (by decide +kernel) rfl, TB_of 71 (by decide +kernel) (by decide +kernel), by decide +kernel, by decide +kernel, by decide +kernel, by decide +kernel⟩, TB_of 1184 (by decide +kernel) (by decide +kernel), TB_of 49 (by decide +kernel) (by decide +kernel)⟩
def kX7_here : MK := (yX7_here, cX7_here, 3, (some .int))
set_option maxRecDepth 20000 in
theorem mX7_here : MV kX7_here 0 := ⟨⟨TB_of 1189 (by decide +kernel) rfl, TB_of 71 (by decide +kernel) (by decide +kernel), by decide +kernel, by decide +kernel, by decide +kernel, by decide +kernel⟩, TB_of 1188 (by decide +kernel) (by decide +kernel), TB_of 50 (by decide +kernel) (by decide +kernel)⟩
def kX7_worst : MK := (yX7_worst, cX7_worst, 3, (some .int))
set_option maxRecDepth 20000 in
theorem mX7_worst : MV kX7_worst 2 := ⟨⟨TB_of 1193 (by decide +kernel) rfl, TB_of 71 (by decide +kernel) (by decide +kernel), by decide +kernel, by decide +kernel, by decide +kernel, by decide +kernel⟩, TB_of 1191 (by decide +kernel) (by decide +kernel), TB_of 1192 (by decide +kernel) (by decide +kernel)⟩
def kX7_ones : MK := (yX7_ones, cX7_ones, 5, (some .int))
set_option maxRecDepth 20000 in
theorem mX7_ones : MV kX7_ones 3 := ⟨⟨TB_of 1197 (by decide +kernel) rfl, TB_of 71 (by decide +kernel) (by decide +kernel), by decide +kernel, by decide +kernel, by decide +kernel, by decide +kernel⟩, TB_of 1195 (by decide +kernel) (by decide +kernel), TB_of 1196 (by decide +kernel) (by decide +kernel)⟩
def kX7_lost : MK := (yX7_lost, cX7_lost, 4, (some .int))
set_option maxRecDepth 20000 in
theorem mX7_lost : MV kX7_lost 1 := ⟨⟨TB_of 1201 (by decide +kernel) rfl, TB_of 71 (by decide +kernel) (by decide +kernel), by decide +kernel, by decide +kernel, by decide +kernel, by decide +kernel⟩, TB_of 1199 (by decide +kernel) (by decide +kernel), TB_of 1200 (by decide +kernel) (by decide +kernel)⟩
def kX7_ring : MK := (yX7_ring, cX7_ring, 7, (some .int))
set_option maxRecDepth 20000 in
theorem mX7_ring : MV kX7_ring 2 := ⟨⟨TB_of 1205 (by decide +kernel) rfl, TB_of 71 (by decide +kernel) (by decide +kernel), by decide +kernel, by decide +kernel, by decide +kernel, by decide +kernel⟩, TB_of 1203 (by decide +kernel) (by decide +kernel), TB_of 1204 (by decide +kernel) (by decide +kernel)⟩
def kX7_bits : MK := (yX7_bits, cX7_bits, 4, (some .int))
set_option maxRecDepth 20000 in
theorem mX7_bits : MV kX7_bits 1 := ⟨⟨TB_of 1209 (by decide +kernel) rfl, TB_of 71 (by decide +kernel) (by decide +kernel), by decide +kernel, by decide +kernel, by decide +kernel, by decide +kernel⟩, TB_of 1208 (by decide +kernel) (by decide +kernel), TB_of 51 (by decide +kernel) (by decide +kernel)⟩
def kX7_begin : MK := (yX7_begin, cX7_begin, 6, (some .int))
set_option maxRecDepth 20000 in
theorem mX7_begin : MV kX7_begin 1 := ⟨⟨TB_of 1213 (by decide +kernel) rfl, TB_of 71 (by decide +kernel) (by decide +kernel), by decide +kernel, by decide +kernel, by decide +kernel, by decide +kernel⟩, TB_of 1211 (by decide +kernel) (by decide +kernel), TB_of 1212 (by decide +kernel) (by decide +kernel)⟩
def kX7_room : MK := (yX7_room, cX7_room, 4, (some .int))
set_option maxRecDepth 20000 in
theorem mX7_room : MV kX7_room 1 := ⟨⟨TB_of 1217 (by decide +kernel) rfl, TB_of 71 (by decide +kernel) (by decide +kernel), by decide +kernel, by decide +kernel, by decide +kernel, by decide +kernel⟩, TB_of 1215 (by decide +kernel) (by decide +kernel), TB_of 1216 (by decide +kernel) (by decide +kernel)⟩
def kX7_take : MK := (yX7_take, cX7_take, 6, (some .int))
set_option maxRecDepth 20000 in
theorem mX7_take : MV kX7_take 1 := ⟨⟨TB_of 1221 (by decide +kernel) rfl, TB_of 71 (by decide +kernel) (by decide +kernel), by decide +kernel, by decide +kernel, by decide +kernel, by decide +kernel⟩, TB_of 1219 (by decide +kernel) (by decide +kernel), TB_of 1220 (by decide +kernel) (by decide +kernel)⟩
def kX7_price : MK := (yX7_price, cX7_price, 4, (some .int))
set_option maxRecDepth 20000 in
theorem mX7_price : MV kX7_price 1 := ⟨⟨TB_of 1225 (by decide +kernel) rfl, TB_of 71 (by decide +kernel) (by decide +kernel), by decide +kernel, by decide +kernel, by decide +kernel, by decide +kernel⟩, TB_of 1223 (by decide +kernel) (by decide +kernel), TB_of 1224 (by decide +kernel) (by decide +kernel)⟩
def kX7_satIfPaid : MK := (yX7_satIfPaid, cX7_satIfPaid, 4, (some .int))
set_option maxRecDepth 20000 in
theorem mX7_satIfPaid : MV kX7_satIfPaid 2 := ⟨⟨TB_of 1229 (by decide +kernel) rfl, TB_of 71 (by decide +kernel) (by decide +kernel), by decide +kernel, by decide +kernel, by decide +kernel, by decide +kernel⟩, TB_of 1228 (by decide +kernel) (by decide +kernel), TB_of 52 (by decide +kernel) (by decide +kernel)⟩
def kX7_keeps : MK := (yX7_keeps, cX7_keeps, 2, (some .int))
set_option maxRecDepth 20000 in
theorem mX7_keeps : MV kX7_keeps 1 := ⟨⟨TB_of 1233 (by decide +kernel) rfl, TB_of 71 (by decide +kernel) (by decide +kernel), by decide +kernel, by decide +kernel, by decide +kernel, by decide +kernel⟩, TB_of 1231 (by decide +kernel) (by decide +kernel), TB_of 1232 (by decide +kernel) (by decide +kernel)⟩
def kX7_holdsBack : MK := (yX7_holdsBack, cX7_holdsBack, 3, (some .int))
set_option maxRecDepth 20000 in
theorem mX7_holdsBack : MV kX7_holdsBack 1 := ⟨⟨TB_of 1237 (by decide +kernel) rfl, TB_of 71 (by decide +kernel) (by decide +kernel), by decide +kernel, by decide +kernel, by decide +kernel, by decide +kernel⟩, TB_of 1236 (by decide +kernel) (by decide +kernel), TB_of 53 (by decide +kernel) (by decide +kernel)⟩
def kX7_keep : MK := (yX7_keep, cX7_keep, 5, (some .int))
set_option maxRecDepth 20000 in
theorem mX7_keep : MV kX7_keep 0 := ⟨⟨TB_of 1241 (by decide +kernel) rfl, TB_of 71 (by decide +kernel) (by decide +kernel), by decide +kernel, by decide +kernel, by decide +kernel, by decide +kernel⟩, TB_of 1239 (by decide +kernel) (by decide +kernel), TB_of 1240 (by decide +kernel) (by decide +kernel)⟩
def kX7_pairs : MK := (yX7_pairs, cX7_pairs, 3, (some .int))
set_option maxRecDepth 20000 in
theorem mX7_pairs : MV kX7_pairs 0 := ⟨⟨TB_of 1245 (by decide +kernel) rfl, TB_of 71 (by decide +kernel) (by decide +kernel), by decide +kernel, by decide +kernel, by decide +kernel, by decide +kernel⟩, TB_of 1243 (by decide +kernel) (by decide +kernel), TB_of 1244 (by decide +kernel) (by decide +kernel)⟩
def kX7_chain : MK := (yX7_chain, cX7_chain, 5, (some .int))
set_option maxRecDepth 20000 in
theorem mX7_chain : MV kX7_chain 1 := ⟨⟨TB_of 1249 (by decide +kernel) rfl, TB_of 71 (by decide +kernel) (by decide +kernel), by decide +kernel, by decide +kernel, by decide +kernel, by decide +kernel⟩, TB_of 1247 (by decide +kernel) (by decide +kernel), TB_of 1248 (by decide +kernel) (by decide +kernel)⟩
def kX7_friends : MK := (yX7_friends, cX7_friends, 8, (some .int))
set_option maxRecDepth 20000 in
theorem mX7_friends : MV kX7_friends 3 := ⟨⟨TB_of 1253 (by decide +kernel) rfl, TB_of 71 (by decide +kernel) (by decide +kernel), by decide +kernel, by decide +kernel, by decide +kernel, by decide +kernel⟩, TB_of 1251 (by decide +kernel) (by decide +kernel), TB_of 1252 (by decide +kernel) (by decide +kernel)⟩
def kX7_barsOf : MK := (yX7_barsOf, cX7_barsOf, 4, (some .int))
set_option maxRecDepth 20000 in
theorem mX7_barsOf : MV kX7_barsOf 2 := ⟨⟨TB_of 1257 (by decide +kernel) rfl, TB_of 71 (by decide +kernel) (by decide +kernel), by decide +kernel, by decide +kernel, by decide +kernel, by decide +kernel⟩, TB_of 1256 (by decide +kernel) (by decide +kernel), TB_of 54 (by decide +kernel) (by decide +kernel)⟩
def kX7_wrongIn : MK := (yX7_wrongIn, cX7_wrongIn, 5, (some .int))
set_option maxRecDepth 20000 in
theorem mX7_wrongIn : MV kX7_wrongIn 2 := ⟨⟨TB_of 1261 (by decide +kernel) rfl, TB_of 71 (by decide +kernel) (by decide +kernel), by decide +kernel, by decide +kernel, by decide +kernel, by decide +kernel⟩, TB_of 1260 (by decide +kernel) (by decide +kernel), TB_of 55 (by decide +kernel) (by decide +kernel)⟩
def kX7_intAt : MK := (yX7_intAt, cX7_intAt, 3, (some .int))
set_option maxRecDepth 20000 in
theorem mX7_intAt : MV kX7_intAt 2 := ⟨⟨TB_of 1265 (by decide +kernel) rfl, TB_of 71 (by decide +kernel) (by decide +kernel), by decide +kernel, by decide +kernel, by decide +kernel, by decide +kernel⟩, TB_of 1264 (by decide +kernel) (by decide +kernel), TB_of 56 (by decide +kernel) (by decide +kernel)⟩
def kX7_judge : MK := (yX7_judge, cX7_judge, 4, (some .int))
set_option maxRecDepth 20000 in
theorem mX7_judge : MV kX7_judge 2 := ⟨⟨TB_of 1269 (by decide +kernel) rfl, TB_of 71 (by decide +kernel) (by decide +kernel), by decide +kernel, by decide +kernel, by decide +kernel, by decide +kernel⟩, TB_of 1267 (by decide +kernel) (by decide +kernel), TB_of 1268 (by decide +kernel) (by decide +kernel)⟩
def kX7_evenings : MK := (yX7_evenings, cX7_evenings, 4, (some .int))
set_option maxRecDepth 20000 in
theorem mX7_evenings : MV kX7_evenings 1 := ⟨⟨TB_of 1273 (by decide +kernel) rfl, TB_of 71 (by decide +kernel) (by decide +kernel), by decide +kernel, by decide +kernel, by decide +kernel, by decide +kernel⟩, TB_of 1271 (by decide +kernel) (by decide +kernel), TB_of 1272 (by decide +kernel) (by decide +kernel)⟩
def kX7_drawn : MK := (yX7_drawn, cX7_drawn, 4, (some .int))
set_option maxRecDepth 20000 in
theorem mX7_drawn : MV kX7_drawn 1 := ⟨⟨TB_of 1277 (by decide +kernel) rfl, TB_of 71 (by decide +kernel) (by decide +kernel), by decide +kernel, by decide +kernel, by decide +kernel, by decide +kernel⟩, TB_of 1275 (by decide +kernel) (by decide +kernel), TB_of 1276 (by decide +kernel) (by decide +kernel)⟩
def kX7_draw : MK := (yX7_draw, cX7_draw, 2, (some .int))
set_option maxRecDepth 20000 in
theorem mX7_draw : MV kX7_draw 1 := ⟨⟨TB_of 1281 (by decide +kernel) rfl, TB_of 71 (by decide +kernel) (by decide +kernel), by decide +kernel, by decide +kernel, by decide +kernel, by decide +kernel⟩, TB_of 1280 (by decide +kernel) (by decide +kernel), TB_of 57 (by decide +kernel) (by decide +kernel)⟩
def kX7_seed : MK := (yX7_seed, cX7_seed, 3, (some .int))
set_option maxRecDepth 20000 in
theorem mX7_seed : MV kX7_seed 1 := ⟨⟨TB_of 1286 (by decide +kernel) rfl, TB_of 71 (by decide +kernel) (by decide +kernel), by decide +kernel, by decide +kernel, by decide +kernel, by decide +kernel⟩, TB_of 1284 (by decide +kernel) (by decide +kernel), TB_of 1285 (by decide +kernel) (by decide +kernel)⟩
def kX7_act : MK := (yX7_act, cX7_act, 4, (some .int))
set_option maxRecDepth 20000 in
theorem mX7_act : MV kX7_act 3 := ⟨⟨TB_of 1290 (by decide +kernel) rfl, TB_of 71 (by decide +kernel) (by decide +kernel), by decide +kernel, by decide +kernel, by decide +kernel, by decide +kernel⟩, TB_of 1288 (by decide +kernel) (by decide +kernel), TB_of 1289 (by decide +kernel) (by decide +kernel)⟩
def kX7_coming : MK := (yX7_coming, cX7_coming, 8, (some .int))
set_option maxRecDepth 20000 in
theorem mX7_coming : MV kX7_coming 2 := ⟨⟨TB_of 1294 (by decide +kernel) rfl, TB_of 71 (by decide +kernel) (by decide +kernel), by decide +kernel, by decide +kernel, by decide +kernel, by decide +kernel⟩, TB_of 1293 (by decide +kernel) (by decide +kernel), TB_of 58 (by decide +kernel) (by decide +kernel)⟩
def kX7_body : MK := (yX7_body, cX7_body, 2, (Option.none : Option Jvm.ClassFile.FieldType))
set_option maxRecDepth 20000 in
theorem mX7_body : MV kX7_body 1 := ⟨⟨TB_of 1298 (by decide +kernel) rfl, TB_of 71 (by decide +kernel) (by decide +kernel), by decide +kernel, by decide +kernel, by decide +kernel, by decide +kernel⟩, TB_of 1297 (by decide +kernel) (by decide +kernel), TB_of 59 (by decide +kernel) (by decide +kernel)⟩
def kX7_sitting : MK := (yX7_sitting, cX7_sitting, 7, (some .int))
set_option maxRecDepth 20000 in
theorem mX7_sitting : MV kX7_sitting 2 := ⟨⟨TB_of 1302 (by decide +kernel) rfl, TB_of 71 (by decide +kernel) (by decide +kernel), by decide +kernel, by decide +kernel, by decide +kernel, by decide +kernel⟩, TB_of 1301 (by decide +kernel) (by decide +kernel), TB_of 60 (by decide +kernel) (by decide +kernel)⟩
def kX7_asking : MK := (yX7_asking, cX7_asking, 5, (some .int))
set_option maxRecDepth 20000 in
theorem mX7_asking : MV kX7_asking 2 := ⟨⟨TB_of 1306 (by decide +kernel) rfl, TB_of 71 (by decide +kernel) (by decide +kernel), by decide +kernel, by decide +kernel, by decide +kernel, by decide +kernel⟩, TB_of 1305 (by decide +kernel) (by decide +kernel), TB_of 61 (by decide +kernel) (by decide +kernel)⟩
def kX7_trace : MK := (yX7_trace, cX7_trace, 2, (some .int))
set_option maxRecDepth 20000 in
theorem mX7_trace : MV kX7_trace 1 := ⟨⟨TB_of 1310 (by decide +kernel) rfl, TB_of 71 (by decide +kernel) (by decide +kernel), by decide +kernel, by decide +kernel, by decide +kernel, by decide +kernel⟩, TB_of 1308 (by decide +kernel) (by decide +kernel), TB_of 1309 (by decide +kernel) (by decide +kernel)⟩
def kX7_image : MK := (yX7_image, cX7_image, 1, (some .int))
set_option maxRecDepth 20000 in
theorem mX7_image : MV kX7_image 0 := ⟨⟨TB_of 1314 (by decide +kernel) rfl, TB_of 71 (by decide +kernel) (by decide +kernel), by decide +kernel, by decide +kernel, by decide +kernel, by decide +kernel⟩, TB_of 1312 (by decide +kernel) (by decide +kernel), TB_of 1313 (by decide +kernel) (by decide +kernel)⟩
def kX7_restore : MK := (yX7_restore, cX7_restore, 2, (some .int))
set_option maxRecDepth 20000 in
theorem mX7_restore : MV kX7_restore 0 := ⟨⟨TB_of 1318 (by decide +kernel) rfl, TB_of 71 (by decide +kernel) (by decide +kernel), by decide +kernel, by decide +kernel, by decide +kernel, by decide +kernel⟩, TB_of 1316 (by decide +kernel) (by decide +kernel), TB_of 1317 (by decide +kernel) (by decide +kernel)⟩
def kX7_status : MK := (yX7_status, cX7_status, 2, (some .int))
set_option maxRecDepth 20000 in
theorem mX7_status : MV kX7_status 1 := ⟨⟨TB_of 1322 (by decide +kernel) rfl, TB_of 71 (by decide +kernel) (by decide +kernel), by decide +kernel, by decide +kernel, by decide +kernel, by decide +kernel⟩, TB_of 1320 (by decide +kernel) (by decide +kernel), TB_of 1321 (by decide +kernel) (by decide +kernel)⟩
def kX7_together : MK := (yX7_together, cX7_together, 4, (some .int))
set_option maxRecDepth 20000 in
theorem mX7_together : MV kX7_together 1 := ⟨⟨TB_of 1326 (by decide +kernel) rfl, TB_of 71 (by decide +kernel) (by decide +kernel), by decide +kernel, by decide +kernel, by decide +kernel, by decide +kernel⟩, TB_of 1325 (by decide +kernel) (by decide +kernel), TB_of 62 (by decide +kernel) (by decide +kernel)⟩
theorem lX6_9 : Cond.methodLink RX6 9 yX4_init ∈ TB := TB_of 90 (by decide +kernel) (by decide +kernel)
theorem lX4_17 : (RX4, 17, yX2_init, RX6) ∈ NBm := by decide +kernel
theorem fX2_15 : FL RX2 2 0 15 false := ⟨_, rfl, by decide +kernel, by decide +kernel, by decide +kernel, TB_of 101 (by decide +kernel) (by decide +kernel)⟩
theorem fX0_22 : FL RX0 2 0 22 false := ⟨_, rfl, by decide +kernel, by decide +kernel, by decide +kernel, TB_of 102 (by decide +kernel) (by decide +kernel)⟩
theorem fX6_133 : FL RX6 2 0 133 false := ⟨_, rfl, by decide +kernel, by decide +kernel, by decide +kernel, TB_of 103 (by decide +kernel) (by decide +kernel)⟩
theorem fX4_100 : FL RX4 2 0 100 false := ⟨_, rfl, by decide +kernel, by decide +kernel, by decide +kernel, TB_of 104 (by decide +kernel) (by decide +kernel)⟩
theorem fX2_18 : FL RX2 2 1 18 false := ⟨_, rfl, by decide +kernel, by decide +kernel, by decide +kernel, TB_of 105 (by decide +kernel) (by decide +kernel)⟩
theorem fX0_28 : FL RX0 2 1 28 false := ⟨_, rfl, by decide +kernel, by decide +kernel, by decide +kernel, TB_of 106 (by decide +kernel) (by decide +kernel)⟩
theorem fX2_21 : FL RX2 2 2 21 false := ⟨_, rfl, by decide +kernel, by decide +kernel, by decide +kernel, TB_of 107 (by decide +kernel) (by decide +kernel)⟩
theorem fX6_230 : FL RX6 2 2 230 false := ⟨_, rfl, by decide +kernel, by decide +kernel, by decide +kernel, TB_of 108 (by decide +kernel) (by decide +kernel)⟩
theorem fX2_24 : FL RX2 2 3 24 false := ⟨_, rfl, by decide +kernel, by decide +kernel, by decide +kernel, TB_of 109 (by decide +kernel) (by decide +kernel)⟩
theorem fX4_66 : FL RX4 2 3 66 false := ⟨_, rfl, by decide +kernel, by decide +kernel, by decide +kernel, TB_of 110 (by decide +kernel) (by decide +kernel)⟩
theorem fX2_9 : FL RX2 2 4 9 false := ⟨_, rfl, by decide +kernel, by decide +kernel, by decide +kernel, TB_of 111 (by decide +kernel) (by decide +kernel)⟩
theorem fX3_123 : FL RX3 2 4 123 false := ⟨_, rfl, by decide +kernel, by decide +kernel, by decide +kernel, TB_of 112 (by decide +kernel) (by decide +kernel)⟩
theorem fX6_151 : FL RX6 2 4 151 false := ⟨_, rfl, by decide +kernel, by decide +kernel, by decide +kernel, TB_of 113 (by decide +kernel) (by decide +kernel)⟩
theorem fX4_97 : FL RX4 2 4 97 false := ⟨_, rfl, by decide +kernel, by decide +kernel, by decide +kernel, TB_of 114 (by decide +kernel) (by decide +kernel)⟩
theorem fX2_28 : FL RX2 2 5 28 false := ⟨_, rfl, by decide +kernel, by decide +kernel, by decide +kernel, TB_of 115 (by decide +kernel) (by decide +kernel)⟩
theorem fX2_31 : FL RX2 2 6 31 false := ⟨_, rfl, by decide +kernel, by decide +kernel, by decide +kernel, TB_of 116 (by decide +kernel) (by decide +kernel)⟩
theorem fX6_170 : FL RX6 2 6 170 false := ⟨_, rfl, by decide +kernel, by decide +kernel, by decide +kernel, TB_of 117 (by decide +kernel) (by decide +kernel)⟩
theorem fX2_34 : FL RX2 2 7 34 false := ⟨_, rfl, by decide +kernel, by decide +kernel, by decide +kernel, TB_of 118 (by decide +kernel) (by decide +kernel)⟩
theorem fX4_69 : FL RX4 2 7 69 false := ⟨_, rfl, by decide +kernel, by decide +kernel, by decide +kernel, TB_of 119 (by decide +kernel) (by decide +kernel)⟩
theorem fX6_227 : FL RX6 2 7 227 false := ⟨_, rfl, by decide +kernel, by decide +kernel, by decide +kernel, TB_of 120 (by decide +kernel) (by decide +kernel)⟩
theorem fX2_37 : FL RX2 2 8 37 false := ⟨_, rfl, by decide +kernel, by decide +kernel, by decide +kernel, TB_of 121 (by decide +kernel) (by decide +kernel)⟩
theorem fX3_128 : FL RX3 2 8 128 false := ⟨_, rfl, by decide +kernel, by decide +kernel, by decide +kernel, TB_of 122 (by decide +kernel) (by decide +kernel)⟩
theorem fX4_62 : FL RX4 2 8 62 false := ⟨_, rfl, by decide +kernel, by decide +kernel, by decide +kernel, TB_of 123 (by decide +kernel) (by decide +kernel)⟩
theorem fX6_166 : FL RX6 2 8 166 false := ⟨_, rfl, by decide +kernel, by decide +kernel, by decide +kernel, TB_of 124 (by decide +kernel) (by decide +kernel)⟩
theorem fX4_83 : FL RX4 2 9 83 false := ⟨_, rfl, by decide +kernel, by decide +kernel, by decide +kernel, TB_of 125 (by decide +kernel) (by decide +kernel)⟩
theorem fX4_11 : FL RX4 4 0 11 true := ⟨_, rfl, by decide +kernel, by decide +kernel, by decide +kernel, TB_of 147 (by decide +kernel) (by decide +kernel)⟩
theorem fX4_18 : FL RX4 4 1 18 true := ⟨_, rfl, by decide +kernel, by decide +kernel, by decide +kernel, TB_of 148 (by decide +kernel) (by decide +kernel)⟩
theorem fX4_35 : FL RX4 4 2 35 false := ⟨_, rfl, by decide +kernel, by decide +kernel, by decide +kernel, TB_of 149 (by decide +kernel) (by decide +kernel)⟩
theorem fX3_113 : FL RX3 4 2 113 false := ⟨_, rfl, by decide +kernel, by decide +kernel, by decide +kernel, TB_of 150 (by decide +kernel) (by decide +kernel)⟩
theorem fX6_233 : FL RX6 4 2 233 false := ⟨_, rfl, by decide +kernel, by decide +kernel, by decide +kernel, TB_of 151 (by decide +kernel) (by decide +kernel)⟩
theorem fX4_22 : FL RX4 4 3 22 false := ⟨_, rfl, by decide +kernel, by decide +kernel, by decide +kernel, TB_of 152 (by decide +kernel) (by decide +kernel)⟩
theorem fX4_38 : FL RX4 4 4 38 false := ⟨_, rfl, by decide +kernel, by decide +kernel, by decide +kernel, TB_of 153 (by decide +kernel) (by decide +kernel)⟩
theorem fX4_26 : FL RX4 4 5 26 false := ⟨_, rfl, by decide +kernel, by decide +kernel, by decide +kernel, TB_of 154 (by decide +kernel) (by decide +kernel)⟩
theorem fX4_29 : FL RX4 4 6 29 false := ⟨_, rfl, by decide +kernel, by decide +kernel, by decide +kernel, TB_of 155 (by decide +kernel) (by decide +kernel)⟩
theorem fX1_38 : FL RX1 4 6 38 false := ⟨_, rfl, by decide +kernel, by decide +kernel, by decide +kernel, TB_of 156 (by decide +kernel) (by decide +kernel)⟩
theorem fX4_41 : FL RX4 4 7 41 false := ⟨_, rfl, by decide +kernel, by decide +kernel, by decide +kernel, TB_of 157 (by decide +kernel) (by decide +kernel)⟩
theorem fX6_279 : FL RX6 4 7 279 false := ⟨_, rfl, by decide +kernel, by decide +kernel, by decide +kernel, TB_of 158 (by decide +kernel) (by decide +kernel)⟩
theorem fX4_32 : FL RX4 4 8 32 false := ⟨_, rfl, by decide +kernel, by decide +kernel, by decide +kernel, TB_of 159 (by decide +kernel) (by decide +kernel)⟩
theorem fX6_260 : FL RX6 4 8 260 false := ⟨_, rfl, by decide +kernel, by decide +kernel, by decide +kernel, TB_of 160 (by decide +kernel) (by decide +kernel)⟩
theorem lX6_24 : (RX6, 24, yX1_init, RX6) ∈ NBm := by decide +kernel
theorem fX1_9 : FL RX1 1 0 9 false := ⟨_, rfl, by decide +kernel, by decide +kernel, by decide +kernel, TB_of 186 (by decide +kernel) (by decide +kernel)⟩
theorem fX6_215 : FL RX6 1 0 215 false := ⟨_, rfl, by decide +kernel, by decide +kernel, by decide +kernel, TB_of 187 (by decide +kernel) (by decide +kernel)⟩
theorem fX1_15 : FL RX1 1 1 15 false := ⟨_, rfl, by decide +kernel, by decide +kernel, by decide +kernel, TB_of 188 (by decide +kernel) (by decide +kernel)⟩
theorem fX6_218 : FL RX6 1 1 218 false := ⟨_, rfl, by decide +kernel, by decide +kernel, by decide +kernel, TB_of 189 (by decide +kernel) (by decide +kernel)⟩
theorem fX1_18 : FL RX1 1 2 18 false := ⟨_, rfl, by decide +kernel, by decide +kernel, by decide +kernel, TB_of 190 (by decide +kernel) (by decide +kernel)⟩
theorem fX6_221 : FL RX6 1 2 221 false := ⟨_, rfl, by decide +kernel, by decide +kernel, by decide +kernel, TB_of 191 (by decide +kernel) (by decide +kernel)⟩
theorem fX1_21 : FL RX1 1 3 21 false := ⟨_, rfl, by decide +kernel, by decide +kernel, by decide +kernel, TB_of 192 (by decide +kernel) (by decide +kernel)⟩
theorem fX6_224 : FL RX6 1 3 224 false := ⟨_, rfl, by decide +kernel, by decide +kernel, by decide +kernel, TB_of 193 (by decide +kernel) (by decide +kernel)⟩
theorem lX6_35 : (RX6, 35, yX5_init, RX6) ∈ NBm := by decide +kernel
theorem fX5_9 : FL RX5 5 0 9 false := ⟨_, rfl, by decide +kernel, by decide +kernel, by decide +kernel, TB_of 210 (by decide +kernel) (by decide +kernel)⟩
theorem fX6_95 : FL RX6 5 0 95 false := ⟨_, rfl, by decide +kernel, by decide +kernel, by decide +kernel, TB_of 211 (by decide +kernel) (by decide +kernel)⟩
theorem fX5_15 : FL RX5 5 1 15 false := ⟨_, rfl, by decide +kernel, by decide +kernel, by decide +kernel, TB_of 212 (by decide +kernel) (by decide +kernel)⟩
theorem fX6_123 : FL RX6 5 1 123 false := ⟨_, rfl, by decide +kernel, by decide +kernel, by decide +kernel, TB_of 213 (by decide +kernel) (by decide +kernel)⟩
theorem fX3_30 : FL RX3 5 2 30 false := ⟨_, rfl, by decide +kernel, by decide +kernel, by decide +kernel, TB_of 214 (by decide +kernel) (by decide +kernel)⟩
theorem fX5_22 : FL RX5 5 2 22 false := ⟨_, rfl, by decide +kernel, by decide +kernel, by decide +kernel, TB_of 215 (by decide +kernel) (by decide +kernel)⟩
theorem fX6_288 : FL RX6 5 2 288 false := ⟨_, rfl, by decide +kernel, by decide +kernel, by decide +kernel, TB_of 216 (by decide +kernel) (by decide +kernel)⟩
theorem fX5_18 : FL RX5 5 3 18 true := ⟨_, rfl, by decide +kernel, by decide +kernel, by decide +kernel, TB_of 217 (by decide +kernel) (by decide +kernel)⟩
theorem fX6_102 : FL RX6 5 3 102 true := ⟨_, rfl, by decide +kernel, by decide +kernel, by decide +kernel, TB_of 218 (by decide +kernel) (by decide +kernel)⟩
theorem lX6_42 : (RX6, 42, yX3_init, RX6) ∈ NBm := by decide +kernel
theorem lX3_11 : Cond.methodLink RX3 11 yX4_init ∈ TB := TB_of 236 (by decide +kernel) (by decide +kernel)
theorem fX3_12 : FL RX3 3 0 12 true := ⟨_, rfl, by decide +kernel, by decide +kernel, by decide +kernel, TB_of 237 (by decide +kernel) (by decide +kernel)⟩
theorem fX6_183 : FL RX6 3 0 183 true := ⟨_, rfl, by decide +kernel, by decide +kernel, by decide +kernel, TB_of 238 (by decide +kernel) (by decide +kernel)⟩
theorem fX3_18 : FL RX3 3 1 18 false := ⟨_, rfl, by decide +kernel, by decide +kernel, by decide +kernel, TB_of 239 (by decide +kernel) (by decide +kernel)⟩
theorem fX6_180 : FL RX6 3 1 180 false := ⟨_, rfl, by decide +kernel, by decide +kernel, by decide +kernel, TB_of 240 (by decide +kernel) (by decide +kernel)⟩
theorem fX3_22 : FL RX3 3 2 22 true := ⟨_, rfl, by decide +kernel, by decide +kernel, by decide +kernel, TB_of 241 (by decide +kernel) (by decide +kernel)⟩
theorem fX3_35 : FL RX3 3 3 35 false := ⟨_, rfl, by decide +kernel, by decide +kernel, by decide +kernel, TB_of 242 (by decide +kernel) (by decide +kernel)⟩
theorem fX3_40 : FL RX3 3 4 40 false := ⟨_, rfl, by decide +kernel, by decide +kernel, by decide +kernel, TB_of 243 (by decide +kernel) (by decide +kernel)⟩
theorem fX3_116 : FL RX3 3 5 116 false := ⟨_, rfl, by decide +kernel, by decide +kernel, by decide +kernel, TB_of 244 (by decide +kernel) (by decide +kernel)⟩
theorem lX6_49 : (RX6, 49, yX0_init, RX6) ∈ NBm := by decide +kernel
theorem fX0_15 : FL RX0 0 0 15 false := ⟨_, rfl, by decide +kernel, by decide +kernel, by decide +kernel, TB_of 265 (by decide +kernel) (by decide +kernel)⟩
theorem fX6_285 : FL RX6 0 0 285 false := ⟨_, rfl, by decide +kernel, by decide +kernel, by decide +kernel, TB_of 266 (by decide +kernel) (by decide +kernel)⟩
theorem fX0_9 : FL RX0 0 1 9 true := ⟨_, rfl, by decide +kernel, by decide +kernel, by decide +kernel, TB_of 267 (by decide +kernel) (by decide +kernel)⟩
theorem fX0_19 : FL RX0 0 2 19 false := ⟨_, rfl, by decide +kernel, by decide +kernel, by decide +kernel, TB_of 268 (by decide +kernel) (by decide +kernel)⟩
theorem fX0_27 : FL RX0 0 3 27 false := ⟨_, rfl, by decide +kernel, by decide +kernel, by decide +kernel, TB_of 269 (by decide +kernel) (by decide +kernel)⟩
theorem fX0_31 : FL RX0 0 4 31 false := ⟨_, rfl, by decide +kernel, by decide +kernel, by decide +kernel, TB_of 270 (by decide +kernel) (by decide +kernel)⟩
theorem fX6_10 : FL RX6 6 0 10 true := ⟨_, rfl, by decide +kernel, by decide +kernel, by decide +kernel, TB_of 282 (by decide +kernel) (by decide +kernel)⟩
theorem fX6_16 : FL RX6 6 1 16 true := ⟨_, rfl, by decide +kernel, by decide +kernel, by decide +kernel, TB_of 283 (by decide +kernel) (by decide +kernel)⟩
theorem fX6_19 : FL RX6 6 2 19 true := ⟨_, rfl, by decide +kernel, by decide +kernel, by decide +kernel, TB_of 284 (by decide +kernel) (by decide +kernel)⟩
theorem fX6_276 : FL RX6 6 3 276 false := ⟨_, rfl, by decide +kernel, by decide +kernel, by decide +kernel, TB_of 285 (by decide +kernel) (by decide +kernel)⟩
theorem fX6_25 : FL RX6 6 4 25 true := ⟨_, rfl, by decide +kernel, by decide +kernel, by decide +kernel, TB_of 286 (by decide +kernel) (by decide +kernel)⟩
theorem fX6_31 : FL RX6 6 5 31 true := ⟨_, rfl, by decide +kernel, by decide +kernel, by decide +kernel, TB_of 287 (by decide +kernel) (by decide +kernel)⟩
theorem fX6_36 : FL RX6 6 6 36 true := ⟨_, rfl, by decide +kernel, by decide +kernel, by decide +kernel, TB_of 288 (by decide +kernel) (by decide +kernel)⟩
theorem fX6_43 : FL RX6 6 7 43 true := ⟨_, rfl, by decide +kernel, by decide +kernel, by decide +kernel, TB_of 289 (by decide +kernel) (by decide +kernel)⟩
theorem fX6_50 : FL RX6 6 8 50 true := ⟨_, rfl, by decide +kernel, by decide +kernel, by decide +kernel, TB_of 290 (by decide +kernel) (by decide +kernel)⟩
theorem fX6_54 : FL RX6 6 9 54 true := ⟨_, rfl, by decide +kernel, by decide +kernel, by decide +kernel, TB_of 291 (by decide +kernel) (by decide +kernel)⟩
theorem fX6_58 : FL RX6 6 10 58 false := ⟨_, rfl, by decide +kernel, by decide +kernel, by decide +kernel, TB_of 292 (by decide +kernel) (by decide +kernel)⟩
theorem lX6_62 : Cond.methodLink RX6 62 yX6_isShelf ∈ TB := TB_of 320 (by decide +kernel) (by decide +kernel)
theorem lX6_66 : Cond.methodLink RX6 66 yX6_refuse ∈ TB := TB_of 324 (by decide +kernel) (by decide +kernel)
theorem lX6_70 : Cond.methodLink RX6 70 yX6_shelfAt ∈ TB := TB_of 328 (by decide +kernel) (by decide +kernel)
theorem lX6_74 : Cond.methodLink RX6 74 yX5_holdRow ∈ TB := TB_of 332 (by decide +kernel) (by decide +kernel)
theorem lX5_25 : Cond.methodLink RX5 25 yJ7_fill_d0a16 ∈ TB := TB_of 336 (by decide +kernel) (by decide +kernel)
theorem lX6_78 : Cond.methodLink RX6 78 yX6_whyNoRow ∈ TB := TB_of 343 (by decide +kernel) (by decide +kernel)
theorem lX6_92 : Cond.methodLink RX6 92 yX5_isPerson ∈ TB := TB_of 347 (by decide +kernel) (by decide +kernel)
theorem lX6_88 : Cond.methodLink RX6 88 yX5_isRow ∈ TB := TB_of 351 (by decide +kernel) (by decide +kernel)
theorem lX6_81 : Cond.methodLink RX6 81 yX5_hasElement ∈ TB := TB_of 355 (by decide +kernel) (by decide +kernel)
theorem lX6_84 : Cond.methodLink RX6 84 yX5_put ∈ TB := TB_of 359 (by decide +kernel) (by decide +kernel)
theorem lX6_98 : Cond.methodLink RX6 98 yX5_hasStretch ∈ TB := TB_of 367 (by decide +kernel) (by decide +kernel)
theorem lX6_112 : Cond.methodLink RX6 112 yX5_elementAt ∈ TB := TB_of 378 (by decide +kernel) (by decide +kernel)
theorem lX6_116 : Cond.methodLink RX6 116 yX4_has ∈ TB := TB_of 386 (by decide +kernel) (by decide +kernel)
theorem lX6_119 : Cond.methodLink RX6 119 yX5_holdPerson ∈ TB := TB_of 390 (by decide +kernel) (by decide +kernel)
theorem lX6_126 : Cond.methodLink RX6 126 yX6_isKind ∈ TB := TB_of 402 (by decide +kernel) (by decide +kernel)
theorem sX6_291 : Cond.fieldLink RX6 291 (roC 0) (roF 0) "[I" ∈ TB := TB_of 405 (by decide +kernel) (by decide +kernel)
theorem lX6_129 : Cond.methodLink RX6 129 yX4_one ∈ TB := TB_of 407 (by decide +kernel) (by decide +kernel)
theorem lX6_138 : Cond.methodLink RX6 138 yX6_isUnder ∈ TB := TB_of 411 (by decide +kernel) (by decide +kernel)
theorem lX6_294 : Cond.methodLink RX6 294 yX6_kindAbove ∈ TB := TB_of 414 (by decide +kernel) (by decide +kernel)
theorem lX6_141 : Cond.methodLink RX6 141 yX2_sayingAs ∈ TB := TB_of 417 (by decide +kernel) (by decide +kernel)
theorem lX6_144 : Cond.methodLink RX6 144 yX4_isFull ∈ TB := TB_of 425 (by decide +kernel) (by decide +kernel)
theorem lX6_147 : Cond.methodLink RX6 147 yX4_enrol ∈ TB := TB_of 429 (by decide +kernel) (by decide +kernel)
theorem lX4_44 : Cond.methodLink RX4 44 yX4_one ∈ TB := TB_of 433 (by decide +kernel) (by decide +kernel)
theorem lX4_52 : Cond.methodLink RX4 52 yX2_enter ∈ TB := TB_of 434 (by decide +kernel) (by decide +kernel)
theorem lX6_154 : Cond.methodLink RX6 154 yX6_leastOf ∈ TB := TB_of 446 (by decide +kernel) (by decide +kernel)
theorem sX6_297 : Cond.fieldLink RX6 297 (roC 1) (roF 1) "[I" ∈ TB := TB_of 449 (by decide +kernel) (by decide +kernel)
theorem lX6_157 : Cond.methodLink RX6 157 yX6_mostOf ∈ TB := TB_of 451 (by decide +kernel) (by decide +kernel)
theorem sX6_300 : Cond.fieldLink RX6 300 (roC 2) (roF 2) "[I" ∈ TB := TB_of 454 (by decide +kernel) (by decide +kernel)
theorem lX6_160 : Cond.methodLink RX6 160 yX4_setting ∈ TB := TB_of 456 (by decide +kernel) (by decide +kernel)
theorem lX6_163 : Cond.methodLink RX6 163 yX4_settle ∈ TB := TB_of 460 (by decide +kernel) (by decide +kernel)
theorem lX6_173 : Cond.methodLink RX6 173 yX2_mark ∈ TB := TB_of 472 (by decide +kernel) (by decide +kernel)
theorem lX6_176 : Cond.methodLink RX6 176 yX3_read ∈ TB := TB_of 480 (by decide +kernel) (by decide +kernel)
theorem lX3_26 : Cond.methodLink RX3 26 yX4_become ∈ TB := TB_of 484 (by decide +kernel) (by decide +kernel)
theorem lX4_48 : Cond.methodLink RX4 48 yX2_become ∈ TB := TB_of 488 (by decide +kernel) (by decide +kernel)
theorem lX3_36 : Cond.methodLink RX3 36 yX5_intAt ∈ TB := TB_of 492 (by decide +kernel) (by decide +kernel)
theorem lX5_31 : Cond.methodLink RX5 31 yX5_elementAt ∈ TB := TB_of 496 (by decide +kernel) (by decide +kernel)
theorem lX3_43 : Cond.methodLink RX3 43 yX3_readItem ∈ TB := TB_of 497 (by decide +kernel) (by decide +kernel)
theorem lX3_51 : Cond.methodLink RX3 51 yX3_readWord ∈ TB := TB_of 501 (by decide +kernel) (by decide +kernel)
theorem lX3_73 : Cond.methodLink RX3 73 yX3_letter ∈ TB := TB_of 505 (by decide +kernel) (by decide +kernel)
theorem lX3_76 : Cond.methodLink RX3 76 yX3_wordOf ∈ TB := TB_of 509 (by decide +kernel) (by decide +kernel)
theorem lX3_58 : Cond.methodLink RX3 58 yX3_fail ∈ TB := TB_of 559 (by decide +kernel) (by decide +kernel)
theorem lX3_47 : Cond.methodLink RX3 47 yX3_readSign ∈ TB := TB_of 571 (by decide +kernel) (by decide +kernel)
theorem lX3_55 : Cond.methodLink RX3 55 yX4_isFull ∈ TB := TB_of 575 (by decide +kernel) (by decide +kernel)
theorem lX3_61 : Cond.methodLink RX3 61 yX3_readPerson ∈ TB := TB_of 576 (by decide +kernel) (by decide +kernel)
theorem sX3_102 : (RX3, 102, roC 0, roF 0, "[I", "ThirdEvening") ∈ NBf := by decide +kernel
theorem lX3_105 : Cond.methodLink RX3 105 yX3_readNumber ∈ TB := TB_of 581 (by decide +kernel) (by decide +kernel)
theorem lX3_141 : Cond.methodLink RX3 141 yX3_isDigit ∈ TB := TB_of 585 (by decide +kernel) (by decide +kernel)
theorem lX3_144 : Cond.methodLink RX3 144 yX3_readDigit ∈ TB := TB_of 589 (by decide +kernel) (by decide +kernel)
theorem lX3_109 : Cond.methodLink RX3 109 yX4_enrol ∈ TB := TB_of 593 (by decide +kernel) (by decide +kernel)
theorem lX3_64 : Cond.methodLink RX3 64 yX3_readFriend ∈ TB := TB_of 594 (by decide +kernel) (by decide +kernel)
theorem lX3_119 : Cond.methodLink RX3 119 yX4_one ∈ TB := TB_of 598 (by decide +kernel) (by decide +kernel)
theorem lX3_67 : Cond.methodLink RX3 67 yX3_readGone ∈ TB := TB_of 599 (by decide +kernel) (by decide +kernel)
theorem lX3_70 : Cond.methodLink RX3 70 yX3_readSetting ∈ TB := TB_of 603 (by decide +kernel) (by decide +kernel)
theorem lX3_131 : (RX3, 131, yX6_leastOf, RX6) ∈ NBm := by decide +kernel
theorem lX3_134 : (RX3, 134, yX6_mostOf, RX6) ∈ NBm := by decide +kernel
theorem lX3_137 : Cond.methodLink RX3 137 yX4_settle ∈ TB := TB_of 609 (by decide +kernel) (by decide +kernel)
theorem lX6_186 : Cond.methodLink RX6 186 yX4_become ∈ TB := TB_of 610 (by decide +kernel) (by decide +kernel)
theorem lX6_190 : Cond.methodLink RX6 190 yX4_pullOn ∈ TB := TB_of 620 (by decide +kernel) (by decide +kernel)
theorem lX4_72 : Cond.methodLink RX4 72 yX2_pullOn ∈ TB := TB_of 624 (by decide +kernel) (by decide +kernel)
theorem lX2_40 : Cond.methodLink RX2 40 yJ9_abs_0f7a4 ∈ TB := TB_of 628 (by decide +kernel) (by decide +kernel)
theorem lX2_46 : Cond.methodLink RX2 46 yJ9_max_7cf53 ∈ TB := TB_of 631 (by decide +kernel) (by decide +kernel)
theorem lX2_50 : Cond.methodLink RX2 50 yX2_isMatchDay ∈ TB := TB_of 634 (by decide +kernel) (by decide +kernel)
theorem lX6_193 : Cond.methodLink RX6 193 yX4_comers ∈ TB := TB_of 642 (by decide +kernel) (by decide +kernel)
theorem lX4_76 : Cond.methodLink RX4 76 yX4_pullOn ∈ TB := TB_of 646 (by decide +kernel) (by decide +kernel)
theorem lX4_79 : (RX4, 79, yX6_isIn, RX6) ∈ NBm := by decide +kernel
theorem lX4_86 : Cond.methodLink RX4 86 yX4_present ∈ TB := TB_of 650 (by decide +kernel) (by decide +kernel)
theorem lX4_90 : Cond.methodLink RX4 90 yX4_stillComing ∈ TB := TB_of 654 (by decide +kernel) (by decide +kernel)
theorem lX4_93 : Cond.methodLink RX4 93 yX4_comesWith ∈ TB := TB_of 658 (by decide +kernel) (by decide +kernel)
theorem lX4_103 : (RX4, 103, yX6_isUnder, RX6) ∈ NBm := by decide +kernel
theorem lX6_196 : Cond.methodLink RX6 196 yX4_seatedOf ∈ TB := TB_of 663 (by decide +kernel) (by decide +kernel)
theorem lX6_199 : Cond.methodLink RX6 199 yX6_isStretch ∈ TB := TB_of 671 (by decide +kernel) (by decide +kernel)
theorem lX6_202 : Cond.methodLink RX6 202 yX1_watch ∈ TB := TB_of 674 (by decide +kernel) (by decide +kernel)
theorem lX1_24 : Cond.methodLink RX1 24 yX4_comers ∈ TB := TB_of 678 (by decide +kernel) (by decide +kernel)
theorem lX1_30 : Cond.methodLink RX1 30 yX4_seatedOf ∈ TB := TB_of 679 (by decide +kernel) (by decide +kernel)
theorem lX1_33 : Cond.methodLink RX1 33 yJ6_bitCount_0f7a4 ∈ TB := TB_of 680 (by decide +kernel) (by decide +kernel)
theorem qJ6_265 : Cond.constant RJ6 265 (1431655765 : Int32) ∈ TB := TB_of 683 (by decide +kernel) (by decide +kernel)
theorem qJ6_266 : Cond.constant RJ6 266 (858993459 : Int32) ∈ TB := TB_of 684 (by decide +kernel) (by decide +kernel)
theorem qJ6_267 : Cond.constant RJ6 267 (252645135 : Int32) ∈ TB := TB_of 685 (by decide +kernel) (by decide +kernel)
theorem lX1_41 : Cond.methodLink RX1 41 yX4_endEvening ∈ TB := TB_of 686 (by decide +kernel) (by decide +kernel)
theorem lX4_106 : Cond.methodLink RX4 106 yX2_sat ∈ TB := TB_of 690 (by decide +kernel) (by decide +kernel)
theorem lX2_54 : Cond.methodLink RX2 54 yJ9_min_7cf53 ∈ TB := TB_of 694 (by decide +kernel) (by decide +kernel)
theorem lX4_109 : Cond.methodLink RX4 109 yX2_stayedAway ∈ TB := TB_of 697 (by decide +kernel) (by decide +kernel)
theorem lX6_206 : Cond.methodLink RX6 206 yX4_present ∈ TB := TB_of 701 (by decide +kernel) (by decide +kernel)
theorem lX6_210 : Cond.methodLink RX6 210 yJ6_bitCount_0f7a4 ∈ TB := TB_of 702 (by decide +kernel) (by decide +kernel)
theorem lX6_236 : Cond.methodLink RX6 236 yX4_dismissFrom ∈ TB := TB_of 727 (by decide +kernel) (by decide +kernel)
theorem lX4_56 : Cond.methodLink RX4 56 yJ9_max_7cf53 ∈ TB := TB_of 731 (by decide +kernel) (by decide +kernel)
theorem lX6_239 : Cond.methodLink RX6 239 yX4_payForAll ∈ TB := TB_of 736 (by decide +kernel) (by decide +kernel)
theorem lX6_243 : Cond.methodLink RX6 243 yX6_isIn ∈ TB := TB_of 752 (by decide +kernel) (by decide +kernel)
theorem lX6_246 : Cond.methodLink RX6 246 yX6_heldBy ∈ TB := TB_of 757 (by decide +kernel) (by decide +kernel)
theorem lX6_249 : Cond.methodLink RX6 249 yX6_whyNoRegister ∈ TB := TB_of 769 (by decide +kernel) (by decide +kernel)
theorem lX6_253 : Cond.methodLink RX6 253 yX1_firstWrong ∈ TB := TB_of 773 (by decide +kernel) (by decide +kernel)
theorem lX1_45 : Cond.methodLink RX1 45 yX5_intAt ∈ TB := TB_of 777 (by decide +kernel) (by decide +kernel)
theorem lX6_257 : Cond.methodLink RX6 257 yX4_draw ∈ TB := TB_of 790 (by decide +kernel) (by decide +kernel)
theorem qX4_112 : Cond.constant RX4 112 (1103515245 : Int32) ∈ TB := TB_of 794 (by decide +kernel) (by decide +kernel)
theorem lX6_263 : Cond.methodLink RX6 263 yX0_forget ∈ TB := TB_of 803 (by decide +kernel) (by decide +kernel)
theorem lX6_266 : Cond.methodLink RX6 266 yX0_isMove ∈ TB := TB_of 807 (by decide +kernel) (by decide +kernel)
theorem lX6_269 : Cond.methodLink RX6 269 yX0_run ∈ TB := TB_of 810 (by decide +kernel) (by decide +kernel)
theorem lX0_32 : Cond.methodLink RX0 32 yX0_call ∈ TB := TB_of 814 (by decide +kernel) (by decide +kernel)
theorem sX0_39 : (RX0, 39, roC 0, roF 0, "[I", "ThirdEvening") ∈ NBf := by decide +kernel
theorem lX0_42 : Cond.methodLink RX0 42 yX0_bodyOf ∈ TB := TB_of 819 (by decide +kernel) (by decide +kernel)
theorem sX0_36 : Cond.fieldLink RX0 36 (roC 3) (roF 3) "[I" ∈ TB := TB_of 822 (by decide +kernel) (by decide +kernel)
theorem lX0_46 : (RX0, 46, yX6_kindAbove, RX6) ∈ NBm := by decide +kernel
theorem lX0_50 : Cond.methodLink RX0 50 yX0_note ∈ TB := TB_of 825 (by decide +kernel) (by decide +kernel)
theorem lX0_54 : Cond.methodLink RX0 54 yX0_perform ∈ TB := TB_of 829 (by decide +kernel) (by decide +kernel)
theorem lX6_273 : Cond.methodLink RX6 273 yX0_bodyAt ∈ TB := TB_of 837 (by decide +kernel) (by decide +kernel)
theorem lX6_282 : Cond.methodLink RX6 282 yX4_comingsTogether ∈ TB := TB_of 853 (by decide +kernel) (by decide +kernel)
theorem fX7_102 : FL RX7 7 0 102 false := ⟨_, rfl, by decide +kernel, by decide +kernel, by decide +kernel, TB_of 863 (by decide +kernel) (by decide +kernel)⟩
theorem fX7_7 : FL RX7 7 1 7 false := ⟨_, rfl, by decide +kernel, by decide +kernel, by decide +kernel, TB_of 864 (by decide +kernel) (by decide +kernel)⟩
theorem fX7_131 : FL RX7 7 2 131 false := ⟨_, rfl, by decide +kernel, by decide +kernel, by decide +kernel, TB_of 865 (by decide +kernel) (by decide +kernel)⟩
theorem fX7_13 : FL RX7 7 3 13 false := ⟨_, rfl, by decide +kernel, by decide +kernel, by decide +kernel, TB_of 866 (by decide +kernel) (by decide +kernel)⟩
theorem fX7_16 : FL RX7 7 4 16 false := ⟨_, rfl, by decide +kernel, by decide +kernel, by decide +kernel, TB_of 867 (by decide +kernel) (by decide +kernel)⟩
theorem fX7_183 : FL RX7 7 5 183 false := ⟨_, rfl, by decide +kernel, by decide +kernel, by decide +kernel, TB_of 868 (by decide +kernel) (by decide +kernel)⟩
theorem fX7_19 : FL RX7 7 6 19 false := ⟨_, rfl, by decide +kernel, by decide +kernel, by decide +kernel, TB_of 869 (by decide +kernel) (by decide +kernel)⟩
theorem fX7_22 : FL RX7 7 7 22 false := ⟨_, rfl, by decide +kernel, by decide +kernel, by decide +kernel, TB_of 870 (by decide +kernel) (by decide +kernel)⟩
theorem fX7_25 : FL RX7 7 8 25 true := ⟨_, rfl, by decide +kernel, by decide +kernel, by decide +kernel, TB_of 871 (by decide +kernel) (by decide +kernel)⟩
theorem fX7_29 : FL RX7 7 9 29 true := ⟨_, rfl, by decide +kernel, by decide +kernel, by decide +kernel, TB_of 872 (by decide +kernel) (by decide +kernel)⟩
theorem fX7_32 : FL RX7 7 10 32 true := ⟨_, rfl, by decide +kernel, by decide +kernel, by decide +kernel, TB_of 873 (by decide +kernel) (by decide +kernel)⟩
theorem fX7_35 : FL RX7 7 11 35 true := ⟨_, rfl, by decide +kernel, by decide +kernel, by decide +kernel, TB_of 874 (by decide +kernel) (by decide +kernel)⟩
theorem fX7_38 : FL RX7 7 12 38 true := ⟨_, rfl, by decide +kernel, by decide +kernel, by decide +kernel, TB_of 875 (by decide +kernel) (by decide +kernel)⟩
theorem fX7_41 : FL RX7 7 13 41 true := ⟨_, rfl, by decide +kernel, by decide +kernel, by decide +kernel, TB_of 876 (by decide +kernel) (by decide +kernel)⟩
theorem fX7_44 : FL RX7 7 14 44 true := ⟨_, rfl, by decide +kernel, by decide +kernel, by decide +kernel, TB_of 877 (by decide +kernel) (by decide +kernel)⟩
theorem fX7_47 : FL RX7 7 15 47 true := ⟨_, rfl, by decide +kernel, by decide +kernel, by decide +kernel, TB_of 878 (by decide +kernel) (by decide +kernel)⟩
theorem fX7_50 : FL RX7 7 16 50 true := ⟨_, rfl, by decide +kernel, by decide +kernel, by decide +kernel, TB_of 879 (by decide +kernel) (by decide +kernel)⟩
theorem fX7_53 : FL RX7 7 17 53 true := ⟨_, rfl, by decide +kernel, by decide +kernel, by decide +kernel, TB_of 880 (by decide +kernel) (by decide +kernel)⟩
theorem fX7_56 : FL RX7 7 18 56 true := ⟨_, rfl, by decide +kernel, by decide +kernel, by decide +kernel, TB_of 881 (by decide +kernel) (by decide +kernel)⟩
theorem fX7_59 : FL RX7 7 19 59 true := ⟨_, rfl, by decide +kernel, by decide +kernel, by decide +kernel, TB_of 882 (by decide +kernel) (by decide +kernel)⟩
theorem fX7_62 : FL RX7 7 20 62 true := ⟨_, rfl, by decide +kernel, by decide +kernel, by decide +kernel, TB_of 883 (by decide +kernel) (by decide +kernel)⟩
theorem fX7_65 : FL RX7 7 21 65 true := ⟨_, rfl, by decide +kernel, by decide +kernel, by decide +kernel, TB_of 884 (by decide +kernel) (by decide +kernel)⟩
theorem fX7_68 : FL RX7 7 22 68 true := ⟨_, rfl, by decide +kernel, by decide +kernel, by decide +kernel, TB_of 885 (by decide +kernel) (by decide +kernel)⟩
theorem fX7_72 : FL RX7 7 23 72 true := ⟨_, rfl, by decide +kernel, by decide +kernel, by decide +kernel, TB_of 886 (by decide +kernel) (by decide +kernel)⟩
theorem fX7_75 : FL RX7 7 24 75 true := ⟨_, rfl, by decide +kernel, by decide +kernel, by decide +kernel, TB_of 887 (by decide +kernel) (by decide +kernel)⟩
theorem fX7_78 : FL RX7 7 25 78 true := ⟨_, rfl, by decide +kernel, by decide +kernel, by decide +kernel, TB_of 888 (by decide +kernel) (by decide +kernel)⟩
theorem fX7_81 : FL RX7 7 26 81 true := ⟨_, rfl, by decide +kernel, by decide +kernel, by decide +kernel, TB_of 889 (by decide +kernel) (by decide +kernel)⟩
theorem fX7_84 : FL RX7 7 27 84 true := ⟨_, rfl, by decide +kernel, by decide +kernel, by decide +kernel, TB_of 890 (by decide +kernel) (by decide +kernel)⟩
theorem fX7_144 : FL RX7 7 28 144 false := ⟨_, rfl, by decide +kernel, by decide +kernel, by decide +kernel, TB_of 891 (by decide +kernel) (by decide +kernel)⟩
theorem fX7_147 : FL RX7 7 29 147 false := ⟨_, rfl, by decide +kernel, by decide +kernel, by decide +kernel, TB_of 892 (by decide +kernel) (by decide +kernel)⟩
theorem fX7_150 : FL RX7 7 30 150 false := ⟨_, rfl, by decide +kernel, by decide +kernel, by decide +kernel, TB_of 893 (by decide +kernel) (by decide +kernel)⟩
theorem fX7_156 : FL RX7 7 31 156 false := ⟨_, rfl, by decide +kernel, by decide +kernel, by decide +kernel, TB_of 894 (by decide +kernel) (by decide +kernel)⟩
theorem fX7_141 : FL RX7 7 32 141 false := ⟨_, rfl, by decide +kernel, by decide +kernel, by decide +kernel, TB_of 895 (by decide +kernel) (by decide +kernel)⟩
theorem fX7_87 : FL RX7 7 33 87 true := ⟨_, rfl, by decide +kernel, by decide +kernel, by decide +kernel, TB_of 896 (by decide +kernel) (by decide +kernel)⟩
theorem fX7_90 : FL RX7 7 34 90 true := ⟨_, rfl, by decide +kernel, by decide +kernel, by decide +kernel, TB_of 897 (by decide +kernel) (by decide +kernel)⟩
theorem fX7_93 : FL RX7 7 35 93 true := ⟨_, rfl, by decide +kernel, by decide +kernel, by decide +kernel, TB_of 898 (by decide +kernel) (by decide +kernel)⟩
theorem fX7_199 : FL RX7 7 36 199 false := ⟨_, rfl, by decide +kernel, by decide +kernel, by decide +kernel, TB_of 899 (by decide +kernel) (by decide +kernel)⟩
theorem fX7_205 : FL RX7 7 37 205 false := ⟨_, rfl, by decide +kernel, by decide +kernel, by decide +kernel, TB_of 900 (by decide +kernel) (by decide +kernel)⟩
theorem fX7_208 : FL RX7 7 38 208 false := ⟨_, rfl, by decide +kernel, by decide +kernel, by decide +kernel, TB_of 901 (by decide +kernel) (by decide +kernel)⟩
theorem fX7_211 : FL RX7 7 39 211 false := ⟨_, rfl, by decide +kernel, by decide +kernel, by decide +kernel, TB_of 902 (by decide +kernel) (by decide +kernel)⟩
theorem fX7_236 : FL RX7 7 40 236 false := ⟨_, rfl, by decide +kernel, by decide +kernel, by decide +kernel, TB_of 903 (by decide +kernel) (by decide +kernel)⟩
theorem fX7_218 : FL RX7 7 41 218 false := ⟨_, rfl, by decide +kernel, by decide +kernel, by decide +kernel, TB_of 904 (by decide +kernel) (by decide +kernel)⟩
theorem fX7_221 : FL RX7 7 42 221 false := ⟨_, rfl, by decide +kernel, by decide +kernel, by decide +kernel, TB_of 905 (by decide +kernel) (by decide +kernel)⟩
theorem fX7_224 : FL RX7 7 43 224 false := ⟨_, rfl, by decide +kernel, by decide +kernel, by decide +kernel, TB_of 906 (by decide +kernel) (by decide +kernel)⟩
theorem fX7_227 : FL RX7 7 44 227 false := ⟨_, rfl, by decide +kernel, by decide +kernel, by decide +kernel, TB_of 907 (by decide +kernel) (by decide +kernel)⟩
theorem fX7_239 : FL RX7 7 45 239 false := ⟨_, rfl, by decide +kernel, by decide +kernel, by decide +kernel, TB_of 908 (by decide +kernel) (by decide +kernel)⟩
theorem fX7_96 : FL RX7 7 46 96 true := ⟨_, rfl, by decide +kernel, by decide +kernel, by decide +kernel, TB_of 909 (by decide +kernel) (by decide +kernel)⟩
theorem fX7_99 : FL RX7 7 47 99 true := ⟨_, rfl, by decide +kernel, by decide +kernel, by decide +kernel, TB_of 910 (by decide +kernel) (by decide +kernel)⟩
theorem fX7_271 : FL RX7 7 48 271 false := ⟨_, rfl, by decide +kernel, by decide +kernel, by decide +kernel, TB_of 911 (by decide +kernel) (by decide +kernel)⟩
theorem fX7_285 : FL RX7 7 49 285 false := ⟨_, rfl, by decide +kernel, by decide +kernel, by decide +kernel, TB_of 912 (by decide +kernel) (by decide +kernel)⟩
theorem lX7_105 : Cond.methodLink RX7 105 yX7_isShelf ∈ TB := TB_of 1018 (by decide +kernel) (by decide +kernel)
theorem lX7_109 : Cond.methodLink RX7 109 yX7_no ∈ TB := TB_of 1022 (by decide +kernel) (by decide +kernel)
theorem lX7_113 : Cond.methodLink RX7 113 yX7_isOne ∈ TB := TB_of 1042 (by decide +kernel) (by decide +kernel)
theorem lX7_116 : Cond.methodLink RX7 116 yX7_isUnder ∈ TB := TB_of 1054 (by decide +kernel) (by decide +kernel)
theorem lX7_120 : Cond.methodLink RX7 120 yX7_isFrom ∈ TB := TB_of 1062 (by decide +kernel) (by decide +kernel)
theorem lX7_124 : Cond.methodLink RX7 124 yX7_adds ∈ TB := TB_of 1066 (by decide +kernel) (by decide +kernel)
theorem lX7_128 : Cond.methodLink RX7 128 yX7_noTen ∈ TB := TB_of 1074 (by decide +kernel) (by decide +kernel)
theorem lX7_134 : Cond.methodLink RX7 134 yX7_isAsked ∈ TB := TB_of 1082 (by decide +kernel) (by decide +kernel)
theorem lX7_137 : Cond.methodLink RX7 137 yX7_asks ∈ TB := TB_of 1086 (by decide +kernel) (by decide +kernel)
theorem lX7_186 : Cond.methodLink RX7 186 yX7_wanted ∈ TB := TB_of 1102 (by decide +kernel) (by decide +kernel)
theorem lX7_189 : Cond.methodLink RX7 189 yX7_all ∈ TB := TB_of 1106 (by decide +kernel) (by decide +kernel)
theorem lX7_179 : Cond.methodLink RX7 179 yX7_carries ∈ TB := TB_of 1110 (by decide +kernel) (by decide +kernel)
theorem lX7_193 : Cond.methodLink RX7 193 yX7_item ∈ TB := TB_of 1114 (by decide +kernel) (by decide +kernel)
theorem lX7_166 : Cond.methodLink RX7 166 yX7_isPerson ∈ TB := TB_of 1118 (by decide +kernel) (by decide +kernel)
theorem lX7_153 : Cond.methodLink RX7 153 yX7_sign ∈ TB := TB_of 1122 (by decide +kernel) (by decide +kernel)
theorem lX7_163 : Cond.methodLink RX7 163 yX7_wrong ∈ TB := TB_of 1126 (by decide +kernel) (by decide +kernel)
theorem lX7_169 : Cond.methodLink RX7 169 yX7_word ∈ TB := TB_of 1130 (by decide +kernel) (by decide +kernel)
theorem lX7_173 : Cond.methodLink RX7 173 yX7_reads ∈ TB := TB_of 1134 (by decide +kernel) (by decide +kernel)
theorem lX7_159 : Cond.methodLink RX7 159 yX7_isDigit ∈ TB := TB_of 1138 (by decide +kernel) (by decide +kernel)
theorem lX7_176 : Cond.methodLink RX7 176 yX7_isSo ∈ TB := TB_of 1142 (by decide +kernel) (by decide +kernel)
theorem lX7_196 : Cond.methodLink RX7 196 yX7_wills ∈ TB := TB_of 1154 (by decide +kernel) (by decide +kernel)
theorem lX7_214 : Cond.methodLink RX7 214 yX7_comes ∈ TB := TB_of 1162 (by decide +kernel) (by decide +kernel)
theorem lX7_202 : Cond.methodLink RX7 202 yX7_stillComes ∈ TB := TB_of 1166 (by decide +kernel) (by decide +kernel)
theorem lX7_242 : Cond.methodLink RX7 242 yX7_isMany ∈ TB := TB_of 1174 (by decide +kernel) (by decide +kernel)
theorem lX7_245 : Cond.methodLink RX7 245 yX7_runs ∈ TB := TB_of 1178 (by decide +kernel) (by decide +kernel)
theorem lX7_230 : Cond.methodLink RX7 230 yX7_passes ∈ TB := TB_of 1182 (by decide +kernel) (by decide +kernel)
theorem lX7_233 : Cond.methodLink RX7 233 yX7_here ∈ TB := TB_of 1186 (by decide +kernel) (by decide +kernel)
theorem lX7_248 : Cond.methodLink RX7 248 yX7_bits ∈ TB := TB_of 1206 (by decide +kernel) (by decide +kernel)
theorem lX7_251 : Cond.methodLink RX7 251 yX7_satIfPaid ∈ TB := TB_of 1226 (by decide +kernel) (by decide +kernel)
theorem lX7_255 : Cond.methodLink RX7 255 yX7_holdsBack ∈ TB := TB_of 1234 (by decide +kernel) (by decide +kernel)
theorem lX7_261 : Cond.methodLink RX7 261 yX7_barsOf ∈ TB := TB_of 1254 (by decide +kernel) (by decide +kernel)
theorem lX7_264 : Cond.methodLink RX7 264 yX7_wrongIn ∈ TB := TB_of 1258 (by decide +kernel) (by decide +kernel)
theorem lX7_258 : Cond.methodLink RX7 258 yX7_intAt ∈ TB := TB_of 1262 (by decide +kernel) (by decide +kernel)
theorem lX7_268 : Cond.methodLink RX7 268 yX7_draw ∈ TB := TB_of 1278 (by decide +kernel) (by decide +kernel)
theorem qX7_267 : Cond.constant RX7 267 (1103515245 : Int32) ∈ TB := TB_of 1282 (by decide +kernel) (by decide +kernel)
theorem lX7_277 : Cond.methodLink RX7 277 yX7_coming ∈ TB := TB_of 1291 (by decide +kernel) (by decide +kernel)
theorem lX7_274 : Cond.methodLink RX7 274 yX7_body ∈ TB := TB_of 1295 (by decide +kernel) (by decide +kernel)
theorem lX7_279 : Cond.methodLink RX7 279 yX7_sitting ∈ TB := TB_of 1299 (by decide +kernel) (by decide +kernel)
theorem lX7_282 : Cond.methodLink RX7 282 yX7_asking ∈ TB := TB_of 1303 (by decide +kernel) (by decide +kernel)
theorem lX7_289 : Cond.methodLink RX7 289 yX7_together ∈ TB := TB_of 1323 (by decide +kernel) (by decide +kernel)
