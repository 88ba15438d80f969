abbrev cL_law : ByteArray := code
def yL_law : MethodName := ⟨RL, "law", "([I)Z"⟩
theorem wd_353 : (Cond.classLink "SpineTablesLaw" 8 "SpineTables") ∈ wU := mU (tin_1 _ (List.mem_of_getElem? (i := 22) rfl)) rfl
theorem wd_354 : (Cond.instantiable "SpineTables" 14) ∈ wU := mU (tin_1 _ (List.mem_of_getElem? (i := 23) rfl)) rfl
theorem wd_355 : (.code yX11_init cX11_init 1 none) ∈ wU := mU (tin_1 _ (List.mem_of_getElem? (i := 26) rfl)) rfl
theorem wd_356 : (Cond.methodLink "SpineTablesLaw" 65 yX11_init) ∈ wU := mU (tin_1 _ (List.mem_of_getElem? (i := 24) rfl)) rfl
theorem wd_357 : (Cond.instanceMethod yX11_init) ∈ wU := mU (tin_1 _ (List.mem_of_getElem? (i := 25) rfl)) rfl
theorem wd_358 : (Cond.classLink "SpineTablesLaw" 66 "SpineTablesModel") ∈ wU := mU (tin_6 _ (List.mem_of_getElem? (i := 117) rfl)) rfl
theorem wd_359 : (Cond.instantiable "SpineTablesModel" 46) ∈ wU := mU (tin_6 _ (List.mem_of_getElem? (i := 118) rfl)) rfl
theorem wd_360 : (.code yX12_init cX12_init 1 none) ∈ wU := mU (tin_6 _ (List.mem_of_getElem? (i := 121) rfl)) rfl
theorem wd_361 : (Cond.methodLink "SpineTablesLaw" 68 yX12_init) ∈ wU := mU (tin_6 _ (List.mem_of_getElem? (i := 119) rfl)) rfl
theorem wd_362 : (Cond.instanceMethod yX12_init) ∈ wU := mU (tin_6 _ (List.mem_of_getElem? (i := 120) rfl)) rfl
theorem wd_363 : (.code yX11_feed cX11_feed 6 (some .int)) ∈ wU := mU (tin_2 _ (List.mem_of_getElem? (i := 54) rfl)) rfl
theorem wd_364 : (Cond.selects "SpineTables" yX11_feed yX11_feed) ∈ wU := mU (tin_2 _ (List.mem_of_getElem? (i := 53) rfl)) rfl
theorem wd_365 : (Cond.methodLink "SpineTablesLaw" 69 yX11_feed) ∈ wU := mU (tin_2 _ (List.mem_of_getElem? (i := 51) rfl)) rfl
theorem wd_366 : (Cond.instanceMethod yX11_feed) ∈ wU := mU (tin_2 _ (List.mem_of_getElem? (i := 52) rfl)) rfl
theorem wd_367 : (.code yX12_feed cX12_feed 8 (some .int)) ∈ wU := mU (tin_7 _ (List.mem_of_getElem? (i := 30) rfl)) rfl
theorem wd_368 : (Cond.selects "SpineTablesModel" yX12_feed yX12_feed) ∈ wU := mU (tin_7 _ (List.mem_of_getElem? (i := 29) rfl)) rfl
theorem wd_369 : (Cond.methodLink "SpineTablesLaw" 73 yX12_feed) ∈ wU := mU (tin_7 _ (List.mem_of_getElem? (i := 27) rfl)) rfl
theorem wd_370 : (Cond.instanceMethod yX12_feed) ∈ wU := mU (tin_7 _ (List.mem_of_getElem? (i := 28) rfl)) rfl
theorem wd_371 : (.code yX11_cut cX11_cut 3 (some .int)) ∈ wU := mU (tin_2 _ (List.mem_of_getElem? (i := 62) rfl)) rfl
theorem wd_372 : (Cond.selects "SpineTables" yX11_cut yX11_cut) ∈ wU := mU (tin_2 _ (List.mem_of_getElem? (i := 61) rfl)) rfl
theorem wd_373 : (Cond.methodLink "SpineTablesLaw" 74 yX11_cut) ∈ wU := mU (tin_2 _ (List.mem_of_getElem? (i := 59) rfl)) rfl
theorem wd_374 : (Cond.instanceMethod yX11_cut) ∈ wU := mU (tin_2 _ (List.mem_of_getElem? (i := 60) rfl)) rfl
theorem wd_375 : (.code yX12_cut cX12_cut 3 (some .int)) ∈ wU := mU (tin_7 _ (List.mem_of_getElem? (i := 34) rfl)) rfl
theorem wd_376 : (Cond.selects "SpineTablesModel" yX12_cut yX12_cut) ∈ wU := mU (tin_7 _ (List.mem_of_getElem? (i := 33) rfl)) rfl
theorem wd_377 : (Cond.methodLink "SpineTablesLaw" 77 yX12_cut) ∈ wU := mU (tin_7 _ (List.mem_of_getElem? (i := 31) rfl)) rfl
theorem wd_378 : (Cond.instanceMethod yX12_cut) ∈ wU := mU (tin_7 _ (List.mem_of_getElem? (i := 32) rfl)) rfl
theorem wd_379 : (.code yX11_read cX11_read 5 (some .int)) ∈ wU := mU (tin_2 _ (List.mem_of_getElem? (i := 66) rfl)) rfl
theorem wd_380 : (Cond.selects "SpineTables" yX11_read yX11_read) ∈ wU := mU (tin_2 _ (List.mem_of_getElem? (i := 65) rfl)) rfl
theorem wd_381 : (Cond.methodLink "SpineTablesLaw" 78 yX11_read) ∈ wU := mU (tin_2 _ (List.mem_of_getElem? (i := 63) rfl)) rfl
theorem wd_382 : (Cond.instanceMethod yX11_read) ∈ wU := mU (tin_2 _ (List.mem_of_getElem? (i := 64) rfl)) rfl
theorem wd_383 : (.code yX12_read cX12_read 4 (some .int)) ∈ wU := mU (tin_7 _ (List.mem_of_getElem? (i := 38) rfl)) rfl
theorem wd_384 : (Cond.selects "SpineTablesModel" yX12_read yX12_read) ∈ wU := mU (tin_7 _ (List.mem_of_getElem? (i := 37) rfl)) rfl
theorem wd_385 : (Cond.methodLink "SpineTablesLaw" 82 yX12_read) ∈ wU := mU (tin_7 _ (List.mem_of_getElem? (i := 35) rfl)) rfl
theorem wd_386 : (Cond.instanceMethod yX12_read) ∈ wU := mU (tin_7 _ (List.mem_of_getElem? (i := 36) rfl)) rfl
theorem wd_387 : (.code yX11_fault cX11_fault 1 (some .int)) ∈ wU := mU (tin_4 _ (List.mem_of_getElem? (i := 127) rfl)) rfl
theorem wd_388 : (Cond.selects "SpineTables" yX11_fault yX11_fault) ∈ wU := mU (tin_4 _ (List.mem_of_getElem? (i := 126) rfl)) rfl
theorem wd_389 : (Cond.methodLink "SpineTablesLaw" 83 yX11_fault) ∈ wU := mU (tin_4 _ (List.mem_of_getElem? (i := 124) rfl)) rfl
theorem wd_390 : (Cond.instanceMethod yX11_fault) ∈ wU := mU (tin_4 _ (List.mem_of_getElem? (i := 125) rfl)) rfl
theorem wd_391 : (.code yX12_fault cX12_fault 1 (some .int)) ∈ wU := mU (tin_7 _ (List.mem_of_getElem? (i := 194) rfl)) rfl
theorem wd_392 : (Cond.selects "SpineTablesModel" yX12_fault yX12_fault) ∈ wU := mU (tin_7 _ (List.mem_of_getElem? (i := 193) rfl)) rfl
theorem wd_393 : (Cond.methodLink "SpineTablesLaw" 86 yX12_fault) ∈ wU := mU (tin_7 _ (List.mem_of_getElem? (i := 191) rfl)) rfl
theorem wd_394 : (Cond.instanceMethod yX12_fault) ∈ wU := mU (tin_7 _ (List.mem_of_getElem? (i := 192) rfl)) rfl
theorem wd_395 : (.codeWith yL_drop cL_drop 4 (some .int) [(0, 9, 12, 13)]) ∈ wU := mU (tin_4 _ (List.mem_of_getElem? (i := 134) rfl)) rfl
theorem wd_396 : (Cond.static yL_drop) ∈ wU := mU (tin_4 _ (List.mem_of_getElem? (i := 133) rfl)) rfl
theorem wd_397 : (Cond.methodLink "SpineTablesLaw" 87 yL_drop) ∈ wU := mU (tin_4 _ (List.mem_of_getElem? (i := 132) rfl)) rfl
theorem wd_398 : (Cond.initialized "SpineTablesLaw") ∈ wU := mU (tin_1 _ (List.mem_of_getElem? (i := 0) rfl)) rfl
theorem wd_399 : (.code yX12_drop cX12_drop 2 (some .int)) ∈ wU := mU (tin_7 _ (List.mem_of_getElem? (i := 198) rfl)) rfl
theorem wd_400 : (Cond.selects "SpineTablesModel" yX12_drop yX12_drop) ∈ wU := mU (tin_7 _ (List.mem_of_getElem? (i := 197) rfl)) rfl
theorem wd_401 : (Cond.methodLink "SpineTablesLaw" 92 yX12_drop) ∈ wU := mU (tin_7 _ (List.mem_of_getElem? (i := 195) rfl)) rfl
theorem wd_402 : (Cond.instanceMethod yX12_drop) ∈ wU := mU (tin_7 _ (List.mem_of_getElem? (i := 196) rfl)) rfl
theorem wd_403 : (.code yX12_thrown cX12_thrown 1 (some .int)) ∈ wU := mU (tin_7 _ (List.mem_of_getElem? (i := 26) rfl)) rfl
theorem wd_404 : (Cond.selects "SpineTablesModel" yX12_thrown yX12_thrown) ∈ wU := mU (tin_7 _ (List.mem_of_getElem? (i := 25) rfl)) rfl
theorem wd_405 : (Cond.methodLink "SpineTablesLaw" 93 yX12_thrown) ∈ wU := mU (tin_7 _ (List.mem_of_getElem? (i := 23) rfl)) rfl
theorem wd_406 : (Cond.instanceMethod yX12_thrown) ∈ wU := mU (tin_7 _ (List.mem_of_getElem? (i := 24) rfl)) rfl
theorem wd_407 : (.codeWith yL_told cL_told 5 (some .int) [(0, 10, 13, 13), (0, 10, 17, 19)]) ∈ wU := mU (tin_4 _ (List.mem_of_getElem? (i := 213) rfl)) rfl
theorem wd_408 : (Cond.static yL_told) ∈ wU := mU (tin_4 _ (List.mem_of_getElem? (i := 212) rfl)) rfl
theorem wd_409 : (Cond.methodLink "SpineTablesLaw" 96 yL_told) ∈ wU := mU (tin_4 _ (List.mem_of_getElem? (i := 211) rfl)) rfl
theorem wd_410 : (.code yX12_told cX12_told 6 (some .int)) ∈ wU := mU (tin_7 _ (List.mem_of_getElem? (i := 210) rfl)) rfl
theorem wd_411 : (Cond.selects "SpineTablesModel" yX12_told yX12_told) ∈ wU := mU (tin_7 _ (List.mem_of_getElem? (i := 209) rfl)) rfl
theorem wd_412 : (Cond.methodLink "SpineTablesLaw" 99 yX12_told) ∈ wU := mU (tin_7 _ (List.mem_of_getElem? (i := 207) rfl)) rfl
theorem wd_413 : (Cond.instanceMethod yX12_told) ∈ wU := mU (tin_7 _ (List.mem_of_getElem? (i := 208) rfl)) rfl
theorem wd_414 : (.codeWith yL_row cL_row 6 (some .int) [(0, 12, 15, 13), (0, 12, 19, 19)]) ∈ wU := mU (tin_5 _ (List.mem_of_getElem? (i := 5) rfl)) rfl
theorem wd_415 : (Cond.static yL_row) ∈ wU := mU (tin_5 _ (List.mem_of_getElem? (i := 4) rfl)) rfl
theorem wd_416 : (Cond.methodLink "SpineTablesLaw" 100 yL_row) ∈ wU := mU (tin_5 _ (List.mem_of_getElem? (i := 3) rfl)) rfl
theorem wd_417 : (.code yX12_row cX12_row 4 (some .int)) ∈ wU := mU (tin_7 _ (List.mem_of_getElem? (i := 221) rfl)) rfl
theorem wd_418 : (Cond.selects "SpineTablesModel" yX12_row yX12_row) ∈ wU := mU (tin_7 _ (List.mem_of_getElem? (i := 220) rfl)) rfl
theorem wd_419 : (Cond.methodLink "SpineTablesLaw" 103 yX12_row) ∈ wU := mU (tin_7 _ (List.mem_of_getElem? (i := 218) rfl)) rfl
theorem wd_420 : (Cond.instanceMethod yX12_row) ∈ wU := mU (tin_7 _ (List.mem_of_getElem? (i := 219) rfl)) rfl
theorem wd_421 : (.codeWith yL_strand cL_strand 7 (some .int) [(0, 14, 17, 13), (0, 14, 21, 19)]) ∈ wU := mU (tin_5 _ (List.mem_of_getElem? (i := 22) rfl)) rfl
theorem wd_422 : (Cond.static yL_strand) ∈ wU := mU (tin_5 _ (List.mem_of_getElem? (i := 21) rfl)) rfl
theorem wd_423 : (Cond.methodLink "SpineTablesLaw" 104 yL_strand) ∈ wU := mU (tin_5 _ (List.mem_of_getElem? (i := 20) rfl)) rfl
theorem wd_424 : (.code yX12_strand cX12_strand 6 (some .int)) ∈ wU := mU (tin_7 _ (List.mem_of_getElem? (i := 229) rfl)) rfl
theorem wd_425 : (Cond.selects "SpineTablesModel" yX12_strand yX12_strand) ∈ wU := mU (tin_7 _ (List.mem_of_getElem? (i := 228) rfl)) rfl
theorem wd_426 : (Cond.methodLink "SpineTablesLaw" 107 yX12_strand) ∈ wU := mU (tin_7 _ (List.mem_of_getElem? (i := 226) rfl)) rfl
theorem wd_427 : (Cond.instanceMethod yX12_strand) ∈ wU := mU (tin_7 _ (List.mem_of_getElem? (i := 227) rfl)) rfl
theorem wd_428 : (.codeWith yL_kind cL_kind 6 (some .int) [(0, 12, 15, 13)]) ∈ wU := mU (tin_5 _ (List.mem_of_getElem? (i := 41) rfl)) rfl
theorem wd_429 : (Cond.static yL_kind) ∈ wU := mU (tin_5 _ (List.mem_of_getElem? (i := 40) rfl)) rfl
theorem wd_430 : (Cond.methodLink "SpineTablesLaw" 108 yL_kind) ∈ wU := mU (tin_5 _ (List.mem_of_getElem? (i := 39) rfl)) rfl
theorem wd_431 : (.code yX12_kind cX12_kind 9 (some .int)) ∈ wU := mU (tin_7 _ (List.mem_of_getElem? (i := 237) rfl)) rfl
theorem wd_432 : (Cond.selects "SpineTablesModel" yX12_kind yX12_kind) ∈ wU := mU (tin_7 _ (List.mem_of_getElem? (i := 236) rfl)) rfl
theorem wd_433 : (Cond.methodLink "SpineTablesLaw" 110 yX12_kind) ∈ wU := mU (tin_7 _ (List.mem_of_getElem? (i := 234) rfl)) rfl
theorem wd_434 : (Cond.instanceMethod yX12_kind) ∈ wU := mU (tin_7 _ (List.mem_of_getElem? (i := 235) rfl)) rfl
theorem wd_435 : (.codeWith yL_token cL_token 7 (some .int) [(0, 14, 17, 13)]) ∈ wU := mU (tin_5 _ (List.mem_of_getElem? (i := 57) rfl)) rfl
theorem wd_436 : (Cond.static yL_token) ∈ wU := mU (tin_5 _ (List.mem_of_getElem? (i := 56) rfl)) rfl
theorem wd_437 : (Cond.methodLink "SpineTablesLaw" 111 yL_token) ∈ wU := mU (tin_5 _ (List.mem_of_getElem? (i := 55) rfl)) rfl
theorem wd_438 : (.code yX12_token cX12_token 8 (some .int)) ∈ wU := mU (tin_8 _ (List.mem_of_getElem? (i := 2) rfl)) rfl
theorem wd_439 : (Cond.selects "SpineTablesModel" yX12_token yX12_token) ∈ wU := mU (tin_8 _ (List.mem_of_getElem? (i := 1) rfl)) rfl
theorem wd_440 : (Cond.methodLink "SpineTablesLaw" 113 yX12_token) ∈ wU := mU (tin_7 _ (List.mem_of_getElem? (i := 239) rfl)) rfl
theorem wd_441 : (Cond.instanceMethod yX12_token) ∈ wU := mU (tin_8 _ (List.mem_of_getElem? (i := 0) rfl)) rfl
theorem wd_442 : (.codeWith yL_walk cL_walk 4 (some .int) [(0, 9, 12, 13)]) ∈ wU := mU (tin_5 _ (List.mem_of_getElem? (i := 76) rfl)) rfl
theorem wd_443 : (Cond.static yL_walk) ∈ wU := mU (tin_5 _ (List.mem_of_getElem? (i := 75) rfl)) rfl
theorem wd_444 : (Cond.methodLink "SpineTablesLaw" 114 yL_walk) ∈ wU := mU (tin_5 _ (List.mem_of_getElem? (i := 74) rfl)) rfl
theorem wd_445 : (.code yX12_walk cX12_walk 2 (some .int)) ∈ wU := mU (tin_8 _ (List.mem_of_getElem? (i := 6) rfl)) rfl
theorem wd_446 : (Cond.selects "SpineTablesModel" yX12_walk yX12_walk) ∈ wU := mU (tin_8 _ (List.mem_of_getElem? (i := 5) rfl)) rfl
theorem wd_447 : (Cond.methodLink "SpineTablesLaw" 116 yX12_walk) ∈ wU := mU (tin_8 _ (List.mem_of_getElem? (i := 3) rfl)) rfl
theorem wd_448 : (Cond.instanceMethod yX12_walk) ∈ wU := mU (tin_8 _ (List.mem_of_getElem? (i := 4) rfl)) rfl
theorem wd_449 : (.codeWith yL_misfit cL_misfit 4 (some .int) [(0, 9, 12, 13)]) ∈ wU := mU (tin_5 _ (List.mem_of_getElem? (i := 83) rfl)) rfl
theorem wd_450 : (Cond.static yL_misfit) ∈ wU := mU (tin_5 _ (List.mem_of_getElem? (i := 82) rfl)) rfl
theorem wd_451 : (Cond.methodLink "SpineTablesLaw" 117 yL_misfit) ∈ wU := mU (tin_5 _ (List.mem_of_getElem? (i := 81) rfl)) rfl
theorem wd_452 : (.code yX12_misfit_ cX12_misfit_ 2 (some .int)) ∈ wU := mU (tin_8 _ (List.mem_of_getElem? (i := 10) rfl)) rfl
theorem wd_453 : (Cond.selects "SpineTablesModel" yX12_misfit_ yX12_misfit_) ∈ wU := mU (tin_8 _ (List.mem_of_getElem? (i := 9) rfl)) rfl
theorem wd_454 : (Cond.methodLink "SpineTablesLaw" 119 yX12_misfit_) ∈ wU := mU (tin_8 _ (List.mem_of_getElem? (i := 7) rfl)) rfl
theorem wd_455 : (Cond.instanceMethod yX12_misfit_) ∈ wU := mU (tin_8 _ (List.mem_of_getElem? (i := 8) rfl)) rfl
theorem wd_456 : (.codeWith yL_time cL_time 6 (some .int) [(0, 12, 15, 13), (0, 12, 19, 19), (0, 12, 23, 44)]) ∈ wU := mU (tin_5 _ (List.mem_of_getElem? (i := 90) rfl)) rfl
theorem wd_457 : (Cond.static yL_time) ∈ wU := mU (tin_5 _ (List.mem_of_getElem? (i := 89) rfl)) rfl
theorem wd_458 : (Cond.methodLink "SpineTablesLaw" 120 yL_time) ∈ wU := mU (tin_5 _ (List.mem_of_getElem? (i := 88) rfl)) rfl
theorem wd_459 : (.code yX12_time cX12_time 4 (some .int)) ∈ wU := mU (tin_8 _ (List.mem_of_getElem? (i := 14) rfl)) rfl
theorem wd_460 : (Cond.selects "SpineTablesModel" yX12_time yX12_time) ∈ wU := mU (tin_8 _ (List.mem_of_getElem? (i := 13) rfl)) rfl
theorem wd_461 : (Cond.methodLink "SpineTablesLaw" 122 yX12_time) ∈ wU := mU (tin_8 _ (List.mem_of_getElem? (i := 11) rfl)) rfl
theorem wd_462 : (Cond.instanceMethod yX12_time) ∈ wU := mU (tin_8 _ (List.mem_of_getElem? (i := 12) rfl)) rfl
theorem wd_463 : (.codeWith yL_length cL_length 7 (some .int) [(0, 14, 17, 13), (0, 14, 21, 19), (0, 14, 25, 44)]) ∈ wU := mU (tin_5 _ (List.mem_of_getElem? (i := 125) rfl)) rfl
theorem wd_464 : (Cond.static yL_length) ∈ wU := mU (tin_5 _ (List.mem_of_getElem? (i := 124) rfl)) rfl
theorem wd_465 : (Cond.methodLink "SpineTablesLaw" 123 yL_length) ∈ wU := mU (tin_5 _ (List.mem_of_getElem? (i := 123) rfl)) rfl
theorem wd_466 : (.code yX12_length cX12_length 6 (some .int)) ∈ wU := mU (tin_8 _ (List.mem_of_getElem? (i := 18) rfl)) rfl
theorem wd_467 : (Cond.selects "SpineTablesModel" yX12_length yX12_length) ∈ wU := mU (tin_8 _ (List.mem_of_getElem? (i := 17) rfl)) rfl
theorem wd_468 : (Cond.methodLink "SpineTablesLaw" 125 yX12_length) ∈ wU := mU (tin_8 _ (List.mem_of_getElem? (i := 15) rfl)) rfl
theorem wd_469 : (Cond.instanceMethod yX12_length) ∈ wU := mU (tin_8 _ (List.mem_of_getElem? (i := 16) rfl)) rfl
theorem wd_470 : (.codeWith yL_bars cL_bars 4 (some .int) [(0, 9, 12, 13), (0, 9, 15, 44)]) ∈ wU := mU (tin_5 _ (List.mem_of_getElem? (i := 135) rfl)) rfl
theorem wd_471 : (Cond.static yL_bars) ∈ wU := mU (tin_5 _ (List.mem_of_getElem? (i := 134) rfl)) rfl
theorem wd_472 : (Cond.methodLink "SpineTablesLaw" 126 yL_bars) ∈ wU := mU (tin_5 _ (List.mem_of_getElem? (i := 133) rfl)) rfl
theorem wd_473 : (.code yX12_bars cX12_bars 21 (some .int)) ∈ wU := mU (tin_8 _ (List.mem_of_getElem? (i := 22) rfl)) rfl
theorem wd_474 : (Cond.selects "SpineTablesModel" yX12_bars yX12_bars) ∈ wU := mU (tin_8 _ (List.mem_of_getElem? (i := 21) rfl)) rfl
theorem wd_475 : (Cond.methodLink "SpineTablesLaw" 128 yX12_bars) ∈ wU := mU (tin_8 _ (List.mem_of_getElem? (i := 19) rfl)) rfl
theorem wd_476 : (Cond.instanceMethod yX12_bars) ∈ wU := mU (tin_8 _ (List.mem_of_getElem? (i := 20) rfl)) rfl
theorem wd_477 : (.codeWith yL_extract cL_extract 4 (some .int) [(0, 9, 12, 13)]) ∈ wU := mU (tin_5 _ (List.mem_of_getElem? (i := 168) rfl)) rfl
theorem wd_478 : (Cond.static yL_extract) ∈ wU := mU (tin_5 _ (List.mem_of_getElem? (i := 167) rfl)) rfl
theorem wd_479 : (Cond.methodLink "SpineTablesLaw" 129 yL_extract) ∈ wU := mU (tin_5 _ (List.mem_of_getElem? (i := 166) rfl)) rfl
theorem wd_480 : (.code yX12_extract cX12_extract 10 (some .int)) ∈ wU := mU (tin_8 _ (List.mem_of_getElem? (i := 30) rfl)) rfl
theorem wd_481 : (Cond.selects "SpineTablesModel" yX12_extract yX12_extract) ∈ wU := mU (tin_8 _ (List.mem_of_getElem? (i := 29) rfl)) rfl
theorem wd_482 : (Cond.methodLink "SpineTablesLaw" 131 yX12_extract) ∈ wU := mU (tin_8 _ (List.mem_of_getElem? (i := 27) rfl)) rfl
theorem wd_483 : (Cond.instanceMethod yX12_extract) ∈ wU := mU (tin_8 _ (List.mem_of_getElem? (i := 28) rfl)) rfl
theorem wd_484 : (.codeWith yL_assemble cL_assemble 5 (some .int) [(0, 10, 13, 13)]) ∈ wU := mU (tin_5 _ (List.mem_of_getElem? (i := 235) rfl)) rfl
theorem wd_485 : (Cond.static yL_assemble) ∈ wU := mU (tin_5 _ (List.mem_of_getElem? (i := 234) rfl)) rfl
theorem wd_486 : (Cond.methodLink "SpineTablesLaw" 132 yL_assemble) ∈ wU := mU (tin_5 _ (List.mem_of_getElem? (i := 233) rfl)) rfl
theorem wd_487 : (.code yX12_assemble cX12_assemble 13 (some .int)) ∈ wU := mU (tin_8 _ (List.mem_of_getElem? (i := 54) rfl)) rfl
theorem wd_488 : (Cond.selects "SpineTablesModel" yX12_assemble yX12_assemble) ∈ wU := mU (tin_8 _ (List.mem_of_getElem? (i := 53) rfl)) rfl
theorem wd_489 : (Cond.methodLink "SpineTablesLaw" 134 yX12_assemble) ∈ wU := mU (tin_8 _ (List.mem_of_getElem? (i := 51) rfl)) rfl
theorem wd_490 : (Cond.instanceMethod yX12_assemble) ∈ wU := mU (tin_8 _ (List.mem_of_getElem? (i := 52) rfl)) rfl
theorem wd_491 : (.codeWith yL_same cL_same 5 (some .int) [(0, 17, 20, 13)]) ∈ wU := mU (tin_6 _ (List.mem_of_getElem? (i := 96) rfl)) rfl
theorem wd_492 : (Cond.static yL_same) ∈ wU := mU (tin_6 _ (List.mem_of_getElem? (i := 95) rfl)) rfl
theorem wd_493 : (Cond.methodLink "SpineTablesLaw" 135 yL_same) ∈ wU := mU (tin_6 _ (List.mem_of_getElem? (i := 94) rfl)) rfl
theorem wd_494 : (.code yX12_same cX12_same 5 (some .boolean)) ∈ wU := mU (tin_8 _ (List.mem_of_getElem? (i := 82) rfl)) rfl
theorem wd_495 : (Cond.selects "SpineTablesModel" yX12_same yX12_same) ∈ wU := mU (tin_8 _ (List.mem_of_getElem? (i := 81) rfl)) rfl
theorem wd_496 : (Cond.methodLink "SpineTablesLaw" 137 yX12_same) ∈ wU := mU (tin_8 _ (List.mem_of_getElem? (i := 79) rfl)) rfl
theorem wd_497 : (Cond.instanceMethod yX12_same) ∈ wU := mU (tin_8 _ (List.mem_of_getElem? (i := 80) rfl)) rfl
theorem wd_498 : (.codeWith yL_write cL_write 4 (some .int) [(0, 9, 12, 13)]) ∈ wU := mU (tin_6 _ (List.mem_of_getElem? (i := 108) rfl)) rfl
theorem wd_499 : (Cond.static yL_write) ∈ wU := mU (tin_6 _ (List.mem_of_getElem? (i := 107) rfl)) rfl
theorem wd_500 : (Cond.methodLink "SpineTablesLaw" 138 yL_write) ∈ wU := mU (tin_6 _ (List.mem_of_getElem? (i := 106) rfl)) rfl
theorem wd_501 : (.code yX12_write cX12_write 3 (some .int)) ∈ wU := mU (tin_8 _ (List.mem_of_getElem? (i := 86) rfl)) rfl
theorem wd_502 : (Cond.selects "SpineTablesModel" yX12_write yX12_write) ∈ wU := mU (tin_8 _ (List.mem_of_getElem? (i := 85) rfl)) rfl
theorem wd_503 : (Cond.methodLink "SpineTablesLaw" 140 yX12_write) ∈ wU := mU (tin_8 _ (List.mem_of_getElem? (i := 83) rfl)) rfl
theorem wd_504 : (Cond.instanceMethod yX12_write) ∈ wU := mU (tin_8 _ (List.mem_of_getElem? (i := 84) rfl)) rfl
theorem wd_505 : (.code yX11_out cX11_out 2 (some .int)) ∈ wU := mU (tin_4 _ (List.mem_of_getElem? (i := 131) rfl)) rfl
theorem wd_506 : (Cond.selects "SpineTables" yX11_out yX11_out) ∈ wU := mU (tin_4 _ (List.mem_of_getElem? (i := 130) rfl)) rfl
theorem wd_507 : (Cond.methodLink "SpineTablesLaw" 141 yX11_out) ∈ wU := mU (tin_4 _ (List.mem_of_getElem? (i := 128) rfl)) rfl
theorem wd_508 : (Cond.instanceMethod yX11_out) ∈ wU := mU (tin_4 _ (List.mem_of_getElem? (i := 129) rfl)) rfl
theorem wd_509 : (.code yX12_out cX12_out 2 (some .int)) ∈ wU := mU (tin_8 _ (List.mem_of_getElem? (i := 90) rfl)) rfl
theorem wd_510 : (Cond.selects "SpineTablesModel" yX12_out yX12_out) ∈ wU := mU (tin_8 _ (List.mem_of_getElem? (i := 89) rfl)) rfl
theorem wd_511 : (Cond.methodLink "SpineTablesLaw" 144 yX12_out) ∈ wU := mU (tin_8 _ (List.mem_of_getElem? (i := 87) rfl)) rfl
theorem wd_512 : (Cond.instanceMethod yX12_out) ∈ wU := mU (tin_8 _ (List.mem_of_getElem? (i := 88) rfl)) rfl
theorem dL_law_0 : decode cL_law 0 = .ok (.new 8, 3) := by decide +kernel
theorem dL_law_3 : decode cL_law 3 = .ok (.dup, 1) := by decide +kernel
theorem dL_law_4 : decode cL_law 4 = .ok (.invokespecial 65, 3) := by decide +kernel
theorem dL_law_7 : decode cL_law 7 = .ok (.astore_n 1, 1) := by decide +kernel
theorem dL_law_8 : decode cL_law 8 = .ok (.new 66, 3) := by decide +kernel
theorem dL_law_11 : decode cL_law 11 = .ok (.dup, 1) := by decide +kernel
theorem dL_law_12 : decode cL_law 12 = .ok (.invokespecial 68, 3) := by decide +kernel
theorem dL_law_15 : decode cL_law 15 = .ok (.astore_n 2, 1) := by decide +kernel
theorem dL_law_16 : decode cL_law 16 = .ok (.iconst 1, 1) := by decide +kernel
theorem dL_law_17 : decode cL_law 17 = .ok (.newarray .long, 2) := by decide +kernel
theorem dL_law_19 : decode cL_law 19 = .ok (.astore_n 3, 1) := by decide +kernel
theorem dL_law_20 : decode cL_law 20 = .ok (.iconst 0, 1) := by decide +kernel
theorem dL_law_21 : decode cL_law 21 = .ok (.istore 4, 2) := by decide +kernel
theorem dL_law_23 : decode cL_law 23 = .ok (.iload 4, 2) := by decide +kernel
theorem dL_law_25 : decode cL_law 25 = .ok (.aload_n 0, 1) := by decide +kernel
theorem dL_law_26 : decode cL_law 26 = .ok (.arraylength, 1) := by decide +kernel
theorem dL_law_27 : decode cL_law 27 = .ok (.bipush 6, 2) := by decide +kernel
theorem dL_law_29 : decode cL_law 29 = .ok (.isub, 1) := by decide +kernel
theorem dL_law_30 : decode cL_law 30 = .ok (.if_icmp .gt 1324, 3) := by decide +kernel
theorem dL_law_33 : decode cL_law 33 = .ok (.aload_n 0, 1) := by decide +kernel
theorem dL_law_34 : decode cL_law 34 = .ok (.iload 4, 2) := by decide +kernel
theorem dL_law_36 : decode cL_law 36 = .ok (.iaload, 1) := by decide +kernel
theorem dL_law_37 : decode cL_law 37 = .ok (.bipush 31, 2) := by decide +kernel
theorem dL_law_39 : decode cL_law 39 = .ok (.iand, 1) := by decide +kernel
theorem dL_law_40 : decode cL_law 40 = .ok (.tableswitch 1308 0 19 #[96, 169, 194, 207, 220, 276, 344, 424, 516, 596, 688, 744, 800, 880, 972, 1028, 1084, 1152, 1227, 1283], 96) := by decide +kernel
theorem dL_law_136 : decode cL_law 136 = .ok (.aload_n 1, 1) := by decide +kernel
theorem dL_law_137 : decode cL_law 137 = .ok (.aload_n 0, 1) := by decide +kernel
theorem dL_law_138 : decode cL_law 138 = .ok (.iload 4, 2) := by decide +kernel
theorem dL_law_140 : decode cL_law 140 = .ok (.iconst 1, 1) := by decide +kernel
theorem dL_law_141 : decode cL_law 141 = .ok (.iadd, 1) := by decide +kernel
theorem dL_law_142 : decode cL_law 142 = .ok (.iaload, 1) := by decide +kernel
theorem dL_law_143 : decode cL_law 143 = .ok (.aload_n 0, 1) := by decide +kernel
theorem dL_law_144 : decode cL_law 144 = .ok (.iload 4, 2) := by decide +kernel
theorem dL_law_146 : decode cL_law 146 = .ok (.iconst 2, 1) := by decide +kernel
theorem dL_law_147 : decode cL_law 147 = .ok (.iadd, 1) := by decide +kernel
theorem dL_law_148 : decode cL_law 148 = .ok (.iaload, 1) := by decide +kernel
theorem dL_law_149 : decode cL_law 149 = .ok (.aload_n 0, 1) := by decide +kernel
theorem dL_law_150 : decode cL_law 150 = .ok (.iload 4, 2) := by decide +kernel
theorem dL_law_152 : decode cL_law 152 = .ok (.iconst 3, 1) := by decide +kernel
theorem dL_law_153 : decode cL_law 153 = .ok (.iadd, 1) := by decide +kernel
theorem dL_law_154 : decode cL_law 154 = .ok (.iaload, 1) := by decide +kernel
theorem dL_law_155 : decode cL_law 155 = .ok (.aload_n 0, 1) := by decide +kernel
theorem dL_law_156 : decode cL_law 156 = .ok (.iload 4, 2) := by decide +kernel
theorem dL_law_158 : decode cL_law 158 = .ok (.iconst 4, 1) := by decide +kernel
theorem dL_law_159 : decode cL_law 159 = .ok (.iadd, 1) := by decide +kernel
theorem dL_law_160 : decode cL_law 160 = .ok (.iaload, 1) := by decide +kernel
theorem dL_law_161 : decode cL_law 161 = .ok (.aload_n 0, 1) := by decide +kernel
theorem dL_law_162 : decode cL_law 162 = .ok (.iload 4, 2) := by decide +kernel
theorem dL_law_164 : decode cL_law 164 = .ok (.iconst 5, 1) := by decide +kernel
theorem dL_law_165 : decode cL_law 165 = .ok (.iadd, 1) := by decide +kernel
theorem dL_law_166 : decode cL_law 166 = .ok (.iaload, 1) := by decide +kernel
theorem dL_law_167 : decode cL_law 167 = .ok (.invokevirtual 69, 3) := by decide +kernel
theorem dL_law_170 : decode cL_law 170 = .ok (.aload_n 2, 1) := by decide +kernel
theorem dL_law_171 : decode cL_law 171 = .ok (.aload_n 0, 1) := by decide +kernel
theorem dL_law_172 : decode cL_law 172 = .ok (.iload 4, 2) := by decide +kernel
theorem dL_law_174 : decode cL_law 174 = .ok (.iconst 1, 1) := by decide +kernel
theorem dL_law_175 : decode cL_law 175 = .ok (.iadd, 1) := by decide +kernel
theorem dL_law_176 : decode cL_law 176 = .ok (.iaload, 1) := by decide +kernel
theorem dL_law_177 : decode cL_law 177 = .ok (.aload_n 0, 1) := by decide +kernel
theorem dL_law_178 : decode cL_law 178 = .ok (.iload 4, 2) := by decide +kernel
theorem dL_law_180 : decode cL_law 180 = .ok (.iconst 2, 1) := by decide +kernel
theorem dL_law_181 : decode cL_law 181 = .ok (.iadd, 1) := by decide +kernel
theorem dL_law_182 : decode cL_law 182 = .ok (.iaload, 1) := by decide +kernel
theorem dL_law_183 : decode cL_law 183 = .ok (.aload_n 0, 1) := by decide +kernel
theorem dL_law_184 : decode cL_law 184 = .ok (.iload 4, 2) := by decide +kernel
theorem dL_law_186 : decode cL_law 186 = .ok (.iconst 3, 1) := by decide +kernel
theorem dL_law_187 : decode cL_law 187 = .ok (.iadd, 1) := by decide +kernel
theorem dL_law_188 : decode cL_law 188 = .ok (.iaload, 1) := by decide +kernel
theorem dL_law_189 : decode cL_law 189 = .ok (.aload_n 0, 1) := by decide +kernel
theorem dL_law_190 : decode cL_law 190 = .ok (.iload 4, 2) := by decide +kernel
theorem dL_law_192 : decode cL_law 192 = .ok (.iconst 4, 1) := by decide +kernel
theorem dL_law_193 : decode cL_law 193 = .ok (.iadd, 1) := by decide +kernel
theorem dL_law_194 : decode cL_law 194 = .ok (.iaload, 1) := by decide +kernel
theorem dL_law_195 : decode cL_law 195 = .ok (.aload_n 0, 1) := by decide +kernel
theorem dL_law_196 : decode cL_law 196 = .ok (.iload 4, 2) := by decide +kernel
theorem dL_law_198 : decode cL_law 198 = .ok (.iconst 5, 1) := by decide +kernel
theorem dL_law_199 : decode cL_law 199 = .ok (.iadd, 1) := by decide +kernel
theorem dL_law_200 : decode cL_law 200 = .ok (.iaload, 1) := by decide +kernel
theorem dL_law_201 : decode cL_law 201 = .ok (.invokevirtual 73, 3) := by decide +kernel
theorem dL_law_204 : decode cL_law 204 = .ok (.if_icmp .eq 1144, 3) := by decide +kernel
theorem dL_law_209 : decode cL_law 209 = .ok (.aload_n 1, 1) := by decide +kernel
theorem dL_law_210 : decode cL_law 210 = .ok (.aload_n 0, 1) := by decide +kernel
theorem dL_law_211 : decode cL_law 211 = .ok (.iload 4, 2) := by decide +kernel
theorem dL_law_213 : decode cL_law 213 = .ok (.iconst 1, 1) := by decide +kernel
theorem dL_law_214 : decode cL_law 214 = .ok (.iadd, 1) := by decide +kernel
theorem dL_law_215 : decode cL_law 215 = .ok (.iaload, 1) := by decide +kernel
theorem dL_law_216 : decode cL_law 216 = .ok (.invokevirtual 74, 3) := by decide +kernel
theorem dL_law_219 : decode cL_law 219 = .ok (.aload_n 2, 1) := by decide +kernel
theorem dL_law_220 : decode cL_law 220 = .ok (.aload_n 0, 1) := by decide +kernel
theorem dL_law_221 : decode cL_law 221 = .ok (.iload 4, 2) := by decide +kernel
theorem dL_law_223 : decode cL_law 223 = .ok (.iconst 1, 1) := by decide +kernel
theorem dL_law_224 : decode cL_law 224 = .ok (.iadd, 1) := by decide +kernel
theorem dL_law_225 : decode cL_law 225 = .ok (.iaload, 1) := by decide +kernel
theorem dL_law_226 : decode cL_law 226 = .ok (.invokevirtual 77, 3) := by decide +kernel
theorem dL_law_229 : decode cL_law 229 = .ok (.if_icmp .eq 1119, 3) := by decide +kernel
theorem dL_law_234 : decode cL_law 234 = .ok (.aload_n 1, 1) := by decide +kernel
theorem dL_law_235 : decode cL_law 235 = .ok (.invokevirtual 78, 3) := by decide +kernel
theorem dL_law_238 : decode cL_law 238 = .ok (.aload_n 2, 1) := by decide +kernel
theorem dL_law_239 : decode cL_law 239 = .ok (.invokevirtual 82, 3) := by decide +kernel
theorem dL_law_242 : decode cL_law 242 = .ok (.if_icmp .eq 1106, 3) := by decide +kernel
theorem dL_law_247 : decode cL_law 247 = .ok (.aload_n 1, 1) := by decide +kernel
theorem dL_law_248 : decode cL_law 248 = .ok (.invokevirtual 83, 3) := by decide +kernel
theorem dL_law_251 : decode cL_law 251 = .ok (.aload_n 2, 1) := by decide +kernel
theorem dL_law_252 : decode cL_law 252 = .ok (.invokevirtual 86, 3) := by decide +kernel
theorem dL_law_255 : decode cL_law 255 = .ok (.if_icmp .eq 1093, 3) := by decide +kernel
theorem dL_law_260 : decode cL_law 260 = .ok (.aload_n 1, 1) := by decide +kernel
theorem dL_law_261 : decode cL_law 261 = .ok (.aload_n 0, 1) := by decide +kernel
theorem dL_law_262 : decode cL_law 262 = .ok (.iload 4, 2) := by decide +kernel
theorem dL_law_264 : decode cL_law 264 = .ok (.iconst 1, 1) := by decide +kernel
theorem dL_law_265 : decode cL_law 265 = .ok (.iadd, 1) := by decide +kernel
theorem dL_law_266 : decode cL_law 266 = .ok (.iaload, 1) := by decide +kernel
theorem dL_law_267 : decode cL_law 267 = .ok (.aload_n 3, 1) := by decide +kernel
theorem dL_law_268 : decode cL_law 268 = .ok (.invokestatic 87, 3) := by decide +kernel
theorem dL_law_271 : decode cL_law 271 = .ok (.istore 5, 2) := by decide +kernel
theorem dL_law_273 : decode cL_law 273 = .ok (.aload_n 2, 1) := by decide +kernel
theorem dL_law_274 : decode cL_law 274 = .ok (.aload_n 0, 1) := by decide +kernel
theorem dL_law_275 : decode cL_law 275 = .ok (.iload 4, 2) := by decide +kernel
theorem dL_law_277 : decode cL_law 277 = .ok (.iconst 1, 1) := by decide +kernel
theorem dL_law_278 : decode cL_law 278 = .ok (.iadd, 1) := by decide +kernel
theorem dL_law_279 : decode cL_law 279 = .ok (.iaload, 1) := by decide +kernel
theorem dL_law_280 : decode cL_law 280 = .ok (.invokevirtual 92, 3) := by decide +kernel
theorem dL_law_283 : decode cL_law 283 = .ok (.istore 6, 2) := by decide +kernel
theorem dL_law_285 : decode cL_law 285 = .ok (.aload_n 2, 1) := by decide +kernel
theorem dL_law_286 : decode cL_law 286 = .ok (.invokevirtual 93, 3) := by decide +kernel
theorem dL_law_289 : decode cL_law 289 = .ok (.iload 5, 2) := by decide +kernel
theorem dL_law_291 : decode cL_law 291 = .ok (.if_icmp .eq 5, 3) := by decide +kernel
theorem dL_law_296 : decode cL_law 296 = .ok (.iload 5, 2) := by decide +kernel
theorem dL_law_298 : decode cL_law 298 = .ok (.ifCond .ne 15, 3) := by decide +kernel
theorem dL_law_313 : decode cL_law 313 = .ok (.goto 1035, 3) := by decide +kernel
theorem dL_law_316 : decode cL_law 316 = .ok (.aload_n 1, 1) := by decide +kernel
theorem dL_law_317 : decode cL_law 317 = .ok (.aload_n 0, 1) := by decide +kernel
theorem dL_law_318 : decode cL_law 318 = .ok (.iload 4, 2) := by decide +kernel
theorem dL_law_320 : decode cL_law 320 = .ok (.iconst 1, 1) := by decide +kernel
theorem dL_law_321 : decode cL_law 321 = .ok (.iadd, 1) := by decide +kernel
theorem dL_law_322 : decode cL_law 322 = .ok (.iaload, 1) := by decide +kernel
theorem dL_law_323 : decode cL_law 323 = .ok (.aload_n 0, 1) := by decide +kernel
theorem dL_law_324 : decode cL_law 324 = .ok (.iload 4, 2) := by decide +kernel
theorem dL_law_326 : decode cL_law 326 = .ok (.iconst 2, 1) := by decide +kernel
theorem dL_law_327 : decode cL_law 327 = .ok (.iadd, 1) := by decide +kernel
theorem dL_law_328 : decode cL_law 328 = .ok (.iaload, 1) := by decide +kernel
theorem dL_law_329 : decode cL_law 329 = .ok (.aload_n 3, 1) := by decide +kernel
theorem dL_law_330 : decode cL_law 330 = .ok (.invokestatic 96, 3) := by decide +kernel
theorem dL_law_333 : decode cL_law 333 = .ok (.istore 5, 2) := by decide +kernel
theorem dL_law_335 : decode cL_law 335 = .ok (.aload_n 2, 1) := by decide +kernel
theorem dL_law_336 : decode cL_law 336 = .ok (.aload_n 0, 1) := by decide +kernel
theorem dL_law_337 : decode cL_law 337 = .ok (.iload 4, 2) := by decide +kernel
theorem dL_law_339 : decode cL_law 339 = .ok (.iconst 1, 1) := by decide +kernel
theorem dL_law_340 : decode cL_law 340 = .ok (.iadd, 1) := by decide +kernel
theorem dL_law_341 : decode cL_law 341 = .ok (.iaload, 1) := by decide +kernel
theorem dL_law_342 : decode cL_law 342 = .ok (.aload_n 0, 1) := by decide +kernel
theorem dL_law_343 : decode cL_law 343 = .ok (.iload 4, 2) := by decide +kernel
theorem dL_law_345 : decode cL_law 345 = .ok (.iconst 2, 1) := by decide +kernel
theorem dL_law_346 : decode cL_law 346 = .ok (.iadd, 1) := by decide +kernel
theorem dL_law_347 : decode cL_law 347 = .ok (.iaload, 1) := by decide +kernel
theorem dL_law_348 : decode cL_law 348 = .ok (.invokevirtual 99, 3) := by decide +kernel
theorem dL_law_351 : decode cL_law 351 = .ok (.istore 6, 2) := by decide +kernel
theorem dL_law_353 : decode cL_law 353 = .ok (.aload_n 2, 1) := by decide +kernel
theorem dL_law_354 : decode cL_law 354 = .ok (.invokevirtual 93, 3) := by decide +kernel
theorem dL_law_357 : decode cL_law 357 = .ok (.iload 5, 2) := by decide +kernel
theorem dL_law_359 : decode cL_law 359 = .ok (.if_icmp .eq 5, 3) := by decide +kernel
theorem dL_law_364 : decode cL_law 364 = .ok (.iload 5, 2) := by decide +kernel
theorem dL_law_366 : decode cL_law 366 = .ok (.ifCond .ne 15, 3) := by decide +kernel
theorem dL_law_381 : decode cL_law 381 = .ok (.goto 967, 3) := by decide +kernel
theorem dL_law_384 : decode cL_law 384 = .ok (.aload_n 1, 1) := by decide +kernel
theorem dL_law_385 : decode cL_law 385 = .ok (.aload_n 0, 1) := by decide +kernel
theorem dL_law_386 : decode cL_law 386 = .ok (.iload 4, 2) := by decide +kernel
theorem dL_law_388 : decode cL_law 388 = .ok (.iconst 1, 1) := by decide +kernel
theorem dL_law_389 : decode cL_law 389 = .ok (.iadd, 1) := by decide +kernel
theorem dL_law_390 : decode cL_law 390 = .ok (.iaload, 1) := by decide +kernel
theorem dL_law_391 : decode cL_law 391 = .ok (.aload_n 0, 1) := by decide +kernel
theorem dL_law_392 : decode cL_law 392 = .ok (.iload 4, 2) := by decide +kernel
theorem dL_law_394 : decode cL_law 394 = .ok (.iconst 2, 1) := by decide +kernel
theorem dL_law_395 : decode cL_law 395 = .ok (.iadd, 1) := by decide +kernel
theorem dL_law_396 : decode cL_law 396 = .ok (.iaload, 1) := by decide +kernel
theorem dL_law_397 : decode cL_law 397 = .ok (.aload_n 0, 1) := by decide +kernel
theorem dL_law_398 : decode cL_law 398 = .ok (.iload 4, 2) := by decide +kernel
theorem dL_law_400 : decode cL_law 400 = .ok (.iconst 3, 1) := by decide +kernel
theorem dL_law_401 : decode cL_law 401 = .ok (.iadd, 1) := by decide +kernel
theorem dL_law_402 : decode cL_law 402 = .ok (.iaload, 1) := by decide +kernel
theorem dL_law_403 : decode cL_law 403 = .ok (.aload_n 3, 1) := by decide +kernel
theorem dL_law_404 : decode cL_law 404 = .ok (.invokestatic 100, 3) := by decide +kernel
theorem dL_law_407 : decode cL_law 407 = .ok (.istore 5, 2) := by decide +kernel
theorem dL_law_409 : decode cL_law 409 = .ok (.aload_n 2, 1) := by decide +kernel
theorem dL_law_410 : decode cL_law 410 = .ok (.aload_n 0, 1) := by decide +kernel
theorem dL_law_411 : decode cL_law 411 = .ok (.iload 4, 2) := by decide +kernel
theorem dL_law_413 : decode cL_law 413 = .ok (.iconst 1, 1) := by decide +kernel
theorem dL_law_414 : decode cL_law 414 = .ok (.iadd, 1) := by decide +kernel
theorem dL_law_415 : decode cL_law 415 = .ok (.iaload, 1) := by decide +kernel
theorem dL_law_416 : decode cL_law 416 = .ok (.aload_n 0, 1) := by decide +kernel
theorem dL_law_417 : decode cL_law 417 = .ok (.iload 4, 2) := by decide +kernel
theorem dL_law_419 : decode cL_law 419 = .ok (.iconst 2, 1) := by decide +kernel
theorem dL_law_420 : decode cL_law 420 = .ok (.iadd, 1) := by decide +kernel
theorem dL_law_421 : decode cL_law 421 = .ok (.iaload, 1) := by decide +kernel
theorem dL_law_422 : decode cL_law 422 = .ok (.aload_n 0, 1) := by decide +kernel
theorem dL_law_423 : decode cL_law 423 = .ok (.iload 4, 2) := by decide +kernel
theorem dL_law_425 : decode cL_law 425 = .ok (.iconst 3, 1) := by decide +kernel
theorem dL_law_426 : decode cL_law 426 = .ok (.iadd, 1) := by decide +kernel
theorem dL_law_427 : decode cL_law 427 = .ok (.iaload, 1) := by decide +kernel
theorem dL_law_428 : decode cL_law 428 = .ok (.invokevirtual 103, 3) := by decide +kernel
theorem dL_law_431 : decode cL_law 431 = .ok (.istore 6, 2) := by decide +kernel
theorem dL_law_433 : decode cL_law 433 = .ok (.aload_n 2, 1) := by decide +kernel
theorem dL_law_434 : decode cL_law 434 = .ok (.invokevirtual 93, 3) := by decide +kernel
theorem dL_law_437 : decode cL_law 437 = .ok (.iload 5, 2) := by decide +kernel
theorem dL_law_439 : decode cL_law 439 = .ok (.if_icmp .eq 5, 3) := by decide +kernel
theorem dL_law_444 : decode cL_law 444 = .ok (.iload 5, 2) := by decide +kernel
theorem dL_law_446 : decode cL_law 446 = .ok (.ifCond .ne 15, 3) := by decide +kernel
theorem dL_law_461 : decode cL_law 461 = .ok (.goto 887, 3) := by decide +kernel
theorem dL_law_464 : decode cL_law 464 = .ok (.aload_n 1, 1) := by decide +kernel
theorem dL_law_465 : decode cL_law 465 = .ok (.aload_n 0, 1) := by decide +kernel
theorem dL_law_466 : decode cL_law 466 = .ok (.iload 4, 2) := by decide +kernel
theorem dL_law_468 : decode cL_law 468 = .ok (.iconst 1, 1) := by decide +kernel
theorem dL_law_469 : decode cL_law 469 = .ok (.iadd, 1) := by decide +kernel
theorem dL_law_470 : decode cL_law 470 = .ok (.iaload, 1) := by decide +kernel
theorem dL_law_471 : decode cL_law 471 = .ok (.aload_n 0, 1) := by decide +kernel
theorem dL_law_472 : decode cL_law 472 = .ok (.iload 4, 2) := by decide +kernel
theorem dL_law_474 : decode cL_law 474 = .ok (.iconst 2, 1) := by decide +kernel
theorem dL_law_475 : decode cL_law 475 = .ok (.iadd, 1) := by decide +kernel
theorem dL_law_476 : decode cL_law 476 = .ok (.iaload, 1) := by decide +kernel
theorem dL_law_477 : decode cL_law 477 = .ok (.aload_n 0, 1) := by decide +kernel
theorem dL_law_478 : decode cL_law 478 = .ok (.iload 4, 2) := by decide +kernel
theorem dL_law_480 : decode cL_law 480 = .ok (.iconst 3, 1) := by decide +kernel
theorem dL_law_481 : decode cL_law 481 = .ok (.iadd, 1) := by decide +kernel
theorem dL_law_482 : decode cL_law 482 = .ok (.iaload, 1) := by decide +kernel
theorem dL_law_483 : decode cL_law 483 = .ok (.aload_n 0, 1) := by decide +kernel
theorem dL_law_484 : decode cL_law 484 = .ok (.iload 4, 2) := by decide +kernel
theorem dL_law_486 : decode cL_law 486 = .ok (.iconst 4, 1) := by decide +kernel
theorem dL_law_487 : decode cL_law 487 = .ok (.iadd, 1) := by decide +kernel
theorem dL_law_488 : decode cL_law 488 = .ok (.iaload, 1) := by decide +kernel
theorem dL_law_489 : decode cL_law 489 = .ok (.aload_n 3, 1) := by decide +kernel
theorem dL_law_490 : decode cL_law 490 = .ok (.invokestatic 104, 3) := by decide +kernel
theorem dL_law_493 : decode cL_law 493 = .ok (.istore 5, 2) := by decide +kernel
theorem dL_law_495 : decode cL_law 495 = .ok (.aload_n 2, 1) := by decide +kernel
theorem dL_law_496 : decode cL_law 496 = .ok (.aload_n 0, 1) := by decide +kernel
theorem dL_law_497 : decode cL_law 497 = .ok (.iload 4, 2) := by decide +kernel
theorem dL_law_499 : decode cL_law 499 = .ok (.iconst 1, 1) := by decide +kernel
theorem dL_law_500 : decode cL_law 500 = .ok (.iadd, 1) := by decide +kernel
theorem dL_law_501 : decode cL_law 501 = .ok (.iaload, 1) := by decide +kernel
theorem dL_law_502 : decode cL_law 502 = .ok (.aload_n 0, 1) := by decide +kernel
theorem dL_law_503 : decode cL_law 503 = .ok (.iload 4, 2) := by decide +kernel
theorem dL_law_505 : decode cL_law 505 = .ok (.iconst 2, 1) := by decide +kernel
theorem dL_law_506 : decode cL_law 506 = .ok (.iadd, 1) := by decide +kernel
theorem dL_law_507 : decode cL_law 507 = .ok (.iaload, 1) := by decide +kernel
theorem dL_law_508 : decode cL_law 508 = .ok (.aload_n 0, 1) := by decide +kernel
theorem dL_law_509 : decode cL_law 509 = .ok (.iload 4, 2) := by decide +kernel
theorem dL_law_511 : decode cL_law 511 = .ok (.iconst 3, 1) := by decide +kernel
theorem dL_law_512 : decode cL_law 512 = .ok (.iadd, 1) := by decide +kernel
theorem dL_law_513 : decode cL_law 513 = .ok (.iaload, 1) := by decide +kernel
theorem dL_law_514 : decode cL_law 514 = .ok (.aload_n 0, 1) := by decide +kernel
theorem dL_law_515 : decode cL_law 515 = .ok (.iload 4, 2) := by decide +kernel
theorem dL_law_517 : decode cL_law 517 = .ok (.iconst 4, 1) := by decide +kernel
theorem dL_law_518 : decode cL_law 518 = .ok (.iadd, 1) := by decide +kernel
theorem dL_law_519 : decode cL_law 519 = .ok (.iaload, 1) := by decide +kernel
theorem dL_law_520 : decode cL_law 520 = .ok (.invokevirtual 107, 3) := by decide +kernel
theorem dL_law_523 : decode cL_law 523 = .ok (.istore 6, 2) := by decide +kernel
theorem dL_law_525 : decode cL_law 525 = .ok (.aload_n 2, 1) := by decide +kernel
theorem dL_law_526 : decode cL_law 526 = .ok (.invokevirtual 93, 3) := by decide +kernel
theorem dL_law_529 : decode cL_law 529 = .ok (.iload 5, 2) := by decide +kernel
theorem dL_law_531 : decode cL_law 531 = .ok (.if_icmp .eq 5, 3) := by decide +kernel
theorem dL_law_536 : decode cL_law 536 = .ok (.iload 5, 2) := by decide +kernel
theorem dL_law_538 : decode cL_law 538 = .ok (.ifCond .ne 15, 3) := by decide +kernel
theorem dL_law_553 : decode cL_law 553 = .ok (.goto 795, 3) := by decide +kernel
theorem dL_law_556 : decode cL_law 556 = .ok (.aload_n 1, 1) := by decide +kernel
theorem dL_law_557 : decode cL_law 557 = .ok (.aload_n 0, 1) := by decide +kernel
theorem dL_law_558 : decode cL_law 558 = .ok (.iload 4, 2) := by decide +kernel
theorem dL_law_560 : decode cL_law 560 = .ok (.iconst 1, 1) := by decide +kernel
theorem dL_law_561 : decode cL_law 561 = .ok (.iadd, 1) := by decide +kernel
theorem dL_law_562 : decode cL_law 562 = .ok (.iaload, 1) := by decide +kernel
theorem dL_law_563 : decode cL_law 563 = .ok (.aload_n 0, 1) := by decide +kernel
theorem dL_law_564 : decode cL_law 564 = .ok (.iload 4, 2) := by decide +kernel
theorem dL_law_566 : decode cL_law 566 = .ok (.iconst 2, 1) := by decide +kernel
theorem dL_law_567 : decode cL_law 567 = .ok (.iadd, 1) := by decide +kernel
theorem dL_law_568 : decode cL_law 568 = .ok (.iaload, 1) := by decide +kernel
theorem dL_law_569 : decode cL_law 569 = .ok (.aload_n 0, 1) := by decide +kernel
theorem dL_law_570 : decode cL_law 570 = .ok (.iload 4, 2) := by decide +kernel
theorem dL_law_572 : decode cL_law 572 = .ok (.iconst 3, 1) := by decide +kernel
theorem dL_law_573 : decode cL_law 573 = .ok (.iadd, 1) := by decide +kernel
theorem dL_law_574 : decode cL_law 574 = .ok (.iaload, 1) := by decide +kernel
theorem dL_law_575 : decode cL_law 575 = .ok (.aload_n 3, 1) := by decide +kernel
theorem dL_law_576 : decode cL_law 576 = .ok (.invokestatic 108, 3) := by decide +kernel
theorem dL_law_579 : decode cL_law 579 = .ok (.istore 5, 2) := by decide +kernel
theorem dL_law_581 : decode cL_law 581 = .ok (.aload_n 2, 1) := by decide +kernel
theorem dL_law_582 : decode cL_law 582 = .ok (.aload_n 0, 1) := by decide +kernel
theorem dL_law_583 : decode cL_law 583 = .ok (.iload 4, 2) := by decide +kernel
theorem dL_law_585 : decode cL_law 585 = .ok (.iconst 1, 1) := by decide +kernel
theorem dL_law_586 : decode cL_law 586 = .ok (.iadd, 1) := by decide +kernel
theorem dL_law_587 : decode cL_law 587 = .ok (.iaload, 1) := by decide +kernel
theorem dL_law_588 : decode cL_law 588 = .ok (.aload_n 0, 1) := by decide +kernel
theorem dL_law_589 : decode cL_law 589 = .ok (.iload 4, 2) := by decide +kernel
theorem dL_law_591 : decode cL_law 591 = .ok (.iconst 2, 1) := by decide +kernel
theorem dL_law_592 : decode cL_law 592 = .ok (.iadd, 1) := by decide +kernel
theorem dL_law_593 : decode cL_law 593 = .ok (.iaload, 1) := by decide +kernel
theorem dL_law_594 : decode cL_law 594 = .ok (.aload_n 0, 1) := by decide +kernel
theorem dL_law_595 : decode cL_law 595 = .ok (.iload 4, 2) := by decide +kernel
theorem dL_law_597 : decode cL_law 597 = .ok (.iconst 3, 1) := by decide +kernel
theorem dL_law_598 : decode cL_law 598 = .ok (.iadd, 1) := by decide +kernel
theorem dL_law_599 : decode cL_law 599 = .ok (.iaload, 1) := by decide +kernel
theorem dL_law_600 : decode cL_law 600 = .ok (.invokevirtual 110, 3) := by decide +kernel
theorem dL_law_603 : decode cL_law 603 = .ok (.istore 6, 2) := by decide +kernel
theorem dL_law_605 : decode cL_law 605 = .ok (.aload_n 2, 1) := by decide +kernel
theorem dL_law_606 : decode cL_law 606 = .ok (.invokevirtual 93, 3) := by decide +kernel
theorem dL_law_609 : decode cL_law 609 = .ok (.iload 5, 2) := by decide +kernel
theorem dL_law_611 : decode cL_law 611 = .ok (.if_icmp .eq 5, 3) := by decide +kernel
theorem dL_law_616 : decode cL_law 616 = .ok (.iload 5, 2) := by decide +kernel
theorem dL_law_618 : decode cL_law 618 = .ok (.ifCond .ne 15, 3) := by decide +kernel
theorem dL_law_633 : decode cL_law 633 = .ok (.goto 715, 3) := by decide +kernel
theorem dL_law_636 : decode cL_law 636 = .ok (.aload_n 1, 1) := by decide +kernel
theorem dL_law_637 : decode cL_law 637 = .ok (.aload_n 0, 1) := by decide +kernel
theorem dL_law_638 : decode cL_law 638 = .ok (.iload 4, 2) := by decide +kernel
theorem dL_law_640 : decode cL_law 640 = .ok (.iconst 1, 1) := by decide +kernel
theorem dL_law_641 : decode cL_law 641 = .ok (.iadd, 1) := by decide +kernel
theorem dL_law_642 : decode cL_law 642 = .ok (.iaload, 1) := by decide +kernel
theorem dL_law_643 : decode cL_law 643 = .ok (.aload_n 0, 1) := by decide +kernel
theorem dL_law_644 : decode cL_law 644 = .ok (.iload 4, 2) := by decide +kernel
theorem dL_law_646 : decode cL_law 646 = .ok (.iconst 2, 1) := by decide +kernel
theorem dL_law_647 : decode cL_law 647 = .ok (.iadd, 1) := by decide +kernel
theorem dL_law_648 : decode cL_law 648 = .ok (.iaload, 1) := by decide +kernel
theorem dL_law_649 : decode cL_law 649 = .ok (.aload_n 0, 1) := by decide +kernel
theorem dL_law_650 : decode cL_law 650 = .ok (.iload 4, 2) := by decide +kernel
theorem dL_law_652 : decode cL_law 652 = .ok (.iconst 3, 1) := by decide +kernel
theorem dL_law_653 : decode cL_law 653 = .ok (.iadd, 1) := by decide +kernel
theorem dL_law_654 : decode cL_law 654 = .ok (.iaload, 1) := by decide +kernel
theorem dL_law_655 : decode cL_law 655 = .ok (.aload_n 0, 1) := by decide +kernel
theorem dL_law_656 : decode cL_law 656 = .ok (.iload 4, 2) := by decide +kernel
theorem dL_law_658 : decode cL_law 658 = .ok (.iconst 4, 1) := by decide +kernel
theorem dL_law_659 : decode cL_law 659 = .ok (.iadd, 1) := by decide +kernel
theorem dL_law_660 : decode cL_law 660 = .ok (.iaload, 1) := by decide +kernel
theorem dL_law_661 : decode cL_law 661 = .ok (.aload_n 3, 1) := by decide +kernel
theorem dL_law_662 : decode cL_law 662 = .ok (.invokestatic 111, 3) := by decide +kernel
theorem dL_law_665 : decode cL_law 665 = .ok (.istore 5, 2) := by decide +kernel
theorem dL_law_667 : decode cL_law 667 = .ok (.aload_n 2, 1) := by decide +kernel
theorem dL_law_668 : decode cL_law 668 = .ok (.aload_n 0, 1) := by decide +kernel
theorem dL_law_669 : decode cL_law 669 = .ok (.iload 4, 2) := by decide +kernel
theorem dL_law_671 : decode cL_law 671 = .ok (.iconst 1, 1) := by decide +kernel
theorem dL_law_672 : decode cL_law 672 = .ok (.iadd, 1) := by decide +kernel
theorem dL_law_673 : decode cL_law 673 = .ok (.iaload, 1) := by decide +kernel
theorem dL_law_674 : decode cL_law 674 = .ok (.aload_n 0, 1) := by decide +kernel
theorem dL_law_675 : decode cL_law 675 = .ok (.iload 4, 2) := by decide +kernel
theorem dL_law_677 : decode cL_law 677 = .ok (.iconst 2, 1) := by decide +kernel
theorem dL_law_678 : decode cL_law 678 = .ok (.iadd, 1) := by decide +kernel
theorem dL_law_679 : decode cL_law 679 = .ok (.iaload, 1) := by decide +kernel
theorem dL_law_680 : decode cL_law 680 = .ok (.aload_n 0, 1) := by decide +kernel
theorem dL_law_681 : decode cL_law 681 = .ok (.iload 4, 2) := by decide +kernel
theorem dL_law_683 : decode cL_law 683 = .ok (.iconst 3, 1) := by decide +kernel
theorem dL_law_684 : decode cL_law 684 = .ok (.iadd, 1) := by decide +kernel
theorem dL_law_685 : decode cL_law 685 = .ok (.iaload, 1) := by decide +kernel
theorem dL_law_686 : decode cL_law 686 = .ok (.aload_n 0, 1) := by decide +kernel
theorem dL_law_687 : decode cL_law 687 = .ok (.iload 4, 2) := by decide +kernel
theorem dL_law_689 : decode cL_law 689 = .ok (.iconst 4, 1) := by decide +kernel
theorem dL_law_690 : decode cL_law 690 = .ok (.iadd, 1) := by decide +kernel
theorem dL_law_691 : decode cL_law 691 = .ok (.iaload, 1) := by decide +kernel
theorem dL_law_692 : decode cL_law 692 = .ok (.invokevirtual 113, 3) := by decide +kernel
theorem dL_law_695 : decode cL_law 695 = .ok (.istore 6, 2) := by decide +kernel
theorem dL_law_697 : decode cL_law 697 = .ok (.aload_n 2, 1) := by decide +kernel
theorem dL_law_698 : decode cL_law 698 = .ok (.invokevirtual 93, 3) := by decide +kernel
theorem dL_law_701 : decode cL_law 701 = .ok (.iload 5, 2) := by decide +kernel
theorem dL_law_703 : decode cL_law 703 = .ok (.if_icmp .eq 5, 3) := by decide +kernel
theorem dL_law_708 : decode cL_law 708 = .ok (.iload 5, 2) := by decide +kernel
theorem dL_law_710 : decode cL_law 710 = .ok (.ifCond .ne 15, 3) := by decide +kernel
theorem dL_law_725 : decode cL_law 725 = .ok (.goto 623, 3) := by decide +kernel
theorem dL_law_728 : decode cL_law 728 = .ok (.aload_n 1, 1) := by decide +kernel
theorem dL_law_729 : decode cL_law 729 = .ok (.aload_n 0, 1) := by decide +kernel
theorem dL_law_730 : decode cL_law 730 = .ok (.iload 4, 2) := by decide +kernel
theorem dL_law_732 : decode cL_law 732 = .ok (.iconst 1, 1) := by decide +kernel
theorem dL_law_733 : decode cL_law 733 = .ok (.iadd, 1) := by decide +kernel
theorem dL_law_734 : decode cL_law 734 = .ok (.iaload, 1) := by decide +kernel
theorem dL_law_735 : decode cL_law 735 = .ok (.aload_n 3, 1) := by decide +kernel
theorem dL_law_736 : decode cL_law 736 = .ok (.invokestatic 114, 3) := by decide +kernel
theorem dL_law_739 : decode cL_law 739 = .ok (.istore 5, 2) := by decide +kernel
theorem dL_law_741 : decode cL_law 741 = .ok (.aload_n 2, 1) := by decide +kernel
theorem dL_law_742 : decode cL_law 742 = .ok (.aload_n 0, 1) := by decide +kernel
theorem dL_law_743 : decode cL_law 743 = .ok (.iload 4, 2) := by decide +kernel
theorem dL_law_745 : decode cL_law 745 = .ok (.iconst 1, 1) := by decide +kernel
theorem dL_law_746 : decode cL_law 746 = .ok (.iadd, 1) := by decide +kernel
theorem dL_law_747 : decode cL_law 747 = .ok (.iaload, 1) := by decide +kernel
theorem dL_law_748 : decode cL_law 748 = .ok (.invokevirtual 116, 3) := by decide +kernel
theorem dL_law_751 : decode cL_law 751 = .ok (.istore 6, 2) := by decide +kernel
theorem dL_law_753 : decode cL_law 753 = .ok (.aload_n 2, 1) := by decide +kernel
theorem dL_law_754 : decode cL_law 754 = .ok (.invokevirtual 93, 3) := by decide +kernel
theorem dL_law_757 : decode cL_law 757 = .ok (.iload 5, 2) := by decide +kernel
theorem dL_law_759 : decode cL_law 759 = .ok (.if_icmp .eq 5, 3) := by decide +kernel
theorem dL_law_764 : decode cL_law 764 = .ok (.iload 5, 2) := by decide +kernel
theorem dL_law_766 : decode cL_law 766 = .ok (.ifCond .ne 15, 3) := by decide +kernel
theorem dL_law_781 : decode cL_law 781 = .ok (.goto 567, 3) := by decide +kernel
theorem dL_law_784 : decode cL_law 784 = .ok (.aload_n 1, 1) := by decide +kernel
theorem dL_law_785 : decode cL_law 785 = .ok (.aload_n 0, 1) := by decide +kernel
theorem dL_law_786 : decode cL_law 786 = .ok (.iload 4, 2) := by decide +kernel
theorem dL_law_788 : decode cL_law 788 = .ok (.iconst 1, 1) := by decide +kernel
theorem dL_law_789 : decode cL_law 789 = .ok (.iadd, 1) := by decide +kernel
theorem dL_law_790 : decode cL_law 790 = .ok (.iaload, 1) := by decide +kernel
theorem dL_law_791 : decode cL_law 791 = .ok (.aload_n 3, 1) := by decide +kernel
theorem dL_law_792 : decode cL_law 792 = .ok (.invokestatic 117, 3) := by decide +kernel
theorem dL_law_795 : decode cL_law 795 = .ok (.istore 5, 2) := by decide +kernel
theorem dL_law_797 : decode cL_law 797 = .ok (.aload_n 2, 1) := by decide +kernel
theorem dL_law_798 : decode cL_law 798 = .ok (.aload_n 0, 1) := by decide +kernel
theorem dL_law_799 : decode cL_law 799 = .ok (.iload 4, 2) := by decide +kernel
theorem dL_law_801 : decode cL_law 801 = .ok (.iconst 1, 1) := by decide +kernel
theorem dL_law_802 : decode cL_law 802 = .ok (.iadd, 1) := by decide +kernel
theorem dL_law_803 : decode cL_law 803 = .ok (.iaload, 1) := by decide +kernel
theorem dL_law_804 : decode cL_law 804 = .ok (.invokevirtual 119, 3) := by decide +kernel
theorem dL_law_807 : decode cL_law 807 = .ok (.istore 6, 2) := by decide +kernel
theorem dL_law_809 : decode cL_law 809 = .ok (.aload_n 2, 1) := by decide +kernel
theorem dL_law_810 : decode cL_law 810 = .ok (.invokevirtual 93, 3) := by decide +kernel
theorem dL_law_813 : decode cL_law 813 = .ok (.iload 5, 2) := by decide +kernel
theorem dL_law_815 : decode cL_law 815 = .ok (.if_icmp .eq 5, 3) := by decide +kernel
theorem dL_law_820 : decode cL_law 820 = .ok (.iload 5, 2) := by decide +kernel
theorem dL_law_822 : decode cL_law 822 = .ok (.ifCond .ne 15, 3) := by decide +kernel
theorem dL_law_837 : decode cL_law 837 = .ok (.goto 511, 3) := by decide +kernel
theorem dL_law_840 : decode cL_law 840 = .ok (.aload_n 1, 1) := by decide +kernel
theorem dL_law_841 : decode cL_law 841 = .ok (.aload_n 0, 1) := by decide +kernel
theorem dL_law_842 : decode cL_law 842 = .ok (.iload 4, 2) := by decide +kernel
theorem dL_law_844 : decode cL_law 844 = .ok (.iconst 1, 1) := by decide +kernel
theorem dL_law_845 : decode cL_law 845 = .ok (.iadd, 1) := by decide +kernel
theorem dL_law_846 : decode cL_law 846 = .ok (.iaload, 1) := by decide +kernel
theorem dL_law_847 : decode cL_law 847 = .ok (.aload_n 0, 1) := by decide +kernel
theorem dL_law_848 : decode cL_law 848 = .ok (.iload 4, 2) := by decide +kernel
theorem dL_law_850 : decode cL_law 850 = .ok (.iconst 2, 1) := by decide +kernel
theorem dL_law_851 : decode cL_law 851 = .ok (.iadd, 1) := by decide +kernel
theorem dL_law_852 : decode cL_law 852 = .ok (.iaload, 1) := by decide +kernel
theorem dL_law_853 : decode cL_law 853 = .ok (.aload_n 0, 1) := by decide +kernel
theorem dL_law_854 : decode cL_law 854 = .ok (.iload 4, 2) := by decide +kernel
theorem dL_law_856 : decode cL_law 856 = .ok (.iconst 3, 1) := by decide +kernel
theorem dL_law_857 : decode cL_law 857 = .ok (.iadd, 1) := by decide +kernel
theorem dL_law_858 : decode cL_law 858 = .ok (.iaload, 1) := by decide +kernel
theorem dL_law_859 : decode cL_law 859 = .ok (.aload_n 3, 1) := by decide +kernel
theorem dL_law_860 : decode cL_law 860 = .ok (.invokestatic 120, 3) := by decide +kernel
theorem dL_law_863 : decode cL_law 863 = .ok (.istore 5, 2) := by decide +kernel
theorem dL_law_865 : decode cL_law 865 = .ok (.aload_n 2, 1) := by decide +kernel
theorem dL_law_866 : decode cL_law 866 = .ok (.aload_n 0, 1) := by decide +kernel
theorem dL_law_867 : decode cL_law 867 = .ok (.iload 4, 2) := by decide +kernel
theorem dL_law_869 : decode cL_law 869 = .ok (.iconst 1, 1) := by decide +kernel
theorem dL_law_870 : decode cL_law 870 = .ok (.iadd, 1) := by decide +kernel
theorem dL_law_871 : decode cL_law 871 = .ok (.iaload, 1) := by decide +kernel
theorem dL_law_872 : decode cL_law 872 = .ok (.aload_n 0, 1) := by decide +kernel
theorem dL_law_873 : decode cL_law 873 = .ok (.iload 4, 2) := by decide +kernel
theorem dL_law_875 : decode cL_law 875 = .ok (.iconst 2, 1) := by decide +kernel
theorem dL_law_876 : decode cL_law 876 = .ok (.iadd, 1) := by decide +kernel
theorem dL_law_877 : decode cL_law 877 = .ok (.iaload, 1) := by decide +kernel
theorem dL_law_878 : decode cL_law 878 = .ok (.aload_n 0, 1) := by decide +kernel
theorem dL_law_879 : decode cL_law 879 = .ok (.iload 4, 2) := by decide +kernel
theorem dL_law_881 : decode cL_law 881 = .ok (.iconst 3, 1) := by decide +kernel
theorem dL_law_882 : decode cL_law 882 = .ok (.iadd, 1) := by decide +kernel
theorem dL_law_883 : decode cL_law 883 = .ok (.iaload, 1) := by decide +kernel
theorem dL_law_884 : decode cL_law 884 = .ok (.invokevirtual 122, 3) := by decide +kernel
theorem dL_law_887 : decode cL_law 887 = .ok (.istore 6, 2) := by decide +kernel
theorem dL_law_889 : decode cL_law 889 = .ok (.aload_n 2, 1) := by decide +kernel
theorem dL_law_890 : decode cL_law 890 = .ok (.invokevirtual 93, 3) := by decide +kernel
theorem dL_law_893 : decode cL_law 893 = .ok (.iload 5, 2) := by decide +kernel
theorem dL_law_895 : decode cL_law 895 = .ok (.if_icmp .eq 5, 3) := by decide +kernel
theorem dL_law_900 : decode cL_law 900 = .ok (.iload 5, 2) := by decide +kernel
theorem dL_law_902 : decode cL_law 902 = .ok (.ifCond .ne 15, 3) := by decide +kernel
theorem dL_law_917 : decode cL_law 917 = .ok (.goto 431, 3) := by decide +kernel
theorem dL_law_920 : decode cL_law 920 = .ok (.aload_n 1, 1) := by decide +kernel
theorem dL_law_921 : decode cL_law 921 = .ok (.aload_n 0, 1) := by decide +kernel
theorem dL_law_922 : decode cL_law 922 = .ok (.iload 4, 2) := by decide +kernel
theorem dL_law_924 : decode cL_law 924 = .ok (.iconst 1, 1) := by decide +kernel
theorem dL_law_925 : decode cL_law 925 = .ok (.iadd, 1) := by decide +kernel
theorem dL_law_926 : decode cL_law 926 = .ok (.iaload, 1) := by decide +kernel
theorem dL_law_927 : decode cL_law 927 = .ok (.aload_n 0, 1) := by decide +kernel
theorem dL_law_928 : decode cL_law 928 = .ok (.iload 4, 2) := by decide +kernel
theorem dL_law_930 : decode cL_law 930 = .ok (.iconst 2, 1) := by decide +kernel
theorem dL_law_931 : decode cL_law 931 = .ok (.iadd, 1) := by decide +kernel
theorem dL_law_932 : decode cL_law 932 = .ok (.iaload, 1) := by decide +kernel
theorem dL_law_933 : decode cL_law 933 = .ok (.aload_n 0, 1) := by decide +kernel
theorem dL_law_934 : decode cL_law 934 = .ok (.iload 4, 2) := by decide +kernel
theorem dL_law_936 : decode cL_law 936 = .ok (.iconst 3, 1) := by decide +kernel
theorem dL_law_937 : decode cL_law 937 = .ok (.iadd, 1) := by decide +kernel
theorem dL_law_938 : decode cL_law 938 = .ok (.iaload, 1) := by decide +kernel
theorem dL_law_939 : decode cL_law 939 = .ok (.aload_n 0, 1) := by decide +kernel
theorem dL_law_940 : decode cL_law 940 = .ok (.iload 4, 2) := by decide +kernel
theorem dL_law_942 : decode cL_law 942 = .ok (.iconst 4, 1) := by decide +kernel
theorem dL_law_943 : decode cL_law 943 = .ok (.iadd, 1) := by decide +kernel
theorem dL_law_944 : decode cL_law 944 = .ok (.iaload, 1) := by decide +kernel
theorem dL_law_945 : decode cL_law 945 = .ok (.aload_n 3, 1) := by decide +kernel
theorem dL_law_946 : decode cL_law 946 = .ok (.invokestatic 123, 3) := by decide +kernel
theorem dL_law_949 : decode cL_law 949 = .ok (.istore 5, 2) := by decide +kernel
theorem dL_law_951 : decode cL_law 951 = .ok (.aload_n 2, 1) := by decide +kernel
theorem dL_law_952 : decode cL_law 952 = .ok (.aload_n 0, 1) := by decide +kernel
theorem dL_law_953 : decode cL_law 953 = .ok (.iload 4, 2) := by decide +kernel
theorem dL_law_955 : decode cL_law 955 = .ok (.iconst 1, 1) := by decide +kernel
theorem dL_law_956 : decode cL_law 956 = .ok (.iadd, 1) := by decide +kernel
theorem dL_law_957 : decode cL_law 957 = .ok (.iaload, 1) := by decide +kernel
theorem dL_law_958 : decode cL_law 958 = .ok (.aload_n 0, 1) := by decide +kernel
theorem dL_law_959 : decode cL_law 959 = .ok (.iload 4, 2) := by decide +kernel
theorem dL_law_961 : decode cL_law 961 = .ok (.iconst 2, 1) := by decide +kernel
theorem dL_law_962 : decode cL_law 962 = .ok (.iadd, 1) := by decide +kernel
theorem dL_law_963 : decode cL_law 963 = .ok (.iaload, 1) := by decide +kernel
theorem dL_law_964 : decode cL_law 964 = .ok (.aload_n 0, 1) := by decide +kernel
theorem dL_law_965 : decode cL_law 965 = .ok (.iload 4, 2) := by decide +kernel
theorem dL_law_967 : decode cL_law 967 = .ok (.iconst 3, 1) := by decide +kernel
theorem dL_law_968 : decode cL_law 968 = .ok (.iadd, 1) := by decide +kernel
theorem dL_law_969 : decode cL_law 969 = .ok (.iaload, 1) := by decide +kernel
theorem dL_law_970 : decode cL_law 970 = .ok (.aload_n 0, 1) := by decide +kernel
theorem dL_law_971 : decode cL_law 971 = .ok (.iload 4, 2) := by decide +kernel
theorem dL_law_973 : decode cL_law 973 = .ok (.iconst 4, 1) := by decide +kernel
theorem dL_law_974 : decode cL_law 974 = .ok (.iadd, 1) := by decide +kernel
theorem dL_law_975 : decode cL_law 975 = .ok (.iaload, 1) := by decide +kernel
theorem dL_law_976 : decode cL_law 976 = .ok (.invokevirtual 125, 3) := by decide +kernel
theorem dL_law_979 : decode cL_law 979 = .ok (.istore 6, 2) := by decide +kernel
theorem dL_law_981 : decode cL_law 981 = .ok (.aload_n 2, 1) := by decide +kernel
theorem dL_law_982 : decode cL_law 982 = .ok (.invokevirtual 93, 3) := by decide +kernel
theorem dL_law_985 : decode cL_law 985 = .ok (.iload 5, 2) := by decide +kernel
theorem dL_law_987 : decode cL_law 987 = .ok (.if_icmp .eq 5, 3) := by decide +kernel
theorem dL_law_992 : decode cL_law 992 = .ok (.iload 5, 2) := by decide +kernel
theorem dL_law_994 : decode cL_law 994 = .ok (.ifCond .ne 15, 3) := by decide +kernel
theorem dL_law_1009 : decode cL_law 1009 = .ok (.goto 339, 3) := by decide +kernel
theorem dL_law_1012 : decode cL_law 1012 = .ok (.aload_n 1, 1) := by decide +kernel
theorem dL_law_1013 : decode cL_law 1013 = .ok (.aload_n 0, 1) := by decide +kernel
theorem dL_law_1014 : decode cL_law 1014 = .ok (.iload 4, 2) := by decide +kernel
theorem dL_law_1016 : decode cL_law 1016 = .ok (.iconst 1, 1) := by decide +kernel
theorem dL_law_1017 : decode cL_law 1017 = .ok (.iadd, 1) := by decide +kernel
theorem dL_law_1018 : decode cL_law 1018 = .ok (.iaload, 1) := by decide +kernel
theorem dL_law_1019 : decode cL_law 1019 = .ok (.aload_n 3, 1) := by decide +kernel
theorem dL_law_1020 : decode cL_law 1020 = .ok (.invokestatic 126, 3) := by decide +kernel
theorem dL_law_1023 : decode cL_law 1023 = .ok (.istore 5, 2) := by decide +kernel
theorem dL_law_1025 : decode cL_law 1025 = .ok (.aload_n 2, 1) := by decide +kernel
theorem dL_law_1026 : decode cL_law 1026 = .ok (.aload_n 0, 1) := by decide +kernel
theorem dL_law_1027 : decode cL_law 1027 = .ok (.iload 4, 2) := by decide +kernel
theorem dL_law_1029 : decode cL_law 1029 = .ok (.iconst 1, 1) := by decide +kernel
theorem dL_law_1030 : decode cL_law 1030 = .ok (.iadd, 1) := by decide +kernel
theorem dL_law_1031 : decode cL_law 1031 = .ok (.iaload, 1) := by decide +kernel
theorem dL_law_1032 : decode cL_law 1032 = .ok (.invokevirtual 128, 3) := by decide +kernel
theorem dL_law_1035 : decode cL_law 1035 = .ok (.istore 6, 2) := by decide +kernel
theorem dL_law_1037 : decode cL_law 1037 = .ok (.aload_n 2, 1) := by decide +kernel
theorem dL_law_1038 : decode cL_law 1038 = .ok (.invokevirtual 93, 3) := by decide +kernel
theorem dL_law_1041 : decode cL_law 1041 = .ok (.iload 5, 2) := by decide +kernel
theorem dL_law_1043 : decode cL_law 1043 = .ok (.if_icmp .eq 5, 3) := by decide +kernel
theorem dL_law_1048 : decode cL_law 1048 = .ok (.iload 5, 2) := by decide +kernel
theorem dL_law_1050 : decode cL_law 1050 = .ok (.ifCond .ne 15, 3) := by decide +kernel
theorem dL_law_1065 : decode cL_law 1065 = .ok (.goto 283, 3) := by decide +kernel
theorem dL_law_1068 : decode cL_law 1068 = .ok (.aload_n 1, 1) := by decide +kernel
theorem dL_law_1069 : decode cL_law 1069 = .ok (.aload_n 0, 1) := by decide +kernel
theorem dL_law_1070 : decode cL_law 1070 = .ok (.iload 4, 2) := by decide +kernel
theorem dL_law_1072 : decode cL_law 1072 = .ok (.iconst 1, 1) := by decide +kernel
theorem dL_law_1073 : decode cL_law 1073 = .ok (.iadd, 1) := by decide +kernel
theorem dL_law_1074 : decode cL_law 1074 = .ok (.iaload, 1) := by decide +kernel
theorem dL_law_1075 : decode cL_law 1075 = .ok (.aload_n 3, 1) := by decide +kernel
theorem dL_law_1076 : decode cL_law 1076 = .ok (.invokestatic 129, 3) := by decide +kernel
theorem dL_law_1079 : decode cL_law 1079 = .ok (.istore 5, 2) := by decide +kernel
theorem dL_law_1081 : decode cL_law 1081 = .ok (.aload_n 2, 1) := by decide +kernel
theorem dL_law_1082 : decode cL_law 1082 = .ok (.aload_n 0, 1) := by decide +kernel
theorem dL_law_1083 : decode cL_law 1083 = .ok (.iload 4, 2) := by decide +kernel
theorem dL_law_1085 : decode cL_law 1085 = .ok (.iconst 1, 1) := by decide +kernel
theorem dL_law_1086 : decode cL_law 1086 = .ok (.iadd, 1) := by decide +kernel
theorem dL_law_1087 : decode cL_law 1087 = .ok (.iaload, 1) := by decide +kernel
theorem dL_law_1088 : decode cL_law 1088 = .ok (.invokevirtual 131, 3) := by decide +kernel
theorem dL_law_1091 : decode cL_law 1091 = .ok (.istore 6, 2) := by decide +kernel
theorem dL_law_1093 : decode cL_law 1093 = .ok (.aload_n 2, 1) := by decide +kernel
theorem dL_law_1094 : decode cL_law 1094 = .ok (.invokevirtual 93, 3) := by decide +kernel
theorem dL_law_1097 : decode cL_law 1097 = .ok (.iload 5, 2) := by decide +kernel
theorem dL_law_1099 : decode cL_law 1099 = .ok (.if_icmp .eq 5, 3) := by decide +kernel
theorem dL_law_1104 : decode cL_law 1104 = .ok (.iload 5, 2) := by decide +kernel
theorem dL_law_1106 : decode cL_law 1106 = .ok (.ifCond .ne 15, 3) := by decide +kernel
theorem dL_law_1121 : decode cL_law 1121 = .ok (.goto 227, 3) := by decide +kernel
theorem dL_law_1124 : decode cL_law 1124 = .ok (.aload_n 1, 1) := by decide +kernel
theorem dL_law_1125 : decode cL_law 1125 = .ok (.aload_n 0, 1) := by decide +kernel
theorem dL_law_1126 : decode cL_law 1126 = .ok (.iload 4, 2) := by decide +kernel
theorem dL_law_1128 : decode cL_law 1128 = .ok (.iconst 1, 1) := by decide +kernel
theorem dL_law_1129 : decode cL_law 1129 = .ok (.iadd, 1) := by decide +kernel
theorem dL_law_1130 : decode cL_law 1130 = .ok (.iaload, 1) := by decide +kernel
theorem dL_law_1131 : decode cL_law 1131 = .ok (.aload_n 0, 1) := by decide +kernel
theorem dL_law_1132 : decode cL_law 1132 = .ok (.iload 4, 2) := by decide +kernel
theorem dL_law_1134 : decode cL_law 1134 = .ok (.iconst 2, 1) := by decide +kernel
theorem dL_law_1135 : decode cL_law 1135 = .ok (.iadd, 1) := by decide +kernel
theorem dL_law_1136 : decode cL_law 1136 = .ok (.iaload, 1) := by decide +kernel
theorem dL_law_1137 : decode cL_law 1137 = .ok (.aload_n 3, 1) := by decide +kernel
theorem dL_law_1138 : decode cL_law 1138 = .ok (.invokestatic 132, 3) := by decide +kernel
theorem dL_law_1141 : decode cL_law 1141 = .ok (.istore 5, 2) := by decide +kernel
theorem dL_law_1143 : decode cL_law 1143 = .ok (.aload_n 2, 1) := by decide +kernel
theorem dL_law_1144 : decode cL_law 1144 = .ok (.aload_n 0, 1) := by decide +kernel
theorem dL_law_1145 : decode cL_law 1145 = .ok (.iload 4, 2) := by decide +kernel
theorem dL_law_1147 : decode cL_law 1147 = .ok (.iconst 1, 1) := by decide +kernel
theorem dL_law_1148 : decode cL_law 1148 = .ok (.iadd, 1) := by decide +kernel
theorem dL_law_1149 : decode cL_law 1149 = .ok (.iaload, 1) := by decide +kernel
theorem dL_law_1150 : decode cL_law 1150 = .ok (.aload_n 0, 1) := by decide +kernel
theorem dL_law_1151 : decode cL_law 1151 = .ok (.iload 4, 2) := by decide +kernel
theorem dL_law_1153 : decode cL_law 1153 = .ok (.iconst 2, 1) := by decide +kernel
theorem dL_law_1154 : decode cL_law 1154 = .ok (.iadd, 1) := by decide +kernel
theorem dL_law_1155 : decode cL_law 1155 = .ok (.iaload, 1) := by decide +kernel
theorem dL_law_1156 : decode cL_law 1156 = .ok (.invokevirtual 134, 3) := by decide +kernel
theorem dL_law_1159 : decode cL_law 1159 = .ok (.istore 6, 2) := by decide +kernel
theorem dL_law_1161 : decode cL_law 1161 = .ok (.aload_n 2, 1) := by decide +kernel
theorem dL_law_1162 : decode cL_law 1162 = .ok (.invokevirtual 93, 3) := by decide +kernel
theorem dL_law_1165 : decode cL_law 1165 = .ok (.iload 5, 2) := by decide +kernel
theorem dL_law_1167 : decode cL_law 1167 = .ok (.if_icmp .eq 5, 3) := by decide +kernel
theorem dL_law_1172 : decode cL_law 1172 = .ok (.iload 5, 2) := by decide +kernel
theorem dL_law_1174 : decode cL_law 1174 = .ok (.ifCond .ne 15, 3) := by decide +kernel
theorem dL_law_1189 : decode cL_law 1189 = .ok (.goto 159, 3) := by decide +kernel
theorem dL_law_1192 : decode cL_law 1192 = .ok (.aload_n 1, 1) := by decide +kernel
theorem dL_law_1193 : decode cL_law 1193 = .ok (.aload_n 0, 1) := by decide +kernel
theorem dL_law_1194 : decode cL_law 1194 = .ok (.iload 4, 2) := by decide +kernel
theorem dL_law_1196 : decode cL_law 1196 = .ok (.iconst 1, 1) := by decide +kernel
theorem dL_law_1197 : decode cL_law 1197 = .ok (.iadd, 1) := by decide +kernel
theorem dL_law_1198 : decode cL_law 1198 = .ok (.iaload, 1) := by decide +kernel
theorem dL_law_1199 : decode cL_law 1199 = .ok (.aload_n 0, 1) := by decide +kernel
theorem dL_law_1200 : decode cL_law 1200 = .ok (.iload 4, 2) := by decide +kernel
theorem dL_law_1202 : decode cL_law 1202 = .ok (.iconst 2, 1) := by decide +kernel
theorem dL_law_1203 : decode cL_law 1203 = .ok (.iadd, 1) := by decide +kernel
theorem dL_law_1204 : decode cL_law 1204 = .ok (.iaload, 1) := by decide +kernel
theorem dL_law_1205 : decode cL_law 1205 = .ok (.aload_n 3, 1) := by decide +kernel
theorem dL_law_1206 : decode cL_law 1206 = .ok (.invokestatic 135, 3) := by decide +kernel
theorem dL_law_1209 : decode cL_law 1209 = .ok (.istore 5, 2) := by decide +kernel
theorem dL_law_1211 : decode cL_law 1211 = .ok (.aload_n 2, 1) := by decide +kernel
theorem dL_law_1212 : decode cL_law 1212 = .ok (.aload_n 0, 1) := by decide +kernel
theorem dL_law_1213 : decode cL_law 1213 = .ok (.iload 4, 2) := by decide +kernel
theorem dL_law_1215 : decode cL_law 1215 = .ok (.iconst 1, 1) := by decide +kernel
theorem dL_law_1216 : decode cL_law 1216 = .ok (.iadd, 1) := by decide +kernel
theorem dL_law_1217 : decode cL_law 1217 = .ok (.iaload, 1) := by decide +kernel
theorem dL_law_1218 : decode cL_law 1218 = .ok (.aload_n 0, 1) := by decide +kernel
theorem dL_law_1219 : decode cL_law 1219 = .ok (.iload 4, 2) := by decide +kernel
theorem dL_law_1221 : decode cL_law 1221 = .ok (.iconst 2, 1) := by decide +kernel
theorem dL_law_1222 : decode cL_law 1222 = .ok (.iadd, 1) := by decide +kernel
theorem dL_law_1223 : decode cL_law 1223 = .ok (.iaload, 1) := by decide +kernel
theorem dL_law_1224 : decode cL_law 1224 = .ok (.invokevirtual 137, 3) := by decide +kernel
theorem dL_law_1227 : decode cL_law 1227 = .ok (.istore 6, 2) := by decide +kernel
theorem dL_law_1229 : decode cL_law 1229 = .ok (.aload_n 2, 1) := by decide +kernel
theorem dL_law_1230 : decode cL_law 1230 = .ok (.invokevirtual 93, 3) := by decide +kernel
theorem dL_law_1233 : decode cL_law 1233 = .ok (.iload 5, 2) := by decide +kernel
theorem dL_law_1235 : decode cL_law 1235 = .ok (.if_icmp .eq 5, 3) := by decide +kernel
theorem dL_law_1240 : decode cL_law 1240 = .ok (.iload 5, 2) := by decide +kernel
theorem dL_law_1242 : decode cL_law 1242 = .ok (.ifCond .ne 22, 3) := by decide +kernel
theorem dL_law_1264 : decode cL_law 1264 = .ok (.goto 84, 3) := by decide +kernel
theorem dL_law_1267 : decode cL_law 1267 = .ok (.aload_n 1, 1) := by decide +kernel
theorem dL_law_1268 : decode cL_law 1268 = .ok (.aload_n 0, 1) := by decide +kernel
theorem dL_law_1269 : decode cL_law 1269 = .ok (.iload 4, 2) := by decide +kernel
theorem dL_law_1271 : decode cL_law 1271 = .ok (.iconst 1, 1) := by decide +kernel
theorem dL_law_1272 : decode cL_law 1272 = .ok (.iadd, 1) := by decide +kernel
theorem dL_law_1273 : decode cL_law 1273 = .ok (.iaload, 1) := by decide +kernel
theorem dL_law_1274 : decode cL_law 1274 = .ok (.aload_n 3, 1) := by decide +kernel
theorem dL_law_1275 : decode cL_law 1275 = .ok (.invokestatic 138, 3) := by decide +kernel
theorem dL_law_1278 : decode cL_law 1278 = .ok (.istore 5, 2) := by decide +kernel
theorem dL_law_1280 : decode cL_law 1280 = .ok (.aload_n 2, 1) := by decide +kernel
theorem dL_law_1281 : decode cL_law 1281 = .ok (.aload_n 0, 1) := by decide +kernel
theorem dL_law_1282 : decode cL_law 1282 = .ok (.iload 4, 2) := by decide +kernel
theorem dL_law_1284 : decode cL_law 1284 = .ok (.iconst 1, 1) := by decide +kernel
theorem dL_law_1285 : decode cL_law 1285 = .ok (.iadd, 1) := by decide +kernel
theorem dL_law_1286 : decode cL_law 1286 = .ok (.iaload, 1) := by decide +kernel
theorem dL_law_1287 : decode cL_law 1287 = .ok (.invokevirtual 140, 3) := by decide +kernel
theorem dL_law_1290 : decode cL_law 1290 = .ok (.istore 6, 2) := by decide +kernel
theorem dL_law_1292 : decode cL_law 1292 = .ok (.aload_n 2, 1) := by decide +kernel
theorem dL_law_1293 : decode cL_law 1293 = .ok (.invokevirtual 93, 3) := by decide +kernel
theorem dL_law_1296 : decode cL_law 1296 = .ok (.iload 5, 2) := by decide +kernel
theorem dL_law_1298 : decode cL_law 1298 = .ok (.if_icmp .eq 5, 3) := by decide +kernel
theorem dL_law_1303 : decode cL_law 1303 = .ok (.iload 5, 2) := by decide +kernel
theorem dL_law_1305 : decode cL_law 1305 = .ok (.ifCond .ne 15, 3) := by decide +kernel
theorem dL_law_1320 : decode cL_law 1320 = .ok (.goto 28, 3) := by decide +kernel
theorem dL_law_1323 : decode cL_law 1323 = .ok (.aload_n 1, 1) := by decide +kernel
theorem dL_law_1324 : decode cL_law 1324 = .ok (.aload_n 0, 1) := by decide +kernel
theorem dL_law_1325 : decode cL_law 1325 = .ok (.iload 4, 2) := by decide +kernel
theorem dL_law_1327 : decode cL_law 1327 = .ok (.iconst 1, 1) := by decide +kernel
theorem dL_law_1328 : decode cL_law 1328 = .ok (.iadd, 1) := by decide +kernel
theorem dL_law_1329 : decode cL_law 1329 = .ok (.iaload, 1) := by decide +kernel
theorem dL_law_1330 : decode cL_law 1330 = .ok (.invokevirtual 141, 3) := by decide +kernel
theorem dL_law_1333 : decode cL_law 1333 = .ok (.aload_n 2, 1) := by decide +kernel
theorem dL_law_1334 : decode cL_law 1334 = .ok (.aload_n 0, 1) := by decide +kernel
theorem dL_law_1335 : decode cL_law 1335 = .ok (.iload 4, 2) := by decide +kernel
theorem dL_law_1337 : decode cL_law 1337 = .ok (.iconst 1, 1) := by decide +kernel
theorem dL_law_1338 : decode cL_law 1338 = .ok (.iadd, 1) := by decide +kernel
theorem dL_law_1339 : decode cL_law 1339 = .ok (.iaload, 1) := by decide +kernel
theorem dL_law_1340 : decode cL_law 1340 = .ok (.invokevirtual 144, 3) := by decide +kernel
theorem dL_law_1343 : decode cL_law 1343 = .ok (.if_icmp .eq 5, 3) := by decide +kernel
theorem dL_law_1348 : decode cL_law 1348 = .ok (.iinc 4 6, 3) := by decide +kernel
theorem dL_law_1351 : decode cL_law 1351 = .ok (.goto (-1328), 3) := by decide +kernel
theorem dL_law_1354 : decode cL_law 1354 = .ok (.iconst 1, 1) := by decide +kernel
theorem dL_law_1355 : decode cL_law 1355 = .ok (.ireturn, 1) := by decide +kernel
