theorem wd_418 : (.methodLink RL 93 yL_lot : Cond) ∈ WS := ws_in (mt_1 (List.mem_of_getElem? (i := 157) (by decide +kernel))) (by decide +kernel)
theorem wd_419 : (.static yL_lot : Cond) ∈ WS := ws_in (mt_1 (List.mem_of_getElem? (i := 158) (by decide +kernel))) (by decide +kernel)
theorem wd_420 : (.initialized RL : Cond) ∈ WS := ws_in (mt_1 (List.mem_of_getElem? (i := 0) (by decide +kernel))) (by decide +kernel)
theorem wcL_lot : (.codeWith yL_lot cL_lot 7 (some .int) [(0, 14, 17, 13), (0, 14, 21, 15)] : Cond) ∈ WS := ws_in (mt_1 (List.mem_of_getElem? (i := 159) rfl)) rfl
theorem wd_422 : (.methodLink RL 98 yX5_lot : Cond) ∈ WS := ws_in (mt_3 (List.mem_of_getElem? (i := 195) (by decide +kernel))) (by decide +kernel)
theorem wd_423 : (.instanceMethod yX5_lot : Cond) ∈ WS := ws_in (mt_3 (List.mem_of_getElem? (i := 196) (by decide +kernel))) (by decide +kernel)
theorem wd_424 : (.selects RX5 yX5_lot yX5_lot : Cond) ∈ WS := ws_in (mt_3 (List.mem_of_getElem? (i := 197) (by decide +kernel))) (by decide +kernel)
theorem wcX5_lot : (.code yX5_lot cX5_lot 6 (some .int) : Cond) ∈ WS := ws_in (mt_3 (List.mem_of_getElem? (i := 198) rfl)) rfl
theorem wd_426 : (.methodLink RL 99 yX5_thrown : Cond) ∈ WS := ws_in (mt_3 (List.mem_of_getElem? (i := 191) (by decide +kernel))) (by decide +kernel)
theorem wd_427 : (.instanceMethod yX5_thrown : Cond) ∈ WS := ws_in (mt_3 (List.mem_of_getElem? (i := 192) (by decide +kernel))) (by decide +kernel)
theorem wd_428 : (.selects RX5 yX5_thrown yX5_thrown : Cond) ∈ WS := ws_in (mt_3 (List.mem_of_getElem? (i := 193) (by decide +kernel))) (by decide +kernel)
theorem wcX5_thrown : (.code yX5_thrown cX5_thrown 1 (some .int) : Cond) ∈ WS := ws_in (mt_3 (List.mem_of_getElem? (i := 194) rfl)) rfl
theorem wd_430 : (.methodLink RL 103 yL_rule : Cond) ∈ WS := ws_in (mt_2 (List.mem_of_getElem? (i := 34) (by decide +kernel))) (by decide +kernel)
theorem wd_431 : (.static yL_rule : Cond) ∈ WS := ws_in (mt_2 (List.mem_of_getElem? (i := 35) (by decide +kernel))) (by decide +kernel)
theorem wcL_rule : (.codeWith yL_rule cL_rule 5 (some .int) [(0, 7, 10, 13)] : Cond) ∈ WS := ws_in (mt_2 (List.mem_of_getElem? (i := 36) rfl)) rfl
theorem wd_433 : (.methodLink RL 106 yX5_rule : Cond) ∈ WS := ws_in (mt_3 (List.mem_of_getElem? (i := 211) (by decide +kernel))) (by decide +kernel)
theorem wd_434 : (.instanceMethod yX5_rule : Cond) ∈ WS := ws_in (mt_3 (List.mem_of_getElem? (i := 212) (by decide +kernel))) (by decide +kernel)
theorem wd_435 : (.selects RX5 yX5_rule yX5_rule : Cond) ∈ WS := ws_in (mt_3 (List.mem_of_getElem? (i := 213) (by decide +kernel))) (by decide +kernel)
theorem wcX5_rule : (.code yX5_rule cX5_rule 4 none : Cond) ∈ WS := ws_in (mt_3 (List.mem_of_getElem? (i := 214) rfl)) rfl
theorem wd_437 : (.methodLink RL 107 yL_wants : Cond) ∈ WS := ws_in (mt_2 (List.mem_of_getElem? (i := 41) (by decide +kernel))) (by decide +kernel)
theorem wd_438 : (.static yL_wants : Cond) ∈ WS := ws_in (mt_2 (List.mem_of_getElem? (i := 42) (by decide +kernel))) (by decide +kernel)
theorem wcL_wants : (.codeWith yL_wants cL_wants 4 (some .int) [(0, 6, 9, 13)] : Cond) ∈ WS := ws_in (mt_2 (List.mem_of_getElem? (i := 43) rfl)) rfl
theorem wd_440 : (.methodLink RL 110 yX5_wants : Cond) ∈ WS := ws_in (mt_3 (List.mem_of_getElem? (i := 215) (by decide +kernel))) (by decide +kernel)
theorem wd_441 : (.instanceMethod yX5_wants : Cond) ∈ WS := ws_in (mt_3 (List.mem_of_getElem? (i := 216) (by decide +kernel))) (by decide +kernel)
theorem wd_442 : (.selects RX5 yX5_wants yX5_wants : Cond) ∈ WS := ws_in (mt_3 (List.mem_of_getElem? (i := 217) (by decide +kernel))) (by decide +kernel)
theorem wcX5_wants : (.code yX5_wants cX5_wants 3 none : Cond) ∈ WS := ws_in (mt_3 (List.mem_of_getElem? (i := 218) rfl)) rfl
theorem wd_444 : (.methodLink RL 111 yL_right : Cond) ∈ WS := ws_in (mt_2 (List.mem_of_getElem? (i := 48) (by decide +kernel))) (by decide +kernel)
theorem wd_445 : (.static yL_right : Cond) ∈ WS := ws_in (mt_2 (List.mem_of_getElem? (i := 49) (by decide +kernel))) (by decide +kernel)
theorem wcL_right : (.codeWith yL_right cL_right 5 (some .int) [(0, 7, 10, 13)] : Cond) ∈ WS := ws_in (mt_2 (List.mem_of_getElem? (i := 50) rfl)) rfl
theorem wd_447 : (.methodLink RL 114 yX5_right : Cond) ∈ WS := ws_in (mt_3 (List.mem_of_getElem? (i := 219) (by decide +kernel))) (by decide +kernel)
theorem wd_448 : (.instanceMethod yX5_right : Cond) ∈ WS := ws_in (mt_3 (List.mem_of_getElem? (i := 220) (by decide +kernel))) (by decide +kernel)
theorem wd_449 : (.selects RX5 yX5_right yX5_right : Cond) ∈ WS := ws_in (mt_3 (List.mem_of_getElem? (i := 221) (by decide +kernel))) (by decide +kernel)
theorem wcX5_right : (.code yX5_right cX5_right 4 none : Cond) ∈ WS := ws_in (mt_3 (List.mem_of_getElem? (i := 222) rfl)) rfl
theorem wd_451 : (.methodLink RL 115 yL_block : Cond) ∈ WS := ws_in (mt_2 (List.mem_of_getElem? (i := 55) (by decide +kernel))) (by decide +kernel)
theorem wd_452 : (.static yL_block : Cond) ∈ WS := ws_in (mt_2 (List.mem_of_getElem? (i := 56) (by decide +kernel))) (by decide +kernel)
theorem wcL_block : (.codeWith yL_block cL_block 5 (some .int) [(0, 10, 13, 33), (0, 10, 17, 13), (0, 10, 21, 35), (0, 10, 25, 15)] : Cond) ∈ WS := ws_in (mt_2 (List.mem_of_getElem? (i := 57) rfl)) rfl
theorem wd_454 : (.methodLink RL 118 yX5_block : Cond) ∈ WS := ws_in (mt_3 (List.mem_of_getElem? (i := 223) (by decide +kernel))) (by decide +kernel)
theorem wd_455 : (.instanceMethod yX5_block : Cond) ∈ WS := ws_in (mt_3 (List.mem_of_getElem? (i := 224) (by decide +kernel))) (by decide +kernel)
theorem wd_456 : (.selects RX5 yX5_block yX5_block : Cond) ∈ WS := ws_in (mt_3 (List.mem_of_getElem? (i := 225) (by decide +kernel))) (by decide +kernel)
theorem wcX5_block : (.code yX5_block cX5_block 3 (some .int) : Cond) ∈ WS := ws_in (mt_3 (List.mem_of_getElem? (i := 226) rfl)) rfl
theorem wd_458 : (.methodLink RL 119 yL_release : Cond) ∈ WS := ws_in (mt_2 (List.mem_of_getElem? (i := 109) (by decide +kernel))) (by decide +kernel)
theorem wd_459 : (.static yL_release : Cond) ∈ WS := ws_in (mt_2 (List.mem_of_getElem? (i := 110) (by decide +kernel))) (by decide +kernel)
theorem wcL_release : (.codeWith yL_release cL_release 5 (some .int) [(0, 10, 13, 33), (0, 10, 17, 13), (0, 10, 21, 35), (0, 10, 25, 15)] : Cond) ∈ WS := ws_in (mt_2 (List.mem_of_getElem? (i := 111) rfl)) rfl
theorem wd_461 : (.methodLink RL 121 yX5_release : Cond) ∈ WS := ws_in (mt_3 (List.mem_of_getElem? (i := 238) (by decide +kernel))) (by decide +kernel)
theorem wd_462 : (.instanceMethod yX5_release : Cond) ∈ WS := ws_in (mt_3 (List.mem_of_getElem? (i := 239) (by decide +kernel))) (by decide +kernel)
theorem wd_463 : (.selects RX5 yX5_release yX5_release : Cond) ∈ WS := ws_in (mt_4 (List.mem_of_getElem? (i := 0) (by decide +kernel))) (by decide +kernel)
theorem wcX5_release : (.code yX5_release cX5_release 4 (some .int) : Cond) ∈ WS := ws_in (mt_4 (List.mem_of_getElem? (i := 1) rfl)) rfl
theorem wd_465 : (.methodLink RL 122 yL_quarantine : Cond) ∈ WS := ws_in (mt_2 (List.mem_of_getElem? (i := 116) (by decide +kernel))) (by decide +kernel)
theorem wd_466 : (.static yL_quarantine : Cond) ∈ WS := ws_in (mt_2 (List.mem_of_getElem? (i := 117) (by decide +kernel))) (by decide +kernel)
theorem wcL_quarantine : (.codeWith yL_quarantine cL_quarantine 4 (some .int) [(0, 6, 9, 33), (0, 6, 12, 35), (0, 6, 15, 15)] : Cond) ∈ WS := ws_in (mt_2 (List.mem_of_getElem? (i := 118) rfl)) rfl
theorem wd_468 : (.methodLink RL 125 yX5_quarantine : Cond) ∈ WS := ws_in (mt_4 (List.mem_of_getElem? (i := 2) (by decide +kernel))) (by decide +kernel)
theorem wd_469 : (.instanceMethod yX5_quarantine : Cond) ∈ WS := ws_in (mt_4 (List.mem_of_getElem? (i := 3) (by decide +kernel))) (by decide +kernel)
theorem wd_470 : (.selects RX5 yX5_quarantine yX5_quarantine : Cond) ∈ WS := ws_in (mt_4 (List.mem_of_getElem? (i := 4) (by decide +kernel))) (by decide +kernel)
theorem wcX5_quarantine : (.code yX5_quarantine cX5_quarantine 3 none : Cond) ∈ WS := ws_in (mt_4 (List.mem_of_getElem? (i := 5) rfl)) rfl
theorem wd_472 : (.methodLink RL 126 yL_order : Cond) ∈ WS := ws_in (mt_2 (List.mem_of_getElem? (i := 123) (by decide +kernel))) (by decide +kernel)
theorem wd_473 : (.static yL_order : Cond) ∈ WS := ws_in (mt_2 (List.mem_of_getElem? (i := 124) (by decide +kernel))) (by decide +kernel)
theorem wcL_order : (.codeWith yL_order cL_order 6 (some .int) [(0, 12, 15, 13)] : Cond) ∈ WS := ws_in (mt_2 (List.mem_of_getElem? (i := 125) rfl)) rfl
theorem wd_475 : (.methodLink RL 129 yX5_order : Cond) ∈ WS := ws_in (mt_4 (List.mem_of_getElem? (i := 6) (by decide +kernel))) (by decide +kernel)
theorem wd_476 : (.instanceMethod yX5_order : Cond) ∈ WS := ws_in (mt_4 (List.mem_of_getElem? (i := 7) (by decide +kernel))) (by decide +kernel)
theorem wd_477 : (.selects RX5 yX5_order yX5_order : Cond) ∈ WS := ws_in (mt_4 (List.mem_of_getElem? (i := 8) (by decide +kernel))) (by decide +kernel)
theorem wcX5_order : (.code yX5_order cX5_order 7 (some .int) : Cond) ∈ WS := ws_in (mt_4 (List.mem_of_getElem? (i := 9) rfl)) rfl
theorem wd_479 : (.methodLink RL 130 yL_allowed : Cond) ∈ WS := ws_in (mt_2 (List.mem_of_getElem? (i := 155) (by decide +kernel))) (by decide +kernel)
theorem wd_480 : (.static yL_allowed : Cond) ∈ WS := ws_in (mt_2 (List.mem_of_getElem? (i := 156) (by decide +kernel))) (by decide +kernel)
theorem wcL_allowed : (.codeWith yL_allowed cL_allowed 6 (some .int) [(0, 19, 22, 33), (0, 19, 26, 13)] : Cond) ∈ WS := ws_in (mt_2 (List.mem_of_getElem? (i := 157) rfl)) rfl
theorem wd_482 : (.methodLink RL 132 yX5_allowed : Cond) ∈ WS := ws_in (mt_4 (List.mem_of_getElem? (i := 18) (by decide +kernel))) (by decide +kernel)
theorem wd_483 : (.instanceMethod yX5_allowed : Cond) ∈ WS := ws_in (mt_4 (List.mem_of_getElem? (i := 19) (by decide +kernel))) (by decide +kernel)
theorem wd_484 : (.selects RX5 yX5_allowed yX5_allowed : Cond) ∈ WS := ws_in (mt_4 (List.mem_of_getElem? (i := 20) (by decide +kernel))) (by decide +kernel)
theorem wcX5_allowed : (.code yX5_allowed cX5_allowed 4 (some .boolean) : Cond) ∈ WS := ws_in (mt_4 (List.mem_of_getElem? (i := 21) rfl)) rfl
theorem wd_486 : (.methodLink RL 133 yL_split : Cond) ∈ WS := ws_in (mt_2 (List.mem_of_getElem? (i := 167) (by decide +kernel))) (by decide +kernel)
theorem wd_487 : (.static yL_split : Cond) ∈ WS := ws_in (mt_2 (List.mem_of_getElem? (i := 168) (by decide +kernel))) (by decide +kernel)
theorem wcL_split : (.codeWith yL_split cL_split 4 (some .int) [(0, 9, 12, 33), (0, 9, 15, 35), (0, 9, 18, 15)] : Cond) ∈ WS := ws_in (mt_2 (List.mem_of_getElem? (i := 169) rfl)) rfl
theorem wd_489 : (.methodLink RL 136 yX5_split : Cond) ∈ WS := ws_in (mt_4 (List.mem_of_getElem? (i := 26) (by decide +kernel))) (by decide +kernel)
theorem wd_490 : (.instanceMethod yX5_split : Cond) ∈ WS := ws_in (mt_4 (List.mem_of_getElem? (i := 27) (by decide +kernel))) (by decide +kernel)
theorem wd_491 : (.selects RX5 yX5_split yX5_split : Cond) ∈ WS := ws_in (mt_4 (List.mem_of_getElem? (i := 28) (by decide +kernel))) (by decide +kernel)
theorem wcX5_split : (.code yX5_split cX5_split 3 (some .int) : Cond) ∈ WS := ws_in (mt_4 (List.mem_of_getElem? (i := 29) rfl)) rfl
theorem wd_493 : (.methodLink RL 137 yL_join : Cond) ∈ WS := ws_in (mt_2 (List.mem_of_getElem? (i := 179) (by decide +kernel))) (by decide +kernel)
theorem wd_494 : (.static yL_join : Cond) ∈ WS := ws_in (mt_2 (List.mem_of_getElem? (i := 180) (by decide +kernel))) (by decide +kernel)
theorem wcL_join : (.codeWith yL_join cL_join 4 (some .int) [(0, 6, 9, 33), (0, 6, 12, 35), (0, 6, 15, 15)] : Cond) ∈ WS := ws_in (mt_2 (List.mem_of_getElem? (i := 181) rfl)) rfl
theorem wd_496 : (.methodLink RL 139 yX5_join : Cond) ∈ WS := ws_in (mt_4 (List.mem_of_getElem? (i := 30) (by decide +kernel))) (by decide +kernel)
theorem wd_497 : (.instanceMethod yX5_join : Cond) ∈ WS := ws_in (mt_4 (List.mem_of_getElem? (i := 31) (by decide +kernel))) (by decide +kernel)
theorem wd_498 : (.selects RX5 yX5_join yX5_join : Cond) ∈ WS := ws_in (mt_4 (List.mem_of_getElem? (i := 32) (by decide +kernel))) (by decide +kernel)
theorem wcX5_join : (.code yX5_join cX5_join 4 none : Cond) ∈ WS := ws_in (mt_4 (List.mem_of_getElem? (i := 33) rfl)) rfl
theorem wd_500 : (.methodLink RL 140 yL_unit : Cond) ∈ WS := ws_in (mt_2 (List.mem_of_getElem? (i := 198) (by decide +kernel))) (by decide +kernel)
theorem wd_501 : (.static yL_unit : Cond) ∈ WS := ws_in (mt_2 (List.mem_of_getElem? (i := 199) (by decide +kernel))) (by decide +kernel)
theorem wcL_unit : (.codeWith yL_unit cL_unit 4 (some .int) [(0, 9, 12, 33), (0, 9, 15, 35), (0, 9, 18, 15)] : Cond) ∈ WS := ws_in (mt_2 (List.mem_of_getElem? (i := 200) rfl)) rfl
theorem wd_503 : (.methodLink RL 142 yX5_unit : Cond) ∈ WS := ws_in (mt_4 (List.mem_of_getElem? (i := 34) (by decide +kernel))) (by decide +kernel)
theorem wd_504 : (.instanceMethod yX5_unit : Cond) ∈ WS := ws_in (mt_4 (List.mem_of_getElem? (i := 35) (by decide +kernel))) (by decide +kernel)
theorem wd_505 : (.selects RX5 yX5_unit yX5_unit : Cond) ∈ WS := ws_in (mt_4 (List.mem_of_getElem? (i := 36) (by decide +kernel))) (by decide +kernel)
theorem wcX5_unit : (.code yX5_unit cX5_unit 2 (some .int) : Cond) ∈ WS := ws_in (mt_4 (List.mem_of_getElem? (i := 37) rfl)) rfl
theorem wd_507 : (.methodLink RL 143 yL_put : Cond) ∈ WS := ws_in (mt_2 (List.mem_of_getElem? (i := 213) (by decide +kernel))) (by decide +kernel)
theorem wd_508 : (.static yL_put : Cond) ∈ WS := ws_in (mt_2 (List.mem_of_getElem? (i := 214) (by decide +kernel))) (by decide +kernel)
theorem wcL_put : (.codeWith yL_put cL_put 4 (some .int) [(0, 6, 9, 33), (0, 6, 12, 13), (0, 6, 15, 35)] : Cond) ∈ WS := ws_in (mt_2 (List.mem_of_getElem? (i := 215) rfl)) rfl
theorem wd_510 : (.methodLink RL 145 yX5_put : Cond) ∈ WS := ws_in (mt_4 (List.mem_of_getElem? (i := 38) (by decide +kernel))) (by decide +kernel)
theorem wd_511 : (.instanceMethod yX5_put : Cond) ∈ WS := ws_in (mt_4 (List.mem_of_getElem? (i := 39) (by decide +kernel))) (by decide +kernel)
theorem wd_512 : (.selects RX5 yX5_put yX5_put : Cond) ∈ WS := ws_in (mt_4 (List.mem_of_getElem? (i := 40) (by decide +kernel))) (by decide +kernel)
theorem wcX5_put : (.code yX5_put cX5_put 4 none : Cond) ∈ WS := ws_in (mt_4 (List.mem_of_getElem? (i := 41) rfl)) rfl
theorem wd_514 : (.methodLink RL 146 yL_mixed : Cond) ∈ WS := ws_in (mt_3 (List.mem_of_getElem? (i := 1) (by decide +kernel))) (by decide +kernel)
theorem wd_515 : (.static yL_mixed : Cond) ∈ WS := ws_in (mt_3 (List.mem_of_getElem? (i := 2) (by decide +kernel))) (by decide +kernel)
theorem wcL_mixed : (.codeWith yL_mixed cL_mixed 4 (some .int) [(0, 9, 12, 13)] : Cond) ∈ WS := ws_in (mt_3 (List.mem_of_getElem? (i := 3) rfl)) rfl
theorem wd_517 : (.methodLink RL 148 yX5_mixed : Cond) ∈ WS := ws_in (mt_4 (List.mem_of_getElem? (i := 54) (by decide +kernel))) (by decide +kernel)
theorem wd_518 : (.instanceMethod yX5_mixed : Cond) ∈ WS := ws_in (mt_4 (List.mem_of_getElem? (i := 55) (by decide +kernel))) (by decide +kernel)
theorem wd_519 : (.selects RX5 yX5_mixed yX5_mixed : Cond) ∈ WS := ws_in (mt_4 (List.mem_of_getElem? (i := 56) (by decide +kernel))) (by decide +kernel)
theorem wcX5_mixed : (.code yX5_mixed cX5_mixed 2 (some .int) : Cond) ∈ WS := ws_in (mt_4 (List.mem_of_getElem? (i := 57) rfl)) rfl
theorem wd_521 : (.methodLink RL 149 yL_ship : Cond) ∈ WS := ws_in (mt_3 (List.mem_of_getElem? (i := 8) (by decide +kernel))) (by decide +kernel)
theorem wd_522 : (.static yL_ship : Cond) ∈ WS := ws_in (mt_3 (List.mem_of_getElem? (i := 9) (by decide +kernel))) (by decide +kernel)
theorem wcL_ship : (.codeWith yL_ship cL_ship 5 (some .int) [(0, 7, 10, 33), (0, 7, 14, 13), (0, 7, 18, 35), (0, 7, 22, 15)] : Cond) ∈ WS := ws_in (mt_3 (List.mem_of_getElem? (i := 10) rfl)) rfl
theorem wd_524 : (.methodLink RL 151 yX5_ship : Cond) ∈ WS := ws_in (mt_4 (List.mem_of_getElem? (i := 58) (by decide +kernel))) (by decide +kernel)
theorem wd_525 : (.instanceMethod yX5_ship : Cond) ∈ WS := ws_in (mt_4 (List.mem_of_getElem? (i := 59) (by decide +kernel))) (by decide +kernel)
theorem wd_526 : (.selects RX5 yX5_ship yX5_ship : Cond) ∈ WS := ws_in (mt_4 (List.mem_of_getElem? (i := 60) (by decide +kernel))) (by decide +kernel)
theorem wcX5_ship : (.code yX5_ship cX5_ship 4 none : Cond) ∈ WS := ws_in (mt_4 (List.mem_of_getElem? (i := 61) rfl)) rfl
theorem wd_528 : (.methodLink RL 152 yL_recall : Cond) ∈ WS := ws_in (mt_3 (List.mem_of_getElem? (i := 19) (by decide +kernel))) (by decide +kernel)
theorem wd_529 : (.static yL_recall : Cond) ∈ WS := ws_in (mt_3 (List.mem_of_getElem? (i := 20) (by decide +kernel))) (by decide +kernel)
theorem wcL_recall : (.codeWith yL_recall cL_recall 5 (some .int) [(0, 10, 13, 33), (0, 10, 17, 13)] : Cond) ∈ WS := ws_in (mt_3 (List.mem_of_getElem? (i := 21) rfl)) rfl
theorem wd_531 : (.methodLink RL 154 yX5_recall : Cond) ∈ WS := ws_in (mt_4 (List.mem_of_getElem? (i := 62) (by decide +kernel))) (by decide +kernel)
theorem wd_532 : (.instanceMethod yX5_recall : Cond) ∈ WS := ws_in (mt_4 (List.mem_of_getElem? (i := 63) (by decide +kernel))) (by decide +kernel)
theorem wd_533 : (.selects RX5 yX5_recall yX5_recall : Cond) ∈ WS := ws_in (mt_4 (List.mem_of_getElem? (i := 64) (by decide +kernel))) (by decide +kernel)
theorem wcX5_recall : (.code yX5_recall cX5_recall 7 (some .int) : Cond) ∈ WS := ws_in (mt_4 (List.mem_of_getElem? (i := 65) rfl)) rfl
theorem wd_535 : (.methodLink RL 155 yL_where : Cond) ∈ WS := ws_in (mt_3 (List.mem_of_getElem? (i := 34) (by decide +kernel))) (by decide +kernel)
theorem wd_536 : (.static yL_where : Cond) ∈ WS := ws_in (mt_3 (List.mem_of_getElem? (i := 35) (by decide +kernel))) (by decide +kernel)
theorem wcL_where : (.codeWith yL_where cL_where 5 (some .int) [(0, 10, 13, 33), (0, 10, 17, 13)] : Cond) ∈ WS := ws_in (mt_3 (List.mem_of_getElem? (i := 36) rfl)) rfl
theorem wd_538 : (.methodLink RL 157 yX5_where : Cond) ∈ WS := ws_in (mt_4 (List.mem_of_getElem? (i := 70) (by decide +kernel))) (by decide +kernel)
theorem wd_539 : (.instanceMethod yX5_where : Cond) ∈ WS := ws_in (mt_4 (List.mem_of_getElem? (i := 71) (by decide +kernel))) (by decide +kernel)
theorem wd_540 : (.selects RX5 yX5_where yX5_where : Cond) ∈ WS := ws_in (mt_4 (List.mem_of_getElem? (i := 72) (by decide +kernel))) (by decide +kernel)
theorem wcX5_where : (.code yX5_where cX5_where 3 (some .int) : Cond) ∈ WS := ws_in (mt_4 (List.mem_of_getElem? (i := 73) rfl)) rfl
theorem wd_542 : (.methodLink RL 158 yL_history : Cond) ∈ WS := ws_in (mt_3 (List.mem_of_getElem? (i := 42) (by decide +kernel))) (by decide +kernel)
theorem wd_543 : (.static yL_history : Cond) ∈ WS := ws_in (mt_3 (List.mem_of_getElem? (i := 43) (by decide +kernel))) (by decide +kernel)
theorem wcL_history : (.codeWith yL_history cL_history 6 (some .int) [(0, 12, 15, 33), (0, 12, 19, 13)] : Cond) ∈ WS := ws_in (mt_3 (List.mem_of_getElem? (i := 44) rfl)) rfl
theorem wd_545 : (.methodLink RL 160 yX5_history : Cond) ∈ WS := ws_in (mt_4 (List.mem_of_getElem? (i := 74) (by decide +kernel))) (by decide +kernel)
theorem wd_546 : (.instanceMethod yX5_history : Cond) ∈ WS := ws_in (mt_4 (List.mem_of_getElem? (i := 75) (by decide +kernel))) (by decide +kernel)
theorem wd_547 : (.selects RX5 yX5_history yX5_history : Cond) ∈ WS := ws_in (mt_4 (List.mem_of_getElem? (i := 76) (by decide +kernel))) (by decide +kernel)
theorem wcX5_history : (.code yX5_history cX5_history 7 (some .int) : Cond) ∈ WS := ws_in (mt_4 (List.mem_of_getElem? (i := 77) rfl)) rfl
theorem wd_549 : (.methodLink RL 161 yL_told : Cond) ∈ WS := ws_in (mt_3 (List.mem_of_getElem? (i := 54) (by decide +kernel))) (by decide +kernel)
theorem wd_550 : (.static yL_told : Cond) ∈ WS := ws_in (mt_3 (List.mem_of_getElem? (i := 55) (by decide +kernel))) (by decide +kernel)
theorem wcL_told : (.codeWith yL_told cL_told 5 (some .int) [(0, 10, 13, 33), (0, 10, 17, 13)] : Cond) ∈ WS := ws_in (mt_3 (List.mem_of_getElem? (i := 56) rfl)) rfl
theorem wd_552 : (.methodLink RL 163 yX5_told : Cond) ∈ WS := ws_in (mt_4 (List.mem_of_getElem? (i := 78) (by decide +kernel))) (by decide +kernel)
theorem wd_553 : (.instanceMethod yX5_told : Cond) ∈ WS := ws_in (mt_4 (List.mem_of_getElem? (i := 79) (by decide +kernel))) (by decide +kernel)
theorem wd_554 : (.selects RX5 yX5_told yX5_told : Cond) ∈ WS := ws_in (mt_4 (List.mem_of_getElem? (i := 80) (by decide +kernel))) (by decide +kernel)
theorem wcX5_told : (.code yX5_told cX5_told 5 (some .int) : Cond) ∈ WS := ws_in (mt_4 (List.mem_of_getElem? (i := 81) rfl)) rfl
theorem wd_556 : (.methodLink RL 164 yL_day : Cond) ∈ WS := ws_in (mt_3 (List.mem_of_getElem? (i := 67) (by decide +kernel))) (by decide +kernel)
theorem wd_557 : (.static yL_day : Cond) ∈ WS := ws_in (mt_3 (List.mem_of_getElem? (i := 68) (by decide +kernel))) (by decide +kernel)
theorem wcL_day : (.codeWith yL_day cL_day 5 (some .int) [(0, 10, 13, 13)] : Cond) ∈ WS := ws_in (mt_3 (List.mem_of_getElem? (i := 69) rfl)) rfl
theorem wd_559 : (.methodLink RL 166 yX5_day : Cond) ∈ WS := ws_in (mt_4 (List.mem_of_getElem? (i := 82) (by decide +kernel))) (by decide +kernel)
theorem wd_560 : (.instanceMethod yX5_day : Cond) ∈ WS := ws_in (mt_4 (List.mem_of_getElem? (i := 83) (by decide +kernel))) (by decide +kernel)
theorem wd_561 : (.selects RX5 yX5_day yX5_day : Cond) ∈ WS := ws_in (mt_4 (List.mem_of_getElem? (i := 84) (by decide +kernel))) (by decide +kernel)
theorem wcX5_day : (.code yX5_day cX5_day 4 (some .int) : Cond) ∈ WS := ws_in (mt_4 (List.mem_of_getElem? (i := 85) rfl)) rfl
theorem wd_563 : (.methodLink RL 167 yL_date : Cond) ∈ WS := ws_in (mt_3 (List.mem_of_getElem? (i := 91) (by decide +kernel))) (by decide +kernel)
theorem wd_564 : (.static yL_date : Cond) ∈ WS := ws_in (mt_3 (List.mem_of_getElem? (i := 92) (by decide +kernel))) (by decide +kernel)
theorem wcL_date : (.codeWith yL_date cL_date 5 (some .int) [(0, 10, 13, 13)] : Cond) ∈ WS := ws_in (mt_3 (List.mem_of_getElem? (i := 93) rfl)) rfl
theorem wd_566 : (.methodLink RL 169 yX5_date : Cond) ∈ WS := ws_in (mt_4 (List.mem_of_getElem? (i := 100) (by decide +kernel))) (by decide +kernel)
theorem wd_567 : (.instanceMethod yX5_date : Cond) ∈ WS := ws_in (mt_4 (List.mem_of_getElem? (i := 101) (by decide +kernel))) (by decide +kernel)
theorem wd_568 : (.selects RX5 yX5_date yX5_date : Cond) ∈ WS := ws_in (mt_4 (List.mem_of_getElem? (i := 102) (by decide +kernel))) (by decide +kernel)
theorem wcX5_date : (.code yX5_date cX5_date 6 (some .int) : Cond) ∈ WS := ws_in (mt_4 (List.mem_of_getElem? (i := 103) rfl)) rfl
theorem wd_570 : (.methodLink RL 170 yX4_count : Cond) ∈ WS := ws_in (mt_1 (List.mem_of_getElem? (i := 153) (by decide +kernel))) (by decide +kernel)
theorem wd_571 : (.instanceMethod yX4_count : Cond) ∈ WS := ws_in (mt_1 (List.mem_of_getElem? (i := 154) (by decide +kernel))) (by decide +kernel)
theorem wd_572 : (.selects RX4 yX4_count yX4_count : Cond) ∈ WS := ws_in (mt_1 (List.mem_of_getElem? (i := 155) (by decide +kernel))) (by decide +kernel)
theorem wcX4_count : (.code yX4_count cX4_count 2 (some .int) : Cond) ∈ WS := ws_in (mt_1 (List.mem_of_getElem? (i := 156) rfl)) rfl
theorem wd_574 : (.methodLink RL 173 yX5_count : Cond) ∈ WS := ws_in (mt_4 (List.mem_of_getElem? (i := 104) (by decide +kernel))) (by decide +kernel)
theorem wd_575 : (.instanceMethod yX5_count : Cond) ∈ WS := ws_in (mt_4 (List.mem_of_getElem? (i := 105) (by decide +kernel))) (by decide +kernel)
theorem wd_576 : (.selects RX5 yX5_count yX5_count : Cond) ∈ WS := ws_in (mt_4 (List.mem_of_getElem? (i := 106) (by decide +kernel))) (by decide +kernel)
theorem wcX5_count : (.code yX5_count cX5_count 4 (some .int) : Cond) ∈ WS := ws_in (mt_4 (List.mem_of_getElem? (i := 107) rfl)) rfl