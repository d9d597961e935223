theorem wd_329 : (.methodLink RX5 1 objectInit : Cond) ∈ WS := ws_in (mt_3 (List.mem_of_getElem? (i := 111) (by decide +kernel))) (by decide +kernel)
theorem wd_330 : (.methodLink RL 7 yX4_lot : Cond) ∈ WS := ws_in (mt_1 (List.mem_of_getElem? (i := 162) (by decide +kernel))) (by decide +kernel)
theorem wd_331 : (.instanceMethod yX4_lot : Cond) ∈ WS := ws_in (mt_1 (List.mem_of_getElem? (i := 163) (by decide +kernel))) (by decide +kernel)
theorem wd_332 : (.selects RX4 yX4_lot yX4_lot : Cond) ∈ WS := ws_in (mt_1 (List.mem_of_getElem? (i := 164) (by decide +kernel))) (by decide +kernel)
theorem wcX4_lot : (.code yX4_lot cX4_lot 6 (some .int) : Cond) ∈ WS := ws_in (mt_1 (List.mem_of_getElem? (i := 165) rfl)) rfl
theorem wd_334 : (.classLink RL 13 "java/lang/IllegalArgumentException" : Cond) ∈ WS := ws_in (mt_1 (List.mem_of_getElem? (i := 160) (by decide +kernel))) (by decide +kernel)
theorem wd_335 : (.classLink RL 15 "java/lang/UnsupportedOperationException" : Cond) ∈ WS := ws_in (mt_1 (List.mem_of_getElem? (i := 161) (by decide +kernel))) (by decide +kernel)
theorem wd_336 : (.methodLink RL 17 yX4_rule : Cond) ∈ WS := ws_in (mt_2 (List.mem_of_getElem? (i := 37) (by decide +kernel))) (by decide +kernel)
theorem wd_337 : (.instanceMethod yX4_rule : Cond) ∈ WS := ws_in (mt_2 (List.mem_of_getElem? (i := 38) (by decide +kernel))) (by decide +kernel)
theorem wd_338 : (.selects RX4 yX4_rule yX4_rule : Cond) ∈ WS := ws_in (mt_2 (List.mem_of_getElem? (i := 39) (by decide +kernel))) (by decide +kernel)
theorem wcX4_rule : (.code yX4_rule cX4_rule 4 none : Cond) ∈ WS := ws_in (mt_2 (List.mem_of_getElem? (i := 40) rfl)) rfl
theorem wd_340 : (.methodLink RL 21 yX4_wants : Cond) ∈ WS := ws_in (mt_2 (List.mem_of_getElem? (i := 44) (by decide +kernel))) (by decide +kernel)
theorem wd_341 : (.instanceMethod yX4_wants : Cond) ∈ WS := ws_in (mt_2 (List.mem_of_getElem? (i := 45) (by decide +kernel))) (by decide +kernel)
theorem wd_342 : (.selects RX4 yX4_wants yX4_wants : Cond) ∈ WS := ws_in (mt_2 (List.mem_of_getElem? (i := 46) (by decide +kernel))) (by decide +kernel)
theorem wcX4_wants : (.code yX4_wants cX4_wants 3 none : Cond) ∈ WS := ws_in (mt_2 (List.mem_of_getElem? (i := 47) rfl)) rfl
theorem wd_344 : (.methodLink RL 25 yX4_right : Cond) ∈ WS := ws_in (mt_2 (List.mem_of_getElem? (i := 51) (by decide +kernel))) (by decide +kernel)
theorem wd_345 : (.instanceMethod yX4_right : Cond) ∈ WS := ws_in (mt_2 (List.mem_of_getElem? (i := 52) (by decide +kernel))) (by decide +kernel)
theorem wd_346 : (.selects RX4 yX4_right yX4_right : Cond) ∈ WS := ws_in (mt_2 (List.mem_of_getElem? (i := 53) (by decide +kernel))) (by decide +kernel)
theorem wcX4_right : (.code yX4_right cX4_right 4 none : Cond) ∈ WS := ws_in (mt_2 (List.mem_of_getElem? (i := 54) rfl)) rfl
theorem wd_348 : (.methodLink RL 29 yX4_block : Cond) ∈ WS := ws_in (mt_2 (List.mem_of_getElem? (i := 60) (by decide +kernel))) (by decide +kernel)
theorem wd_349 : (.instanceMethod yX4_block : Cond) ∈ WS := ws_in (mt_2 (List.mem_of_getElem? (i := 61) (by decide +kernel))) (by decide +kernel)
theorem wd_350 : (.selects RX4 yX4_block yX4_block : Cond) ∈ WS := ws_in (mt_2 (List.mem_of_getElem? (i := 62) (by decide +kernel))) (by decide +kernel)
theorem wcX4_block : (.code yX4_block cX4_block 4 (some .int) : Cond) ∈ WS := ws_in (mt_2 (List.mem_of_getElem? (i := 63) rfl)) rfl
theorem wd_352 : (.classLink RL 33 "java/util/NoSuchElementException" : Cond) ∈ WS := ws_in (mt_2 (List.mem_of_getElem? (i := 58) (by decide +kernel))) (by decide +kernel)
theorem wd_353 : (.classLink RL 35 "java/lang/IllegalStateException" : Cond) ∈ WS := ws_in (mt_2 (List.mem_of_getElem? (i := 59) (by decide +kernel))) (by decide +kernel)
theorem wd_354 : (.methodLink RL 37 yX4_release : Cond) ∈ WS := ws_in (mt_2 (List.mem_of_getElem? (i := 112) (by decide +kernel))) (by decide +kernel)
theorem wd_355 : (.instanceMethod yX4_release : Cond) ∈ WS := ws_in (mt_2 (List.mem_of_getElem? (i := 113) (by decide +kernel))) (by decide +kernel)
theorem wd_356 : (.selects RX4 yX4_release yX4_release : Cond) ∈ WS := ws_in (mt_2 (List.mem_of_getElem? (i := 114) (by decide +kernel))) (by decide +kernel)
theorem wcX4_release : (.code yX4_release cX4_release 4 (some .int) : Cond) ∈ WS := ws_in (mt_2 (List.mem_of_getElem? (i := 115) rfl)) rfl
theorem wd_358 : (.methodLink RL 40 yX4_quarantine : Cond) ∈ WS := ws_in (mt_2 (List.mem_of_getElem? (i := 119) (by decide +kernel))) (by decide +kernel)
theorem wd_359 : (.instanceMethod yX4_quarantine : Cond) ∈ WS := ws_in (mt_2 (List.mem_of_getElem? (i := 120) (by decide +kernel))) (by decide +kernel)
theorem wd_360 : (.selects RX4 yX4_quarantine yX4_quarantine : Cond) ∈ WS := ws_in (mt_2 (List.mem_of_getElem? (i := 121) (by decide +kernel))) (by decide +kernel)
theorem wcX4_quarantine : (.code yX4_quarantine cX4_quarantine 3 none : Cond) ∈ WS := ws_in (mt_2 (List.mem_of_getElem? (i := 122) rfl)) rfl
theorem wd_362 : (.methodLink RL 44 yX4_order : Cond) ∈ WS := ws_in (mt_2 (List.mem_of_getElem? (i := 126) (by decide +kernel))) (by decide +kernel)
theorem wd_363 : (.instanceMethod yX4_order : Cond) ∈ WS := ws_in (mt_2 (List.mem_of_getElem? (i := 127) (by decide +kernel))) (by decide +kernel)
theorem wd_364 : (.selects RX4 yX4_order yX4_order : Cond) ∈ WS := ws_in (mt_2 (List.mem_of_getElem? (i := 128) (by decide +kernel))) (by decide +kernel)
theorem wcX4_order : (.code yX4_order cX4_order 5 (some .int) : Cond) ∈ WS := ws_in (mt_2 (List.mem_of_getElem? (i := 129) rfl)) rfl
theorem wd_366 : (.methodLink RL 48 yX4_allowed : Cond) ∈ WS := ws_in (mt_2 (List.mem_of_getElem? (i := 158) (by decide +kernel))) (by decide +kernel)
theorem wd_367 : (.instanceMethod yX4_allowed : Cond) ∈ WS := ws_in (mt_2 (List.mem_of_getElem? (i := 159) (by decide +kernel))) (by decide +kernel)
theorem wd_368 : (.selects RX4 yX4_allowed yX4_allowed : Cond) ∈ WS := ws_in (mt_2 (List.mem_of_getElem? (i := 160) (by decide +kernel))) (by decide +kernel)
theorem wcX4_allowed : (.code yX4_allowed cX4_allowed 4 (some .boolean) : Cond) ∈ WS := ws_in (mt_2 (List.mem_of_getElem? (i := 161) rfl)) rfl
theorem wd_370 : (.methodLink RL 52 yX4_split : Cond) ∈ WS := ws_in (mt_2 (List.mem_of_getElem? (i := 170) (by decide +kernel))) (by decide +kernel)
theorem wd_371 : (.instanceMethod yX4_split : Cond) ∈ WS := ws_in (mt_2 (List.mem_of_getElem? (i := 171) (by decide +kernel))) (by decide +kernel)
theorem wd_372 : (.selects RX4 yX4_split yX4_split : Cond) ∈ WS := ws_in (mt_2 (List.mem_of_getElem? (i := 172) (by decide +kernel))) (by decide +kernel)
theorem wcX4_split : (.code yX4_split cX4_split 3 (some .int) : Cond) ∈ WS := ws_in (mt_2 (List.mem_of_getElem? (i := 173) rfl)) rfl
theorem wd_374 : (.methodLink RL 56 yX4_join : Cond) ∈ WS := ws_in (mt_2 (List.mem_of_getElem? (i := 182) (by decide +kernel))) (by decide +kernel)
theorem wd_375 : (.instanceMethod yX4_join : Cond) ∈ WS := ws_in (mt_2 (List.mem_of_getElem? (i := 183) (by decide +kernel))) (by decide +kernel)
theorem wd_376 : (.selects RX4 yX4_join yX4_join : Cond) ∈ WS := ws_in (mt_2 (List.mem_of_getElem? (i := 184) (by decide +kernel))) (by decide +kernel)
theorem wcX4_join : (.code yX4_join cX4_join 3 none : Cond) ∈ WS := ws_in (mt_2 (List.mem_of_getElem? (i := 185) rfl)) rfl
theorem wd_378 : (.methodLink RL 59 yX4_unit : Cond) ∈ WS := ws_in (mt_2 (List.mem_of_getElem? (i := 201) (by decide +kernel))) (by decide +kernel)
theorem wd_379 : (.instanceMethod yX4_unit : Cond) ∈ WS := ws_in (mt_2 (List.mem_of_getElem? (i := 202) (by decide +kernel))) (by decide +kernel)
theorem wd_380 : (.selects RX4 yX4_unit yX4_unit : Cond) ∈ WS := ws_in (mt_2 (List.mem_of_getElem? (i := 203) (by decide +kernel))) (by decide +kernel)
theorem wcX4_unit : (.code yX4_unit cX4_unit 3 (some .int) : Cond) ∈ WS := ws_in (mt_2 (List.mem_of_getElem? (i := 204) rfl)) rfl
theorem wd_382 : (.methodLink RL 62 yX4_put : Cond) ∈ WS := ws_in (mt_2 (List.mem_of_getElem? (i := 216) (by decide +kernel))) (by decide +kernel)
theorem wd_383 : (.instanceMethod yX4_put : Cond) ∈ WS := ws_in (mt_2 (List.mem_of_getElem? (i := 217) (by decide +kernel))) (by decide +kernel)
theorem wd_384 : (.selects RX4 yX4_put yX4_put : Cond) ∈ WS := ws_in (mt_2 (List.mem_of_getElem? (i := 218) (by decide +kernel))) (by decide +kernel)
theorem wcX4_put : (.code yX4_put cX4_put 4 none : Cond) ∈ WS := ws_in (mt_2 (List.mem_of_getElem? (i := 219) rfl)) rfl
theorem wd_386 : (.methodLink RL 65 yX4_mixed : Cond) ∈ WS := ws_in (mt_3 (List.mem_of_getElem? (i := 4) (by decide +kernel))) (by decide +kernel)
theorem wd_387 : (.instanceMethod yX4_mixed : Cond) ∈ WS := ws_in (mt_3 (List.mem_of_getElem? (i := 5) (by decide +kernel))) (by decide +kernel)
theorem wd_388 : (.selects RX4 yX4_mixed yX4_mixed : Cond) ∈ WS := ws_in (mt_3 (List.mem_of_getElem? (i := 6) (by decide +kernel))) (by decide +kernel)
theorem wcX4_mixed : (.code yX4_mixed cX4_mixed 2 (some .int) : Cond) ∈ WS := ws_in (mt_3 (List.mem_of_getElem? (i := 7) rfl)) rfl
theorem wd_390 : (.methodLink RL 68 yX4_ship : Cond) ∈ WS := ws_in (mt_3 (List.mem_of_getElem? (i := 11) (by decide +kernel))) (by decide +kernel)
theorem wd_391 : (.instanceMethod yX4_ship : Cond) ∈ WS := ws_in (mt_3 (List.mem_of_getElem? (i := 12) (by decide +kernel))) (by decide +kernel)
theorem wd_392 : (.selects RX4 yX4_ship yX4_ship : Cond) ∈ WS := ws_in (mt_3 (List.mem_of_getElem? (i := 13) (by decide +kernel))) (by decide +kernel)
theorem wcX4_ship : (.code yX4_ship cX4_ship 5 none : Cond) ∈ WS := ws_in (mt_3 (List.mem_of_getElem? (i := 14) rfl)) rfl
theorem wd_394 : (.methodLink RL 71 yX4_recall : Cond) ∈ WS := ws_in (mt_3 (List.mem_of_getElem? (i := 22) (by decide +kernel))) (by decide +kernel)
theorem wd_395 : (.instanceMethod yX4_recall : Cond) ∈ WS := ws_in (mt_3 (List.mem_of_getElem? (i := 23) (by decide +kernel))) (by decide +kernel)
theorem wd_396 : (.selects RX4 yX4_recall yX4_recall : Cond) ∈ WS := ws_in (mt_3 (List.mem_of_getElem? (i := 24) (by decide +kernel))) (by decide +kernel)
theorem wcX4_recall : (.code yX4_recall cX4_recall 3 (some .int) : Cond) ∈ WS := ws_in (mt_3 (List.mem_of_getElem? (i := 25) rfl)) rfl
theorem wd_398 : (.methodLink RL 74 yX4_where : Cond) ∈ WS := ws_in (mt_3 (List.mem_of_getElem? (i := 37) (by decide +kernel))) (by decide +kernel)
theorem wd_399 : (.instanceMethod yX4_where : Cond) ∈ WS := ws_in (mt_3 (List.mem_of_getElem? (i := 38) (by decide +kernel))) (by decide +kernel)
theorem wd_400 : (.selects RX4 yX4_where yX4_where : Cond) ∈ WS := ws_in (mt_3 (List.mem_of_getElem? (i := 39) (by decide +kernel))) (by decide +kernel)
theorem wcX4_where : (.code yX4_where cX4_where 3 (some .int) : Cond) ∈ WS := ws_in (mt_3 (List.mem_of_getElem? (i := 40) rfl)) rfl
theorem wd_402 : (.methodLink RL 77 yX4_history : Cond) ∈ WS := ws_in (mt_3 (List.mem_of_getElem? (i := 45) (by decide +kernel))) (by decide +kernel)
theorem wd_403 : (.instanceMethod yX4_history : Cond) ∈ WS := ws_in (mt_3 (List.mem_of_getElem? (i := 46) (by decide +kernel))) (by decide +kernel)
theorem wd_404 : (.selects RX4 yX4_history yX4_history : Cond) ∈ WS := ws_in (mt_3 (List.mem_of_getElem? (i := 47) (by decide +kernel))) (by decide +kernel)
theorem wcX4_history : (.code yX4_history cX4_history 5 (some .int) : Cond) ∈ WS := ws_in (mt_3 (List.mem_of_getElem? (i := 48) rfl)) rfl
theorem wd_406 : (.methodLink RL 80 yX4_told : Cond) ∈ WS := ws_in (mt_3 (List.mem_of_getElem? (i := 57) (by decide +kernel))) (by decide +kernel)
theorem wd_407 : (.instanceMethod yX4_told : Cond) ∈ WS := ws_in (mt_3 (List.mem_of_getElem? (i := 58) (by decide +kernel))) (by decide +kernel)
theorem wd_408 : (.selects RX4 yX4_told yX4_told : Cond) ∈ WS := ws_in (mt_3 (List.mem_of_getElem? (i := 59) (by decide +kernel))) (by decide +kernel)
theorem wcX4_told : (.code yX4_told cX4_told 3 (some .int) : Cond) ∈ WS := ws_in (mt_3 (List.mem_of_getElem? (i := 60) rfl)) rfl
theorem wd_410 : (.methodLink RL 83 yX4_day : Cond) ∈ WS := ws_in (mt_3 (List.mem_of_getElem? (i := 70) (by decide +kernel))) (by decide +kernel)
theorem wd_411 : (.instanceMethod yX4_day : Cond) ∈ WS := ws_in (mt_3 (List.mem_of_getElem? (i := 71) (by decide +kernel))) (by decide +kernel)
theorem wd_412 : (.selects RX4 yX4_day yX4_day : Cond) ∈ WS := ws_in (mt_3 (List.mem_of_getElem? (i := 72) (by decide +kernel))) (by decide +kernel)
theorem wcX4_day : (.code yX4_day cX4_day 6 (some .int) : Cond) ∈ WS := ws_in (mt_3 (List.mem_of_getElem? (i := 73) rfl)) rfl
theorem wd_414 : (.methodLink RL 86 yX4_date : Cond) ∈ WS := ws_in (mt_3 (List.mem_of_getElem? (i := 94) (by decide +kernel))) (by decide +kernel)
theorem wd_415 : (.instanceMethod yX4_date : Cond) ∈ WS := ws_in (mt_3 (List.mem_of_getElem? (i := 95) (by decide +kernel))) (by decide +kernel)
theorem wd_416 : (.selects RX4 yX4_date yX4_date : Cond) ∈ WS := ws_in (mt_3 (List.mem_of_getElem? (i := 96) (by decide +kernel))) (by decide +kernel)
theorem wcX4_date : (.code yX4_date cX4_date 7 (some .int) : Cond) ∈ WS := ws_in (mt_3 (List.mem_of_getElem? (i := 97) rfl)) rfl