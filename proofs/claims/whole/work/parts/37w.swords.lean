theorem wd_578 : (.instantiable RX4 9 : Cond) ∈ WS := ws_in (mt_1 (List.mem_of_getElem? (i := 17) (by decide +kernel))) (by decide +kernel)
theorem wd_579 : (.instantiable RX5 26 : Cond) ∈ WS := ws_in (mt_3 (List.mem_of_getElem? (i := 107) (by decide +kernel))) (by decide +kernel)
theorem wd_580 : (.classLink RL 8 RX4 : Cond) ∈ WS := ws_in (mt_1 (List.mem_of_getElem? (i := 16) (by decide +kernel))) (by decide +kernel)
theorem wcX4_init : (.code yX4_init cX4_init 2 none : Cond) ∈ WS := ws_in (mt_1 (List.mem_of_getElem? (i := 20) rfl)) rfl
theorem wd_582 : (.methodLink RL 89 yX4_init : Cond) ∈ WS := ws_in (mt_1 (List.mem_of_getElem? (i := 18) (by decide +kernel))) (by decide +kernel)
theorem wd_583 : (.instanceMethod yX4_init : Cond) ∈ WS := ws_in (mt_1 (List.mem_of_getElem? (i := 19) (by decide +kernel))) (by decide +kernel)
theorem wd_584 : (.classLink RL 90 RX5 : Cond) ∈ WS := ws_in (mt_3 (List.mem_of_getElem? (i := 106) (by decide +kernel))) (by decide +kernel)
theorem wcX5_init : (.code yX5_init cX5_init 1 none : Cond) ∈ WS := ws_in (mt_3 (List.mem_of_getElem? (i := 110) rfl)) rfl
theorem wd_586 : (.methodLink RL 92 yX5_init : Cond) ∈ WS := ws_in (mt_3 (List.mem_of_getElem? (i := 108) (by decide +kernel))) (by decide +kernel)
theorem wd_587 : (.instanceMethod yX5_init : Cond) ∈ WS := ws_in (mt_3 (List.mem_of_getElem? (i := 109) (by decide +kernel))) (by decide +kernel)