set_option maxRecDepth 20000 in
theorem mm_law_iL : Cond.initialized RL ∈ wsL_law := List.mem_of_getElem? (i := 78) rfl
set_option maxRecDepth 20000 in
theorem mm_law_iX8 : Cond.initialized RX8 ∈ wsL_law := List.mem_of_getElem? (i := 2) rfl
set_option maxRecDepth 20000 in
theorem mm_law_iX9 : Cond.initialized RX9 ∈ wsL_law := List.mem_of_getElem? (i := 5) rfl
set_option maxRecDepth 20000 in
theorem mm_law_k46 : Cond.constantLong RL 46 (4294967295) ∈ wsL_law := List.mem_of_getElem? (i := 7) rfl
set_option maxRecDepth 20000 in
theorem mm_law_c8 : Cond.classLink RL 8 RX8 ∈ wsL_law := List.mem_of_getElem? (i := 0) rfl
set_option maxRecDepth 20000 in
theorem mm_law_c43 : Cond.classLink RL 43 RX9 ∈ wsL_law := List.mem_of_getElem? (i := 3) rfl
set_option maxRecDepth 20000 in
theorem mm_law_nX8 : Cond.instantiable RX8 7 ∈ wsL_law := List.mem_of_getElem? (i := 1) rfl
set_option maxRecDepth 20000 in
theorem mm_law_nX9 : Cond.instantiable RX9 24 ∈ wsL_law := List.mem_of_getElem? (i := 4) rfl
set_option maxRecDepth 20000 in
theorem mm_law_aJ : Cond.arrayClass .long ∈ wsL_law := List.mem_of_getElem? (i := 6) rfl
set_option maxRecDepth 20000 in
theorem mm_law_aI : Cond.arrayClass .int ∈ wsL_law := List.mem_of_getElem? (i := 45) rfl
set_option maxRecDepth 20000 in
theorem mm_law_l42 : Cond.methodLink RL 42 yX8_init ∈ wsL_law := List.mem_of_getElem? (i := 8) rfl
set_option maxRecDepth 20000 in
theorem mm_law_mX8_init : Cond.instanceMethod yX8_init ∈ wsL_law := List.mem_of_getElem? (i := 9) rfl
set_option maxRecDepth 20000 in
theorem mm_law_l45 : Cond.methodLink RL 45 yX9_init ∈ wsL_law := List.mem_of_getElem? (i := 63) rfl
set_option maxRecDepth 20000 in
theorem mm_law_mX9_init : Cond.instanceMethod yX9_init ∈ wsL_law := List.mem_of_getElem? (i := 64) rfl
set_option maxRecDepth 20000 in
theorem mm_law_l48 : Cond.methodLink RL 48 yL_write ∈ wsL_law := List.mem_of_getElem? (i := 76) rfl
set_option maxRecDepth 20000 in
theorem mm_law_sL_write : Cond.static yL_write ∈ wsL_law := List.mem_of_getElem? (i := 77) rfl
set_option maxRecDepth 20000 in
theorem mm_law_l58 : Cond.methodLink RL 58 yL_read ∈ wsL_law := List.mem_of_getElem? (i := 110) rfl
set_option maxRecDepth 20000 in
theorem mm_law_sL_read : Cond.static yL_read ∈ wsL_law := List.mem_of_getElem? (i := 111) rfl
set_option maxRecDepth 20000 in
theorem mm_law_l62 : Cond.methodLink RL 62 yL_register ∈ wsL_law := List.mem_of_getElem? (i := 121) rfl
set_option maxRecDepth 20000 in
theorem mm_law_sL_register : Cond.static yL_register ∈ wsL_law := List.mem_of_getElem? (i := 122) rfl
set_option maxRecDepth 20000 in
theorem mm_law_l65 : Cond.methodLink RL 65 yL_put ∈ wsL_law := List.mem_of_getElem? (i := 136) rfl
set_option maxRecDepth 20000 in
theorem mm_law_sL_put : Cond.static yL_put ∈ wsL_law := List.mem_of_getElem? (i := 137) rfl
set_option maxRecDepth 20000 in
theorem mm_law_l69 : Cond.methodLink RL 69 yL_start ∈ wsL_law := List.mem_of_getElem? (i := 158) rfl
set_option maxRecDepth 20000 in
theorem mm_law_sL_start : Cond.static yL_start ∈ wsL_law := List.mem_of_getElem? (i := 159) rfl
set_option maxRecDepth 20000 in
theorem mm_law_l73 : Cond.methodLink RL 73 yL_run ∈ wsL_law := List.mem_of_getElem? (i := 178) rfl
set_option maxRecDepth 20000 in
theorem mm_law_sL_run : Cond.static yL_run ∈ wsL_law := List.mem_of_getElem? (i := 179) rfl
set_option maxRecDepth 20000 in
theorem mm_law_l89 : Cond.methodLink RL 89 yL_done ∈ wsL_law := List.mem_of_getElem? (i := 688) rfl
set_option maxRecDepth 20000 in
theorem mm_law_sL_done : Cond.static yL_done ∈ wsL_law := List.mem_of_getElem? (i := 689) rfl
set_option maxRecDepth 20000 in
theorem mm_law_l92 : Cond.methodLink RL 92 yL_waited ∈ wsL_law := List.mem_of_getElem? (i := 703) rfl
set_option maxRecDepth 20000 in
theorem mm_law_sL_waited : Cond.static yL_waited ∈ wsL_law := List.mem_of_getElem? (i := 704) rfl
set_option maxRecDepth 20000 in
theorem mm_law_l53 : Cond.methodLink RL 53 yX9_write ∈ wsL_law := List.mem_of_getElem? (i := 100) rfl
set_option maxRecDepth 20000 in
theorem mm_law_mX9_write : Cond.instanceMethod yX9_write ∈ wsL_law := List.mem_of_getElem? (i := 101) rfl
set_option maxRecDepth 20000 in
theorem mm_law_eX9_write : Cond.selects RX9 yX9_write yX9_write ∈ wsL_law := List.mem_of_getElem? (i := 102) rfl
set_option maxRecDepth 20000 in
theorem mm_law_l54 : Cond.methodLink RL 54 yX9_thrown ∈ wsL_law := List.mem_of_getElem? (i := 106) rfl
set_option maxRecDepth 20000 in
theorem mm_law_mX9_thrown : Cond.instanceMethod yX9_thrown ∈ wsL_law := List.mem_of_getElem? (i := 107) rfl
set_option maxRecDepth 20000 in
theorem mm_law_eX9_thrown : Cond.selects RX9 yX9_thrown yX9_thrown ∈ wsL_law := List.mem_of_getElem? (i := 108) rfl
set_option maxRecDepth 20000 in
theorem mm_law_l61 : Cond.methodLink RL 61 yX9_read ∈ wsL_law := List.mem_of_getElem? (i := 117) rfl
set_option maxRecDepth 20000 in
theorem mm_law_mX9_read : Cond.instanceMethod yX9_read ∈ wsL_law := List.mem_of_getElem? (i := 118) rfl
set_option maxRecDepth 20000 in
theorem mm_law_eX9_read : Cond.selects RX9 yX9_read yX9_read ∈ wsL_law := List.mem_of_getElem? (i := 119) rfl
set_option maxRecDepth 20000 in
theorem mm_law_l64 : Cond.methodLink RL 64 yX9_register ∈ wsL_law := List.mem_of_getElem? (i := 132) rfl
set_option maxRecDepth 20000 in
theorem mm_law_mX9_register : Cond.instanceMethod yX9_register ∈ wsL_law := List.mem_of_getElem? (i := 133) rfl
set_option maxRecDepth 20000 in
theorem mm_law_eX9_register : Cond.selects RX9 yX9_register yX9_register ∈ wsL_law := List.mem_of_getElem? (i := 134) rfl
set_option maxRecDepth 20000 in
theorem mm_law_l68 : Cond.methodLink RL 68 yX9_put ∈ wsL_law := List.mem_of_getElem? (i := 149) rfl
set_option maxRecDepth 20000 in
theorem mm_law_mX9_put : Cond.instanceMethod yX9_put ∈ wsL_law := List.mem_of_getElem? (i := 150) rfl
set_option maxRecDepth 20000 in
theorem mm_law_eX9_put : Cond.selects RX9 yX9_put yX9_put ∈ wsL_law := List.mem_of_getElem? (i := 151) rfl
set_option maxRecDepth 20000 in
theorem mm_law_l72 : Cond.methodLink RL 72 yX9_start ∈ wsL_law := List.mem_of_getElem? (i := 172) rfl
set_option maxRecDepth 20000 in
theorem mm_law_mX9_start : Cond.instanceMethod yX9_start ∈ wsL_law := List.mem_of_getElem? (i := 173) rfl
set_option maxRecDepth 20000 in
theorem mm_law_eX9_start : Cond.selects RX9 yX9_start yX9_start ∈ wsL_law := List.mem_of_getElem? (i := 174) rfl
set_option maxRecDepth 20000 in
theorem mm_law_l75 : Cond.methodLink RL 75 yX9_run ∈ wsL_law := List.mem_of_getElem? (i := 525) rfl
set_option maxRecDepth 20000 in
theorem mm_law_mX9_run : Cond.instanceMethod yX9_run ∈ wsL_law := List.mem_of_getElem? (i := 526) rfl
set_option maxRecDepth 20000 in
theorem mm_law_eX9_run : Cond.selects RX9 yX9_run yX9_run ∈ wsL_law := List.mem_of_getElem? (i := 527) rfl
set_option maxRecDepth 20000 in
theorem mm_law_l79 : Cond.methodLink RL 79 yX9_stopped ∈ wsL_law := List.mem_of_getElem? (i := 664) rfl
set_option maxRecDepth 20000 in
theorem mm_law_mX9_stopped : Cond.instanceMethod yX9_stopped ∈ wsL_law := List.mem_of_getElem? (i := 665) rfl
set_option maxRecDepth 20000 in
theorem mm_law_eX9_stopped : Cond.selects RX9 yX9_stopped yX9_stopped ∈ wsL_law := List.mem_of_getElem? (i := 666) rfl
set_option maxRecDepth 20000 in
theorem mm_law_l83 : Cond.methodLink RL 83 yX9_place ∈ wsL_law := List.mem_of_getElem? (i := 672) rfl
set_option maxRecDepth 20000 in
theorem mm_law_mX9_place : Cond.instanceMethod yX9_place ∈ wsL_law := List.mem_of_getElem? (i := 673) rfl
set_option maxRecDepth 20000 in
theorem mm_law_eX9_place : Cond.selects RX9 yX9_place yX9_place ∈ wsL_law := List.mem_of_getElem? (i := 674) rfl
set_option maxRecDepth 20000 in
theorem mm_law_l88 : Cond.methodLink RL 88 yX9_cycles ∈ wsL_law := List.mem_of_getElem? (i := 684) rfl
set_option maxRecDepth 20000 in
theorem mm_law_mX9_cycles : Cond.instanceMethod yX9_cycles ∈ wsL_law := List.mem_of_getElem? (i := 685) rfl
set_option maxRecDepth 20000 in
theorem mm_law_eX9_cycles : Cond.selects RX9 yX9_cycles yX9_cycles ∈ wsL_law := List.mem_of_getElem? (i := 686) rfl
set_option maxRecDepth 20000 in
theorem mm_law_l91 : Cond.methodLink RL 91 yX9_done ∈ wsL_law := List.mem_of_getElem? (i := 699) rfl
set_option maxRecDepth 20000 in
theorem mm_law_mX9_done : Cond.instanceMethod yX9_done ∈ wsL_law := List.mem_of_getElem? (i := 700) rfl
set_option maxRecDepth 20000 in
theorem mm_law_eX9_done : Cond.selects RX9 yX9_done yX9_done ∈ wsL_law := List.mem_of_getElem? (i := 701) rfl
set_option maxRecDepth 20000 in
theorem mm_law_l94 : Cond.methodLink RL 94 yX9_waited ∈ wsL_law := List.mem_of_getElem? (i := 714) rfl
set_option maxRecDepth 20000 in
theorem mm_law_mX9_waited : Cond.instanceMethod yX9_waited ∈ wsL_law := List.mem_of_getElem? (i := 715) rfl
set_option maxRecDepth 20000 in
theorem mm_law_eX9_waited : Cond.selects RX9 yX9_waited yX9_waited ∈ wsL_law := List.mem_of_getElem? (i := 716) rfl
set_option maxRecDepth 20000 in
theorem mm_law_l76 : Cond.methodLink RL 76 yX8_stopped ∈ wsL_law := List.mem_of_getElem? (i := 660) rfl
set_option maxRecDepth 20000 in
theorem mm_law_mX8_stopped : Cond.instanceMethod yX8_stopped ∈ wsL_law := List.mem_of_getElem? (i := 661) rfl
set_option maxRecDepth 20000 in
theorem mm_law_eX8_stopped : Cond.selects RX8 yX8_stopped yX8_stopped ∈ wsL_law := List.mem_of_getElem? (i := 662) rfl
set_option maxRecDepth 20000 in
theorem mm_law_l80 : Cond.methodLink RL 80 yX8_place ∈ wsL_law := List.mem_of_getElem? (i := 668) rfl
set_option maxRecDepth 20000 in
theorem mm_law_mX8_place : Cond.instanceMethod yX8_place ∈ wsL_law := List.mem_of_getElem? (i := 669) rfl
set_option maxRecDepth 20000 in
theorem mm_law_eX8_place : Cond.selects RX8 yX8_place yX8_place ∈ wsL_law := List.mem_of_getElem? (i := 670) rfl
set_option maxRecDepth 20000 in
theorem mm_law_l84 : Cond.methodLink RL 84 yX8_cycles ∈ wsL_law := List.mem_of_getElem? (i := 676) rfl
set_option maxRecDepth 20000 in
theorem mm_law_mX8_cycles : Cond.instanceMethod yX8_cycles ∈ wsL_law := List.mem_of_getElem? (i := 677) rfl
set_option maxRecDepth 20000 in
theorem mm_law_eX8_cycles : Cond.selects RX8 yX8_cycles yX8_cycles ∈ wsL_law := List.mem_of_getElem? (i := 678) rfl
