set_option maxRecDepth 100000 in
theorem tr_wsX3_move_r3 : ∀ w ∈ (wsX3_move_r3 : List Cond), w ∈ lw_tbl := memIn [440, 441, 443, 444, 573, 574, 576, 577, 579, 41, 581, 582, 584, 585, 587, 588, 589, 591] (by decide +kernel) [442, 575, 580, 583, 586, 590] rfl
set_option maxRecDepth 100000 in
theorem tr_wsX3_move_r4 : ∀ w ∈ (wsX3_move_r4 : List Cond), w ∈ lw_tbl := memIn [592, 594, 596, 42, 598, 599, 601, 602, 604, 606, 43, 523, 524, 526, 608, 609, 435] (by decide +kernel) [593, 597, 600, 603, 607, 525, 610] rfl
set_option maxRecDepth 100000 in
theorem tr_wsX3_move_r5 : ∀ w ∈ (wsX3_move_r5 : List Cond), w ∈ lw_tbl := memIn [436, 438, 439, 611, 612, 614, 615, 617, 618, 620, 621, 434, 623, 625, 44, 627, 629, 45] (by decide +kernel) [437, 613, 616, 619, 622, 626] rfl
set_option maxRecDepth 100000 in
theorem tr_wsX3_move_r6 : ∀ w ∈ (wsX3_move_r6 : List Cond), w ∈ lw_tbl := memIn [631, 632, 634, 46, 636, 638, 47, 640, 641, 643, 644, 646, 648, 48, 650, 651, 431] (by decide +kernel) [630, 635, 639, 642, 645, 649, 652] rfl
set_option maxRecDepth 100000 in
theorem tr_wsX3_move_r7 : ∀ w ∈ (wsX3_move_r7 : List Cond), w ∈ lw_tbl := memIn [432, 653, 654] (by decide +kernel) [433, 655] rfl
set_option maxRecDepth 100000 in
theorem tm_X3_move : ∀ w ∈ wsX3_move, w ∈ lw_tbl := List.forall_mem_cons.mpr ⟨List.mem_of_getElem? (i := 553) rfl, List.forall_mem_append.mpr ⟨List.forall_mem_append.mpr ⟨tr_wsX3_move_r1, List.forall_mem_append.mpr ⟨tr_wsX3_move_r2, List.forall_mem_append.mpr ⟨tr_wsX3_move_r3, List.forall_mem_append.mpr ⟨tr_wsX3_move_r4, List.forall_mem_append.mpr ⟨tr_wsX3_move_r5, List.forall_mem_append.mpr ⟨tr_wsX3_move_r6, tr_wsX3_move_r7⟩⟩⟩⟩⟩⟩, tr_wsX30⟩⟩
set_option maxRecDepth 100000 in
theorem tp_X3_move : ∀ w ∈ ([.methodLink RL 43 yX3_move, .instanceMethod yX3_move, .selects RX3 yX3_move yX3_move, .initialized RX3] : List Cond), w ∈ lw_tbl := memIn [550, 551, 552, 53] (by decide +kernel) [] rfl
theorem tn_X3_move : ∀ w ∈ wsV RL 43 RX3 yX3_move wsX3_move, w ∈ lw_tbl := List.forall_mem_append.mpr ⟨tp_X3_move, tm_X3_move⟩
set_option maxRecDepth 100000 in
theorem tg_X3_move : GoodIn (wsV RL 43 RX3 yX3_move wsX3_move) (wsV RL 43 RX3 yX3_move wsX3_move) := goodIn_sub (fun _ h => h) (by decide +kernel)
set_option maxRecDepth 100000 in
theorem tq_8 : ∀ w ∈ ([.fieldLink RX2 50 "PuppetBar" "figure" "LPuppetBar$Figure;", .fieldLink RX2 101 "PuppetBar$Figure" "size" "I", .fieldLink RX2 104 "PuppetBar$Figure" "moves" "[I", .fieldLink RX2 107 "PuppetBar$Figure" "threads" "[I", .fieldLink RX2 110 "PuppetBar$Figure" "others" "[I"] : List Cond), w ∈ lw_tbl := memIn [109, 79, 73, 75, 77] (by decide +kernel) [] rfl
set_option maxRecDepth 100000 in
theorem tm_X2_step : ∀ w ∈ wsX2_step, w ∈ lw_tbl := List.forall_mem_cons.mpr ⟨List.mem_of_getElem? (i := 372) rfl, List.forall_mem_append.mpr ⟨List.forall_mem_append.mpr ⟨tq_8, tr_wsX20⟩, tr_wsX00⟩⟩
set_option maxRecDepth 100000 in
theorem tp_X2_step : ∀ w ∈ ([.methodLink RL 44 yX2_step, .instanceMethod yX2_step, .selects RX2 yX2_step yX2_step, .initialized RX2] : List Cond), w ∈ lw_tbl := memIn [369, 370, 371, 51] (by decide +kernel) [] rfl
theorem tn_X2_step : ∀ w ∈ wsV RL 44 RX2 yX2_step wsX2_step, w ∈ lw_tbl := List.forall_mem_append.mpr ⟨tp_X2_step, tm_X2_step⟩
set_option maxRecDepth 100000 in
theorem tg_X2_step : GoodIn (wsV RL 44 RX2 yX2_step wsX2_step) (wsV RL 44 RX2 yX2_step wsX2_step) := goodIn_sub (fun _ h => h) (by decide +kernel)
set_option maxRecDepth 100000 in
theorem tq_9 : ∀ w ∈ ([.fieldLink RX3 221 "PuppetBarModel" "steps" "I", .fieldLink RX3 33 "PuppetBarModel" "figure" "[I"] : List Cond), w ∈ lw_tbl := memIn [457, 458] (by decide +kernel) [] rfl
set_option maxRecDepth 100000 in
theorem tm_X3_step : ∀ w ∈ wsX3_step, w ∈ lw_tbl := List.forall_mem_cons.mpr ⟨List.mem_of_getElem? (i := 659) rfl, List.forall_mem_append.mpr ⟨tq_9, tr_wsX30⟩⟩
set_option maxRecDepth 100000 in
theorem tp_X3_step : ∀ w ∈ ([.methodLink RL 47 yX3_step, .instanceMethod yX3_step, .selects RX3 yX3_step yX3_step, .initialized RX3] : List Cond), w ∈ lw_tbl := memIn [656, 657, 658, 53] (by decide +kernel) [] rfl
theorem tn_X3_step : ∀ w ∈ wsV RL 47 RX3 yX3_step wsX3_step, w ∈ lw_tbl := List.forall_mem_append.mpr ⟨tp_X3_step, tm_X3_step⟩
set_option maxRecDepth 100000 in
theorem tg_X3_step : GoodIn (wsV RL 47 RX3 yX3_step wsX3_step) (wsV RL 47 RX3 yX3_step wsX3_step) := goodIn_sub (fun _ h => h) (by decide +kernel)
set_option maxRecDepth 100000 in
theorem tq_10 : ∀ w ∈ ([.fieldLink RX2 50 "PuppetBar" "figure" "LPuppetBar$Figure;", .fieldLink RX2 101 "PuppetBar$Figure" "size" "I"] : List Cond), w ∈ lw_tbl := memIn [109, 79] (by decide +kernel) [] rfl
set_option maxRecDepth 100000 in
theorem tm_X2_forget : ∀ w ∈ wsX2_forget, w ∈ lw_tbl := List.forall_mem_cons.mpr ⟨List.mem_of_getElem? (i := 376) rfl, List.forall_mem_append.mpr ⟨List.forall_mem_append.mpr ⟨tq_10, tr_wsX20⟩, tr_wsX00⟩⟩
set_option maxRecDepth 100000 in
theorem tp_X2_forget : ∀ w ∈ ([.methodLink RL 48 yX2_forget, .instanceMethod yX2_forget, .selects RX2 yX2_forget yX2_forget, .initialized RX2] : List Cond), w ∈ lw_tbl := memIn [373, 374, 375, 51] (by decide +kernel) [] rfl
theorem tn_X2_forget : ∀ w ∈ wsV RL 48 RX2 yX2_forget wsX2_forget, w ∈ lw_tbl := List.forall_mem_append.mpr ⟨tp_X2_forget, tm_X2_forget⟩
set_option maxRecDepth 100000 in
theorem tg_X2_forget : GoodIn (wsV RL 48 RX2 yX2_forget wsX2_forget) (wsV RL 48 RX2 yX2_forget wsX2_forget) := goodIn_sub (fun _ h => h) (by decide +kernel)
set_option maxRecDepth 100000 in
theorem tq_11 : ∀ w ∈ ([.fieldLink RX3 221 "PuppetBarModel" "steps" "I"] : List Cond), w ∈ lw_tbl := memIn [457] (by decide +kernel) [] rfl
set_option maxRecDepth 100000 in
theorem tm_X3_forget : ∀ w ∈ wsX3_forget, w ∈ lw_tbl := List.forall_mem_cons.mpr ⟨List.mem_of_getElem? (i := 663) rfl, List.forall_mem_append.mpr ⟨tq_11, tr_wsX30⟩⟩
set_option maxRecDepth 100000 in
theorem tp_X3_forget : ∀ w ∈ ([.methodLink RL 51 yX3_forget, .instanceMethod yX3_forget, .selects RX3 yX3_forget yX3_forget, .initialized RX3] : List Cond), w ∈ lw_tbl := memIn [660, 661, 662, 53] (by decide +kernel) [] rfl
theorem tn_X3_forget : ∀ w ∈ wsV RL 51 RX3 yX3_forget wsX3_forget, w ∈ lw_tbl := List.forall_mem_append.mpr ⟨tp_X3_forget, tm_X3_forget⟩
set_option maxRecDepth 100000 in
theorem tg_X3_forget : GoodIn (wsV RL 51 RX3 yX3_forget wsX3_forget) (wsV RL 51 RX3 yX3_forget wsX3_forget) := goodIn_sub (fun _ h => h) (by decide +kernel)
set_option maxRecDepth 100000 in
theorem tr_wsX2_dance_r1 : ∀ w ∈ (wsX2_dance_r1 : List Cond), w ∈ lw_tbl := memIn [110, 211, 213, 8, 51, 111, 381, 383, 30, 109, 79, 73, 75, 77, 204, 206, 7, 156, 158, 3] (by decide +kernel) [214, 384, 207, 159] rfl
set_option maxRecDepth 100000 in
theorem tr_wsX2_dance_r2 : ∀ w ∈ (wsX2_dance_r2 : List Cond), w ∈ lw_tbl := memIn [104, 208, 209, 215, 217, 9, 98, 99, 219, 221, 10, 100, 231, 232, 55, 101, 238, 239, 163] (by decide +kernel) [210, 218, 222, 233, 240] rfl
