set_option maxRecDepth 100000 in
theorem tr_wsX3_dance_r3 : ∀ w ∈ (wsX3_dance_r3 : List Cond), w ∈ lw_tbl := memIn [531, 533, 440, 441, 443, 444, 573, 574, 576, 577, 579, 41, 581, 582, 584, 585, 587, 588] (by decide +kernel) [532, 442, 575, 580, 583, 586] rfl
set_option maxRecDepth 100000 in
theorem tr_wsX3_dance_r4 : ∀ w ∈ (wsX3_dance_r4 : List Cond), w ∈ lw_tbl := memIn [589, 591, 592, 594, 596, 42, 598, 599, 601, 602, 604, 606, 43, 523, 524, 526, 608] (by decide +kernel) [590, 593, 597, 600, 603, 607, 525] rfl
set_option maxRecDepth 100000 in
theorem tr_wsX3_dance_r5 : ∀ w ∈ (wsX3_dance_r5 : List Cond), w ∈ lw_tbl := memIn [609, 435, 436, 438, 439, 611, 612, 614, 615, 617, 618, 620, 621, 434, 623, 625, 44] (by decide +kernel) [610, 437, 613, 616, 619, 622, 626] rfl
set_option maxRecDepth 100000 in
theorem tr_wsX3_dance_r6 : ∀ w ∈ (wsX3_dance_r6 : List Cond), w ∈ lw_tbl := memIn [627, 629, 45, 631, 632, 634, 46, 636, 638, 47, 640, 641, 643, 644, 646, 648, 48, 650] (by decide +kernel) [630, 635, 639, 642, 645, 649] rfl
set_option maxRecDepth 100000 in
theorem tr_wsX3_dance_r7 : ∀ w ∈ (wsX3_dance_r7 : List Cond), w ∈ lw_tbl := memIn [651, 431, 432, 653, 654] (by decide +kernel) [652, 433, 655] rfl
set_option maxRecDepth 100000 in
theorem tm_X3_dance : ∀ w ∈ wsX3_dance, w ∈ lw_tbl := List.forall_mem_cons.mpr ⟨List.mem_of_getElem? (i := 667) rfl, List.forall_mem_append.mpr ⟨List.forall_mem_append.mpr ⟨tr_wsX3_dance_r1, List.forall_mem_append.mpr ⟨tr_wsX3_dance_r2, List.forall_mem_append.mpr ⟨tr_wsX3_dance_r3, List.forall_mem_append.mpr ⟨tr_wsX3_dance_r4, List.forall_mem_append.mpr ⟨tr_wsX3_dance_r5, List.forall_mem_append.mpr ⟨tr_wsX3_dance_r6, tr_wsX3_dance_r7⟩⟩⟩⟩⟩⟩, tr_wsX30⟩⟩
set_option maxRecDepth 100000 in
theorem tp_X3_dance : ∀ w ∈ ([.methodLink RL 55 yX3_dance, .instanceMethod yX3_dance, .selects RX3 yX3_dance yX3_dance, .initialized RX3] : List Cond), w ∈ lw_tbl := memIn [664, 665, 666, 53] (by decide +kernel) [] rfl
theorem tn_X3_dance : ∀ w ∈ wsV RL 55 RX3 yX3_dance wsX3_dance, w ∈ lw_tbl := List.forall_mem_append.mpr ⟨tp_X3_dance, tm_X3_dance⟩
set_option maxRecDepth 100000 in
theorem tg_X3_dance : GoodIn (wsV RL 55 RX3 yX3_dance wsX3_dance) (wsV RL 55 RX3 yX3_dance wsX3_dance) := goodIn_sub (fun _ h => h) (by decide +kernel)
set_option maxRecDepth 100000 in
theorem tq_12 : ∀ w ∈ ([.fieldLink RX2 60 "PuppetBar" "latestDance" "[I"] : List Cond), w ∈ lw_tbl := memIn [112] (by decide +kernel) [] rfl
set_option maxRecDepth 100000 in
theorem tm_X2_danced : ∀ w ∈ wsX2_danced, w ∈ lw_tbl := List.forall_mem_cons.mpr ⟨List.mem_of_getElem? (i := 392) rfl, List.forall_mem_append.mpr ⟨tq_12, tr_wsX20⟩⟩
set_option maxRecDepth 100000 in
theorem tp_X2_danced : ∀ w ∈ ([.methodLink RL 56 yX2_danced, .instanceMethod yX2_danced, .selects RX2 yX2_danced yX2_danced, .initialized RX2] : List Cond), w ∈ lw_tbl := memIn [389, 390, 391, 51] (by decide +kernel) [] rfl
theorem tn_X2_danced : ∀ w ∈ wsV RL 56 RX2 yX2_danced wsX2_danced, w ∈ lw_tbl := List.forall_mem_append.mpr ⟨tp_X2_danced, tm_X2_danced⟩
set_option maxRecDepth 100000 in
theorem tg_X2_danced : GoodIn (wsV RL 56 RX2 yX2_danced wsX2_danced) (wsV RL 56 RX2 yX2_danced wsX2_danced) := goodIn_sub (fun _ h => h) (by decide +kernel)
set_option maxRecDepth 100000 in
theorem tq_13 : ∀ w ∈ ([.fieldLink RX3 224 "PuppetBarModel" "endedAt" "I", .fieldLink RX3 36 "PuppetBarModel" "changed" "[I"] : List Cond), w ∈ lw_tbl := memIn [459, 460] (by decide +kernel) [] rfl
set_option maxRecDepth 100000 in
theorem tm_X3_danced : ∀ w ∈ wsX3_danced, w ∈ lw_tbl := List.forall_mem_cons.mpr ⟨List.mem_of_getElem? (i := 671) rfl, List.forall_mem_append.mpr ⟨tq_13, tr_wsX30⟩⟩
set_option maxRecDepth 100000 in
theorem tp_X3_danced : ∀ w ∈ ([.methodLink RL 59 yX3_danced, .instanceMethod yX3_danced, .selects RX3 yX3_danced yX3_danced, .initialized RX3] : List Cond), w ∈ lw_tbl := memIn [668, 669, 670, 53] (by decide +kernel) [] rfl
theorem tn_X3_danced : ∀ w ∈ wsV RL 59 RX3 yX3_danced wsX3_danced, w ∈ lw_tbl := List.forall_mem_append.mpr ⟨tp_X3_danced, tm_X3_danced⟩
set_option maxRecDepth 100000 in
theorem tg_X3_danced : GoodIn (wsV RL 59 RX3 yX3_danced wsX3_danced) (wsV RL 59 RX3 yX3_danced wsX3_danced) := goodIn_sub (fun _ h => h) (by decide +kernel)
set_option maxRecDepth 100000 in
theorem tq_14 : ∀ w ∈ ([.fieldLink RX2 33 "PuppetBar" "tilt" "J", .fieldLink RX2 37 "PuppetBar" "weight" "I", .fieldLink RX2 41 "PuppetBar" "count" "I", .fieldLink RX2 44 "PuppetBar" "turn" "J"] : List Cond), w ∈ lw_tbl := memIn [105, 106, 107, 108] (by decide +kernel) [] rfl
set_option maxRecDepth 100000 in
theorem tm_X2_bar : ∀ w ∈ wsX2_bar, w ∈ lw_tbl := List.forall_mem_cons.mpr ⟨List.mem_of_getElem? (i := 396) rfl, List.forall_mem_append.mpr ⟨tq_14, tr_wsX20⟩⟩
set_option maxRecDepth 100000 in
theorem tp_X2_bar : ∀ w ∈ ([.methodLink RL 60 yX2_bar, .instanceMethod yX2_bar, .selects RX2 yX2_bar yX2_bar, .initialized RX2] : List Cond), w ∈ lw_tbl := memIn [393, 394, 395, 51] (by decide +kernel) [] rfl
theorem tn_X2_bar : ∀ w ∈ wsV RL 60 RX2 yX2_bar wsX2_bar, w ∈ lw_tbl := List.forall_mem_append.mpr ⟨tp_X2_bar, tm_X2_bar⟩
set_option maxRecDepth 100000 in
theorem tg_X2_bar : GoodIn (wsV RL 60 RX2 yX2_bar wsX2_bar) (wsV RL 60 RX2 yX2_bar wsX2_bar) := goodIn_sub (fun _ h => h) (by decide +kernel)
set_option maxRecDepth 100000 in
theorem tq_15 : ∀ w ∈ ([.fieldLink RX3 153 "PuppetBarModel" "tilt" "J", .fieldLink RX3 157 "PuppetBarModel" "weight" "I", .fieldLink RX3 161 "PuppetBarModel" "count" "I", .fieldLink RX3 164 "PuppetBarModel" "turn" "J"] : List Cond), w ∈ lw_tbl := memIn [452, 453, 454, 455] (by decide +kernel) [] rfl
set_option maxRecDepth 100000 in
theorem tm_X3_bar : ∀ w ∈ wsX3_bar, w ∈ lw_tbl := List.forall_mem_cons.mpr ⟨List.mem_of_getElem? (i := 675) rfl, List.forall_mem_append.mpr ⟨tq_15, tr_wsX30⟩⟩
set_option maxRecDepth 100000 in
theorem tp_X3_bar : ∀ w ∈ ([.methodLink RL 64 yX3_bar, .instanceMethod yX3_bar, .selects RX3 yX3_bar yX3_bar, .initialized RX3] : List Cond), w ∈ lw_tbl := memIn [672, 673, 674, 53] (by decide +kernel) [] rfl
theorem tn_X3_bar : ∀ w ∈ wsV RL 64 RX3 yX3_bar wsX3_bar, w ∈ lw_tbl := List.forall_mem_append.mpr ⟨tp_X3_bar, tm_X3_bar⟩
set_option maxRecDepth 100000 in
theorem tg_X3_bar : GoodIn (wsV RL 64 RX3 yX3_bar wsX3_bar) (wsV RL 64 RX3 yX3_bar wsX3_bar) := goodIn_sub (fun _ h => h) (by decide +kernel)
set_option maxRecDepth 100000 in
theorem tr_wsX2_order_r1 : ∀ w ∈ (wsX2_order_r1 : List Cond), w ∈ lw_tbl := memIn [401, 403, 32, 51, 405, 407, 33, 104, 409, 411, 34, 98, 99, 100, 101, 413, 253, 54, 166, 414] (by decide +kernel) [404, 408, 412, 254] rfl
set_option maxRecDepth 100000 in
theorem tr_wsX2_order_r2 : ∀ w ∈ (wsX2_order_r2 : List Cond), w ∈ lw_tbl := memIn [415, 56, 417, 259, 170, 418, 419, 57] (by decide +kernel) [416, 260, 420] rfl
