set_option maxRecDepth 100000 in
theorem tq_1 : ∀ w ∈ ([.fieldLink RX2 54 "PuppetBar" "refusal" "I", .methodLink RX2 75 yX2_refusalOfPart, .instanceMethod yX2_refusalOfPart, .selects RX2 yX2_refusalOfPart yX2_refusalOfPart, .initialized RX2, .code yX2_refusalOfPart cX2_refusalOfPart 3 (some .int), .methodLink RX2 83 yX2_refusalOfThread, .instanceMethod yX2_refusalOfThread, .selects RX2 yX2_refusalOfThread yX2_refusalOfThread, .code yX2_refusalOfThread cX2_refusalOfThread 2 (some .int), .fieldLink RX2 29 "PuppetBar" "isCut" "[Z", .methodLink RX2 79 yX2_read, .instanceMethod yX2_read, .selects RX2 yX2_read yX2_read, .code yX2_read cX2_read 3 (some .long), .fieldLink RX2 9 "PuppetBar" "lengths" "[J", .fieldLink RX2 13 "PuppetBar" "pulls" "[I", .fieldLink RX2 17 "PuppetBar" "knots" "[I", .fieldLink RX2 20 "PuppetBar" "twists" "[J", .fieldLink RX2 23 "PuppetBar" "lows" "[J", .fieldLink RX2 26 "PuppetBar" "highs" "[J"] : List Cond), w ∈ lw_tbl := memIn [110, 152, 154, 2, 51, 156, 158, 3, 104, 180, 182, 5, 98, 99, 100, 101, 102, 103] (by decide +kernel) [155, 159, 183] rfl
set_option maxRecDepth 100000 in
theorem tm_X2_get : ∀ w ∈ wsX2_get, w ∈ lw_tbl := List.forall_mem_cons.mpr ⟨List.mem_of_getElem? (i := 179) rfl, List.forall_mem_append.mpr ⟨tq_1, tr_wsX20⟩⟩
set_option maxRecDepth 100000 in
theorem tp_X2_get : ∀ w ∈ ([.methodLink RL 20 yX2_get, .instanceMethod yX2_get, .selects RX2 yX2_get yX2_get, .initialized RX2] : List Cond), w ∈ lw_tbl := memIn [176, 177, 178, 51] (by decide +kernel) [] rfl
theorem tn_X2_get : ∀ w ∈ wsV RL 20 RX2 yX2_get wsX2_get, w ∈ lw_tbl := List.forall_mem_append.mpr ⟨tp_X2_get, tm_X2_get⟩
set_option maxRecDepth 100000 in
theorem tg_X2_get : GoodIn (wsV RL 20 RX2 yX2_get wsX2_get) (wsV RL 20 RX2 yX2_get wsX2_get) := goodIn_sub (fun _ h => h) (by decide +kernel)
set_option maxRecDepth 100000 in
theorem tq_2 : ∀ w ∈ ([.fieldLink RX3 114 "PuppetBarModel" "refusal" "I", .fieldLink RX3 13 "PuppetBarModel" "length" "[J", .fieldLink RX3 17 "PuppetBarModel" "pull" "[I", .fieldLink RX3 21 "PuppetBarModel" "knots" "[I", .fieldLink RX3 24 "PuppetBarModel" "twist" "[J", .fieldLink RX3 27 "PuppetBarModel" "low" "[J", .fieldLink RX3 30 "PuppetBarModel" "high" "[J", .methodLink RX3 111 yX3_lack, .instanceMethod yX3_lack, .selects RX3 yX3_lack yX3_lack, .initialized RX3, .code yX3_lack cX3_lack 2 (some .int), .fieldLink RX3 7 "PuppetBarModel" "isCut" "[Z", .methodLink RX3 107 yX3_isThread, .static yX3_isThread, .code yX3_isThread cX3_isThread 1 (some .boolean)] : List Cond), w ∈ lw_tbl := memIn [456, 446, 447, 448, 449, 450, 451, 513, 515, 36, 53, 445, 517, 518] (by decide +kernel) [516, 519] rfl
set_option maxRecDepth 100000 in
theorem tm_X3_get : ∀ w ∈ wsX3_get, w ∈ lw_tbl := List.forall_mem_cons.mpr ⟨List.mem_of_getElem? (i := 537) rfl, List.forall_mem_append.mpr ⟨tq_2, tr_wsX30⟩⟩
set_option maxRecDepth 100000 in
theorem tp_X3_get : ∀ w ∈ ([.methodLink RL 24 yX3_get, .instanceMethod yX3_get, .selects RX3 yX3_get yX3_get, .initialized RX3] : List Cond), w ∈ lw_tbl := memIn [534, 535, 536, 53] (by decide +kernel) [] rfl
theorem tn_X3_get : ∀ w ∈ wsV RL 24 RX3 yX3_get wsX3_get, w ∈ lw_tbl := List.forall_mem_append.mpr ⟨tp_X3_get, tm_X3_get⟩
set_option maxRecDepth 100000 in
theorem tg_X3_get : GoodIn (wsV RL 24 RX3 yX3_get wsX3_get) (wsV RL 24 RX3 yX3_get wsX3_get) := goodIn_sub (fun _ h => h) (by decide +kernel)
set_option maxRecDepth 100000 in
theorem tq_3 : ∀ w ∈ ([.fieldLink RX2 54 "PuppetBar" "refusal" "I"] : List Cond), w ∈ lw_tbl := memIn [110] (by decide +kernel) [] rfl
set_option maxRecDepth 100000 in
theorem tm_X2_refused : ∀ w ∈ wsX2_refused, w ∈ lw_tbl := List.forall_mem_cons.mpr ⟨List.mem_of_getElem? (i := 187) rfl, List.forall_mem_append.mpr ⟨tq_3, tr_wsX20⟩⟩
set_option maxRecDepth 100000 in
theorem tp_X2_refused : ∀ w ∈ ([.methodLink RL 25 yX2_refused, .instanceMethod yX2_refused, .selects RX2 yX2_refused yX2_refused, .initialized RX2] : List Cond), w ∈ lw_tbl := memIn [184, 185, 186, 51] (by decide +kernel) [] rfl
theorem tn_X2_refused : ∀ w ∈ wsV RL 25 RX2 yX2_refused wsX2_refused, w ∈ lw_tbl := List.forall_mem_append.mpr ⟨tp_X2_refused, tm_X2_refused⟩
set_option maxRecDepth 100000 in
theorem tg_X2_refused : GoodIn (wsV RL 25 RX2 yX2_refused wsX2_refused) (wsV RL 25 RX2 yX2_refused wsX2_refused) := goodIn_sub (fun _ h => h) (by decide +kernel)
set_option maxRecDepth 100000 in
theorem tq_4 : ∀ w ∈ ([.fieldLink RX3 114 "PuppetBarModel" "refusal" "I"] : List Cond), w ∈ lw_tbl := memIn [456] (by decide +kernel) [] rfl
set_option maxRecDepth 100000 in
theorem tm_X3_refused : ∀ w ∈ wsX3_refused, w ∈ lw_tbl := List.forall_mem_cons.mpr ⟨List.mem_of_getElem? (i := 541) rfl, List.forall_mem_append.mpr ⟨tq_4, tr_wsX30⟩⟩
set_option maxRecDepth 100000 in
theorem tp_X3_refused : ∀ w ∈ ([.methodLink RL 29 yX3_refused, .instanceMethod yX3_refused, .selects RX3 yX3_refused yX3_refused, .initialized RX3] : List Cond), w ∈ lw_tbl := memIn [538, 539, 540, 53] (by decide +kernel) [] rfl
theorem tn_X3_refused : ∀ w ∈ wsV RL 29 RX3 yX3_refused wsX3_refused, w ∈ lw_tbl := List.forall_mem_append.mpr ⟨tp_X3_refused, tm_X3_refused⟩
set_option maxRecDepth 100000 in
theorem tg_X3_refused : GoodIn (wsV RL 29 RX3 yX3_refused wsX3_refused) (wsV RL 29 RX3 yX3_refused wsX3_refused) := goodIn_sub (fun _ h => h) (by decide +kernel)
set_option maxRecDepth 100000 in
theorem tq_5 : ∀ w ∈ ([.fieldLink RX2 54 "PuppetBar" "refusal" "I", .fieldLink RX2 29 "PuppetBar" "isCut" "[Z", .methodLink RX2 83 yX2_refusalOfThread, .instanceMethod yX2_refusalOfThread, .selects RX2 yX2_refusalOfThread yX2_refusalOfThread, .initialized RX2, .code yX2_refusalOfThread cX2_refusalOfThread 2 (some .int)] : List Cond), w ∈ lw_tbl := memIn [110, 104, 156, 158, 3, 51] (by decide +kernel) [159] rfl
set_option maxRecDepth 100000 in
theorem tm_X2_cut : ∀ w ∈ wsX2_cut, w ∈ lw_tbl := List.forall_mem_cons.mpr ⟨List.mem_of_getElem? (i := 191) rfl, List.forall_mem_append.mpr ⟨tq_5, tr_wsX20⟩⟩
set_option maxRecDepth 100000 in
theorem tp_X2_cut : ∀ w ∈ ([.methodLink RL 30 yX2_cut, .instanceMethod yX2_cut, .selects RX2 yX2_cut yX2_cut, .initialized RX2] : List Cond), w ∈ lw_tbl := memIn [188, 189, 190, 51] (by decide +kernel) [] rfl
theorem tn_X2_cut : ∀ w ∈ wsV RL 30 RX2 yX2_cut wsX2_cut, w ∈ lw_tbl := List.forall_mem_append.mpr ⟨tp_X2_cut, tm_X2_cut⟩
set_option maxRecDepth 100000 in
theorem tg_X2_cut : GoodIn (wsV RL 30 RX2 yX2_cut wsX2_cut) (wsV RL 30 RX2 yX2_cut wsX2_cut) := goodIn_sub (fun _ h => h) (by decide +kernel)
set_option maxRecDepth 100000 in
theorem tq_6 : ∀ w ∈ ([.fieldLink RX3 114 "PuppetBarModel" "refusal" "I", .fieldLink RX3 7 "PuppetBarModel" "isCut" "[Z", .methodLink RX3 111 yX3_lack, .instanceMethod yX3_lack, .selects RX3 yX3_lack yX3_lack, .initialized RX3, .code yX3_lack cX3_lack 2 (some .int), .methodLink RX3 107 yX3_isThread, .static yX3_isThread, .code yX3_isThread cX3_isThread 1 (some .boolean)] : List Cond), w ∈ lw_tbl := memIn [456, 445, 513, 515, 36, 53, 517, 518] (by decide +kernel) [516, 519] rfl
set_option maxRecDepth 100000 in
theorem tm_X3_cut : ∀ w ∈ wsX3_cut, w ∈ lw_tbl := List.forall_mem_cons.mpr ⟨List.mem_of_getElem? (i := 545) rfl, List.forall_mem_append.mpr ⟨tq_6, tr_wsX30⟩⟩
set_option maxRecDepth 100000 in
theorem tp_X3_cut : ∀ w ∈ ([.methodLink RL 34 yX3_cut, .instanceMethod yX3_cut, .selects RX3 yX3_cut yX3_cut, .initialized RX3] : List Cond), w ∈ lw_tbl := memIn [542, 543, 544, 53] (by decide +kernel) [] rfl
theorem tn_X3_cut : ∀ w ∈ wsV RL 34 RX3 yX3_cut wsX3_cut, w ∈ lw_tbl := List.forall_mem_append.mpr ⟨tp_X3_cut, tm_X3_cut⟩
set_option maxRecDepth 100000 in
theorem tg_X3_cut : GoodIn (wsV RL 34 RX3 yX3_cut wsX3_cut) (wsV RL 34 RX3 yX3_cut wsX3_cut) := goodIn_sub (fun _ h => h) (by decide +kernel)
set_option maxRecDepth 100000 in
theorem tq_7 : ∀ w ∈ ([.fieldLink RX2 54 "PuppetBar" "refusal" "I", .methodLink RX2 87 yX2_refusalOfStringing, .instanceMethod yX2_refusalOfStringing, .selects RX2 yX2_refusalOfStringing yX2_refusalOfStringing, .initialized RX2, .code yX2_refusalOfStringing cX2_refusalOfStringing 3 (some .int), .methodLink RX2 83 yX2_refusalOfThread, .instanceMethod yX2_refusalOfThread, .selects RX2 yX2_refusalOfThread yX2_refusalOfThread, .code yX2_refusalOfThread cX2_refusalOfThread 2 (some .int), .fieldLink RX2 29 "PuppetBar" "isCut" "[Z", .methodLink RX2 63 yX2_stringAnew, .instanceMethod yX2_stringAnew, .selects RX2 yX2_stringAnew yX2_stringAnew, .code yX2_stringAnew cX2_stringAnew 2 none, .fieldLink RX2 9 "PuppetBar" "lengths" "[J", .fieldLink RX2 13 "PuppetBar" "pulls" "[I", .fieldLink RX2 17 "PuppetBar" "knots" "[I", .fieldLink RX2 20 "PuppetBar" "twists" "[J", .fieldLink RX2 23 "PuppetBar" "lows" "[J", .constantLong RX2 143 (-4503599627370496), .fieldLink RX2 26 "PuppetBar" "highs" "[J", .constantLong RX2 133 (9218868437227405312)] : List Cond), w ∈ lw_tbl := memIn [110, 196, 198, 6, 51, 156, 158, 3, 104, 92, 94, 0, 98, 99, 100, 101, 102, 96, 103, 97] (by decide +kernel) [199, 159, 95] rfl
set_option maxRecDepth 100000 in
theorem tm_X2_string : ∀ w ∈ wsX2_string, w ∈ lw_tbl := List.forall_mem_cons.mpr ⟨List.mem_of_getElem? (i := 195) rfl, List.forall_mem_append.mpr ⟨tq_7, tr_wsX20⟩⟩
set_option maxRecDepth 100000 in
theorem tp_X2_string : ∀ w ∈ ([.methodLink RL 35 yX2_string, .instanceMethod yX2_string, .selects RX2 yX2_string yX2_string, .initialized RX2] : List Cond), w ∈ lw_tbl := memIn [192, 193, 194, 51] (by decide +kernel) [] rfl
theorem tn_X2_string : ∀ w ∈ wsV RL 35 RX2 yX2_string wsX2_string, w ∈ lw_tbl := List.forall_mem_append.mpr ⟨tp_X2_string, tm_X2_string⟩
set_option maxRecDepth 100000 in
theorem tg_X2_string : GoodIn (wsV RL 35 RX2 yX2_string wsX2_string) (wsV RL 35 RX2 yX2_string wsX2_string) := goodIn_sub (fun _ h => h) (by decide +kernel)
set_option maxRecDepth 100000 in
theorem tr_wsX3_string_r1 : ∀ w ∈ (wsX3_string_r1 : List Cond), w ∈ lw_tbl := memIn [445, 456, 517, 518, 53, 427, 429, 35, 446, 447, 448, 449, 450, 451, 431, 432, 434, 435, 436, 438] (by decide +kernel) [519, 430, 433, 437] rfl
set_option maxRecDepth 100000 in
theorem tr_wsX3_string_r2 : ∀ w ∈ (wsX3_string_r2 : List Cond), w ∈ lw_tbl := memIn [439, 440, 441, 443, 444] (by decide +kernel) [442] rfl
set_option maxRecDepth 100000 in
theorem tm_X3_string : ∀ w ∈ wsX3_string, w ∈ lw_tbl := List.forall_mem_cons.mpr ⟨List.mem_of_getElem? (i := 549) rfl, List.forall_mem_append.mpr ⟨List.forall_mem_append.mpr ⟨tr_wsX3_string_r1, tr_wsX3_string_r2⟩, tr_wsX30⟩⟩
set_option maxRecDepth 100000 in
theorem tp_X3_string : ∀ w ∈ ([.methodLink RL 38 yX3_string, .instanceMethod yX3_string, .selects RX3 yX3_string yX3_string, .initialized RX3] : List Cond), w ∈ lw_tbl := memIn [546, 547, 548, 53] (by decide +kernel) [] rfl
theorem tn_X3_string : ∀ w ∈ wsV RL 38 RX3 yX3_string wsX3_string, w ∈ lw_tbl := List.forall_mem_append.mpr ⟨tp_X3_string, tm_X3_string⟩
set_option maxRecDepth 100000 in
theorem tg_X3_string : GoodIn (wsV RL 38 RX3 yX3_string wsX3_string) (wsV RL 38 RX3 yX3_string wsX3_string) := goodIn_sub (fun _ h => h) (by decide +kernel)
set_option maxRecDepth 100000 in
theorem tr_wsX2_move_r1 : ∀ w ∈ (wsX2_move_r1 : List Cond), w ∈ lw_tbl := memIn [110, 111, 204, 206, 7, 51, 156, 158, 3, 104, 208, 209, 211, 213, 8, 215, 217, 9, 98] (by decide +kernel) [207, 159, 210, 214, 218] rfl
