set_option maxRecDepth 100000 in
theorem tm_X2_order : ∀ w ∈ wsX2_order, w ∈ lw_tbl := List.forall_mem_cons.mpr ⟨List.mem_of_getElem? (i := 400) rfl, List.forall_mem_append.mpr ⟨List.forall_mem_append.mpr ⟨tr_wsX2_order_r1, tr_wsX2_order_r2⟩, tr_wsX20⟩⟩
set_option maxRecDepth 100000 in
theorem tp_X2_order : ∀ w ∈ ([.methodLink RL 65 yX2_order, .instanceMethod yX2_order, .selects RX2 yX2_order yX2_order, .initialized RX2] : List Cond), w ∈ lw_tbl := memIn [397, 398, 399, 51] (by decide +kernel) [] rfl
theorem tn_X2_order : ∀ w ∈ wsV RL 65 RX2 yX2_order wsX2_order, w ∈ lw_tbl := List.forall_mem_append.mpr ⟨tp_X2_order, tm_X2_order⟩
set_option maxRecDepth 100000 in
theorem tg_X2_order : GoodIn (wsV RL 65 RX2 yX2_order wsX2_order) (wsV RL 65 RX2 yX2_order wsX2_order) := goodIn_sub (fun _ h => h) (by decide +kernel)
set_option maxRecDepth 100000 in
theorem tq_16 : ∀ w ∈ ([.methodLink RX3 227 yX3_isAhead, .instanceMethod yX3_isAhead, .selects RX3 yX3_isAhead yX3_isAhead, .initialized RX3, .code yX3_isAhead cX3_isAhead 3 (some .boolean), .fieldLink RX3 7 "PuppetBarModel" "isCut" "[Z", .fieldLink RX3 13 "PuppetBarModel" "length" "[J", .fieldLink RX3 17 "PuppetBarModel" "pull" "[I", .fieldLink RX3 21 "PuppetBarModel" "knots" "[I", .fieldLink RX3 24 "PuppetBarModel" "twist" "[J", .methodLink RX3 97 yX3_place, .static yX3_place, .code yX3_place cX3_place 2 (some .long), .constantLong RX3 94 (9223372036854775807), .methodLink RX3 101 yX3_place4, .static yX3_place4, .code yX3_place4 cX3_place4 1 (some .int), .constant RX3 96 (2147483647)] : List Cond), w ∈ lw_tbl := memIn [680, 682, 49, 53, 445, 446, 447, 448, 449, 584, 585, 587, 591, 592, 576] (by decide +kernel) [683, 586, 593] rfl
set_option maxRecDepth 100000 in
theorem tm_X3_order : ∀ w ∈ wsX3_order, w ∈ lw_tbl := List.forall_mem_cons.mpr ⟨List.mem_of_getElem? (i := 679) rfl, List.forall_mem_append.mpr ⟨tq_16, tr_wsX30⟩⟩
set_option maxRecDepth 100000 in
theorem tp_X3_order : ∀ w ∈ ([.methodLink RL 68 yX3_order, .instanceMethod yX3_order, .selects RX3 yX3_order yX3_order, .initialized RX3] : List Cond), w ∈ lw_tbl := memIn [676, 677, 678, 53] (by decide +kernel) [] rfl
theorem tn_X3_order : ∀ w ∈ wsV RL 68 RX3 yX3_order wsX3_order, w ∈ lw_tbl := List.forall_mem_append.mpr ⟨tp_X3_order, tm_X3_order⟩
set_option maxRecDepth 100000 in
theorem tg_X3_order : GoodIn (wsV RL 68 RX3 yX3_order wsX3_order) (wsV RL 68 RX3 yX3_order wsX3_order) := goodIn_sub (fun _ h => h) (by decide +kernel)
