theorem memIn {big ws : List Cond} (ps : List Nat) (hp : ws.filter (fun w => !k2_isCode w) = ps.filterMap (fun i => big[i]?)) (pc : List Nat) (hc : ws.filter k2_isCode = pc.filterMap (fun i => big[i]?)) : ∀ w ∈ ws, w ∈ big := by
  intro w hw
  by_cases h : k2_isCode w = true
  · have h1 : w ∈ ws.filter k2_isCode := List.mem_filter.mpr ⟨hw, h⟩
    rw [hc] at h1
    obtain ⟨i, -, hi⟩ := List.mem_filterMap.mp h1
    exact List.mem_of_getElem? hi
  · have h1 : w ∈ ws.filter (fun w => !k2_isCode w) := List.mem_filter.mpr ⟨hw, by simp [h]⟩
    rw [hp] at h1
    obtain ⟨i, -, hi⟩ := List.mem_filterMap.mp h1
    exact List.mem_of_getElem? hi
set_option maxRecDepth 100000 in
theorem tr_wsX2_init_r1 : ∀ w ∈ (wsX2_init_r1 : List Cond), w ∈ lw_tbl := memIn [63, 64, 89, 98, 90, 99, 100, 101, 102, 103, 91, 104, 105, 106, 107, 108, 66, 67, 52, 109, 110, 111, 112] (by decide +kernel) [65] rfl
set_option maxRecDepth 100000 in
theorem tr_wsX2_init_r2 : ∀ w ∈ (wsX2_init_r2 : List Cond), w ∈ lw_tbl := memIn [69, 71, 72, 74, 76, 78, 92, 94, 0, 51, 96, 97] (by decide +kernel) [70, 95] rfl
set_option maxRecDepth 100000 in
theorem tr_wsX20 : ∀ w ∈ (wsX20 : List Cond), w ∈ lw_tbl := memIn [113, 115, 117, 119, 121, 123, 125, 127, 129, 131, 133, 135, 137, 139, 141] (by decide +kernel) [] rfl
set_option maxRecDepth 100000 in
theorem tr_wsX00 : ∀ w ∈ (wsX00 : List Cond), w ∈ lw_tbl := memIn [80, 82, 84, 86] (by decide +kernel) [] rfl
set_option maxRecDepth 100000 in
theorem tm_X2_init : ∀ w ∈ wsX2_init, w ∈ lw_tbl := List.forall_mem_cons.mpr ⟨List.mem_of_getElem? (i := 62) rfl, List.forall_mem_append.mpr ⟨List.forall_mem_append.mpr ⟨List.forall_mem_append.mpr ⟨tr_wsX2_init_r1, tr_wsX2_init_r2⟩, tr_wsX20⟩, tr_wsX00⟩⟩
set_option maxRecDepth 100000 in
theorem tg_X2_init : GoodIn (wsX2_init) (wsX2_init) := goodIn_sub (fun _ h => h) (by decide +kernel)
set_option maxRecDepth 100000 in
theorem tr_wsX3_init_r1 : ∀ w ∈ (wsX3_init_r1 : List Cond), w ∈ lw_tbl := memIn [426, 64, 91, 445, 89, 446, 90, 447, 448, 449, 450, 451, 458, 460, 461, 462, 463, 464, 465, 427, 429, 35, 53] (by decide +kernel) [65] rfl
set_option maxRecDepth 100000 in
theorem tr_wsX3_init_r2 : ∀ w ∈ (wsX3_init_r2 : List Cond), w ∈ lw_tbl := memIn [431, 432, 434, 435, 436, 438, 439, 440, 441, 443, 444] (by decide +kernel) [430, 433, 437, 442] rfl
set_option maxRecDepth 100000 in
theorem tr_wsX30 : ∀ w ∈ (wsX30 : List Cond), w ∈ lw_tbl := memIn [466, 468, 470, 472, 474, 476, 478, 480, 482, 484, 486, 488, 490, 492, 494, 496, 498, 500, 502, 504, 506] (by decide +kernel) [] rfl
set_option maxRecDepth 100000 in
theorem tm_X3_init : ∀ w ∈ wsX3_init, w ∈ lw_tbl := List.forall_mem_cons.mpr ⟨List.mem_of_getElem? (i := 425) rfl, List.forall_mem_append.mpr ⟨List.forall_mem_append.mpr ⟨tr_wsX3_init_r1, tr_wsX3_init_r2⟩, tr_wsX30⟩⟩
set_option maxRecDepth 100000 in
theorem tg_X3_init : GoodIn (wsX3_init) (wsX3_init) := goodIn_sub (fun _ h => h) (by decide +kernel)
set_option maxRecDepth 100000 in
theorem tr_wsX2_set_r1 : ∀ w ∈ (wsX2_set_r1 : List Cond), w ∈ lw_tbl := memIn [110, 148, 150, 1, 51, 152, 154, 2, 156, 158, 3, 104, 160, 161, 97, 171, 163, 164, 54] (by decide +kernel) [151, 155, 159, 162, 165] rfl
set_option maxRecDepth 100000 in
theorem tr_wsX2_set_r2 : ∀ w ∈ (wsX2_set_r2 : List Cond), w ∈ lw_tbl := memIn [166, 167, 168, 170, 172, 174, 4, 98, 99, 100, 101, 102, 103] (by decide +kernel) [169, 175] rfl
set_option maxRecDepth 100000 in
theorem tm_X2_set : ∀ w ∈ wsX2_set, w ∈ lw_tbl := List.forall_mem_cons.mpr ⟨List.mem_of_getElem? (i := 147) rfl, List.forall_mem_append.mpr ⟨List.forall_mem_append.mpr ⟨tr_wsX2_set_r1, tr_wsX2_set_r2⟩, tr_wsX20⟩⟩
set_option maxRecDepth 100000 in
theorem tp_X2_set : ∀ w ∈ ([.methodLink RL 15 yX2_set, .instanceMethod yX2_set, .selects RX2 yX2_set yX2_set, .initialized RX2] : List Cond), w ∈ lw_tbl := memIn [144, 145, 146, 51] (by decide +kernel) [] rfl
theorem tn_X2_set : ∀ w ∈ wsV RL 15 RX2 yX2_set wsX2_set, w ∈ lw_tbl := List.forall_mem_append.mpr ⟨tp_X2_set, tm_X2_set⟩
set_option maxRecDepth 100000 in
theorem tg_X2_set : GoodIn (wsV RL 15 RX2 yX2_set wsX2_set) (wsV RL 15 RX2 yX2_set wsX2_set) := goodIn_sub (fun _ h => h) (by decide +kernel)
set_option maxRecDepth 100000 in
theorem tr_wsX3_set_r1 : ∀ w ∈ (wsX3_set_r1 : List Cond), w ∈ lw_tbl := memIn [456, 446, 447, 448, 449, 450, 451, 513, 515, 36, 53, 445, 517, 518, 520, 521, 523, 524, 526, 527] (by decide +kernel) [516, 519, 522, 525] rfl
set_option maxRecDepth 100000 in
theorem tr_wsX3_set_r2 : ∀ w ∈ (wsX3_set_r2 : List Cond), w ∈ lw_tbl := memIn [528, 530, 531, 533, 440, 441, 443, 444, 431, 432, 434, 435, 436, 438, 439] (by decide +kernel) [529, 532, 442, 433, 437] rfl
set_option maxRecDepth 100000 in
theorem tm_X3_set : ∀ w ∈ wsX3_set, w ∈ lw_tbl := List.forall_mem_cons.mpr ⟨List.mem_of_getElem? (i := 512) rfl, List.forall_mem_append.mpr ⟨List.forall_mem_append.mpr ⟨tr_wsX3_set_r1, tr_wsX3_set_r2⟩, tr_wsX30⟩⟩
set_option maxRecDepth 100000 in
theorem tp_X3_set : ∀ w ∈ ([.methodLink RL 19 yX3_set, .instanceMethod yX3_set, .selects RX3 yX3_set yX3_set, .initialized RX3] : List Cond), w ∈ lw_tbl := memIn [509, 510, 511, 53] (by decide +kernel) [] rfl
theorem tn_X3_set : ∀ w ∈ wsV RL 19 RX3 yX3_set wsX3_set, w ∈ lw_tbl := List.forall_mem_append.mpr ⟨tp_X3_set, tm_X3_set⟩
set_option maxRecDepth 100000 in
theorem tg_X3_set : GoodIn (wsV RL 19 RX3 yX3_set wsX3_set) (wsV RL 19 RX3 yX3_set wsX3_set) := goodIn_sub (fun _ h => h) (by decide +kernel)
