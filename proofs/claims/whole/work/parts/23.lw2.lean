set_option maxRecDepth 100000 in
theorem tr_wsX2_move_r2 : ∀ w ∈ (wsX2_move_r2 : List Cond), w ∈ lw_tbl := memIn [99, 219, 221, 10, 100, 231, 232, 55, 101, 238, 239, 163, 164, 54, 166, 223, 225, 11, 167] (by decide +kernel) [222, 233, 240, 165, 226] rfl
set_option maxRecDepth 100000 in
theorem tr_wsX2_move_r3 : ∀ w ∈ (wsX2_move_r3 : List Cond), w ∈ lw_tbl := memIn [168, 170, 227, 229, 12, 234, 236, 13, 241, 243, 14, 245, 247, 15, 261, 262, 264, 265] (by decide +kernel) [169, 230, 237, 244, 248, 263] rfl
set_option maxRecDepth 100000 in
theorem tr_wsX2_move_r4 : ∀ w ∈ (wsX2_move_r4 : List Cond), w ∈ lw_tbl := memIn [249, 250, 252, 253, 255, 256, 258, 259, 267, 269, 16, 277, 278, 280, 281, 271] (by decide +kernel) [266, 251, 254, 257, 260, 270, 279, 282] rfl
set_option maxRecDepth 100000 in
theorem tr_wsX2_move_r5 : ∀ w ∈ (wsX2_move_r5 : List Cond), w ∈ lw_tbl := memIn [272, 274, 275, 283, 285, 17, 287, 288, 290, 291, 293, 294, 296, 297, 299, 300, 302] (by decide +kernel) [273, 276, 286, 289, 292, 295, 298] rfl
set_option maxRecDepth 100000 in
theorem tr_wsX2_move_r6 : ∀ w ∈ (wsX2_move_r6 : List Cond), w ∈ lw_tbl := memIn [18, 304, 305, 307, 308, 309, 311, 312, 314, 19, 316, 317, 319, 321, 20, 105, 323, 106] (by decide +kernel) [303, 306, 310, 315, 318, 322] rfl
set_option maxRecDepth 100000 in
theorem tr_wsX2_move_r7 : ∀ w ∈ (wsX2_move_r7 : List Cond), w ∈ lw_tbl := memIn [324, 325, 327, 21, 329, 331, 22, 102, 103, 333, 335, 23, 337, 339, 24, 107, 108, 341, 343, 25] (by decide +kernel) [328, 332, 336, 340] rfl
set_option maxRecDepth 100000 in
theorem tr_wsX2_move_r8 : ∀ w ∈ (wsX2_move_r8 : List Cond), w ∈ lw_tbl := memIn [345, 347, 26, 349, 351, 27, 97, 357, 353, 354, 356, 358, 360, 28, 362, 363, 365, 367] (by decide +kernel) [344, 348, 352, 355, 361, 364] rfl
set_option maxRecDepth 100000 in
theorem tr_wsX2_move_r9 : ∀ w ∈ (wsX2_move_r9 : List Cond), w ∈ lw_tbl := memIn [29] (by decide +kernel) [368] rfl
set_option maxRecDepth 100000 in
theorem tm_X2_move : ∀ w ∈ wsX2_move, w ∈ lw_tbl := List.forall_mem_cons.mpr ⟨List.mem_of_getElem? (i := 203) rfl, List.forall_mem_append.mpr ⟨List.forall_mem_append.mpr ⟨tr_wsX2_move_r1, List.forall_mem_append.mpr ⟨tr_wsX2_move_r2, List.forall_mem_append.mpr ⟨tr_wsX2_move_r3, List.forall_mem_append.mpr ⟨tr_wsX2_move_r4, List.forall_mem_append.mpr ⟨tr_wsX2_move_r5, List.forall_mem_append.mpr ⟨tr_wsX2_move_r6, List.forall_mem_append.mpr ⟨tr_wsX2_move_r7, List.forall_mem_append.mpr ⟨tr_wsX2_move_r8, tr_wsX2_move_r9⟩⟩⟩⟩⟩⟩⟩⟩, tr_wsX20⟩⟩
set_option maxRecDepth 100000 in
theorem tp_X2_move : ∀ w ∈ ([.methodLink RL 39 yX2_move, .instanceMethod yX2_move, .selects RX2 yX2_move yX2_move, .initialized RX2] : List Cond), w ∈ lw_tbl := memIn [200, 201, 202, 51] (by decide +kernel) [] rfl
theorem tn_X2_move : ∀ w ∈ wsV RL 39 RX2 yX2_move wsX2_move, w ∈ lw_tbl := List.forall_mem_append.mpr ⟨tp_X2_move, tm_X2_move⟩
set_option maxRecDepth 100000 in
theorem tg_X2_move : GoodIn (wsV RL 39 RX2 yX2_move wsX2_move) (wsV RL 39 RX2 yX2_move wsX2_move) := goodIn_sub (fun _ h => h) (by decide +kernel)
set_option maxRecDepth 100000 in
theorem tr_wsX3_move_r1 : ∀ w ∈ (wsX3_move_r1 : List Cond), w ∈ lw_tbl := memIn [456, 465, 554, 556, 37, 53, 513, 515, 36, 445, 517, 518, 558, 559, 561, 563, 38, 461, 446] (by decide +kernel) [557, 516, 519, 560, 564] rfl
set_option maxRecDepth 100000 in
theorem tr_wsX3_move_r2 : ∀ w ∈ (wsX3_move_r2 : List Cond), w ∈ lw_tbl := memIn [462, 447, 463, 448, 464, 449, 565, 567, 39, 450, 451, 452, 453, 454, 455, 569, 571, 40, 530, 531, 533] (by decide +kernel) [568, 572, 532] rfl
