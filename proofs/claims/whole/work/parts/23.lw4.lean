set_option maxRecDepth 100000 in
theorem tr_wsX2_dance_r3 : ∀ w ∈ (wsX2_dance_r3 : List Cond), w ∈ lw_tbl := memIn [164, 54, 166, 223, 225, 11, 167, 168, 170, 227, 229, 12, 234, 236, 13, 241, 243, 14] (by decide +kernel) [165, 226, 169, 230, 237, 244] rfl
set_option maxRecDepth 100000 in
theorem tr_wsX2_dance_r4 : ∀ w ∈ (wsX2_dance_r4 : List Cond), w ∈ lw_tbl := memIn [245, 247, 15, 261, 262, 264, 265, 249, 250, 252, 253, 255, 256, 258, 259, 267, 269] (by decide +kernel) [248, 263, 266, 251, 254, 257, 260] rfl
set_option maxRecDepth 100000 in
theorem tr_wsX2_dance_r5 : ∀ w ∈ (wsX2_dance_r5 : List Cond), w ∈ lw_tbl := memIn [16, 277, 278, 280, 281, 271, 272, 274, 275, 283, 285, 17, 287, 288, 290, 291] (by decide +kernel) [270, 279, 282, 273, 276, 286, 289, 292] rfl
set_option maxRecDepth 100000 in
theorem tr_wsX2_dance_r6 : ∀ w ∈ (wsX2_dance_r6 : List Cond), w ∈ lw_tbl := memIn [293, 294, 296, 297, 299, 300, 302, 18, 304, 305, 307, 308, 309, 311, 312, 314, 19, 316] (by decide +kernel) [295, 298, 303, 306, 310, 315] rfl
set_option maxRecDepth 100000 in
theorem tr_wsX2_dance_r7 : ∀ w ∈ (wsX2_dance_r7 : List Cond), w ∈ lw_tbl := memIn [317, 319, 321, 20, 105, 323, 106, 324, 325, 327, 21, 329, 331, 22, 102, 103, 333, 335, 23] (by decide +kernel) [318, 322, 328, 332, 336] rfl
set_option maxRecDepth 100000 in
theorem tr_wsX2_dance_r8 : ∀ w ∈ (wsX2_dance_r8 : List Cond), w ∈ lw_tbl := memIn [337, 339, 24, 107, 108, 341, 343, 25, 345, 347, 26, 349, 351, 27, 97, 357, 353, 354, 356] (by decide +kernel) [340, 344, 348, 352, 355] rfl
set_option maxRecDepth 100000 in
theorem tr_wsX2_dance_r9 : ∀ w ∈ (wsX2_dance_r9 : List Cond), w ∈ lw_tbl := memIn [358, 360, 28, 362, 363, 365, 367, 29, 385, 387, 31, 112] (by decide +kernel) [361, 364, 368, 388] rfl
set_option maxRecDepth 100000 in
theorem tm_X2_dance : ∀ w ∈ wsX2_dance, w ∈ lw_tbl := List.forall_mem_cons.mpr ⟨List.mem_of_getElem? (i := 380) rfl, List.forall_mem_append.mpr ⟨List.forall_mem_append.mpr ⟨List.forall_mem_append.mpr ⟨tr_wsX2_dance_r1, List.forall_mem_append.mpr ⟨tr_wsX2_dance_r2, List.forall_mem_append.mpr ⟨tr_wsX2_dance_r3, List.forall_mem_append.mpr ⟨tr_wsX2_dance_r4, List.forall_mem_append.mpr ⟨tr_wsX2_dance_r5, List.forall_mem_append.mpr ⟨tr_wsX2_dance_r6, List.forall_mem_append.mpr ⟨tr_wsX2_dance_r7, List.forall_mem_append.mpr ⟨tr_wsX2_dance_r8, tr_wsX2_dance_r9⟩⟩⟩⟩⟩⟩⟩⟩, tr_wsX20⟩, tr_wsX00⟩⟩
set_option maxRecDepth 100000 in
theorem tp_X2_dance : ∀ w ∈ ([.methodLink RL 52 yX2_dance, .instanceMethod yX2_dance, .selects RX2 yX2_dance yX2_dance, .initialized RX2] : List Cond), w ∈ lw_tbl := memIn [377, 378, 379, 51] (by decide +kernel) [] rfl
theorem tn_X2_dance : ∀ w ∈ wsV RL 52 RX2 yX2_dance wsX2_dance, w ∈ lw_tbl := List.forall_mem_append.mpr ⟨tp_X2_dance, tm_X2_dance⟩
set_option maxRecDepth 100000 in
theorem tg_X2_dance : GoodIn (wsV RL 52 RX2 yX2_dance wsX2_dance) (wsV RL 52 RX2 yX2_dance wsX2_dance) := goodIn_sub (fun _ h => h) (by decide +kernel)
set_option maxRecDepth 100000 in
theorem tr_wsX3_dance_r1 : ∀ w ∈ (wsX3_dance_r1 : List Cond), w ∈ lw_tbl := memIn [456, 459, 460, 457, 458, 554, 556, 37, 53, 513, 515, 36, 445, 517, 518, 558, 559, 561, 563, 38] (by decide +kernel) [557, 516, 519, 560] rfl
set_option maxRecDepth 100000 in
theorem tr_wsX3_dance_r2 : ∀ w ∈ (wsX3_dance_r2 : List Cond), w ∈ lw_tbl := memIn [461, 446, 462, 447, 463, 448, 464, 449, 565, 567, 39, 450, 451, 452, 453, 454, 455, 569, 571, 40, 530] (by decide +kernel) [564, 568, 572] rfl
