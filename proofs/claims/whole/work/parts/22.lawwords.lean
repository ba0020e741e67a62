theorem mem_r {big ws : List Cond} (ps : List Nat) (hp : ws = ps.filterMap (fun i => big[i]?)) : ∀ w ∈ ws, w ∈ big := by
  intro w hw
  rw [hp] at hw
  obtain ⟨i, -, hi⟩ := List.mem_filterMap.mp hw
  exact List.mem_of_getElem? hi
set_option maxRecDepth 20000 in
theorem wl_r1 : ∀ w ∈ wsL_law_r1, w ∈ lw_tbl := mem_r [31, 32, 25, 326, 327, 29, 323, 324, 24, 325, 33, 34, 35, 36, 37, 38, 106, 107, 48, 49, 27, 101, 84, 85] (by decide +kernel)
set_option maxRecDepth 20000 in
theorem wl_r2 : ∀ w ∈ wsL_law_r2, w ∈ lw_tbl := mem_r [28, 102, 103, 83, 104, 39, 40, 41, 42, 43, 26, 44, 45, 46, 47, 50, 51, 52, 53, 54, 57, 59, 61, 63] (by decide +kernel)
set_option maxRecDepth 20000 in
theorem wl_r3 : ∀ w ∈ wsL_law_r3, w ∈ lw_tbl := mem_r [64, 86, 87, 88, 89, 93, 55, 90, 92, 328, 329, 330, 331, 335, 336, 337, 338, 339, 390, 347, 348, 391, 349, 350] (by decide +kernel)
set_option maxRecDepth 20000 in
theorem wl_r4 : ∀ w ∈ wsL_law_r4, w ∈ lw_tbl := mem_r [332, 333, 135, 136, 137, 138, 143, 152, 108, 139, 140, 141, 142, 144, 145, 146, 147, 66, 148, 149, 150, 151, 153, 155] (by decide +kernel)
set_option maxRecDepth 20000 in
theorem wl_r5 : ∀ w ∈ wsL_law_r5, w ∈ lw_tbl := mem_r [0, 156, 109, 110, 111, 157, 158, 159, 160, 161, 162, 30, 163, 164, 165, 166, 167, 168, 169, 170, 171, 172, 173, 175] (by decide +kernel)
set_option maxRecDepth 20000 in
theorem wl_r6 : ∀ w ∈ wsL_law_r6, w ∈ lw_tbl := mem_r [1, 176, 177, 179, 2, 180, 181, 182, 183, 184, 185, 186, 187, 188, 189, 190, 191, 192, 193, 194, 195, 196, 197, 198] (by decide +kernel)
set_option maxRecDepth 20000 in
theorem wl_r7 : ∀ w ∈ wsL_law_r7, w ∈ lw_tbl := mem_r [199, 200, 201, 202, 203, 204, 205, 206, 207, 208, 209, 211, 3, 212, 392, 393, 394, 395, 400, 334, 340, 401, 396, 398] (by decide +kernel)
set_option maxRecDepth 20000 in
theorem wl_r8 : ∀ w ∈ wsL_law_r8, w ∈ lw_tbl := mem_r [13, 399, 402, 404, 14, 405, 344, 345, 346, 213, 214, 215, 216, 406, 407, 408, 409, 342, 343, 341, 217, 218, 219, 220] (by decide +kernel)
set_option maxRecDepth 20000 in
theorem wl_r9 : ∀ w ∈ wsL_law_r9, w ∈ lw_tbl := mem_r [221, 223, 4, 224, 225, 226, 227, 228, 229, 231, 5, 232, 233, 234, 236, 6, 237, 105, 238, 240, 7, 241, 242, 243] (by decide +kernel)
set_option maxRecDepth 20000 in
theorem wl_r10 : ∀ w ∈ wsL_law_r10, w ∈ lw_tbl := mem_r [244, 245, 246, 247, 249, 8, 250, 251, 252, 253, 254, 255, 256, 257, 258, 259, 410, 411, 412, 413, 414, 416, 15, 417] (by decide +kernel)
set_option maxRecDepth 20000 in
theorem wl_r11 : ∀ w ∈ wsL_law_r11, w ∈ lw_tbl := mem_r [418, 420, 16, 421, 422, 424, 17, 425, 426, 428, 18, 429, 430, 432, 19, 433, 434, 436, 20, 437, 438, 440, 21, 441] (by decide +kernel)
set_option maxRecDepth 20000 in
theorem wl_r12 : ∀ w ∈ wsL_law_r12, w ∈ lw_tbl := mem_r [442, 443, 445, 22, 446, 260, 261, 262, 263, 447, 448, 449, 450, 264, 265, 266, 267, 268, 269, 270, 271, 451, 452, 453] (by decide +kernel)
set_option maxRecDepth 20000 in
theorem wl_r13 : ∀ w ∈ wsL_law_r13, w ∈ lw_tbl := mem_r [454, 272, 273, 274, 275, 65, 276, 277, 278, 279, 455, 456, 457, 458, 280, 281, 282, 283, 91, 459, 460, 461, 462, 463] (by decide +kernel)
set_option maxRecDepth 20000 in
theorem wl_r14 : ∀ w ∈ wsL_law_r14, w ∈ lw_tbl := mem_r [465, 23, 466, 284, 285, 286, 287, 467, 468, 469, 470, 288, 289, 290, 291, 292, 294, 9, 295, 67, 62, 296, 298, 10] (by decide +kernel)
set_option maxRecDepth 20000 in
theorem wl_r15 : ∀ w ∈ wsL_law_r15, w ∈ lw_tbl := mem_r [299, 56, 300, 301, 302, 303, 304, 306, 11, 307, 58, 60, 308, 310, 12, 311, 312, 313, 314, 471, 472, 473, 474, 315] (by decide +kernel)
set_option maxRecDepth 20000 in
theorem wl_r16 : ∀ w ∈ wsL_law_r16, w ∈ lw_tbl := mem_r [316, 317, 318, 475, 476, 477, 478, 319, 320, 321, 322, 479, 480, 481, 482] (by decide +kernel)
set_option maxRecDepth 20000 in
theorem wl_x2 : ∀ w ∈ wsX20, w ∈ lw_tbl := mem_r [112, 114, 116, 118, 120, 122, 124, 126, 128, 130, 132] (by decide +kernel)
set_option maxRecDepth 20000 in
theorem wl_x3 : ∀ w ∈ wsX30, w ∈ lw_tbl := mem_r [351, 353, 355, 357, 359, 361, 363, 365, 367, 369, 371, 373, 375, 377, 379, 381, 383, 385, 387] (by decide +kernel)
set_option maxRecDepth 20000 in
theorem wl_x1 : ∀ w ∈ wsX10, w ∈ lw_tbl := mem_r [68, 70, 72, 74, 76, 78, 80] (by decide +kernel)
set_option maxRecDepth 20000 in
theorem wl_x0 : ∀ w ∈ wsX00, w ∈ lw_tbl := mem_r [94, 96, 98] (by decide +kernel)
theorem wsL_law_in : ∀ w ∈ wsL_law, w ∈ lw_tbl := (List.forall_mem_append.mpr ⟨(List.forall_mem_append.mpr ⟨(List.forall_mem_append.mpr ⟨(List.forall_mem_append.mpr ⟨(List.forall_mem_append.mpr ⟨(List.forall_mem_append.mpr ⟨wl_r1, (List.forall_mem_append.mpr ⟨wl_r2, (List.forall_mem_append.mpr ⟨wl_r3, (List.forall_mem_append.mpr ⟨wl_r4, (List.forall_mem_append.mpr ⟨wl_r5, (List.forall_mem_append.mpr ⟨wl_r6, (List.forall_mem_append.mpr ⟨wl_r7, (List.forall_mem_append.mpr ⟨wl_r8, (List.forall_mem_append.mpr ⟨wl_r9, (List.forall_mem_append.mpr ⟨wl_r10, (List.forall_mem_append.mpr ⟨wl_r11, (List.forall_mem_append.mpr ⟨wl_r12, (List.forall_mem_append.mpr ⟨wl_r13, (List.forall_mem_append.mpr ⟨wl_r14, (List.forall_mem_append.mpr ⟨wl_r15, wl_r16⟩)⟩)⟩)⟩)⟩)⟩)⟩)⟩)⟩)⟩)⟩)⟩)⟩)⟩)⟩), wl_x2⟩), wl_x3⟩), wl_x1⟩), wl_x0⟩), fun _ h => absurd h List.not_mem_nil⟩)
theorem inlX0 : ∀ w ∈ wsX00, w ∈ wsL_law := fun _ h => List.mem_append_left _ (List.mem_append_right _ h)
theorem inX0 : ∀ w ∈ wsX00, w ∈ lw_tbl := fun w h => wsL_law_in w (inlX0 w h)
theorem inlX1 : ∀ w ∈ wsX10, w ∈ wsL_law := fun _ h => List.mem_append_left _ (List.mem_append_left _ (List.mem_append_right _ h))
theorem inX1 : ∀ w ∈ wsX10, w ∈ lw_tbl := fun w h => wsL_law_in w (inlX1 w h)
theorem inlX2 : ∀ w ∈ wsX20, w ∈ wsL_law := fun _ h => List.mem_append_left _ (List.mem_append_left _ (List.mem_append_left _ (List.mem_append_left _ (List.mem_append_right _ h))))
theorem inX2 : ∀ w ∈ wsX20, w ∈ lw_tbl := fun w h => wsL_law_in w (inlX2 w h)
theorem inlX3 : ∀ w ∈ wsX30, w ∈ wsL_law := fun _ h => List.mem_append_left _ (List.mem_append_left _ (List.mem_append_left _ (List.mem_append_right _ h)))
theorem inX3 : ∀ w ∈ wsX30, w ∈ lw_tbl := fun w h => wsL_law_in w (inlX3 w h)
set_option maxRecDepth 20000 in
theorem ggL_law_L_cell : GoodIn wsL_law wsL_cell := goodIn_r _ [9] (by decide +kernel) (by decide +kernel)
set_option maxRecDepth 20000 in
theorem gL_law_L_cell : GoodIn wsL_law (va_wsS RL 9 yL_cell wsL_cell) := goodIn_app (goodIn_of _ (by decide +kernel)) ggL_law_L_cell
set_option maxRecDepth 20000 in
theorem ggL_law_X2_init : GoodIn wsL_law wsX2_init := goodIn_r _ [12, 13, 14, 15, 16, 17, 18, 19, 20, 21, 22, 23, 24, 25, 26, 27, 28, 29, 30, 2, 31, 32, 33, 34, 35, 36, 37, 38, 39, 40, 41, 42, 43, 44, 45, 46, 47, 48, 49, 50, 51, 52, 53, 54, 55, 56, 375, 376, 377, 378, 379, 380, 381, 382, 383, 384, 385, 405, 406, 407, 408, 409, 410, 411, 412, 413, 414] (by decide +kernel) (by decide +kernel)
set_option maxRecDepth 20000 in
theorem gL_law_X2_init : GoodIn wsL_law (wsX2_init) := ggL_law_X2_init
set_option maxRecDepth 20000 in
theorem ggL_law_X3_init : GoodIn wsL_law wsX3_init := goodIn_r _ [59, 60, 14, 15, 27, 61, 62, 63, 64, 65, 66, 67, 68, 69, 70, 71, 72, 73, 386, 387, 388, 389, 390, 391, 392, 393, 394, 395, 396, 397, 398, 399, 400, 401, 402, 403, 404] (by decide +kernel) (by decide +kernel)
set_option maxRecDepth 20000 in
theorem gL_law_X3_init : GoodIn wsL_law (wsX3_init) := ggL_law_X3_init
set_option maxRecDepth 20000 in
theorem ggL_law_X2_edge : GoodIn wsL_law wsX2_edge := goodIn_r _ [77, 21, 78, 79, 25, 80, 81, 82, 83, 20, 84, 43, 85, 86, 87, 88, 89, 44, 90, 91, 92, 93, 46, 94, 95, 96, 2, 97, 98, 99, 100, 101, 102, 103, 104, 48, 105, 106, 107, 108, 109, 110, 111, 112, 45, 47, 113, 114, 115, 24, 116, 55, 56, 117, 118, 119, 120, 121, 53, 54, 122, 123, 124, 125, 126, 127, 128, 129, 130, 131, 132, 133, 134, 135, 136, 137, 138, 139, 140, 141, 142, 143, 144, 145, 146, 147, 148, 149, 150, 151, 152, 153, 154, 155, 156, 157, 375, 376, 377, 378, 379, 380, 381, 382, 383, 384, 385, 405, 406, 407, 408, 409, 410, 411, 412, 413, 414] (by decide +kernel) (by decide +kernel)
set_option maxRecDepth 20000 in
theorem gL_law_X2_edge : GoodIn wsL_law (wsV RL 21 RX2 yX2_edge wsX2_edge) := goodIn_app (goodIn_of _ (by decide +kernel)) ggL_law_X2_edge
set_option maxRecDepth 20000 in
theorem ggL_law_X3_edge : GoodIn wsL_law wsX3_edge := goodIn_r _ [161, 162, 163, 73, 164, 165, 61, 62, 63, 64, 166, 167, 168, 5, 169, 72, 170, 171, 172, 173, 174, 175, 176, 65, 386, 387, 388, 389, 390, 391, 392, 393, 394, 395, 396, 397, 398, 399, 400, 401, 402, 403, 404] (by decide +kernel) (by decide +kernel)
set_option maxRecDepth 20000 in
theorem gL_law_X3_edge : GoodIn wsL_law (wsV RL 25 RX3 yX3_edge wsX3_edge) := goodIn_app (goodIn_of _ (by decide +kernel)) ggL_law_X3_edge
set_option maxRecDepth 20000 in
theorem ggL_law_X2_ends : GoodIn wsL_law wsX2_ends := goodIn_r _ [180, 21, 16, 17, 81, 82, 83, 20, 84, 43, 94, 95, 96, 2, 97, 98, 99, 100, 101, 102, 103, 104, 48, 105, 106, 107, 108, 375, 376, 377, 378, 379, 380, 381, 382, 383, 384, 385, 405, 406, 407, 408, 409, 410, 411] (by decide +kernel) (by decide +kernel)
set_option maxRecDepth 20000 in
theorem gL_law_X2_ends : GoodIn wsL_law (wsV RL 26 RX2 yX2_ends wsX2_ends) := goodIn_app (goodIn_of _ (by decide +kernel)) ggL_law_X2_ends
set_option maxRecDepth 20000 in
theorem ggL_law_X3_ends : GoodIn wsL_law wsX3_ends := goodIn_r _ [184, 185, 186, 187, 166, 167, 168, 5, 169, 72, 170, 171, 172, 173, 174, 175, 176, 163, 65, 386, 387, 388, 389, 390, 391, 392, 393, 394, 395, 396, 397, 398, 399, 400, 401, 402, 403, 404] (by decide +kernel) (by decide +kernel)
set_option maxRecDepth 20000 in
theorem gL_law_X3_ends : GoodIn wsL_law (wsV RL 30 RX3 yX3_ends wsX3_ends) := goodIn_app (goodIn_of _ (by decide +kernel)) ggL_law_X3_ends
set_option maxRecDepth 20000 in
theorem ggL_law_X2_run : GoodIn wsL_law wsX2_run := goodIn_r _ [191, 16, 80, 98, 25, 192, 193, 194, 2, 195, 26, 17, 196, 197, 198, 24, 199, 200, 201, 202, 203, 55, 149, 56, 117, 106, 107, 108, 118, 119, 120, 121, 53, 54, 122, 123, 124, 125, 126, 127, 128, 20, 129, 89, 130, 131, 132, 133, 48, 46, 134, 135, 136, 137, 138, 139, 140, 44, 45, 141, 142, 143, 144, 145, 146, 147, 148, 150, 151, 152, 153, 47, 154, 155, 156, 157, 204, 205, 206, 207, 208, 209, 21, 28, 100, 99, 210, 211, 212, 213, 214, 215, 216, 217, 218, 219, 220, 221, 222, 32, 33, 34, 35, 223, 224, 225, 226, 227, 228, 229, 230, 231, 375, 376, 377, 378, 379, 380, 381, 382, 383, 384, 385, 412, 413, 414, 405, 406, 407, 408, 409, 410, 411] (by decide +kernel) (by decide +kernel)
set_option maxRecDepth 20000 in
theorem gL_law_X2_run : GoodIn wsL_law (wsV RL 31 RX2 yX2_run wsX2_run) := goodIn_app (goodIn_of _ (by decide +kernel)) ggL_law_X2_run
set_option maxRecDepth 20000 in
theorem ggL_law_X3_run : GoodIn wsL_law wsX3_run := goodIn_r _ [235, 187, 174, 236, 237, 238, 5, 239, 72, 67, 163, 63, 61, 64, 62, 240, 241, 242, 243, 70, 186, 68, 185, 244, 245, 246, 247, 248, 249, 250, 251, 252, 253, 254, 255, 65, 256, 257, 258, 259, 260, 261, 262, 263, 264, 71, 176, 175, 265, 266, 267, 268, 386, 387, 388, 389, 390, 391, 392, 393, 394, 395, 396, 397, 398, 399, 400, 401, 402, 403, 404] (by decide +kernel) (by decide +kernel)
set_option maxRecDepth 20000 in
theorem gL_law_X3_run : GoodIn wsL_law (wsV RL 35 RX3 yX3_run wsX3_run) := goodIn_app (goodIn_of _ (by decide +kernel)) ggL_law_X3_run
set_option maxRecDepth 20000 in
theorem ggL_law_X2_value : GoodIn wsL_law wsX2_value := goodIn_r _ [272, 98, 100, 375, 376, 377, 378, 379, 380, 381, 382, 383, 384, 385] (by decide +kernel) (by decide +kernel)
set_option maxRecDepth 20000 in
theorem gL_law_X2_value : GoodIn wsL_law (wsV RL 36 RX2 yX2_value wsX2_value) := goodIn_app (goodIn_of _ (by decide +kernel)) ggL_law_X2_value
set_option maxRecDepth 20000 in
theorem ggL_law_X3_value : GoodIn wsL_law wsX3_value := goodIn_r _ [276, 174, 176, 386, 387, 388, 389, 390, 391, 392, 393, 394, 395, 396, 397, 398, 399, 400, 401, 402, 403, 404] (by decide +kernel) (by decide +kernel)
set_option maxRecDepth 20000 in
theorem gL_law_X3_value : GoodIn wsL_law (wsV RL 40 RX3 yX3_value wsX3_value) := goodIn_app (goodIn_of _ (by decide +kernel)) ggL_law_X3_value
set_option maxRecDepth 20000 in
theorem ggL_law_X2_cost : GoodIn wsL_law wsX2_cost := goodIn_r _ [280, 98, 21, 281, 282, 283, 20, 284, 89, 48, 47, 375, 376, 377, 378, 379, 380, 381, 382, 383, 384, 385, 405, 406, 407, 408, 409, 410, 411] (by decide +kernel) (by decide +kernel)
set_option maxRecDepth 20000 in
theorem gL_law_X2_cost : GoodIn wsL_law (wsV RL 41 RX2 yX2_cost wsX2_cost) := goodIn_app (goodIn_of _ (by decide +kernel)) ggL_law_X2_cost
set_option maxRecDepth 20000 in
theorem ggL_law_X3_cost : GoodIn wsL_law wsX3_cost := goodIn_r _ [288, 163, 174, 65, 64, 386, 387, 388, 389, 390, 391, 392, 393, 394, 395, 396, 397, 398, 399, 400, 401, 402, 403, 404] (by decide +kernel) (by decide +kernel)
set_option maxRecDepth 20000 in
theorem gL_law_X3_cost : GoodIn wsL_law (wsV RL 45 RX3 yX3_cost wsX3_cost) := goodIn_app (goodIn_of _ (by decide +kernel)) ggL_law_X3_cost
set_option maxRecDepth 20000 in
theorem ggL_law_X2_flow : GoodIn wsL_law wsX2_flow := goodIn_r _ [292, 21, 293, 294, 295, 296, 20, 297, 89, 375, 376, 377, 378, 379, 380, 381, 382, 383, 384, 385, 405, 406, 407, 408, 409, 410, 411] (by decide +kernel) (by decide +kernel)
set_option maxRecDepth 20000 in
theorem gL_law_X2_flow : GoodIn wsL_law (wsV RL 46 RX2 yX2_flow wsX2_flow) := goodIn_app (goodIn_of _ (by decide +kernel)) ggL_law_X2_flow
set_option maxRecDepth 20000 in
theorem ggL_law_X3_flow : GoodIn wsL_law wsX3_flow := goodIn_r _ [301, 163, 65, 386, 387, 388, 389, 390, 391, 392, 393, 394, 395, 396, 397, 398, 399, 400, 401, 402, 403, 404] (by decide +kernel) (by decide +kernel)
set_option maxRecDepth 20000 in
theorem gL_law_X3_flow : GoodIn wsL_law (wsV RL 49 RX3 yX3_flow wsX3_flow) := goodIn_app (goodIn_of _ (by decide +kernel)) ggL_law_X3_flow
set_option maxRecDepth 20000 in
theorem ggL_law_X2_potential : GoodIn wsL_law wsX2_potential := goodIn_r _ [305, 98, 21, 25, 306, 81, 82, 83, 20, 84, 43, 375, 376, 377, 378, 379, 380, 381, 382, 383, 384, 385, 412, 413, 414, 405, 406, 407, 408, 409, 410, 411] (by decide +kernel) (by decide +kernel)
set_option maxRecDepth 20000 in
theorem gL_law_X2_potential : GoodIn wsL_law (wsV RL 50 RX2 yX2_potential wsX2_potential) := goodIn_app (goodIn_of _ (by decide +kernel)) ggL_law_X2_potential
set_option maxRecDepth 20000 in
theorem ggL_law_X3_potential : GoodIn wsL_law wsX3_potential := goodIn_r _ [310, 174, 70, 67, 264, 166, 167, 168, 5, 169, 72, 311, 312, 313, 314, 185, 163, 244, 245, 246, 247, 61, 62, 248, 249, 250, 251, 252, 253, 254, 255, 63, 65, 256, 257, 258, 259, 64, 386, 387, 388, 389, 390, 391, 392, 393, 394, 395, 396, 397, 398, 399, 400, 401, 402, 403, 404] (by decide +kernel) (by decide +kernel)
set_option maxRecDepth 20000 in
theorem gL_law_X3_potential : GoodIn wsL_law (wsV RL 53 RX3 yX3_potential wsX3_potential) := goodIn_app (goodIn_of _ (by decide +kernel)) ggL_law_X3_potential
set_option maxRecDepth 20000 in
theorem ggL_law_X2_inCut : GoodIn wsL_law wsX2_inCut := goodIn_r _ [318, 98, 21, 25, 81, 82, 83, 20, 84, 43, 204, 146, 147, 24, 148, 55, 149, 375, 376, 377, 378, 379, 380, 381, 382, 383, 384, 385, 405, 406, 407, 408, 409, 410, 411, 412, 413, 414] (by decide +kernel) (by decide +kernel)
set_option maxRecDepth 20000 in
theorem gL_law_X2_inCut : GoodIn wsL_law (wsV RL 54 RX2 yX2_inCut wsX2_inCut) := goodIn_app (goodIn_of _ (by decide +kernel)) ggL_law_X2_inCut
set_option maxRecDepth 20000 in
theorem ggL_law_X3_inCut : GoodIn wsL_law wsX3_inCut := goodIn_r _ [322, 174, 70, 166, 167, 168, 5, 169, 72, 311, 312, 313, 314, 185, 67, 163, 244, 245, 246, 247, 61, 62, 248, 249, 250, 251, 252, 253, 254, 255, 63, 65, 256, 257, 258, 259, 64, 386, 387, 388, 389, 390, 391, 392, 393, 394, 395, 396, 397, 398, 399, 400, 401, 402, 403, 404] (by decide +kernel) (by decide +kernel)
set_option maxRecDepth 20000 in
theorem gL_law_X3_inCut : GoodIn wsL_law (wsV RL 58 RX3 yX3_inCut wsX3_inCut) := goodIn_app (goodIn_of _ (by decide +kernel)) ggL_law_X3_inCut
set_option maxRecDepth 20000 in
theorem ggL_law_X2_check : GoodIn wsL_law wsX2_check := goodIn_r _ [326, 98, 327, 328, 329, 2, 330, 21, 331, 293, 332, 333, 334, 335, 336, 337, 16, 17, 338, 339, 340, 20, 341, 89, 45, 48, 44, 342, 343, 344, 345, 25, 346, 347, 100, 204, 146, 147, 24, 148, 55, 149, 348, 349, 350, 351, 306, 352, 127, 128, 129, 353, 142, 143, 144, 134, 135, 136, 218, 138, 139, 140, 223, 131, 132, 133, 46, 354, 151, 152, 153, 47, 375, 376, 377, 378, 379, 380, 381, 382, 383, 384, 385, 405, 406, 407, 408, 409, 410, 411, 412, 413, 414] (by decide +kernel) (by decide +kernel)
set_option maxRecDepth 20000 in
theorem gL_law_X2_check : GoodIn wsL_law (wsV RL 59 RX2 yX2_check wsX2_check) := goodIn_app (goodIn_of _ (by decide +kernel)) ggL_law_X2_check
set_option maxRecDepth 20000 in
theorem ggL_law_X3_check : GoodIn wsL_law wsX3_check := goodIn_r _ [358, 174, 163, 65, 63, 70, 61, 62, 72, 185, 186, 67, 176, 311, 312, 313, 5, 314, 244, 245, 246, 247, 248, 249, 250, 251, 252, 253, 254, 255, 256, 257, 258, 259, 64, 386, 387, 388, 389, 390, 391, 392, 393, 394, 395, 396, 397, 398, 399, 400, 401, 402, 403, 404] (by decide +kernel) (by decide +kernel)
set_option maxRecDepth 20000 in
theorem gL_law_X3_check : GoodIn wsL_law (wsV RL 63 RX3 yX3_check wsX3_check) := goodIn_app (goodIn_of _ (by decide +kernel)) ggL_law_X3_check
set_option maxRecDepth 20000 in
theorem ggL_law_X2_next : GoodIn wsL_law wsX2_next := goodIn_r _ [362, 16, 80, 98, 26, 306, 192, 193, 194, 2, 195, 17, 196, 197, 198, 24, 199, 200, 201, 202, 203, 55, 149, 56, 117, 106, 107, 108, 118, 119, 120, 121, 53, 54, 122, 123, 124, 125, 126, 127, 128, 20, 129, 89, 130, 131, 132, 133, 48, 46, 134, 135, 136, 137, 138, 139, 140, 44, 45, 141, 142, 143, 144, 145, 146, 147, 148, 150, 151, 152, 153, 47, 154, 155, 156, 157, 204, 375, 376, 377, 378, 379, 380, 381, 382, 383, 384, 385, 412, 413, 414, 405, 406, 407, 408, 409, 410, 411] (by decide +kernel) (by decide +kernel)
set_option maxRecDepth 20000 in
theorem gL_law_X2_next : GoodIn wsL_law (wsV RL 64 RX2 yX2_next wsX2_next) := goodIn_app (goodIn_of _ (by decide +kernel)) ggL_law_X2_next
set_option maxRecDepth 20000 in
theorem ggL_law_X3_next : GoodIn wsL_law wsX3_next := goodIn_r _ [366, 187, 174, 67, 185, 236, 237, 238, 5, 239, 72, 163, 63, 61, 64, 62, 240, 241, 242, 243, 70, 186, 68, 244, 245, 246, 247, 248, 249, 250, 251, 252, 253, 254, 255, 65, 256, 257, 258, 259, 386, 387, 388, 389, 390, 391, 392, 393, 394, 395, 396, 397, 398, 399, 400, 401, 402, 403, 404] (by decide +kernel) (by decide +kernel)
set_option maxRecDepth 20000 in
theorem gL_law_X3_next : GoodIn wsL_law (wsV RL 67 RX3 yX3_next wsX3_next) := goodIn_app (goodIn_of _ (by decide +kernel)) ggL_law_X3_next
set_option maxRecDepth 20000 in
theorem ggL_law_X2_count : GoodIn wsL_law wsX2_count := goodIn_r _ [370, 21, 337, 331, 99, 100, 375, 376, 377, 378, 379, 380, 381, 382, 383, 384, 385, 405, 406, 407, 408, 409, 410, 411] (by decide +kernel) (by decide +kernel)
set_option maxRecDepth 20000 in
theorem gL_law_X2_count : GoodIn wsL_law (wsV RL 68 RX2 yX2_count wsX2_count) := goodIn_app (goodIn_of _ (by decide +kernel)) ggL_law_X2_count
set_option maxRecDepth 20000 in
theorem ggL_law_X3_count : GoodIn wsL_law wsX3_count := goodIn_r _ [374, 72, 163, 175, 176, 386, 387, 388, 389, 390, 391, 392, 393, 394, 395, 396, 397, 398, 399, 400, 401, 402, 403, 404] (by decide +kernel) (by decide +kernel)
set_option maxRecDepth 20000 in
theorem gL_law_X3_count : GoodIn wsL_law (wsV RL 71 RX3 yX3_count wsX3_count) := goodIn_app (goodIn_of _ (by decide +kernel)) ggL_law_X3_count
