theorem wl_places {big ws : List Cond} (ps : List Nat) (h : ws = ps.filterMap (fun i => big[i]?)) : ∀ w ∈ ws, w ∈ big := by
  intro w hw
  rw [h] at hw
  obtain ⟨i, -, hi⟩ := List.mem_filterMap.mp hw
  exact List.mem_of_getElem? hi
set_option maxRecDepth 20000 in
theorem wl_r1 : ∀ w ∈ wsL_law_r1, w ∈ lw_tbl := wl_places [36, 37, 30, 313, 314, 33, 38, 39, 40, 41, 42, 43, 44, 45, 31, 93, 94, 46, 47, 48, 49, 50, 65, 52] (by decide +kernel)
set_option maxRecDepth 20000 in
theorem wl_r2 : ∀ w ∈ wsL_law_r2, w ∈ lw_tbl := wl_places [32, 66, 67, 54, 55, 56, 64, 57, 315, 316, 317, 318, 319, 320, 321, 322, 323, 353, 324, 325, 326, 106, 107, 108] (by decide +kernel)
set_option maxRecDepth 20000 in
theorem wl_r3 : ∀ w ∈ wsL_law_r3, w ∈ lw_tbl := wl_places [109, 95, 96, 110, 111, 112, 113, 114, 115, 116, 117, 118, 119, 68, 69, 70, 71, 72, 73, 120, 121, 122, 123, 58] (by decide +kernel)
set_option maxRecDepth 20000 in
theorem wl_r4 : ∀ w ∈ wsL_law_r4, w ∈ lw_tbl := wl_places [354, 355, 356, 357, 327, 328, 124, 125, 126, 127, 128, 129, 130, 131, 132, 133, 134, 135, 136, 137, 138, 139, 141, 0] (by decide +kernel)
set_option maxRecDepth 20000 in
theorem wl_r5 : ∀ w ∈ wsL_law_r5, w ∈ lw_tbl := wl_places [142, 143, 144, 145, 146, 147, 148, 150, 1, 151, 152, 153, 154, 155, 156, 158, 157, 34, 159, 160, 161, 162, 163, 164] (by decide +kernel)
set_option maxRecDepth 20000 in
theorem wl_r6 : ∀ w ∈ wsL_law_r6, w ∈ lw_tbl := wl_places [165, 166, 167, 168, 169, 170, 171, 173, 2, 174, 175, 176, 177, 178, 180, 3, 181, 190, 182, 183, 184, 185, 186, 187] (by decide +kernel)
set_option maxRecDepth 20000 in
theorem wl_r7 : ∀ w ∈ wsL_law_r7, w ∈ lw_tbl := wl_places [188, 189, 191, 192, 193, 194, 195, 196, 197, 198, 199, 200, 201, 202, 203, 204, 205, 207, 4, 208, 209, 211, 5, 212] (by decide +kernel)
set_option maxRecDepth 20000 in
theorem wl_r8 : ∀ w ∈ wsL_law_r8, w ∈ lw_tbl := wl_places [213, 214, 35, 215, 216, 218, 6, 219, 223, 224, 225, 220, 221, 222, 226, 228, 7, 229, 230, 232, 8, 233, 234, 236] (by decide +kernel)
set_option maxRecDepth 20000 in
theorem wl_r9 : ∀ w ∈ wsL_law_r9, w ∈ lw_tbl := wl_places [9, 237, 238, 240, 10, 241, 242, 243, 244, 245, 246, 247, 248, 249, 250, 251, 252, 253, 254, 255, 256, 257, 358, 359] (by decide +kernel)
set_option maxRecDepth 20000 in
theorem wl_r10 : ∀ w ∈ wsL_law_r10, w ∈ lw_tbl := wl_places [360, 361, 329, 362, 363, 364, 365, 367, 12, 368, 369, 371, 13, 372, 373, 375, 14, 376, 377, 379, 15, 380, 381, 383] (by decide +kernel)
set_option maxRecDepth 20000 in
theorem wl_r11 : ∀ w ∈ wsL_law_r11, w ∈ lw_tbl := wl_places [16, 384, 385, 387, 17, 388, 389, 391, 18, 392, 393, 395, 19, 396, 397, 399, 20, 400, 401, 403, 21, 404, 405, 407] (by decide +kernel)
set_option maxRecDepth 20000 in
theorem wl_r12 : ∀ w ∈ wsL_law_r12, w ∈ lw_tbl := wl_places [22, 408, 409, 411, 23, 412, 413, 415, 24, 416, 417, 419, 25, 420, 421, 422, 423, 424, 426, 26, 427, 428, 430, 27] (by decide +kernel)
set_option maxRecDepth 20000 in
theorem wl_r13 : ∀ w ∈ wsL_law_r13, w ∈ lw_tbl := wl_places [431, 432, 434, 28, 435, 258, 259, 260, 261, 262, 436, 437, 438, 439, 263, 264, 265, 266, 267, 269, 11, 270, 440, 441] (by decide +kernel)
set_option maxRecDepth 20000 in
theorem wl_r14 : ∀ w ∈ wsL_law_r14, w ∈ lw_tbl := wl_places [442, 443, 444, 445, 446, 271, 272, 273, 274, 275, 447, 448, 449, 450, 276, 277, 278, 279, 280, 451, 452, 453, 454, 281] (by decide +kernel)
set_option maxRecDepth 20000 in
theorem wl_r15 : ∀ w ∈ wsL_law_r15, w ∈ lw_tbl := wl_places [282, 283, 284, 285, 286, 287, 288, 455, 456, 457, 458, 289, 290, 291, 292, 293, 294, 295, 296, 459, 460, 461, 462, 297] (by decide +kernel)
set_option maxRecDepth 20000 in
theorem wl_r16 : ∀ w ∈ wsL_law_r16, w ∈ lw_tbl := wl_places [298, 299, 300, 301, 302, 303, 304, 463, 464, 465, 466, 305, 306, 307, 308, 467, 468, 469, 470, 309, 310, 311, 312, 471] (by decide +kernel)
set_option maxRecDepth 20000 in
theorem wl_r17 : ∀ w ∈ wsL_law_r17, w ∈ lw_tbl := wl_places [472, 473, 474] (by decide +kernel)
set_option maxRecDepth 20000 in
theorem wl_X0 : ∀ w ∈ wsX00, w ∈ lw_tbl := by decide +kernel
set_option maxRecDepth 20000 in
theorem wl_X1 : ∀ w ∈ wsX10, w ∈ lw_tbl := by decide +kernel
set_option maxRecDepth 20000 in
theorem wl_X2 : ∀ w ∈ wsX20, w ∈ lw_tbl := by decide +kernel
set_option maxRecDepth 20000 in
theorem wl_X3 : ∀ w ∈ wsX30, w ∈ lw_tbl := by decide +kernel
theorem wl_app {a b c : List Cond} (h1 : ∀ w ∈ a, w ∈ c) (h2 : ∀ w ∈ b, w ∈ c) : ∀ w ∈ a ++ b, w ∈ c := fun w h => (List.mem_append.mp h).elim (h1 w) (h2 w)
theorem wsL_law_in : ∀ w ∈ wsL_law, w ∈ lw_tbl := by
  unfold wsL_law
  exact wl_app (wl_app (wl_app (wl_app (wl_app (wl_app wl_r1 (wl_app wl_r2 (wl_app wl_r3 (wl_app wl_r4 (wl_app wl_r5 (wl_app wl_r6 (wl_app wl_r7 (wl_app wl_r8 (wl_app wl_r9 (wl_app wl_r10 (wl_app wl_r11 (wl_app wl_r12 (wl_app wl_r13 (wl_app wl_r14 (wl_app wl_r15 (wl_app wl_r16 wl_r17)))))))))))))))) wl_X2) wl_X3) wl_X1) wl_X0) (fun _ h => absurd h List.not_mem_nil)
