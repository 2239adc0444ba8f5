set_option maxRecDepth 20000 in
theorem wsL_law_r1_in : ∀ w ∈ wsL_law_r1, w ∈ lw_tbl := j_words [21, 22, 10, 43, 464, 23, 24, 25, 26, 27, 28, 29, 30, 11, 99, 44, 100, 46, 102, 48, 49, 12, 104, 105] (by decide +kernel)
set_option maxRecDepth 20000 in
theorem wsL_law_r2_in : ∀ w ∈ wsL_law_r2, w ∈ lw_tbl := j_words [106, 107, 86, 87, 13, 108, 32, 33, 34, 35, 51, 52, 53, 54, 56, 61, 89, 90, 91, 92, 93, 290, 291, 9] (by decide +kernel)
set_option maxRecDepth 20000 in
theorem wsL_law_r3_in : ∀ w ∈ wsL_law_r3, w ∈ lw_tbl := j_words [292, 293, 367, 368, 369, 370, 371, 372, 373, 103, 397, 399, 401, 374, 375, 376, 148, 149, 150, 377, 378, 379, 380, 381] (by decide +kernel)
set_option maxRecDepth 20000 in
theorem wsL_law_r4_in : ∀ w ∈ wsL_law_r4, w ∈ lw_tbl := j_words [382, 383, 384, 15, 412, 413, 16, 423, 424, 17, 434, 14, 385, 386, 387, 388, 389, 390, 391, 392, 414, 415, 416, 417] (by decide +kernel)
set_option maxRecDepth 20000 in
theorem wsL_law_r5_in : ∀ w ∈ wsL_law_r5, w ∈ lw_tbl := j_words [425, 426, 427, 428, 435, 187, 188, 189, 190, 62, 294, 295, 296, 297, 298, 299, 300, 301, 302, 303, 36, 304, 305, 306] (by decide +kernel)
set_option maxRecDepth 20000 in
theorem wsL_law_r6_in : ∀ w ∈ wsL_law_r6, w ∈ lw_tbl := j_words [307, 308, 309, 310, 311, 312, 313, 314, 37, 315, 316, 317, 318, 319, 320, 321, 322, 323, 324, 325, 326, 328, 8, 329] (by decide +kernel)
set_option maxRecDepth 20000 in
theorem wsL_law_r7_in : ∀ w ∈ wsL_law_r7, w ∈ lw_tbl := j_words [330, 331, 332, 333, 334, 335, 286, 287, 288, 289, 101, 58, 60, 64, 66, 68, 267, 268, 269, 270, 336, 337, 338, 339] (by decide +kernel)
set_option maxRecDepth 20000 in
theorem wsL_law_r8_in : ∀ w ∈ wsL_law_r8, w ∈ lw_tbl := j_words [340, 341, 342, 343, 344, 345, 346, 347, 348, 349, 350, 18, 351, 352, 353, 354, 355, 357, 359, 132, 133, 134, 135, 136] (by decide +kernel)
set_option maxRecDepth 20000 in
theorem wsL_law_r9_in : ∀ w ∈ wsL_law_r9, w ∈ lw_tbl := j_words [138, 0, 139, 140, 141, 142, 143, 441, 442, 443, 144, 145, 146, 147, 55, 151, 152, 153, 154, 57, 63, 155, 157, 1] (by decide +kernel)
set_option maxRecDepth 20000 in
theorem wsL_law_r10_in : ∀ w ∈ wsL_law_r10, w ∈ lw_tbl := j_words [158, 67, 160, 161, 162, 163, 164, 165, 166, 167, 168, 169, 19, 170, 65, 458, 459, 460, 444, 445, 446, 447, 448, 449] (by decide +kernel)
set_option maxRecDepth 20000 in
theorem wsL_law_r11_in : ∀ w ∈ wsL_law_r11, w ∈ lw_tbl := j_words [450, 451, 452, 453, 454, 455, 456, 457, 271, 272, 273, 274, 275, 277, 7, 278, 279, 280, 281, 282, 283, 285, 284, 20] (by decide +kernel)
set_option maxRecDepth 20000 in
theorem wsL_law_r12_in : ∀ w ∈ wsL_law_r12, w ∈ lw_tbl := j_words [59, 195, 196, 197, 198, 398, 199, 201, 2, 202, 400, 356, 402, 358, 203, 205, 3, 206, 207, 208, 209, 210, 212, 4] (by decide +kernel)
set_option maxRecDepth 20000 in
theorem wsL_law_r13_in : ∀ w ∈ wsL_law_r13, w ∈ lw_tbl := j_words [213, 214, 215, 216, 217, 218, 219, 220, 221, 222, 225, 226, 223, 231, 222, 224, 223, 227, 228, 229, 393, 394, 230, 232] (by decide +kernel)
set_option maxRecDepth 20000 in
theorem wsL_law_r14_in : ∀ w ∈ wsL_law_r14, w ∈ lw_tbl := j_words [233, 236, 234, 237, 238, 239, 242, 233, 234, 235, 240, 241, 243, 246, 244, 247, 248, 249, 395, 396, 252, 243, 244, 245] (by decide +kernel)
set_option maxRecDepth 20000 in
theorem wsL_law_r15_in : ∀ w ∈ wsL_law_r15, w ∈ lw_tbl := j_words [250, 251, 253, 255, 5, 256, 257, 258, 180, 181, 182, 259, 260, 261, 262, 263, 265, 6, 266, 191, 192, 193, 194, 461] (by decide +kernel)
set_option maxRecDepth 20000 in
theorem wsL_law_r16_in : ∀ w ∈ wsL_law_r16, w ∈ lw_tbl := j_words [462, 463, 171, 172, 173, 174, 175, 176, 177, 178, 179, 183, 184, 185, 186] (by decide +kernel)
set_option maxRecDepth 20000 in
theorem wsX90_tin : ∀ w ∈ wsX90, w ∈ lw_tbl := j_words [109, 111, 113, 115, 117, 119, 121, 123, 125, 127, 129] (by decide +kernel)
set_option maxRecDepth 20000 in
theorem wsX40_tin : ∀ w ∈ wsX40, w ∈ lw_tbl := j_words [38, 40] (by decide +kernel)
set_option maxRecDepth 20000 in
theorem wsX20_tin : ∀ w ∈ wsX20, w ∈ lw_tbl := j_words [69, 71, 73, 75, 77, 79, 81, 83] (by decide +kernel)
set_option maxRecDepth 20000 in
theorem wsX80_tin : ∀ w ∈ wsX80, w ∈ lw_tbl := j_words [94, 96] (by decide +kernel)
set_option maxRecDepth 20000 in
theorem wsX00_tin : ∀ w ∈ wsX00, w ∈ lw_tbl := j_words [429, 430, 431, 432] (by decide +kernel)
set_option maxRecDepth 20000 in
theorem wsX50_tin : ∀ w ∈ wsX50, w ∈ lw_tbl := j_words [436, 437, 438, 439] (by decide +kernel)
set_option maxRecDepth 20000 in
theorem wsX60_tin : ∀ w ∈ wsX60, w ∈ lw_tbl := j_words [403, 405, 407, 409] (by decide +kernel)
set_option maxRecDepth 20000 in
theorem wsX70_tin : ∀ w ∈ wsX70, w ∈ lw_tbl := j_words [418, 419, 420, 421] (by decide +kernel)
set_option maxRecDepth 20000 in
theorem wsX10_tin : ∀ w ∈ wsX10, w ∈ lw_tbl := j_words [360, 362, 364] (by decide +kernel)
theorem wsL_law_in : ∀ w ∈ wsL_law, w ∈ lw_tbl := List.forall_mem_append.mpr ⟨List.forall_mem_append.mpr ⟨List.forall_mem_append.mpr ⟨List.forall_mem_append.mpr ⟨List.forall_mem_append.mpr ⟨List.forall_mem_append.mpr ⟨List.forall_mem_append.mpr ⟨List.forall_mem_append.mpr ⟨List.forall_mem_append.mpr ⟨List.forall_mem_append.mpr ⟨List.forall_mem_append.mpr ⟨wsL_law_r1_in, List.forall_mem_append.mpr ⟨wsL_law_r2_in, List.forall_mem_append.mpr ⟨wsL_law_r3_in, List.forall_mem_append.mpr ⟨wsL_law_r4_in, List.forall_mem_append.mpr ⟨wsL_law_r5_in, List.forall_mem_append.mpr ⟨wsL_law_r6_in, List.forall_mem_append.mpr ⟨wsL_law_r7_in, List.forall_mem_append.mpr ⟨wsL_law_r8_in, List.forall_mem_append.mpr ⟨wsL_law_r9_in, List.forall_mem_append.mpr ⟨wsL_law_r10_in, List.forall_mem_append.mpr ⟨wsL_law_r11_in, List.forall_mem_append.mpr ⟨wsL_law_r12_in, List.forall_mem_append.mpr ⟨wsL_law_r13_in, List.forall_mem_append.mpr ⟨wsL_law_r14_in, List.forall_mem_append.mpr ⟨wsL_law_r15_in, wsL_law_r16_in⟩⟩⟩⟩⟩⟩⟩⟩⟩⟩⟩⟩⟩⟩⟩, wsX90_tin⟩, wsX40_tin⟩, wsX20_tin⟩, wsX80_tin⟩, wsX00_tin⟩, wsX50_tin⟩, wsX60_tin⟩, wsX70_tin⟩, wsX10_tin⟩, (fun _ h => absurd h List.not_mem_nil)⟩
theorem inlX0 : ∀ w ∈ wsX00, w ∈ wsL_law := fun _ h => List.mem_append_left _ (List.mem_append_left _ (List.mem_append_left _ (List.mem_append_left _ (List.mem_append_left _ (List.mem_append_right _ h)))))
theorem inX0 : ∀ w ∈ wsX00, w ∈ lw_tbl := fun w h => wsL_law_in w (inlX0 w h)
theorem inlX1 : ∀ w ∈ wsX10, w ∈ wsL_law := fun _ h => List.mem_append_left _ (List.mem_append_right _ h)
theorem inX1 : ∀ w ∈ wsX10, w ∈ lw_tbl := fun w h => wsL_law_in w (inlX1 w h)
theorem inlX2 : ∀ w ∈ wsX20, w ∈ wsL_law := fun _ h => List.mem_append_left _ (List.mem_append_left _ (List.mem_append_left _ (List.mem_append_left _ (List.mem_append_left _ (List.mem_append_left _ (List.mem_append_left _ (List.mem_append_right _ h)))))))
theorem inX2 : ∀ w ∈ wsX20, w ∈ lw_tbl := fun w h => wsL_law_in w (inlX2 w h)
theorem inX3 : ∀ w ∈ wsX30, w ∈ lw_tbl := by decide +kernel
theorem inlX4 : ∀ w ∈ wsX40, w ∈ wsL_law := fun _ h => List.mem_append_left _ (List.mem_append_left _ (List.mem_append_left _ (List.mem_append_left _ (List.mem_append_left _ (List.mem_append_left _ (List.mem_append_left _ (List.mem_append_left _ (List.mem_append_right _ h))))))))
theorem inX4 : ∀ w ∈ wsX40, w ∈ lw_tbl := fun w h => wsL_law_in w (inlX4 w h)
theorem inlX5 : ∀ w ∈ wsX50, w ∈ wsL_law := fun _ h => List.mem_append_left _ (List.mem_append_left _ (List.mem_append_left _ (List.mem_append_left _ (List.mem_append_right _ h))))
theorem inX5 : ∀ w ∈ wsX50, w ∈ lw_tbl := fun w h => wsL_law_in w (inlX5 w h)
theorem inlX6 : ∀ w ∈ wsX60, w ∈ wsL_law := fun _ h => List.mem_append_left _ (List.mem_append_left _ (List.mem_append_left _ (List.mem_append_right _ h)))
theorem inX6 : ∀ w ∈ wsX60, w ∈ lw_tbl := fun w h => wsL_law_in w (inlX6 w h)
theorem inlX7 : ∀ w ∈ wsX70, w ∈ wsL_law := fun _ h => List.mem_append_left _ (List.mem_append_left _ (List.mem_append_right _ h))
theorem inX7 : ∀ w ∈ wsX70, w ∈ lw_tbl := fun w h => wsL_law_in w (inlX7 w h)
theorem inlX8 : ∀ w ∈ wsX80, w ∈ wsL_law := fun _ h => List.mem_append_left _ (List.mem_append_left _ (List.mem_append_left _ (List.mem_append_left _ (List.mem_append_left _ (List.mem_append_left _ (List.mem_append_right _ h))))))
theorem inX8 : ∀ w ∈ wsX80, w ∈ lw_tbl := fun w h => wsL_law_in w (inlX8 w h)
theorem inlX9 : ∀ w ∈ wsX90, w ∈ wsL_law := fun _ h => List.mem_append_left _ (List.mem_append_left _ (List.mem_append_left _ (List.mem_append_left _ (List.mem_append_left _ (List.mem_append_left _ (List.mem_append_left _ (List.mem_append_left _ (List.mem_append_left _ (List.mem_append_right _ h)))))))))
theorem inX9 : ∀ w ∈ wsX90, w ∈ lw_tbl := fun w h => wsL_law_in w (inlX9 w h)
theorem inX10 : ∀ w ∈ wsX100, w ∈ lw_tbl := by decide +kernel
theorem inJ9 : ∀ w ∈ wsJ90, w ∈ lw_tbl := by decide +kernel
theorem inJ10 : ∀ w ∈ wsJ100, w ∈ lw_tbl := by decide +kernel
