theorem in_all {ws : List Cond} (ps : List Nat) (h : ws.map some = ps.map (fun i => lw_tbl[i]?)) : ∀ w ∈ ws, w ∈ lw_tbl := fun w hw => by
  have h1 : some w ∈ ws.map some := List.mem_map.mpr ⟨w, hw, rfl⟩
  rw [h] at h1
  obtain ⟨i, -, hi⟩ := List.mem_map.mp h1
  exact List.mem_of_getElem? hi
set_option maxRecDepth 100000 in
theorem in_wsL_law_r1 : ∀ w ∈ wsL_law_r1, w ∈ lw_tbl := in_all [34, 35, 28, 436, 437, 32, 36, 37, 38, 39, 40, 41, 42, 43, 29, 146, 86, 87, 30, 147, 132, 133, 31, 148] rfl
set_option maxRecDepth 100000 in
theorem in_wsL_law_r4 : ∀ w ∈ wsL_law_r4, w ∈ lw_tbl := in_all [448, 449, 451, 452, 454, 455, 463, 464, 165, 166, 167, 168, 169, 170, 171, 172, 512, 513, 514, 515, 444, 516, 517, 518] rfl
set_option maxRecDepth 100000 in
theorem in_wsL_law_r7 : ∀ w ∈ wsL_law_r7, w ∈ lw_tbl := in_all [204, 205, 206, 207, 208, 535, 536, 537, 538, 209, 210, 211, 212, 213, 214, 216, 0, 217, 539, 540, 541, 542, 453, 543] rfl
set_option maxRecDepth 100000 in
theorem in_wsL_law_r10 : ∀ w ∈ wsL_law_r10, w ∈ lw_tbl := in_all [252, 253, 254, 255, 256, 257, 258, 259, 260, 261, 262, 263, 265, 3, 266, 267, 269, 4, 270, 271, 273, 5, 274, 275] rfl
set_option maxRecDepth 100000 in
theorem in_wsL_law_r13 : ∀ w ∈ wsL_law_r13, w ∈ lw_tbl := in_all [581, 582, 583, 287, 288, 289, 290, 291, 293, 6, 294, 295, 584, 585, 586, 587, 588, 590, 22, 591, 296, 297, 298, 299] rfl
set_option maxRecDepth 100000 in
theorem in_wsL_law_r16 : ∀ w ∈ wsL_law_r16, w ∈ lw_tbl := in_all [328, 329, 331, 9, 332, 333, 334, 335, 336, 612, 613, 614, 615, 337, 338, 339, 340, 616, 617, 618, 619, 341, 342, 343] rfl
set_option maxRecDepth 100000 in
theorem in_wsL_law_r19 : ∀ w ∈ wsL_law_r19, w ∈ lw_tbl := in_all [632, 633, 634, 635, 379, 380, 381, 382, 383, 384, 385, 386, 391, 387, 389, 11, 390, 392, 393, 394, 395, 396, 398, 12] rfl
set_option maxRecDepth 100000 in
theorem in_wsL_law_r22 : ∀ w ∈ wsL_law_r22, w ∈ lw_tbl := in_all [662, 663, 421, 422, 423, 424, 425, 426, 427, 428, 429, 430, 431, 432, 433, 434, 435, 664, 665, 666, 667] rfl
set_option maxRecDepth 100000 in
theorem in_wsX20 : ∀ w ∈ wsX20, w ∈ lw_tbl := in_all [107, 109, 111, 113, 115, 117, 119, 121, 123, 125, 127, 129] rfl
