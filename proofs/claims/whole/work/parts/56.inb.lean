set_option maxRecDepth 100000 in
theorem in_wsL_law_r2 : ∀ w ∈ wsL_law_r2, w ∈ lw_tbl := in_all [84, 149, 150, 151, 45, 46, 47, 48, 50, 52, 85, 54, 56, 58, 61, 63, 64, 89, 90, 91, 92, 95, 96, 97] rfl
set_option maxRecDepth 100000 in
theorem in_wsL_law_r5 : ∀ w ∈ wsL_law_r5, w ∈ lw_tbl := in_all [173, 174, 175, 176, 177, 178, 179, 180, 181, 182, 183, 184, 185, 186, 187, 188, 519, 520, 521, 522, 450, 523, 525, 13] rfl
set_option maxRecDepth 100000 in
theorem in_wsL_law_r8 : ∀ w ∈ wsL_law_r8, w ∈ lw_tbl := in_all [545, 15, 546, 218, 219, 220, 221, 547, 548, 549, 550, 222, 223, 224, 225, 226, 228, 1, 229, 230, 232, 2, 233, 60] rfl
set_option maxRecDepth 100000 in
theorem in_wsL_law_r11 : ∀ w ∈ wsL_law_r11, w ∈ lw_tbl := in_all [276, 277, 278, 551, 552, 553, 554, 460, 555, 557, 16, 558, 457, 458, 559, 561, 17, 562, 456, 462, 563, 461, 564, 566] rfl
set_option maxRecDepth 100000 in
theorem in_wsL_law_r14 : ∀ w ∈ wsL_law_r14, w ∈ lw_tbl := in_all [592, 593, 594, 595, 596, 598, 23, 599, 300, 301, 302, 303, 304, 306, 7, 307, 308, 310, 8, 311, 600, 601, 602, 603] rfl
set_option maxRecDepth 100000 in
theorem in_wsL_law_r17 : ∀ w ∈ wsL_law_r17, w ∈ lw_tbl := in_all [344, 140, 345, 346, 347, 348, 59, 349, 350, 351, 352, 354, 355, 356, 357, 620, 621, 622, 623, 359, 360, 361, 362, 363] rfl
set_option maxRecDepth 100000 in
theorem in_wsL_law_r20 : ∀ w ∈ wsL_law_r20, w ∈ lw_tbl := in_all [399, 400, 636, 637, 638, 639, 640, 642, 24, 643, 644, 646, 25, 647, 648, 650, 26, 651, 401, 402, 403, 404, 652, 653] rfl
set_option maxRecDepth 100000 in
theorem in_wsX00 : ∀ w ∈ wsX00, w ∈ lw_tbl := in_all [141, 143] rfl
set_option maxRecDepth 100000 in
theorem in_wsX30 : ∀ w ∈ wsX30, w ∈ lw_tbl := in_all [152, 154, 156, 158, 160, 162] rfl
