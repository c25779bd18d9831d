set_option maxRecDepth 100000 in
theorem in_wsL_law_r3 : ∀ w ∈ wsL_law_r3, w ∈ lw_tbl := in_all [98, 99, 100, 101, 102, 103, 104, 105, 94, 106, 135, 136, 137, 138, 139, 438, 439, 440, 441, 442, 443, 445, 446, 447] rfl
set_option maxRecDepth 100000 in
theorem in_wsL_law_r6 : ∀ w ∈ wsL_law_r6, w ∈ lw_tbl := in_all [526, 189, 190, 191, 192, 193, 194, 195, 196, 197, 198, 199, 200, 527, 528, 529, 530, 531, 533, 14, 534, 201, 202, 203] rfl
set_option maxRecDepth 100000 in
theorem in_wsL_law_r9 : ∀ w ∈ wsL_law_r9, w ∈ lw_tbl := in_all [62, 57, 49, 51, 53, 234, 235, 236, 237, 238, 239, 33, 240, 241, 242, 243, 244, 245, 246, 247, 248, 249, 250, 251] rfl
set_option maxRecDepth 100000 in
theorem in_wsL_law_r12 : ∀ w ∈ wsL_law_r12, w ∈ lw_tbl := in_all [18, 567, 568, 570, 19, 571, 572, 574, 20, 575, 459, 576, 578, 21, 579, 279, 280, 281, 282, 283, 284, 285, 286, 580] rfl
set_option maxRecDepth 100000 in
theorem in_wsL_law_r15 : ∀ w ∈ wsL_law_r15, w ∈ lw_tbl := in_all [312, 313, 314, 315, 604, 605, 606, 607, 316, 317, 318, 319, 320, 321, 322, 323, 324, 608, 609, 610, 611, 325, 326, 327] rfl
set_option maxRecDepth 100000 in
theorem in_wsL_law_r18 : ∀ w ∈ wsL_law_r18, w ∈ lw_tbl := in_all [364, 365, 366, 624, 625, 626, 627, 367, 368, 369, 370, 371, 373, 10, 374, 55, 628, 629, 630, 631, 375, 376, 377, 378] rfl
set_option maxRecDepth 100000 in
theorem in_wsL_law_r21 : ∀ w ∈ wsL_law_r21, w ∈ lw_tbl := in_all [654, 655, 405, 406, 407, 408, 409, 410, 411, 412, 656, 657, 658, 659, 413, 414, 415, 416, 417, 418, 419, 420, 660, 661] rfl
set_option maxRecDepth 100000 in
theorem in_wsX10 : ∀ w ∈ wsX10, w ∈ lw_tbl := in_all [65, 67, 69, 71, 73, 75, 77, 79, 81] rfl
set_option maxRecDepth 100000 in
theorem in_wsX40 : ∀ w ∈ wsX40, w ∈ lw_tbl := in_all [465, 467, 469, 471, 473, 475, 477, 479, 481, 483, 485, 487, 489, 491, 493, 495, 497, 499, 501, 503, 505, 507, 509] rfl
