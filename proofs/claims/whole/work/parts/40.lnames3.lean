set_option maxRecDepth 20000 in
theorem ggL_law_X4_init : GoodIn wsL_law wsX4_init := goodIn_r _ [9, 10, 11, 12, 13, 14, 15, 16, 17, 18, 19, 20, 21, 22, 23, 24, 25, 26, 27, 28, 29, 30, 31, 32, 33, 34, 35, 6, 36, 37, 38, 39, 40, 41, 42, 43, 44, 45, 46, 47, 48, 49, 50, 51, 52, 53, 54, 55, 56, 57, 58, 59, 60, 61, 62, 63, 551, 552, 553, 554, 517, 518, 519, 520, 555, 556, 557, 558, 559, 560, 561, 562, 563, 564, 565, 566, 567, 568, 569, 570, 571] (by decide +kernel) (by decide +kernel)
set_option maxRecDepth 20000 in
theorem gL_law_X4_init : GoodIn wsL_law (wsX4_init) := ggL_law_X4_init
set_option maxRecDepth 20000 in
theorem ggL_law_X5_init : GoodIn wsL_law wsX5_init := goodIn_r _ [66, 67, 11, 12, 34, 68, 61, 69, 70, 71, 72, 73, 74, 6, 75, 76, 77, 78, 79, 80, 81, 82, 83, 84, 85, 86, 87, 88, 521, 522, 523, 524, 525, 526, 527, 528, 529, 530, 531, 532, 533, 534, 535, 536, 537, 538, 539, 540, 541, 542, 543, 544, 545, 546, 547, 548, 549, 550] (by decide +kernel) (by decide +kernel)
set_option maxRecDepth 20000 in
theorem gL_law_X5_init : GoodIn wsL_law (wsX5_init) := ggL_law_X5_init
set_option maxRecDepth 20000 in
theorem ggL_law_X4_row : GoodIn wsL_law wsX4_row := goodIn_r _ [92, 93, 16, 94, 95, 96, 2, 97, 98, 99, 100, 15, 101, 32, 35, 33, 36, 102, 103, 517, 518, 519, 520, 551, 552, 553, 554] (by decide +kernel) (by decide +kernel)
set_option maxRecDepth 20000 in
theorem gL_law_X4_row : GoodIn wsL_law (wsV RL 31 RX4 yX4_row wsX4_row) := goodIn_app (goodIn_of _ (by decide +kernel)) ggL_law_X4_row
set_option maxRecDepth 20000 in
theorem ggL_law_X5_row : GoodIn wsL_law wsX5_row := goodIn_r _ [107, 108, 109, 110, 111, 68, 69, 70, 112, 113, 5, 114, 521, 522, 523, 524, 525, 526, 527, 528, 529, 530, 531, 532, 533, 534, 535, 536, 537, 538, 539, 540, 541, 542, 543, 544, 545, 546, 547, 548, 549, 550] (by decide +kernel) (by decide +kernel)
set_option maxRecDepth 20000 in
theorem gL_law_X5_row : GoodIn wsL_law (wsV RL 35 RX5 yX5_row wsX5_row) := goodIn_app (goodIn_of _ (by decide +kernel)) ggL_law_X5_row
set_option maxRecDepth 20000 in
theorem ggL_law_X4_put : GoodIn wsL_law wsX4_put := goodIn_r _ [118, 16, 119, 93, 120, 121, 122, 15, 123, 32, 96, 2, 97, 124, 125, 126, 95, 127, 128, 129, 130, 36, 131, 132, 133, 134, 135, 136, 137, 138, 139, 102, 103, 517, 518, 519, 520, 551, 552, 553, 554] (by decide +kernel) (by decide +kernel)
set_option maxRecDepth 20000 in
theorem gL_law_X4_put : GoodIn wsL_law (wsV RL 36 RX4 yX4_put wsX4_put) := goodIn_app (goodIn_of _ (by decide +kernel)) ggL_law_X4_put
set_option maxRecDepth 20000 in
theorem ggL_law_X5_put : GoodIn wsL_law wsX5_put := goodIn_r _ [143, 108, 110, 144, 109, 70, 112, 113, 5, 114, 521, 522, 523, 524, 525, 526, 527, 528, 529, 530, 531, 532, 533, 534, 535, 536, 537, 538, 539, 540, 541, 542, 543, 544, 545, 546, 547, 548, 549, 550] (by decide +kernel) (by decide +kernel)
set_option maxRecDepth 20000 in
theorem gL_law_X5_put : GoodIn wsL_law (wsV RL 40 RX5 yX5_put wsX5_put) := goodIn_app (goodIn_of _ (by decide +kernel)) ggL_law_X5_put
set_option maxRecDepth 20000 in
theorem ggL_law_X4_of : GoodIn wsL_law wsX4_of := goodIn_r _ [148, 16, 119, 120, 121, 122, 15, 123, 32, 96, 2, 97, 95, 149, 150, 151, 152, 133, 134, 135, 136, 137, 138, 139, 36, 102, 103, 517, 518, 519, 520, 551, 552, 553, 554] (by decide +kernel) (by decide +kernel)
set_option maxRecDepth 20000 in
theorem gL_law_X4_of : GoodIn wsL_law (wsV RL 41 RX4 yX4_of wsX4_of) := goodIn_app (goodIn_of _ (by decide +kernel)) ggL_law_X4_of
set_option maxRecDepth 20000 in
theorem ggL_law_X5_of : GoodIn wsL_law wsX5_of := goodIn_r _ [156, 108, 110, 144, 70, 68, 69, 112, 113, 5, 114, 521, 522, 523, 524, 525, 526, 527, 528, 529, 530, 531, 532, 533, 534, 535, 536, 537, 538, 539, 540, 541, 542, 543, 544, 545, 546, 547, 548, 549, 550] (by decide +kernel) (by decide +kernel)
set_option maxRecDepth 20000 in
theorem gL_law_X5_of : GoodIn wsL_law (wsV RL 45 RX5 yX5_of wsX5_of) := goodIn_app (goodIn_of _ (by decide +kernel)) ggL_law_X5_of
set_option maxRecDepth 20000 in
theorem ggL_law_X4_slices : GoodIn wsL_law wsX4_slices := goodIn_r _ [160, 93, 20, 16, 95, 96, 2, 97, 161, 162, 163, 19, 164, 40, 41, 165, 166, 167, 168, 169, 170, 171, 172, 173, 174, 175, 42, 176, 177, 178, 179, 43, 44, 180, 181, 182, 183, 184, 185, 186, 187, 188, 189, 190, 191, 192, 193, 194, 195, 196, 197, 102, 103, 517, 518, 519, 520, 555, 556, 557, 558, 559, 551, 552, 553, 554] (by decide +kernel) (by decide +kernel)
set_option maxRecDepth 20000 in
theorem gL_law_X4_slices : GoodIn wsL_law (wsV RL 46 RX4 yX4_slices wsX4_slices) := goodIn_app (goodIn_of _ (by decide +kernel)) ggL_law_X4_slices
set_option maxRecDepth 20000 in
theorem ggL_law_X5_slices : GoodIn wsL_law wsX5_slices := goodIn_r _ [201, 108, 109, 202, 112, 113, 5, 114, 203, 204, 205, 206, 110, 70, 207, 208, 209, 210, 71, 72, 73, 74, 75, 76, 77, 211, 212, 213, 214, 215, 216, 217, 69, 218, 219, 220, 221, 521, 522, 523, 524, 525, 526, 527, 528, 529, 530, 531, 532, 533, 534, 535, 536, 537, 538, 539, 540, 541, 542, 543, 544, 545, 546, 547, 548, 549, 550] (by decide +kernel) (by decide +kernel)
set_option maxRecDepth 20000 in
theorem gL_law_X5_slices : GoodIn wsL_law (wsV RL 49 RX5 yX5_slices wsX5_slices) := goodIn_app (goodIn_of _ (by decide +kernel)) ggL_law_X5_slices
set_option maxRecDepth 20000 in
theorem ggL_law_X4_slice : GoodIn wsL_law wsX4_slice := goodIn_r _ [225, 20, 119, 226, 227, 228, 19, 229, 40, 96, 2, 97, 230, 196, 197, 231, 232, 233, 234, 166, 167, 168, 169, 170, 171, 517, 518, 519, 520, 555, 556, 557, 558, 559] (by decide +kernel) (by decide +kernel)
set_option maxRecDepth 20000 in
theorem gL_law_X4_slice : GoodIn wsL_law (wsV RL 50 RX4 yX4_slice wsX4_slice) := goodIn_app (goodIn_of _ (by decide +kernel)) ggL_law_X4_slice
set_option maxRecDepth 20000 in
theorem ggL_law_X5_slice : GoodIn wsL_law wsX5_slice := goodIn_r _ [238, 108, 202, 144, 71, 72, 73, 74, 76, 77, 112, 113, 5, 114, 521, 522, 523, 524, 525, 526, 527, 528, 529, 530, 531, 532, 533, 534, 535, 536, 537, 538, 539, 540, 541, 542, 543, 544, 545, 546, 547, 548, 549, 550] (by decide +kernel) (by decide +kernel)
set_option maxRecDepth 20000 in
theorem gL_law_X5_slice : GoodIn wsL_law (wsV RL 53 RX5 yX5_slice wsX5_slice) := goodIn_app (goodIn_of _ (by decide +kernel)) ggL_law_X5_slice
set_option maxRecDepth 20000 in
theorem ggL_law_X4_member : GoodIn wsL_law wsX4_member := goodIn_r _ [242, 20, 119, 93, 226, 227, 228, 19, 229, 40, 96, 2, 97, 517, 518, 519, 520, 555, 556, 557, 558, 559] (by decide +kernel) (by decide +kernel)
set_option maxRecDepth 20000 in
theorem gL_law_X4_member : GoodIn wsL_law (wsV RL 54 RX4 yX4_member wsX4_member) := goodIn_app (goodIn_of _ (by decide +kernel)) ggL_law_X4_member
set_option maxRecDepth 20000 in
theorem ggL_law_X5_member : GoodIn wsL_law wsX5_member := goodIn_r _ [246, 108, 202, 144, 109, 75, 112, 113, 5, 114, 521, 522, 523, 524, 525, 526, 527, 528, 529, 530, 531, 532, 533, 534, 535, 536, 537, 538, 539, 540, 541, 542, 543, 544, 545, 546, 547, 548, 549, 550] (by decide +kernel) (by decide +kernel)
set_option maxRecDepth 20000 in
theorem gL_law_X5_member : GoodIn wsL_law (wsV RL 57 RX5 yX5_member wsX5_member) := goodIn_app (goodIn_of _ (by decide +kernel)) ggL_law_X5_member
set_option maxRecDepth 20000 in
theorem ggL_law_X4_share : GoodIn wsL_law wsX4_share := goodIn_r _ [250, 20, 251, 252, 226, 227, 228, 19, 229, 40, 96, 2, 97, 95, 253, 254, 255, 234, 166, 167, 168, 169, 170, 171, 256, 257, 258, 259, 260, 261, 262, 263, 264, 265, 266, 267, 268, 269, 188, 189, 270, 190, 191, 517, 518, 519, 520, 555, 556, 557, 558, 559] (by decide +kernel) (by decide +kernel)
set_option maxRecDepth 20000 in
theorem gL_law_X4_share : GoodIn wsL_law (wsV RL 58 RX4 yX4_share wsX4_share) := goodIn_app (goodIn_of _ (by decide +kernel)) ggL_law_X4_share
set_option maxRecDepth 20000 in
theorem ggL_law_X5_share : GoodIn wsL_law wsX5_share := goodIn_r _ [274, 108, 202, 275, 276, 77, 76, 112, 113, 5, 114, 277, 278, 279, 280, 281, 282, 521, 522, 523, 524, 525, 526, 527, 528, 529, 530, 531, 532, 533, 534, 535, 536, 537, 538, 539, 540, 541, 542, 543, 544, 545, 546, 547, 548, 549, 550] (by decide +kernel) (by decide +kernel)
set_option maxRecDepth 20000 in
theorem gL_law_X5_share : GoodIn wsL_law (wsV RL 62 RX5 yX5_share wsX5_share) := goodIn_app (goodIn_of _ (by decide +kernel)) ggL_law_X5_share
set_option maxRecDepth 20000 in
theorem ggL_law_L_gap : GoodIn wsL_law wsL_gap := goodIn_ca (goodIn_r _ [286, 287, 288, 289, 290, 2, 291, 292, 293, 251, 252, 16, 124, 125, 126, 95, 96, 97, 294, 295, 296, 253, 254, 255, 297, 137, 138, 15, 139, 36, 102, 103, 234, 166, 167, 168, 169, 170, 171, 256, 257, 258, 259, 260, 261, 262, 263, 264, 265, 266, 267, 268, 517, 518, 519, 520, 551, 552, 553, 554] (by decide +kernel) (by decide +kernel)) (goodIn_sub (fun _ h => List.mem_append_right _ h) (by decide +kernel))
set_option maxRecDepth 20000 in
theorem gL_law_L_gap : GoodIn wsL_law (va_wsS RL 63 yL_gap wsL_gap) := goodIn_app (goodIn_of _ (by decide +kernel)) ggL_law_L_gap
set_option maxRecDepth 20000 in
theorem ggL_law_X5_gap : GoodIn wsL_law wsX5_gap := goodIn_r _ [301, 108, 275, 276, 112, 113, 5, 114, 203, 204, 205, 206, 110, 70, 211, 212, 213, 214, 215, 216, 217, 69, 277, 278, 279, 280, 281, 282, 521, 522, 523, 524, 525, 526, 527, 528, 529, 530, 531, 532, 533, 534, 535, 536, 537, 538, 539, 540, 541, 542, 543, 544, 545, 546, 547, 548, 549, 550] (by decide +kernel) (by decide +kernel)
set_option maxRecDepth 20000 in
theorem gL_law_X5_gap : GoodIn wsL_law (wsV RL 68 RX5 yX5_gap wsX5_gap) := goodIn_app (goodIn_of _ (by decide +kernel)) ggL_law_X5_gap
set_option maxRecDepth 20000 in
theorem ggL_law_X5_thrown : GoodIn wsL_law wsX5_thrown := goodIn_r _ [305, 108, 521, 522, 523, 524, 525, 526, 527, 528, 529, 530, 531, 532, 533, 534, 535, 536, 537, 538, 539, 540, 541, 542, 543, 544, 545, 546, 547, 548, 549, 550] (by decide +kernel) (by decide +kernel)
set_option maxRecDepth 20000 in
theorem gL_law_X5_thrown : GoodIn wsL_law (wsV RL 69 RX5 yX5_thrown wsX5_thrown) := goodIn_app (goodIn_of _ (by decide +kernel)) ggL_law_X5_thrown
set_option maxRecDepth 20000 in
theorem ggL_law_X4_window : GoodIn wsL_law wsX4_window := goodIn_r _ [309, 93, 16, 310, 311, 2, 312, 313, 314, 315, 15, 316, 32, 35, 234, 166, 167, 168, 169, 170, 171, 517, 518, 519, 520, 551, 552, 553, 554] (by decide +kernel) (by decide +kernel)
set_option maxRecDepth 20000 in
theorem gL_law_X4_window : GoodIn wsL_law (wsV RL 73 RX4 yX4_window wsX4_window) := goodIn_app (goodIn_of _ (by decide +kernel)) ggL_law_X4_window
set_option maxRecDepth 20000 in
theorem ggL_law_X5_window : GoodIn wsL_law wsX5_window := goodIn_r _ [320, 108, 109, 110, 321, 322, 5, 323, 324, 325, 326, 327, 68, 521, 522, 523, 524, 525, 526, 527, 528, 529, 530, 531, 532, 533, 534, 535, 536, 537, 538, 539, 540, 541, 542, 543, 544, 545, 546, 547, 548, 549, 550] (by decide +kernel) (by decide +kernel)
set_option maxRecDepth 20000 in
theorem gL_law_X5_window : GoodIn wsL_law (wsV RL 76 RX5 yX5_window wsX5_window) := goodIn_app (goodIn_of _ (by decide +kernel)) ggL_law_X5_window
set_option maxRecDepth 20000 in
theorem ggL_law_L_drift : GoodIn wsL_law wsL_drift := goodIn_ca (goodIn_r _ [330, 287, 331, 332, 333, 2, 334, 292, 293, 251, 252, 16, 124, 125, 126, 95, 96, 97, 310, 311, 312, 253, 254, 255, 313, 314, 315, 15, 316, 32, 35, 335, 336, 337, 338, 339, 340, 261, 341, 342, 166, 167, 168, 169, 170, 171, 136, 137, 138, 139, 36, 102, 103, 343, 344, 345, 234, 256, 257, 258, 259, 260, 262, 263, 264, 265, 266, 267, 268, 517, 518, 519, 520, 551, 552, 553, 554] (by decide +kernel) (by decide +kernel)) (goodIn_sub (fun _ h => List.mem_append_right _ h) (by decide +kernel))
set_option maxRecDepth 20000 in
theorem gL_law_L_drift : GoodIn wsL_law (va_wsS RL 77 yL_drift wsL_drift) := goodIn_app (goodIn_of _ (by decide +kernel)) ggL_law_L_drift
set_option maxRecDepth 20000 in
theorem ggL_law_X5_drift : GoodIn wsL_law wsX5_drift := goodIn_r _ [349, 108, 275, 276, 350, 351, 112, 113, 5, 114, 352, 353, 354, 321, 322, 323, 355, 356, 357, 358, 359, 360, 78, 79, 110, 70, 324, 325, 326, 327, 68, 361, 362, 363, 364, 365, 277, 278, 279, 280, 281, 282, 521, 522, 523, 524, 525, 526, 527, 528, 529, 530, 531, 532, 533, 534, 535, 536, 537, 538, 539, 540, 541, 542, 543, 544, 545, 546, 547, 548, 549, 550] (by decide +kernel) (by decide +kernel)
set_option maxRecDepth 20000 in
theorem gL_law_X5_drift : GoodIn wsL_law (wsV RL 80 RX5 yX5_drift wsX5_drift) := goodIn_app (goodIn_of _ (by decide +kernel)) ggL_law_X5_drift
set_option maxRecDepth 20000 in
theorem ggL_law_X4_rise : GoodIn wsL_law wsX4_rise := goodIn_r _ [369, 119, 93, 24, 16, 124, 125, 2, 126, 95, 96, 97, 310, 311, 312, 313, 314, 315, 15, 316, 32, 35, 370, 371, 372, 23, 373, 48, 49, 50, 51, 374, 137, 138, 139, 36, 102, 103, 375, 166, 167, 168, 169, 170, 171, 376, 377, 378, 379, 517, 518, 519, 520, 551, 552, 553, 554, 560, 561, 562, 563, 564] (by decide +kernel) (by decide +kernel)
set_option maxRecDepth 20000 in
theorem gL_law_X4_rise : GoodIn wsL_law (wsV RL 81 RX4 yX4_rise wsX4_rise) := goodIn_app (goodIn_of _ (by decide +kernel)) ggL_law_X4_rise
set_option maxRecDepth 20000 in
theorem ggL_law_X5_rise : GoodIn wsL_law wsX5_rise := goodIn_r _ [383, 108, 144, 109, 112, 113, 5, 114, 352, 353, 354, 321, 322, 323, 355, 356, 357, 358, 359, 360, 78, 79, 110, 70, 324, 325, 326, 327, 68, 384, 385, 386, 387, 521, 522, 523, 524, 525, 526, 527, 528, 529, 530, 531, 532, 533, 534, 535, 536, 537, 538, 539, 540, 541, 542, 543, 544, 545, 546, 547, 548, 549, 550] (by decide +kernel) (by decide +kernel)
set_option maxRecDepth 20000 in
theorem gL_law_X5_rise : GoodIn wsL_law (wsV RL 84 RX5 yX5_rise wsX5_rise) := goodIn_app (goodIn_of _ (by decide +kernel)) ggL_law_X5_rise
set_option maxRecDepth 20000 in
theorem ggL_law_X4_odds : GoodIn wsL_law wsX4_odds := goodIn_r _ [391, 251, 252, 24, 16, 392, 124, 125, 2, 126, 95, 96, 97, 310, 311, 312, 253, 254, 255, 313, 314, 315, 15, 316, 32, 35, 370, 371, 372, 23, 373, 48, 49, 50, 51, 374, 137, 138, 139, 36, 102, 103, 375, 166, 167, 168, 169, 170, 171, 376, 377, 378, 379, 393, 394, 395, 396, 52, 397, 398, 261, 399, 400, 401, 402, 403, 404, 405, 406, 407, 408, 409, 410, 411, 412, 413, 414, 415, 416, 417, 256, 257, 258, 259, 260, 262, 263, 264, 265, 266, 267, 268, 517, 518, 519, 520, 560, 561, 562, 563, 564, 551, 552, 553, 554] (by decide +kernel) (by decide +kernel)
set_option maxRecDepth 20000 in
theorem gL_law_X4_odds : GoodIn wsL_law (wsV RL 85 RX4 yX4_odds wsX4_odds) := goodIn_app (goodIn_of _ (by decide +kernel)) ggL_law_X4_odds
set_option maxRecDepth 20000 in
theorem ggL_law_X5_odds : GoodIn wsL_law wsX5_odds := goodIn_r _ [421, 108, 275, 276, 359, 78, 360, 79, 422, 80, 81, 82, 112, 113, 5, 114, 352, 353, 354, 321, 322, 323, 355, 356, 357, 358, 110, 70, 324, 325, 326, 327, 68, 423, 424, 425, 426, 384, 385, 386, 387, 277, 278, 279, 280, 281, 282, 521, 522, 523, 524, 525, 526, 527, 528, 529, 530, 531, 532, 533, 534, 535, 536, 537, 538, 539, 540, 541, 542, 543, 544, 545, 546, 547, 548, 549, 550] (by decide +kernel) (by decide +kernel)
set_option maxRecDepth 20000 in
theorem gL_law_X5_odds : GoodIn wsL_law (wsV RL 88 RX5 yX5_odds wsX5_odds) := goodIn_app (goodIn_of _ (by decide +kernel)) ggL_law_X5_odds
set_option maxRecDepth 20000 in
theorem ggL_law_X4_fresh : GoodIn wsL_law wsX4_fresh := goodIn_r _ [430, 119, 93, 16, 124, 125, 2, 126, 95, 96, 97, 310, 311, 312, 313, 314, 315, 15, 316, 32, 35, 297, 137, 138, 139, 36, 102, 103, 517, 518, 519, 520, 551, 552, 553, 554] (by decide +kernel) (by decide +kernel)
set_option maxRecDepth 20000 in
theorem gL_law_X4_fresh : GoodIn wsL_law (wsV RL 89 RX4 yX4_fresh wsX4_fresh) := goodIn_app (goodIn_of _ (by decide +kernel)) ggL_law_X4_fresh
set_option maxRecDepth 20000 in
theorem ggL_law_X5_fresh : GoodIn wsL_law wsX5_fresh := goodIn_r _ [434, 108, 144, 109, 79, 78, 112, 113, 5, 114, 352, 353, 354, 321, 322, 323, 355, 356, 357, 358, 359, 360, 110, 70, 324, 325, 326, 327, 68, 521, 522, 523, 524, 525, 526, 527, 528, 529, 530, 531, 532, 533, 534, 535, 536, 537, 538, 539, 540, 541, 542, 543, 544, 545, 546, 547, 548, 549, 550] (by decide +kernel) (by decide +kernel)
set_option maxRecDepth 20000 in
theorem gL_law_X5_fresh : GoodIn wsL_law (wsV RL 93 RX5 yX5_fresh wsX5_fresh) := goodIn_app (goodIn_of _ (by decide +kernel)) ggL_law_X5_fresh
set_option maxRecDepth 20000 in
theorem ggL_law_L_shift : GoodIn wsL_law wsL_shift := goodIn_ca (goodIn_r _ [437, 287, 438, 439, 440, 2, 441, 292, 293, 251, 252, 16, 392, 124, 125, 126, 95, 96, 97, 310, 311, 312, 253, 254, 255, 313, 314, 315, 15, 316, 32, 35, 297, 137, 138, 139, 36, 102, 103, 234, 166, 167, 168, 169, 170, 171, 256, 257, 258, 259, 260, 261, 262, 263, 264, 265, 266, 267, 268, 517, 518, 519, 520, 551, 552, 553, 554] (by decide +kernel) (by decide +kernel)) (goodIn_sub (fun _ h => List.mem_append_right _ h) (by decide +kernel))
set_option maxRecDepth 20000 in
theorem gL_law_L_shift : GoodIn wsL_law (va_wsS RL 94 yL_shift wsL_shift) := goodIn_app (goodIn_of _ (by decide +kernel)) ggL_law_L_shift
set_option maxRecDepth 20000 in
theorem ggL_law_X5_shift : GoodIn wsL_law wsX5_shift := goodIn_r _ [445, 108, 275, 276, 110, 70, 422, 112, 113, 5, 114, 352, 353, 354, 321, 322, 323, 324, 325, 326, 327, 68, 277, 278, 279, 280, 281, 282, 521, 522, 523, 524, 525, 526, 527, 528, 529, 530, 531, 532, 533, 534, 535, 536, 537, 538, 539, 540, 541, 542, 543, 544, 545, 546, 547, 548, 549, 550] (by decide +kernel) (by decide +kernel)
set_option maxRecDepth 20000 in
theorem gL_law_X5_shift : GoodIn wsL_law (wsV RL 97 RX5 yX5_shift wsX5_shift) := goodIn_app (goodIn_of _ (by decide +kernel)) ggL_law_X5_shift
set_option maxRecDepth 20000 in
theorem ggL_law_L_order : GoodIn wsL_law wsL_order := goodIn_ca (goodIn_r _ [448, 287, 449, 450, 451, 2, 452, 292, 293, 119, 93, 16, 124, 125, 126, 95, 96, 97, 310, 311, 312, 313, 314, 315, 15, 316, 32, 35, 453, 454, 455, 456, 457, 336, 337, 338, 339, 340, 261, 341, 342, 166, 167, 168, 169, 170, 171, 136, 137, 138, 139, 36, 102, 103, 517, 518, 519, 520, 551, 552, 553, 554] (by decide +kernel) (by decide +kernel)) (goodIn_sub (fun _ h => List.mem_append_right _ h) (by decide +kernel))
set_option maxRecDepth 20000 in
theorem gL_law_L_order : GoodIn wsL_law (va_wsS RL 98 yL_order wsL_order) := goodIn_app (goodIn_of _ (by decide +kernel)) ggL_law_L_order
set_option maxRecDepth 20000 in
theorem ggL_law_X5_order : GoodIn wsL_law wsX5_order := goodIn_r _ [461, 108, 144, 109, 83, 350, 84, 112, 113, 5, 114, 352, 353, 354, 321, 322, 323, 355, 356, 357, 358, 359, 360, 78, 79, 110, 70, 324, 325, 326, 327, 68, 361, 362, 363, 364, 365, 351, 521, 522, 523, 524, 525, 526, 527, 528, 529, 530, 531, 532, 533, 534, 535, 536, 537, 538, 539, 540, 541, 542, 543, 544, 545, 546, 547, 548, 549, 550] (by decide +kernel) (by decide +kernel)
set_option maxRecDepth 20000 in
theorem gL_law_X5_order : GoodIn wsL_law (wsV RL 100 RX5 yX5_order wsX5_order) := goodIn_app (goodIn_of _ (by decide +kernel)) ggL_law_X5_order
set_option maxRecDepth 20000 in
theorem ggL_law_X4_watch : GoodIn wsL_law wsX4_watch := goodIn_r _ [465, 119, 93, 16, 466, 28, 124, 125, 2, 126, 95, 96, 97, 313, 314, 315, 15, 316, 32, 35, 467, 468, 469, 27, 470, 56, 57, 58, 471, 472, 473, 474, 475, 476, 477, 478, 479, 409, 261, 410, 60, 62, 480, 481, 166, 167, 168, 169, 170, 171, 482, 336, 337, 338, 339, 340, 341, 342, 136, 137, 138, 139, 36, 102, 103, 344, 345, 234, 483, 484, 485, 486, 59, 63, 517, 518, 519, 520, 551, 552, 553, 554, 565, 566, 567, 568, 569, 570, 571] (by decide +kernel) (by decide +kernel)
set_option maxRecDepth 20000 in
theorem gL_law_X4_watch : GoodIn wsL_law (wsV RL 101 RX4 yX4_watch wsX4_watch) := goodIn_app (goodIn_of _ (by decide +kernel)) ggL_law_X4_watch
set_option maxRecDepth 20000 in
theorem ggL_law_X5_watch : GoodIn wsL_law wsX5_watch := goodIn_r _ [490, 108, 144, 109, 359, 491, 492, 493, 494, 350, 351, 85, 86, 87, 360, 88, 112, 113, 5, 114, 355, 356, 357, 358, 78, 79, 110, 70, 324, 325, 326, 327, 68, 361, 362, 363, 364, 365, 521, 522, 523, 524, 525, 526, 527, 528, 529, 530, 531, 532, 533, 534, 535, 536, 537, 538, 539, 540, 541, 542, 543, 544, 545, 546, 547, 548, 549, 550] (by decide +kernel) (by decide +kernel)
set_option maxRecDepth 20000 in
theorem gL_law_X5_watch : GoodIn wsL_law (wsV RL 104 RX5 yX5_watch wsX5_watch) := goodIn_app (goodIn_of _ (by decide +kernel)) ggL_law_X5_watch
set_option maxRecDepth 20000 in
theorem ggL_law_X4_step : GoodIn wsL_law wsX4_step := goodIn_r _ [498, 28, 119, 95, 96, 2, 97, 149, 150, 151, 499, 472, 473, 27, 474, 56, 57, 517, 518, 519, 520, 565, 566, 567, 568, 569, 570, 571] (by decide +kernel) (by decide +kernel)
set_option maxRecDepth 20000 in
theorem gL_law_X4_step : GoodIn wsL_law (wsV RL 105 RX4 yX4_step wsX4_step) := goodIn_app (goodIn_of _ (by decide +kernel)) ggL_law_X4_step
set_option maxRecDepth 20000 in
theorem ggL_law_X5_step : GoodIn wsL_law wsX5_step := goodIn_r _ [503, 108, 492, 144, 85, 86, 87, 88, 112, 113, 5, 114, 521, 522, 523, 524, 525, 526, 527, 528, 529, 530, 531, 532, 533, 534, 535, 536, 537, 538, 539, 540, 541, 542, 543, 544, 545, 546, 547, 548, 549, 550] (by decide +kernel) (by decide +kernel)
set_option maxRecDepth 20000 in
theorem gL_law_X5_step : GoodIn wsL_law (wsV RL 108 RX5 yX5_step wsX5_step) := goodIn_app (goodIn_of _ (by decide +kernel)) ggL_law_X5_step
set_option maxRecDepth 20000 in
theorem ggL_law_X4_count : GoodIn wsL_law wsX4_count := goodIn_r _ [507, 16, 20, 28, 119, 234, 166, 167, 168, 169, 170, 171, 508, 509, 510, 15, 511, 136, 137, 138, 139, 36, 102, 2, 103, 517, 518, 519, 520, 551, 552, 553, 554, 555, 556, 557, 558, 559, 565, 566, 567, 568, 569, 570, 571] (by decide +kernel) (by decide +kernel)
set_option maxRecDepth 20000 in
theorem gL_law_X4_count : GoodIn wsL_law (wsV RL 109 RX4 yX4_count wsX4_count) := goodIn_app (goodIn_of _ (by decide +kernel)) ggL_law_X4_count
set_option maxRecDepth 20000 in
theorem ggL_law_X5_count : GoodIn wsL_law wsX5_count := goodIn_r _ [515, 108, 110, 516, 202, 492, 493, 70, 144, 214, 215, 216, 5, 217, 69, 521, 522, 523, 524, 525, 526, 527, 528, 529, 530, 531, 532, 533, 534, 535, 536, 537, 538, 539, 540, 541, 542, 543, 544, 545, 546, 547, 548, 549, 550] (by decide +kernel) (by decide +kernel)
set_option maxRecDepth 20000 in
theorem gL_law_X5_count : GoodIn wsL_law (wsV RL 113 RX5 yX5_count wsX5_count) := goodIn_app (goodIn_of _ (by decide +kernel)) ggL_law_X5_count
