set_option maxRecDepth 20000 in
theorem ggL_law_X3_init : GoodIn wsL_law wsX3_init := goodIn_r _ [9, 10, 11, 12, 13, 14, 15, 16, 17, 18, 19, 20, 21, 22, 23, 24, 25, 26, 27, 28, 29, 30, 31, 32, 33, 34, 35, 36, 37, 38, 39, 40, 41, 42, 43, 44, 45, 46, 47, 48, 49, 50, 51, 52, 53, 736, 737, 738, 739, 740, 741, 742, 743, 744, 745, 746, 747, 748, 749, 750, 751, 720, 721, 722, 723, 752, 753, 754, 755, 756] rfl (by decide +kernel)
set_option maxRecDepth 20000 in
theorem gL_law_X3_init : GoodIn wsL_law (wsX3_init) := ggL_law_X3_init
set_option maxRecDepth 20000 in
theorem ggL_law_X4_init : GoodIn wsL_law wsX4_init := goodIn_r _ [56, 57, 11, 12, 30, 58, 59, 60, 61, 62, 63, 724, 725, 726, 727, 728, 729, 730, 731, 732, 733, 734, 735] rfl (by decide +kernel)
set_option maxRecDepth 20000 in
theorem gL_law_X4_init : GoodIn wsL_law (wsX4_init) := ggL_law_X4_init
set_option maxRecDepth 20000 in
theorem ggL_law_L_plane : GoodIn wsL_law wsL_plane := goodIn_ca (goodIn_ca (goodIn_r _ [67, 68, 69, 70, 71, 72, 2, 73, 74, 75, 76, 77, 21, 16, 78, 79, 80, 81, 82, 83, 84, 85, 86, 87, 88, 89, 20, 90, 91, 92, 48, 47, 14, 15, 93, 27, 28, 29, 11, 12, 30, 31, 32, 33, 34, 35, 36, 37, 38, 39, 40, 41, 42, 94, 95, 96, 97, 98, 99, 100, 101, 102, 103, 104, 105, 106, 107, 108, 109, 720, 721, 722, 723, 752, 753, 754, 736, 737, 738, 739, 740, 741, 742, 743, 744, 745, 746, 747, 748, 749, 750, 751] rfl (by decide +kernel)) (goodIn_sub (fun _ h => List.mem_append_left _ (List.mem_append_left _ (List.mem_append_right _ h))) (by decide +kernel))) (goodIn_sub (fun _ h => List.mem_append_left _ (List.mem_append_right _ h)) (by decide +kernel))
set_option maxRecDepth 20000 in
theorem gL_law_L_plane : GoodIn wsL_law (va_wsS RL 75 yL_plane wsL_plane) := goodIn_app (goodIn_of _ (by decide +kernel)) ggL_law_L_plane
set_option maxRecDepth 20000 in
theorem ggL_law_X4_plane : GoodIn wsL_law wsX4_plane := goodIn_r _ [113, 63, 58, 114, 115, 5, 116, 117, 118, 119, 120, 121, 122, 123, 124, 125, 126, 127, 128, 60, 129, 130, 131, 132, 724, 725, 726, 727, 728, 729, 730, 731, 732, 733, 734, 735] rfl (by decide +kernel)
set_option maxRecDepth 20000 in
theorem gL_law_X4_plane : GoodIn wsL_law (wsV RL 80 RX4 yX4_plane wsX4_plane) := goodIn_app (goodIn_of _ (by decide +kernel)) ggL_law_X4_plane
set_option maxRecDepth 20000 in
theorem ggL_law_X4_thrown : GoodIn wsL_law wsX4_thrown := goodIn_r _ [136, 63, 724, 725, 726, 727, 728, 729, 730, 731, 732, 733, 734, 735] rfl (by decide +kernel)
set_option maxRecDepth 20000 in
theorem gL_law_X4_thrown : GoodIn wsL_law (wsV RL 81 RX4 yX4_thrown wsX4_thrown) := goodIn_app (goodIn_of _ (by decide +kernel)) ggL_law_X4_thrown
set_option maxRecDepth 20000 in
theorem ggL_law_L_gutter : GoodIn wsL_law wsL_gutter := goodIn_ca (goodIn_ca (goodIn_r _ [139, 68, 69, 140, 141, 142, 2, 143, 74, 75, 76, 77, 21, 16, 81, 82, 83, 84, 85, 86, 87, 88, 89, 20, 90, 91, 92, 48, 47, 14, 15, 93, 27, 28, 29, 11, 12, 30, 31, 32, 33, 34, 35, 36, 37, 38, 39, 40, 41, 42, 94, 95, 96, 97, 98, 99, 100, 101, 102, 103, 104, 105, 144, 145, 146, 147, 720, 721, 722, 723, 752, 753, 754, 736, 737, 738, 739, 740, 741, 742, 743, 744, 745, 746, 747, 748, 749, 750, 751] rfl (by decide +kernel)) (goodIn_sub (fun _ h => List.mem_append_left _ (List.mem_append_left _ (List.mem_append_right _ h))) (by decide +kernel))) (goodIn_sub (fun _ h => List.mem_append_left _ (List.mem_append_right _ h)) (by decide +kernel))
set_option maxRecDepth 20000 in
theorem gL_law_L_gutter : GoodIn wsL_law (va_wsS RL 84 yL_gutter wsL_gutter) := goodIn_app (goodIn_of _ (by decide +kernel)) ggL_law_L_gutter
set_option maxRecDepth 20000 in
theorem ggL_law_X4_gutter : GoodIn wsL_law wsX4_gutter := goodIn_r _ [151, 63, 58, 114, 115, 5, 116, 117, 118, 119, 120, 121, 122, 123, 124, 125, 126, 127, 128, 60, 152, 153, 154, 155, 724, 725, 726, 727, 728, 729, 730, 731, 732, 733, 734, 735] rfl (by decide +kernel)
set_option maxRecDepth 20000 in
theorem gL_law_X4_gutter : GoodIn wsL_law (wsV RL 87 RX4 yX4_gutter wsX4_gutter) := goodIn_app (goodIn_of _ (by decide +kernel)) ggL_law_X4_gutter
set_option maxRecDepth 20000 in
theorem ggL_law_L_valley : GoodIn wsL_law wsL_valley := goodIn_ca (goodIn_ca (goodIn_ca (goodIn_r _ [158, 68, 69, 159, 160, 161, 162, 2, 163, 74, 75, 76, 77, 164, 165, 16, 21, 81, 82, 83, 166, 167, 168, 15, 169, 38, 87, 88, 89, 20, 90, 91, 92, 48, 47, 14, 93, 27, 28, 29, 11, 12, 30, 31, 32, 33, 34, 35, 36, 37, 39, 40, 41, 42, 94, 95, 96, 97, 98, 99, 100, 101, 102, 103, 104, 105, 170, 171, 172, 173, 720, 721, 722, 723, 736, 737, 738, 739, 740, 741, 742, 743, 744, 745, 746, 747, 748, 749, 750, 751, 752, 753, 754] rfl (by decide +kernel)) (goodIn_sub (fun _ h => List.mem_append_left _ (List.mem_append_left _ (List.mem_append_right _ h))) (by decide +kernel))) (goodIn_sub (fun _ h => List.mem_append_left _ (List.mem_append_right _ h)) (by decide +kernel))) (goodIn_sub (fun _ h => List.mem_append_right _ h) (by decide +kernel))
set_option maxRecDepth 20000 in
theorem gL_law_L_valley : GoodIn wsL_law (va_wsS RL 88 yL_valley wsL_valley) := goodIn_app (goodIn_of _ (by decide +kernel)) ggL_law_L_valley
set_option maxRecDepth 20000 in
theorem ggL_law_X4_valley : GoodIn wsL_law wsX4_valley := goodIn_r _ [177, 63, 58, 114, 115, 5, 116, 117, 118, 119, 120, 121, 122, 123, 178, 179, 180, 181, 152, 153, 154, 155, 124, 125, 126, 127, 128, 60, 724, 725, 726, 727, 728, 729, 730, 731, 732, 733, 734, 735] rfl (by decide +kernel)
set_option maxRecDepth 20000 in
theorem gL_law_X4_valley : GoodIn wsL_law (wsV RL 91 RX4 yX4_valley wsX4_valley) := goodIn_app (goodIn_of _ (by decide +kernel)) ggL_law_X4_valley
set_option maxRecDepth 20000 in
theorem ggL_law_L_clean : GoodIn wsL_law wsL_clean := goodIn_ca (goodIn_r _ [184, 68, 185, 186, 187, 2, 188, 74, 75, 21, 16, 81, 82, 83, 87, 88, 89, 20, 90, 91, 92, 48, 47, 14, 15, 93, 27, 28, 29, 11, 12, 30, 31, 32, 33, 34, 35, 36, 37, 38, 39, 40, 41, 42, 94, 95, 96, 97, 98, 99, 100, 101, 102, 103, 104, 105, 189, 190, 191, 192, 720, 721, 722, 723, 752, 753, 754, 736, 737, 738, 739, 740, 741, 742, 743, 744, 745, 746, 747, 748, 749, 750, 751] rfl (by decide +kernel)) (goodIn_sub (fun _ h => List.mem_append_left _ (List.mem_append_left _ (List.mem_append_right _ h))) (by decide +kernel))
set_option maxRecDepth 20000 in
theorem gL_law_L_clean : GoodIn wsL_law (va_wsS RL 92 yL_clean wsL_clean) := goodIn_app (goodIn_of _ (by decide +kernel)) ggL_law_L_clean
set_option maxRecDepth 20000 in
theorem ggL_law_X4_clean : GoodIn wsL_law wsX4_clean := goodIn_r _ [196, 63, 58, 114, 115, 5, 116, 117, 118, 119, 120, 121, 122, 123, 124, 125, 126, 127, 128, 60, 152, 153, 154, 155, 724, 725, 726, 727, 728, 729, 730, 731, 732, 733, 734, 735] rfl (by decide +kernel)
set_option maxRecDepth 20000 in
theorem gL_law_X4_clean : GoodIn wsL_law (wsV RL 95 RX4 yX4_clean wsX4_clean) := goodIn_app (goodIn_of _ (by decide +kernel)) ggL_law_X4_clean
set_option maxRecDepth 20000 in
theorem ggL_law_L_set : GoodIn wsL_law wsL_set := goodIn_ca (goodIn_ca (goodIn_r _ [199, 68, 69, 200, 201, 202, 2, 203, 74, 75, 76, 77, 204, 21, 16, 205, 206, 207, 84, 85, 86, 87, 88, 89, 20, 90, 91, 92, 48, 47, 14, 15, 93, 27, 28, 29, 11, 12, 30, 31, 32, 33, 34, 35, 36, 37, 38, 39, 40, 41, 42, 94, 95, 96, 97, 98, 99, 100, 101, 102, 103, 104, 105, 208, 209, 210, 211, 720, 721, 722, 723, 752, 753, 754, 736, 737, 738, 739, 740, 741, 742, 743, 744, 745, 746, 747, 748, 749, 750, 751] rfl (by decide +kernel)) (goodIn_sub (fun _ h => List.mem_append_left _ (List.mem_append_left _ (List.mem_append_right _ h))) (by decide +kernel))) (goodIn_sub (fun _ h => List.mem_append_left _ (List.mem_append_right _ h)) (by decide +kernel))
set_option maxRecDepth 20000 in
theorem gL_law_L_set : GoodIn wsL_law (va_wsS RL 96 yL_set wsL_set) := goodIn_app (goodIn_of _ (by decide +kernel)) ggL_law_L_set
set_option maxRecDepth 20000 in
theorem ggL_law_X4_set : GoodIn wsL_law wsX4_set := goodIn_r _ [215, 63, 58, 117, 118, 5, 119, 120, 121, 122, 123, 124, 125, 126, 127, 128, 60, 724, 725, 726, 727, 728, 729, 730, 731, 732, 733, 734, 735] rfl (by decide +kernel)
set_option maxRecDepth 20000 in
theorem gL_law_X4_set : GoodIn wsL_law (wsV RL 98 RX4 yX4_set wsX4_set) := goodIn_app (goodIn_of _ (by decide +kernel)) ggL_law_X4_set
set_option maxRecDepth 20000 in
theorem ggL_law_L_rain : GoodIn wsL_law wsL_rain := goodIn_ca (goodIn_r _ [218, 69, 219, 220, 221, 2, 222, 76, 77, 21, 16, 84, 85, 86, 87, 88, 89, 20, 90, 91, 92, 48, 47, 14, 15, 93, 27, 28, 29, 11, 12, 30, 31, 32, 33, 34, 35, 36, 37, 38, 39, 40, 41, 42, 94, 95, 96, 97, 98, 99, 100, 101, 102, 103, 104, 105, 223, 224, 225, 226, 227, 228, 229, 230, 231, 232, 233, 234, 235, 236, 237, 238, 239, 240, 241, 82, 83, 242, 243, 244, 245, 246, 247, 248, 249, 250, 251, 252, 253, 254, 255, 256, 257, 258, 259, 260, 261, 720, 721, 722, 723, 752, 753, 754, 736, 737, 738, 739, 740, 741, 742, 743, 744, 745, 746, 747, 748, 749, 750, 751] rfl (by decide +kernel)) (goodIn_sub (fun _ h => List.mem_append_left _ (List.mem_append_right _ h)) (by decide +kernel))
set_option maxRecDepth 20000 in
theorem gL_law_L_rain : GoodIn wsL_law (va_wsS RL 99 yL_rain wsL_rain) := goodIn_app (goodIn_of _ (by decide +kernel)) ggL_law_L_rain
set_option maxRecDepth 20000 in
theorem ggL_law_X4_rain : GoodIn wsL_law wsX4_rain := goodIn_r _ [265, 63, 117, 118, 5, 119, 120, 121, 122, 123, 124, 125, 126, 127, 128, 60, 58, 266, 267, 268, 269, 270, 271, 272, 273, 274, 275, 276, 277, 129, 130, 131, 132, 278, 279, 280, 281, 282, 283, 284, 285, 286, 287, 288, 289, 152, 153, 154, 155, 290, 291, 292, 293, 294, 295, 296, 297, 724, 725, 726, 727, 728, 729, 730, 731, 732, 733, 734, 735] rfl (by decide +kernel)
set_option maxRecDepth 20000 in
theorem gL_law_X4_rain : GoodIn wsL_law (wsV RL 101 RX4 yX4_rain wsX4_rain) := goodIn_app (goodIn_of _ (by decide +kernel)) ggL_law_X4_rain
set_option maxRecDepth 20000 in
theorem ggL_law_L_weeks : GoodIn wsL_law wsL_weeks := goodIn_ca (goodIn_r _ [300, 69, 301, 302, 303, 2, 304, 76, 77, 21, 16, 84, 85, 86, 87, 88, 89, 20, 90, 91, 92, 48, 47, 14, 15, 93, 27, 28, 29, 11, 12, 30, 31, 32, 33, 34, 35, 36, 37, 38, 39, 40, 41, 42, 94, 95, 96, 97, 98, 99, 100, 101, 102, 103, 104, 105, 305, 306, 307, 308, 246, 247, 248, 249, 309, 310, 311, 312, 227, 228, 229, 720, 721, 722, 723, 752, 753, 754, 736, 737, 738, 739, 740, 741, 742, 743, 744, 745, 746, 747, 748, 749, 750, 751] rfl (by decide +kernel)) (goodIn_sub (fun _ h => List.mem_append_left _ (List.mem_append_right _ h)) (by decide +kernel))
set_option maxRecDepth 20000 in
theorem gL_law_L_weeks : GoodIn wsL_law (va_wsS RL 102 yL_weeks wsL_weeks) := goodIn_app (goodIn_of _ (by decide +kernel)) ggL_law_L_weeks
set_option maxRecDepth 20000 in
theorem ggL_law_X4_weeks : GoodIn wsL_law wsX4_weeks := goodIn_r _ [316, 63, 117, 118, 5, 119, 120, 121, 122, 123, 124, 125, 126, 127, 128, 60, 58, 317, 318, 319, 320, 152, 153, 154, 155, 321, 322, 323, 324, 724, 725, 726, 727, 728, 729, 730, 731, 732, 733, 734, 735] rfl (by decide +kernel)
set_option maxRecDepth 20000 in
theorem gL_law_X4_weeks : GoodIn wsL_law (wsV RL 104 RX4 yX4_weeks wsX4_weeks) := goodIn_app (goodIn_of _ (by decide +kernel)) ggL_law_X4_weeks
set_option maxRecDepth 20000 in
theorem ggL_law_L_append : GoodIn wsL_law wsL_append := goodIn_ca (goodIn_ca (goodIn_r _ [327, 69, 159, 328, 329, 330, 2, 331, 76, 77, 164, 165, 25, 84, 85, 86, 332, 333, 334, 24, 335, 336, 337, 338, 339, 340, 53, 341, 342, 343, 344, 720, 721, 722, 723, 755, 756] rfl (by decide +kernel)) (goodIn_sub (fun _ h => List.mem_append_left _ (List.mem_append_right _ h)) (by decide +kernel))) (goodIn_sub (fun _ h => List.mem_append_right _ h) (by decide +kernel))
set_option maxRecDepth 20000 in
theorem gL_law_L_append : GoodIn wsL_law (va_wsS RL 105 yL_append wsL_append) := goodIn_app (goodIn_of _ (by decide +kernel)) ggL_law_L_append
set_option maxRecDepth 20000 in
theorem ggL_law_X4_append : GoodIn wsL_law wsX4_append := goodIn_r _ [348, 63, 349, 61, 117, 118, 5, 119, 120, 121, 122, 123, 724, 725, 726, 727, 728, 729, 730, 731, 732, 733, 734, 735] rfl (by decide +kernel)
set_option maxRecDepth 20000 in
theorem gL_law_X4_append : GoodIn wsL_law (wsV RL 107 RX4 yX4_append wsX4_append) := goodIn_app (goodIn_of _ (by decide +kernel)) ggL_law_X4_append
set_option maxRecDepth 20000 in
theorem ggL_law_X3_clearBuffer : GoodIn wsL_law wsX3_clearBuffer := goodIn_r _ [353, 25, 341, 342, 343, 24, 344, 336, 354, 355, 356, 357, 720, 721, 722, 723, 755, 756] rfl (by decide +kernel)
set_option maxRecDepth 20000 in
theorem gL_law_X3_clearBuffer : GoodIn wsL_law (wsV RL 108 RX3 yX3_clearBuffer wsX3_clearBuffer) := goodIn_app (goodIn_of _ (by decide +kernel)) ggL_law_X3_clearBuffer
set_option maxRecDepth 20000 in
theorem ggL_law_X4_clearBuffer : GoodIn wsL_law wsX4_clearBuffer := goodIn_r _ [361, 63, 349, 724, 725, 726, 727, 728, 729, 730, 731, 732, 733, 734, 735] rfl (by decide +kernel)
set_option maxRecDepth 20000 in
theorem gL_law_X4_clearBuffer : GoodIn wsL_law (wsV RL 111 RX4 yX4_clearBuffer wsX4_clearBuffer) := goodIn_app (goodIn_of _ (by decide +kernel)) ggL_law_X4_clearBuffer
set_option maxRecDepth 20000 in
theorem ggL_law_X3_firstError : GoodIn wsL_law wsX3_firstError := goodIn_r _ [365, 25, 366, 367, 368, 24, 369, 336, 53, 370, 371, 372, 373, 374, 375, 376, 377, 378, 85, 2, 86, 379, 380, 381, 382, 383, 384, 720, 721, 722, 723, 755, 756] rfl (by decide +kernel)
set_option maxRecDepth 20000 in
theorem gL_law_X3_firstError : GoodIn wsL_law (wsV RL 112 RX3 yX3_firstError wsX3_firstError) := goodIn_app (goodIn_of _ (by decide +kernel)) ggL_law_X3_firstError
set_option maxRecDepth 20000 in
theorem ggL_law_X4_firstError : GoodIn wsL_law wsX4_firstError := goodIn_r _ [388, 63, 389, 390, 391, 392, 5, 393, 394, 395, 349, 396, 397, 398, 399, 62, 400, 401, 402, 403, 61, 404, 405, 406, 407, 117, 118, 119, 408, 409, 410, 411, 724, 725, 726, 727, 728, 729, 730, 731, 732, 733, 734, 735] rfl (by decide +kernel)
set_option maxRecDepth 20000 in
theorem gL_law_X4_firstError : GoodIn wsL_law (wsV RL 115 RX4 yX4_firstError wsX4_firstError) := goodIn_app (goodIn_of _ (by decide +kernel)) ggL_law_X4_firstError
set_option maxRecDepth 20000 in
theorem ggL_law_L_play : GoodIn wsL_law wsL_play := goodIn_ca (goodIn_r _ [414, 69, 415, 416, 417, 2, 418, 76, 77, 25, 21, 16, 419, 420, 421, 24, 422, 336, 53, 370, 371, 372, 373, 374, 375, 376, 377, 378, 85, 86, 379, 380, 381, 382, 383, 384, 87, 88, 89, 20, 90, 91, 92, 48, 47, 14, 15, 93, 27, 28, 29, 11, 12, 30, 31, 32, 33, 34, 35, 36, 37, 38, 39, 40, 41, 42, 94, 95, 96, 97, 98, 99, 100, 101, 102, 103, 104, 105, 223, 224, 225, 226, 227, 228, 229, 423, 424, 425, 426, 427, 428, 429, 430, 306, 307, 308, 246, 247, 248, 249, 431, 432, 433, 82, 83, 434, 190, 191, 192, 435, 231, 232, 233, 234, 235, 236, 237, 238, 239, 240, 241, 242, 243, 244, 245, 250, 251, 252, 253, 254, 255, 256, 257, 258, 259, 260, 261, 354, 355, 356, 357, 720, 721, 722, 723, 755, 756, 752, 753, 754, 736, 737, 738, 739, 740, 741, 742, 743, 744, 745, 746, 747, 748, 749, 750, 751] rfl (by decide +kernel)) (goodIn_sub (fun _ h => List.mem_append_left _ (List.mem_append_right _ h)) (by decide +kernel))
set_option maxRecDepth 20000 in
theorem gL_law_L_play : GoodIn wsL_law (va_wsS RL 116 yL_play wsL_play) := goodIn_app (goodIn_of _ (by decide +kernel)) ggL_law_L_play
set_option maxRecDepth 20000 in
theorem ggL_law_X4_play : GoodIn wsL_law wsX4_play := goodIn_r _ [439, 63, 394, 349, 395, 62, 58, 390, 391, 392, 5, 393, 389, 396, 397, 398, 399, 400, 401, 402, 403, 61, 404, 405, 406, 407, 117, 118, 119, 408, 409, 410, 411, 120, 121, 122, 123, 124, 125, 126, 127, 128, 60, 317, 318, 319, 320, 152, 153, 154, 155, 266, 267, 268, 269, 270, 271, 272, 273, 274, 275, 276, 277, 129, 130, 131, 132, 278, 279, 280, 281, 282, 283, 284, 285, 286, 287, 288, 289, 290, 291, 292, 293, 294, 295, 296, 297, 724, 725, 726, 727, 728, 729, 730, 731, 732, 733, 734, 735] rfl (by decide +kernel)
set_option maxRecDepth 20000 in
theorem gL_law_X4_play : GoodIn wsL_law (wsV RL 119 RX4 yX4_play wsX4_play) := goodIn_app (goodIn_of _ (by decide +kernel)) ggL_law_X4_play
set_option maxRecDepth 20000 in
theorem ggL_law_L_undo : GoodIn wsL_law wsL_undo := goodIn_ca (goodIn_r _ [442, 159, 443, 444, 445, 2, 446, 164, 165, 21, 16, 447, 448, 449, 20, 450, 91, 48, 92, 451, 95, 96, 15, 97, 31, 98, 99, 100, 101, 32, 33, 34, 35, 36, 37, 38, 39, 40, 41, 42, 102, 103, 104, 105, 452, 453, 454, 455, 720, 721, 722, 723, 752, 753, 754, 736, 737, 738, 739, 740, 741, 742, 743, 744, 745, 746, 747, 748, 749, 750, 751] rfl (by decide +kernel)) (goodIn_sub (fun _ h => List.mem_append_right _ h) (by decide +kernel))
set_option maxRecDepth 20000 in
theorem gL_law_L_undo : GoodIn wsL_law (va_wsS RL 120 yL_undo wsL_undo) := goodIn_app (goodIn_of _ (by decide +kernel)) ggL_law_L_undo
set_option maxRecDepth 20000 in
theorem ggL_law_X4_undo : GoodIn wsL_law wsX4_undo := goodIn_r _ [459, 63, 128, 58, 60, 120, 121, 122, 5, 123, 724, 725, 726, 727, 728, 729, 730, 731, 732, 733, 734, 735] rfl (by decide +kernel)
set_option maxRecDepth 20000 in
theorem gL_law_X4_undo : GoodIn wsL_law (wsV RL 122 RX4 yX4_undo wsX4_undo) := goodIn_app (goodIn_of _ (by decide +kernel)) ggL_law_X4_undo
set_option maxRecDepth 20000 in
theorem ggL_law_L_planeOf : GoodIn wsL_law wsL_planeOf := goodIn_ca (goodIn_ca (goodIn_r _ [462, 68, 69, 463, 464, 465, 2, 466, 74, 75, 76, 77, 16, 78, 79, 80, 84, 85, 86, 467, 468, 469, 15, 470, 31, 32, 33, 34, 720, 721, 722, 723, 736, 737, 738, 739, 740, 741, 742, 743, 744, 745, 746, 747, 748, 749, 750, 751] rfl (by decide +kernel)) (goodIn_sub (fun _ h => List.mem_append_left _ (List.mem_append_left _ (List.mem_append_right _ h))) (by decide +kernel))) (goodIn_sub (fun _ h => List.mem_append_left _ (List.mem_append_right _ h)) (by decide +kernel))
set_option maxRecDepth 20000 in
theorem gL_law_L_planeOf : GoodIn wsL_law (va_wsS RL 123 yL_planeOf wsL_planeOf) := goodIn_app (goodIn_of _ (by decide +kernel)) ggL_law_L_planeOf
set_option maxRecDepth 20000 in
theorem ggL_law_X4_planeOf : GoodIn wsL_law wsX4_planeOf := goodIn_r _ [474, 63, 114, 115, 5, 116, 117, 118, 119, 120, 121, 122, 123, 129, 130, 131, 132, 58, 724, 725, 726, 727, 728, 729, 730, 731, 732, 733, 734, 735] rfl (by decide +kernel)
set_option maxRecDepth 20000 in
theorem gL_law_X4_planeOf : GoodIn wsL_law (wsV RL 125 RX4 yX4_planeOf wsX4_planeOf) := goodIn_app (goodIn_of _ (by decide +kernel)) ggL_law_X4_planeOf
set_option maxRecDepth 20000 in
theorem ggL_law_L_gutterOf : GoodIn wsL_law wsL_gutterOf := goodIn_ca (goodIn_ca (goodIn_r _ [477, 68, 69, 478, 479, 480, 2, 481, 74, 75, 76, 77, 16, 81, 82, 83, 84, 85, 86, 482, 483, 484, 15, 485, 35, 36, 37, 38, 39, 40, 41, 258, 259, 260, 261, 250, 251, 252, 253, 720, 721, 722, 723, 736, 737, 738, 739, 740, 741, 742, 743, 744, 745, 746, 747, 748, 749, 750, 751] rfl (by decide +kernel)) (goodIn_sub (fun _ h => List.mem_append_left _ (List.mem_append_left _ (List.mem_append_right _ h))) (by decide +kernel))) (goodIn_sub (fun _ h => List.mem_append_left _ (List.mem_append_right _ h)) (by decide +kernel))
set_option maxRecDepth 20000 in
theorem gL_law_L_gutterOf : GoodIn wsL_law (va_wsS RL 126 yL_gutterOf wsL_gutterOf) := goodIn_app (goodIn_of _ (by decide +kernel)) ggL_law_L_gutterOf
set_option maxRecDepth 20000 in
theorem ggL_law_X4_gutterOf : GoodIn wsL_law wsX4_gutterOf := goodIn_r _ [489, 63, 114, 115, 5, 116, 117, 118, 119, 120, 121, 122, 123, 490, 491, 492, 493, 152, 153, 154, 155, 58, 294, 295, 296, 297, 286, 287, 288, 289, 724, 725, 726, 727, 728, 729, 730, 731, 732, 733, 734, 735] rfl (by decide +kernel)
set_option maxRecDepth 20000 in
theorem gL_law_X4_gutterOf : GoodIn wsL_law (wsV RL 128 RX4 yX4_gutterOf wsX4_gutterOf) := goodIn_app (goodIn_of _ (by decide +kernel)) ggL_law_X4_gutterOf
set_option maxRecDepth 20000 in
theorem ggL_law_L_count : GoodIn wsL_law wsL_count := goodIn_ca (goodIn_r _ [496, 69, 497, 498, 499, 2, 500, 76, 77, 16, 21, 501, 502, 503, 15, 504, 102, 505, 506, 507, 508, 103, 509, 510, 511, 512, 104, 513, 514, 515, 516, 34, 39, 227, 228, 229, 517, 518, 519, 520, 41, 223, 224, 225, 226, 40, 521, 522, 523, 524, 105, 309, 310, 311, 312, 37, 452, 453, 454, 20, 455, 91, 720, 721, 722, 723, 736, 737, 738, 739, 740, 741, 742, 743, 744, 745, 746, 747, 748, 749, 750, 751, 752, 753, 754] rfl (by decide +kernel)) (goodIn_sub (fun _ h => List.mem_append_left _ (List.mem_append_right _ h)) (by decide +kernel))
set_option maxRecDepth 20000 in
theorem gL_law_L_count : GoodIn wsL_law (va_wsS RL 129 yL_count wsL_count) := goodIn_app (goodIn_of _ (by decide +kernel)) ggL_law_L_count
set_option maxRecDepth 20000 in
theorem ggL_law_X4_count : GoodIn wsL_law wsX4_count := goodIn_r _ [528, 63, 117, 118, 5, 119, 529, 530, 531, 532, 128, 58, 533, 534, 535, 536, 129, 130, 131, 132, 152, 153, 154, 155, 321, 322, 323, 324, 120, 121, 122, 123, 724, 725, 726, 727, 728, 729, 730, 731, 732, 733, 734, 735] rfl (by decide +kernel)
set_option maxRecDepth 20000 in
theorem gL_law_X4_count : GoodIn wsL_law (wsV RL 131 RX4 yX4_count wsX4_count) := goodIn_app (goodIn_of _ (by decide +kernel)) ggL_law_X4_count
set_option maxRecDepth 20000 in
theorem ggL_law_L_setting : GoodIn wsL_law wsL_setting := goodIn_ca (goodIn_r _ [539, 68, 540, 541, 542, 2, 543, 74, 75, 16, 205, 206, 207, 544, 545, 546, 15, 547, 42, 720, 721, 722, 723, 736, 737, 738, 739, 740, 741, 742, 743, 744, 745, 746, 747, 748, 749, 750, 751] rfl (by decide +kernel)) (goodIn_sub (fun _ h => List.mem_append_left _ (List.mem_append_left _ (List.mem_append_right _ h))) (by decide +kernel))
set_option maxRecDepth 20000 in
theorem gL_law_L_setting : GoodIn wsL_law (va_wsS RL 132 yL_setting wsL_setting) := goodIn_app (goodIn_of _ (by decide +kernel)) ggL_law_L_setting
set_option maxRecDepth 20000 in
theorem ggL_law_X4_setting : GoodIn wsL_law wsX4_setting := goodIn_r _ [551, 63, 58, 117, 118, 5, 119, 120, 121, 122, 123, 724, 725, 726, 727, 728, 729, 730, 731, 732, 733, 734, 735] rfl (by decide +kernel)
set_option maxRecDepth 20000 in
theorem gL_law_X4_setting : GoodIn wsL_law (wsV RL 134 RX4 yX4_setting wsX4_setting) := goodIn_app (goodIn_of _ (by decide +kernel)) ggL_law_X4_setting
set_option maxRecDepth 20000 in
theorem ggL_law_L_ifRained : GoodIn wsL_law wsL_ifRained := goodIn_ca (goodIn_r _ [554, 69, 555, 556, 557, 2, 558, 76, 77, 17, 16, 84, 85, 86, 451, 95, 96, 15, 97, 31, 98, 99, 100, 101, 32, 33, 34, 35, 36, 37, 38, 39, 40, 41, 42, 102, 103, 104, 105, 544, 545, 546, 547, 230, 231, 232, 233, 234, 235, 236, 237, 238, 239, 240, 241, 82, 83, 242, 243, 244, 245, 246, 247, 248, 249, 250, 251, 252, 253, 254, 255, 256, 257, 258, 259, 260, 261, 223, 224, 225, 226, 227, 228, 229, 517, 518, 519, 520, 513, 514, 515, 516, 720, 721, 722, 723, 736, 737, 738, 739, 740, 741, 742, 743, 744, 745, 746, 747, 748, 749, 750, 751] rfl (by decide +kernel)) (goodIn_sub (fun _ h => List.mem_append_left _ (List.mem_append_right _ h)) (by decide +kernel))
set_option maxRecDepth 20000 in
theorem gL_law_L_ifRained : GoodIn wsL_law (va_wsS RL 135 yL_ifRained wsL_ifRained) := goodIn_app (goodIn_of _ (by decide +kernel)) ggL_law_L_ifRained
set_option maxRecDepth 20000 in
theorem ggL_law_X4_ifRained : GoodIn wsL_law wsX4_ifRained := goodIn_r _ [562, 63, 117, 118, 5, 119, 563, 564, 565, 566, 58, 59, 567, 568, 569, 570, 266, 267, 268, 269, 270, 271, 272, 273, 274, 275, 276, 277, 129, 130, 131, 132, 278, 279, 280, 281, 282, 283, 284, 285, 286, 287, 288, 289, 152, 153, 154, 155, 290, 291, 292, 293, 294, 295, 296, 297, 533, 534, 535, 536, 571, 572, 573, 574, 120, 121, 122, 123, 724, 725, 726, 727, 728, 729, 730, 731, 732, 733, 734, 735] rfl (by decide +kernel)
set_option maxRecDepth 20000 in
theorem gL_law_X4_ifRained : GoodIn wsL_law (wsV RL 137 RX4 yX4_ifRained wsX4_ifRained) := goodIn_app (goodIn_of _ (by decide +kernel)) ggL_law_X4_ifRained
set_option maxRecDepth 20000 in
theorem ggL_law_L_spillsFirst : GoodIn wsL_law wsL_spillsFirst := goodIn_ca (goodIn_r _ [577, 69, 578, 579, 580, 2, 581, 76, 77, 17, 16, 84, 85, 86, 451, 95, 96, 15, 97, 31, 98, 99, 100, 101, 32, 33, 34, 35, 36, 37, 38, 39, 40, 41, 42, 102, 103, 104, 105, 544, 545, 546, 547, 582, 235, 236, 237, 238, 239, 240, 241, 82, 83, 242, 243, 244, 245, 246, 247, 248, 249, 250, 251, 252, 253, 254, 255, 256, 257, 258, 259, 260, 261, 583, 584, 585, 586, 720, 721, 722, 723, 736, 737, 738, 739, 740, 741, 742, 743, 744, 745, 746, 747, 748, 749, 750, 751] rfl (by decide +kernel)) (goodIn_sub (fun _ h => List.mem_append_left _ (List.mem_append_right _ h)) (by decide +kernel))
set_option maxRecDepth 20000 in
theorem gL_law_L_spillsFirst : GoodIn wsL_law (va_wsS RL 138 yL_spillsFirst wsL_spillsFirst) := goodIn_app (goodIn_of _ (by decide +kernel)) ggL_law_L_spillsFirst
set_option maxRecDepth 20000 in
theorem ggL_law_X4_spillsFirst : GoodIn wsL_law wsX4_spillsFirst := goodIn_r _ [590, 63, 117, 118, 5, 119, 591, 592, 593, 594, 58, 59, 567, 568, 569, 570, 270, 271, 272, 273, 274, 275, 276, 277, 129, 130, 131, 132, 278, 279, 280, 281, 282, 283, 284, 285, 286, 287, 288, 289, 152, 153, 154, 155, 290, 291, 292, 293, 294, 295, 296, 297, 571, 572, 573, 574, 120, 121, 122, 123, 724, 725, 726, 727, 728, 729, 730, 731, 732, 733, 734, 735] rfl (by decide +kernel)
set_option maxRecDepth 20000 in
theorem gL_law_X4_spillsFirst : GoodIn wsL_law (wsV RL 140 RX4 yX4_spillsFirst wsX4_spillsFirst) := goodIn_app (goodIn_of _ (by decide +kernel)) ggL_law_X4_spillsFirst
set_option maxRecDepth 20000 in
theorem ggL_law_X3_bestClean : GoodIn wsL_law wsX3_bestClean := goodIn_r _ [598, 16, 599, 600, 601, 15, 602, 37, 603, 604, 605, 2, 606, 17, 451, 95, 96, 97, 31, 98, 99, 100, 101, 32, 33, 34, 35, 36, 38, 39, 40, 41, 42, 102, 103, 104, 105, 189, 190, 191, 192, 544, 545, 546, 547, 230, 231, 232, 233, 234, 235, 236, 237, 238, 239, 240, 241, 82, 83, 242, 243, 244, 245, 246, 247, 248, 249, 250, 251, 252, 253, 254, 255, 256, 257, 258, 259, 260, 261, 223, 224, 225, 226, 227, 228, 229, 720, 721, 722, 723, 736, 737, 738, 739, 740, 741, 742, 743, 744, 745, 746, 747, 748, 749, 750, 751] rfl (by decide +kernel)
set_option maxRecDepth 20000 in
theorem gL_law_X3_bestClean : GoodIn wsL_law (wsV RL 141 RX3 yX3_bestClean wsX3_bestClean) := goodIn_app (goodIn_of _ (by decide +kernel)) ggL_law_X3_bestClean
set_option maxRecDepth 20000 in
theorem ggL_law_X4_bestClean : GoodIn wsL_law wsX4_bestClean := goodIn_r _ [610, 63, 611, 612, 613, 5, 614, 58, 152, 153, 154, 155, 563, 564, 565, 566, 59, 567, 568, 569, 570, 266, 267, 268, 269, 270, 271, 272, 273, 274, 275, 276, 277, 129, 130, 131, 132, 278, 279, 280, 281, 282, 283, 284, 285, 286, 287, 288, 289, 290, 291, 292, 293, 294, 295, 296, 297, 533, 534, 535, 536, 571, 572, 573, 574, 724, 725, 726, 727, 728, 729, 730, 731, 732, 733, 734, 735] rfl (by decide +kernel)
set_option maxRecDepth 20000 in
theorem gL_law_X4_bestClean : GoodIn wsL_law (wsV RL 144 RX4 yX4_bestClean wsX4_bestClean) := goodIn_app (goodIn_of _ (by decide +kernel)) ggL_law_X4_bestClean
set_option maxRecDepth 20000 in
theorem ggL_law_L_mostRain : GoodIn wsL_law wsL_mostRain := goodIn_ca (goodIn_r _ [617, 69, 618, 619, 620, 2, 621, 76, 77, 84, 85, 86, 622, 623, 624, 625, 17, 16, 451, 95, 96, 15, 97, 31, 98, 99, 100, 101, 32, 33, 34, 35, 36, 37, 38, 39, 40, 41, 42, 102, 103, 104, 105, 582, 235, 236, 237, 238, 239, 240, 241, 82, 83, 242, 243, 244, 245, 246, 247, 248, 249, 250, 251, 252, 253, 254, 255, 256, 257, 258, 259, 260, 261, 583, 584, 585, 586, 720, 721, 722, 723, 736, 737, 738, 739, 740, 741, 742, 743, 744, 745, 746, 747, 748, 749, 750, 751] rfl (by decide +kernel)) (goodIn_sub (fun _ h => List.mem_append_left _ (List.mem_append_right _ h)) (by decide +kernel))
set_option maxRecDepth 20000 in
theorem gL_law_L_mostRain : GoodIn wsL_law (va_wsS RL 145 yL_mostRain wsL_mostRain) := goodIn_app (goodIn_of _ (by decide +kernel)) ggL_law_L_mostRain
set_option maxRecDepth 20000 in
theorem ggL_law_X4_mostRain : GoodIn wsL_law wsX4_mostRain := goodIn_r _ [629, 63, 117, 118, 5, 119, 630, 631, 632, 633, 567, 568, 569, 570, 59, 58, 266, 267, 268, 269, 270, 271, 272, 273, 274, 275, 276, 277, 129, 130, 131, 132, 278, 279, 280, 281, 282, 283, 284, 285, 286, 287, 288, 289, 152, 153, 154, 155, 290, 291, 292, 293, 294, 295, 296, 297, 571, 572, 573, 574, 120, 121, 122, 123, 724, 725, 726, 727, 728, 729, 730, 731, 732, 733, 734, 735] rfl (by decide +kernel)
set_option maxRecDepth 20000 in
theorem gL_law_X4_mostRain : GoodIn wsL_law (wsV RL 147 RX4 yX4_mostRain wsX4_mostRain) := goodIn_app (goodIn_of _ (by decide +kernel)) ggL_law_X4_mostRain
set_option maxRecDepth 20000 in
theorem ggL_law_X3_dryIn : GoodIn wsL_law wsX3_dryIn := goodIn_r _ [637, 17, 16, 451, 95, 96, 15, 97, 31, 98, 99, 100, 101, 32, 33, 34, 35, 36, 37, 38, 39, 40, 41, 42, 102, 103, 104, 105, 513, 514, 515, 516, 227, 228, 229, 582, 235, 236, 237, 238, 239, 240, 241, 82, 2, 83, 242, 243, 244, 245, 246, 247, 248, 249, 250, 251, 252, 253, 254, 255, 256, 257, 258, 259, 260, 261, 720, 721, 722, 723, 736, 737, 738, 739, 740, 741, 742, 743, 744, 745, 746, 747, 748, 749, 750, 751] rfl (by decide +kernel)
set_option maxRecDepth 20000 in
theorem gL_law_X3_dryIn : GoodIn wsL_law (wsV RL 148 RX3 yX3_dryIn wsX3_dryIn) := goodIn_app (goodIn_of _ (by decide +kernel)) ggL_law_X3_dryIn
set_option maxRecDepth 20000 in
theorem ggL_law_X4_dryIn : GoodIn wsL_law wsX4_dryIn := goodIn_r _ [641, 63, 642, 643, 644, 5, 645, 567, 568, 569, 570, 59, 58, 533, 534, 535, 536, 129, 130, 131, 132, 152, 153, 154, 155, 270, 271, 272, 273, 274, 275, 276, 277, 278, 279, 280, 281, 282, 283, 284, 285, 286, 287, 288, 289, 290, 291, 292, 293, 294, 295, 296, 297, 571, 572, 573, 574, 724, 725, 726, 727, 728, 729, 730, 731, 732, 733, 734, 735] rfl (by decide +kernel)
set_option maxRecDepth 20000 in
theorem gL_law_X4_dryIn : GoodIn wsL_law (wsV RL 151 RX4 yX4_dryIn wsX4_dryIn) := goodIn_app (goodIn_of _ (by decide +kernel)) ggL_law_X4_dryIn
set_option maxRecDepth 20000 in
theorem ggL_law_X3_drainedShare : GoodIn wsL_law wsX3_drainedShare := goodIn_r _ [649, 16, 509, 510, 511, 15, 512, 104, 517, 518, 519, 520, 41, 227, 228, 229, 720, 721, 722, 723, 736, 737, 738, 739, 740, 741, 742, 743, 744, 745, 746, 747, 748, 749, 750, 751] rfl (by decide +kernel)
set_option maxRecDepth 20000 in
theorem gL_law_X3_drainedShare : GoodIn wsL_law (wsV RL 152 RX3 yX3_drainedShare wsX3_drainedShare) := goodIn_app (goodIn_of _ (by decide +kernel)) ggL_law_X3_drainedShare
set_option maxRecDepth 20000 in
theorem ggL_law_X4_drainedShare : GoodIn wsL_law wsX4_drainedShare := goodIn_r _ [653, 63, 654, 655, 656, 5, 657, 58, 724, 725, 726, 727, 728, 729, 730, 731, 732, 733, 734, 735] rfl (by decide +kernel)
set_option maxRecDepth 20000 in
theorem gL_law_X4_drainedShare : GoodIn wsL_law (wsV RL 156 RX4 yX4_drainedShare wsX4_drainedShare) := goodIn_app (goodIn_of _ (by decide +kernel)) ggL_law_X4_drainedShare
set_option maxRecDepth 20000 in
theorem ggL_law_X3_digest : GoodIn wsL_law wsX3_digest := goodIn_ca (goodIn_r _ [661, 662, 663, 664, 665, 2, 666, 16, 667, 498, 499, 500, 76, 77, 21, 501, 502, 503, 15, 504, 102, 505, 506, 507, 508, 103, 509, 510, 511, 512, 104, 513, 514, 515, 516, 34, 39, 227, 228, 229, 517, 518, 519, 520, 41, 223, 224, 225, 226, 40, 521, 522, 523, 524, 105, 309, 310, 311, 312, 37, 452, 453, 454, 20, 455, 91, 668, 669, 670, 671, 544, 545, 546, 547, 42, 672, 673, 674, 675, 467, 468, 469, 470, 31, 32, 33, 482, 483, 484, 485, 35, 36, 38, 258, 259, 260, 261, 250, 251, 252, 253, 676, 556, 557, 558, 17, 84, 85, 86, 451, 95, 96, 97, 98, 99, 100, 101, 230, 231, 232, 233, 234, 235, 236, 237, 238, 239, 240, 241, 82, 83, 242, 243, 244, 245, 246, 247, 248, 249, 254, 255, 256, 257, 677, 579, 580, 581, 582, 583, 584, 585, 586, 678, 596, 597, 598, 599, 600, 601, 602, 603, 604, 605, 606, 189, 190, 191, 192, 679, 619, 620, 621, 622, 623, 624, 625, 680, 635, 636, 637, 681, 647, 648, 649, 682, 683, 684, 685, 686, 687, 688, 689, 690, 691, 692, 25, 341, 342, 343, 24, 344, 336, 693, 694, 695, 696, 53, 720, 721, 722, 723, 736, 737, 738, 739, 740, 741, 742, 743, 744, 745, 746, 747, 748, 749, 750, 751, 752, 753, 754, 755, 756] rfl (by decide +kernel)) (goodIn_sub (fun _ h => List.mem_append_left _ (List.mem_append_right _ h)) (by decide +kernel))
set_option maxRecDepth 20000 in
theorem gL_law_X3_digest : GoodIn wsL_law (wsV RL 157 RX3 yX3_digest wsX3_digest) := goodIn_app (goodIn_of _ (by decide +kernel)) ggL_law_X3_digest
set_option maxRecDepth 20000 in
theorem ggL_law_X4_digest : GoodIn wsL_law wsX4_digest := goodIn_r _ [700, 63, 701, 702, 58, 349, 61, 529, 530, 531, 5, 532, 128, 533, 534, 535, 536, 129, 130, 131, 132, 152, 153, 154, 155, 321, 322, 323, 324, 703, 704, 705, 706, 707, 490, 491, 492, 493, 294, 295, 296, 297, 286, 287, 288, 289, 563, 564, 565, 566, 59, 567, 568, 569, 570, 266, 267, 268, 269, 270, 271, 272, 273, 274, 275, 276, 277, 278, 279, 280, 281, 282, 283, 284, 285, 290, 291, 292, 293, 571, 572, 573, 574, 591, 592, 593, 594, 611, 612, 613, 614, 630, 631, 632, 633, 642, 643, 644, 645, 654, 655, 656, 657, 708, 709, 710, 711, 712, 713, 714, 715, 716, 717, 718, 719, 724, 725, 726, 727, 728, 729, 730, 731, 732, 733, 734, 735] rfl (by decide +kernel)
set_option maxRecDepth 20000 in
theorem gL_law_X4_digest : GoodIn wsL_law (wsV RL 161 RX4 yX4_digest wsX4_digest) := goodIn_app (goodIn_of _ (by decide +kernel)) ggL_law_X4_digest
