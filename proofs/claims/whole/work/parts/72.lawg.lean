set_option maxRecDepth 20000 in
theorem ggL_law_X1_init : GoodIn wsL_law wsX1_init := goodIn_r _ [9, 10, 11, 12, 13, 14, 15, 16, 17, 18, 19, 20, 21, 22, 23, 24, 25, 26, 27, 28, 29, 30, 31, 441, 442, 443, 444, 445, 446, 447, 448, 466, 467, 468, 469, 470, 471, 472, 473, 474, 475, 476] (by decide +kernel) (by decide +kernel)
set_option maxRecDepth 20000 in
theorem gL_law_X1_init : GoodIn wsL_law (wsX1_init) := ggL_law_X1_init
set_option maxRecDepth 20000 in
theorem ggL_law_X2_init : GoodIn wsL_law wsX2_init := goodIn_r _ [34, 35, 11, 12, 13, 36, 37, 38, 39, 40, 19, 41, 42, 449, 450, 451, 452, 453, 454, 455, 456, 457, 458, 459, 460, 461, 462, 463, 464, 465] (by decide +kernel) (by decide +kernel)
set_option maxRecDepth 20000 in
theorem gL_law_X2_init : GoodIn wsL_law (wsX2_init) := ggL_law_X2_init
set_option maxRecDepth 20000 in
theorem ggL_law_L_set : GoodIn wsL_law wsL_set := goodIn_ca (goodIn_ca (goodIn_r _ [46, 47, 48, 49, 50, 51, 2, 52, 14, 15, 53, 54, 55, 56, 57, 58, 59, 60, 61, 62, 441, 442, 443, 444, 445, 446, 447, 448] (by decide +kernel) (by decide +kernel)) (goodIn_sub (fun _ h => List.mem_append_left _ (List.mem_append_left _ (List.mem_append_right _ h))) (by decide +kernel))) (goodIn_sub (fun _ h => List.mem_append_left _ (List.mem_append_right _ h)) (by decide +kernel))
set_option maxRecDepth 20000 in
theorem gL_law_L_set : GoodIn wsL_law (va_wsS RL 72 yL_set wsL_set) := goodIn_app (goodIn_of _ (by decide +kernel)) ggL_law_L_set
set_option maxRecDepth 20000 in
theorem ggL_law_X2_set : GoodIn wsL_law wsX2_set := goodIn_r _ [66, 67, 36, 37, 68, 69, 5, 70, 71, 72, 73, 74, 449, 450, 451, 452, 453, 454, 455, 456, 457, 458, 459, 460, 461, 462, 463, 464, 465] (by decide +kernel) (by decide +kernel)
set_option maxRecDepth 20000 in
theorem gL_law_X2_set : GoodIn wsL_law (wsV RL 77 RX2 yX2_set wsX2_set) := goodIn_app (goodIn_of _ (by decide +kernel)) ggL_law_X2_set
set_option maxRecDepth 20000 in
theorem ggL_law_X2_thrown : GoodIn wsL_law wsX2_thrown := goodIn_r _ [78, 67, 449, 450, 451, 452, 453, 454, 455, 456, 457, 458, 459, 460, 461, 462, 463, 464, 465] (by decide +kernel) (by decide +kernel)
set_option maxRecDepth 20000 in
theorem gL_law_X2_thrown : GoodIn wsL_law (wsV RL 78 RX2 yX2_thrown wsX2_thrown) := goodIn_app (goodIn_of _ (by decide +kernel)) ggL_law_X2_thrown
set_option maxRecDepth 20000 in
theorem ggL_law_L_join : GoodIn wsL_law wsL_join := goodIn_ca (goodIn_ca (goodIn_r _ [81, 48, 82, 83, 84, 85, 2, 86, 58, 59, 60, 61, 62, 87, 88, 89, 90, 91, 92, 21, 16, 17, 18, 20, 441, 442, 443, 444, 445, 446, 447, 448] (by decide +kernel) (by decide +kernel)) (goodIn_sub (fun _ h => List.mem_append_left _ (List.mem_append_right _ h)) (by decide +kernel))) (goodIn_sub (fun _ h => List.mem_append_right _ h) (by decide +kernel))
set_option maxRecDepth 20000 in
theorem gL_law_L_join : GoodIn wsL_law (va_wsS RL 81 yL_join wsL_join) := goodIn_app (goodIn_of _ (by decide +kernel)) ggL_law_L_join
set_option maxRecDepth 20000 in
theorem ggL_law_X2_join : GoodIn wsL_law wsX2_join := goodIn_r _ [96, 67, 97, 68, 69, 5, 70, 71, 72, 73, 74, 98, 99, 100, 101, 38, 39, 40, 41, 449, 450, 451, 452, 453, 454, 455, 456, 457, 458, 459, 460, 461, 462, 463, 464, 465] (by decide +kernel) (by decide +kernel)
set_option maxRecDepth 20000 in
theorem gL_law_X2_join : GoodIn wsL_law (wsV RL 84 RX2 yX2_join wsX2_join) := goodIn_app (goodIn_of _ (by decide +kernel)) ggL_law_X2_join
set_option maxRecDepth 20000 in
theorem ggL_law_L_toss : GoodIn wsL_law wsL_toss := goodIn_ca (goodIn_ca (goodIn_ca (goodIn_r _ [104, 47, 48, 82, 105, 106, 107, 2, 108, 53, 54, 55, 56, 57, 58, 59, 60, 61, 62, 87, 88, 89, 90, 91, 92, 21, 16, 17, 18, 20, 441, 442, 443, 444, 445, 446, 447, 448] (by decide +kernel) (by decide +kernel)) (goodIn_sub (fun _ h => List.mem_append_left _ (List.mem_append_left _ (List.mem_append_right _ h))) (by decide +kernel))) (goodIn_sub (fun _ h => List.mem_append_left _ (List.mem_append_right _ h)) (by decide +kernel))) (goodIn_sub (fun _ h => List.mem_append_right _ h) (by decide +kernel))
set_option maxRecDepth 20000 in
theorem gL_law_L_toss : GoodIn wsL_law (va_wsS RL 85 yL_toss wsL_toss) := goodIn_app (goodIn_of _ (by decide +kernel)) ggL_law_L_toss
set_option maxRecDepth 20000 in
theorem ggL_law_X2_toss : GoodIn wsL_law wsX2_toss := goodIn_r _ [112, 67, 97, 68, 69, 5, 70, 71, 72, 73, 74, 98, 99, 100, 101, 38, 39, 40, 41, 449, 450, 451, 452, 453, 454, 455, 456, 457, 458, 459, 460, 461, 462, 463, 464, 465] (by decide +kernel) (by decide +kernel)
set_option maxRecDepth 20000 in
theorem gL_law_X2_toss : GoodIn wsL_law (wsV RL 88 RX2 yX2_toss wsX2_toss) := goodIn_app (goodIn_of _ (by decide +kernel)) ggL_law_X2_toss
set_option maxRecDepth 20000 in
theorem ggL_law_L_rest : GoodIn wsL_law wsL_rest := goodIn_ca (goodIn_ca (goodIn_r _ [115, 47, 82, 116, 117, 118, 2, 119, 53, 54, 55, 56, 57, 87, 88, 89, 90, 91, 92, 21, 16, 17, 18, 20, 441, 442, 443, 444, 445, 446, 447, 448] (by decide +kernel) (by decide +kernel)) (goodIn_sub (fun _ h => List.mem_append_left _ (List.mem_append_left _ (List.mem_append_right _ h))) (by decide +kernel))) (goodIn_sub (fun _ h => List.mem_append_right _ h) (by decide +kernel))
set_option maxRecDepth 20000 in
theorem gL_law_L_rest : GoodIn wsL_law (va_wsS RL 89 yL_rest wsL_rest) := goodIn_app (goodIn_of _ (by decide +kernel)) ggL_law_L_rest
set_option maxRecDepth 20000 in
theorem ggL_law_X2_rest : GoodIn wsL_law wsX2_rest := goodIn_r _ [123, 67, 97, 68, 69, 5, 70, 71, 72, 73, 74, 98, 99, 100, 101, 38, 39, 40, 41, 449, 450, 451, 452, 453, 454, 455, 456, 457, 458, 459, 460, 461, 462, 463, 464, 465] (by decide +kernel) (by decide +kernel)
set_option maxRecDepth 20000 in
theorem gL_law_X2_rest : GoodIn wsL_law (wsV RL 91 RX2 yX2_rest wsX2_rest) := goodIn_app (goodIn_of _ (by decide +kernel)) ggL_law_X2_rest
set_option maxRecDepth 20000 in
theorem ggL_law_L_go : GoodIn wsL_law wsL_go := goodIn_ca (goodIn_ca (goodIn_r _ [126, 47, 82, 127, 128, 129, 2, 130, 53, 54, 55, 56, 57, 87, 88, 89, 90, 91, 92, 21, 16, 17, 18, 20, 441, 442, 443, 444, 445, 446, 447, 448] (by decide +kernel) (by decide +kernel)) (goodIn_sub (fun _ h => List.mem_append_left _ (List.mem_append_left _ (List.mem_append_right _ h))) (by decide +kernel))) (goodIn_sub (fun _ h => List.mem_append_right _ h) (by decide +kernel))
set_option maxRecDepth 20000 in
theorem gL_law_L_go : GoodIn wsL_law (va_wsS RL 92 yL_go wsL_go) := goodIn_app (goodIn_of _ (by decide +kernel)) ggL_law_L_go
set_option maxRecDepth 20000 in
theorem ggL_law_X2_go : GoodIn wsL_law wsX2_go := goodIn_r _ [134, 67, 97, 68, 69, 5, 70, 71, 72, 73, 74, 98, 99, 100, 101, 38, 39, 40, 41, 449, 450, 451, 452, 453, 454, 455, 456, 457, 458, 459, 460, 461, 462, 463, 464, 465] (by decide +kernel) (by decide +kernel)
set_option maxRecDepth 20000 in
theorem gL_law_X2_go : GoodIn wsL_law (wsV RL 94 RX2 yX2_go wsX2_go) := goodIn_app (goodIn_of _ (by decide +kernel)) ggL_law_X2_go
set_option maxRecDepth 20000 in
theorem ggL_law_L_pay : GoodIn wsL_law wsL_pay := goodIn_ca (goodIn_ca (goodIn_ca (goodIn_r _ [137, 47, 48, 82, 138, 139, 140, 2, 141, 53, 54, 55, 56, 57, 58, 59, 60, 61, 62, 87, 88, 89, 90, 91, 92, 21, 16, 17, 18, 20, 441, 442, 443, 444, 445, 446, 447, 448] (by decide +kernel) (by decide +kernel)) (goodIn_sub (fun _ h => List.mem_append_left _ (List.mem_append_left _ (List.mem_append_right _ h))) (by decide +kernel))) (goodIn_sub (fun _ h => List.mem_append_left _ (List.mem_append_right _ h)) (by decide +kernel))) (goodIn_sub (fun _ h => List.mem_append_right _ h) (by decide +kernel))
set_option maxRecDepth 20000 in
theorem gL_law_L_pay : GoodIn wsL_law (va_wsS RL 95 yL_pay wsL_pay) := goodIn_app (goodIn_of _ (by decide +kernel)) ggL_law_L_pay
set_option maxRecDepth 20000 in
theorem ggL_law_X2_pay : GoodIn wsL_law wsX2_pay := goodIn_r _ [145, 67, 97, 68, 69, 5, 70, 71, 72, 73, 74, 98, 99, 100, 101, 38, 39, 40, 41, 449, 450, 451, 452, 453, 454, 455, 456, 457, 458, 459, 460, 461, 462, 463, 464, 465] (by decide +kernel) (by decide +kernel)
set_option maxRecDepth 20000 in
theorem gL_law_X2_pay : GoodIn wsL_law (wsV RL 97 RX2 yX2_pay wsX2_pay) := goodIn_app (goodIn_of _ (by decide +kernel)) ggL_law_X2_pay
set_option maxRecDepth 20000 in
theorem ggL_law_L_buy : GoodIn wsL_law wsL_buy := goodIn_ca (goodIn_ca (goodIn_r _ [148, 48, 82, 149, 150, 151, 2, 152, 58, 59, 60, 61, 62, 87, 88, 89, 90, 91, 92, 21, 16, 17, 18, 20, 441, 442, 443, 444, 445, 446, 447, 448] (by decide +kernel) (by decide +kernel)) (goodIn_sub (fun _ h => List.mem_append_left _ (List.mem_append_right _ h)) (by decide +kernel))) (goodIn_sub (fun _ h => List.mem_append_right _ h) (by decide +kernel))
set_option maxRecDepth 20000 in
theorem gL_law_L_buy : GoodIn wsL_law (va_wsS RL 98 yL_buy wsL_buy) := goodIn_app (goodIn_of _ (by decide +kernel)) ggL_law_L_buy
set_option maxRecDepth 20000 in
theorem ggL_law_X2_buy : GoodIn wsL_law wsX2_buy := goodIn_r _ [156, 67, 97, 68, 69, 5, 70, 71, 72, 73, 74, 98, 99, 100, 101, 38, 39, 40, 41, 449, 450, 451, 452, 453, 454, 455, 456, 457, 458, 459, 460, 461, 462, 463, 464, 465] (by decide +kernel) (by decide +kernel)
set_option maxRecDepth 20000 in
theorem gL_law_X2_buy : GoodIn wsL_law (wsV RL 100 RX2 yX2_buy wsX2_buy) := goodIn_app (goodIn_of _ (by decide +kernel)) ggL_law_X2_buy
set_option maxRecDepth 20000 in
theorem ggL_law_L_strike : GoodIn wsL_law wsL_strike := goodIn_ca (goodIn_r _ [159, 47, 160, 161, 162, 2, 163, 21, 20, 53, 54, 55, 56, 57, 441, 442, 443, 444, 445, 446, 447, 448] (by decide +kernel) (by decide +kernel)) (goodIn_sub (fun _ h => List.mem_append_left _ (List.mem_append_left _ (List.mem_append_right _ h))) (by decide +kernel))
set_option maxRecDepth 20000 in
theorem gL_law_L_strike : GoodIn wsL_law (va_wsS RL 101 yL_strike wsL_strike) := goodIn_app (goodIn_of _ (by decide +kernel)) ggL_law_L_strike
set_option maxRecDepth 20000 in
theorem ggL_law_X2_strike : GoodIn wsL_law wsX2_strike := goodIn_r _ [167, 67, 41, 168, 169, 170, 5, 171, 97, 68, 69, 70, 449, 450, 451, 452, 453, 454, 455, 456, 457, 458, 459, 460, 461, 462, 463, 464, 465] (by decide +kernel) (by decide +kernel)
set_option maxRecDepth 20000 in
theorem gL_law_X2_strike : GoodIn wsL_law (wsV RL 103 RX2 yX2_strike wsX2_strike) := goodIn_app (goodIn_of _ (by decide +kernel)) ggL_law_X2_strike
set_option maxRecDepth 20000 in
theorem ggL_law_L_shift : GoodIn wsL_law wsL_shift := goodIn_ca (goodIn_r _ [174, 47, 175, 176, 177, 2, 178, 21, 16, 53, 54, 55, 56, 57, 179, 180, 181, 182, 17, 18, 20, 183, 184, 185, 441, 442, 443, 444, 445, 446, 447, 448] (by decide +kernel) (by decide +kernel)) (goodIn_sub (fun _ h => List.mem_append_left _ (List.mem_append_left _ (List.mem_append_right _ h))) (by decide +kernel))
set_option maxRecDepth 20000 in
theorem gL_law_L_shift : GoodIn wsL_law (va_wsS RL 104 yL_shift wsL_shift) := goodIn_app (goodIn_of _ (by decide +kernel)) ggL_law_L_shift
set_option maxRecDepth 20000 in
theorem ggL_law_X2_shift : GoodIn wsL_law wsX2_shift := goodIn_r _ [189, 67, 38, 168, 169, 170, 5, 171, 97, 68, 69, 70, 71, 72, 73, 74, 190, 191, 192, 193, 39, 40, 41, 449, 450, 451, 452, 453, 454, 455, 456, 457, 458, 459, 460, 461, 462, 463, 464, 465] (by decide +kernel) (by decide +kernel)
set_option maxRecDepth 20000 in
theorem gL_law_X2_shift : GoodIn wsL_law (wsV RL 106 RX2 yX2_shift wsX2_shift) := goodIn_app (goodIn_of _ (by decide +kernel)) ggL_law_X2_shift
set_option maxRecDepth 20000 in
theorem ggL_law_L_tear : GoodIn wsL_law wsL_tear := goodIn_ca (goodIn_r _ [196, 82, 197, 198, 199, 2, 200, 91, 92, 21, 16, 441, 442, 443, 444, 445, 446, 447, 448] (by decide +kernel) (by decide +kernel)) (goodIn_sub (fun _ h => List.mem_append_right _ h) (by decide +kernel))
set_option maxRecDepth 20000 in
theorem gL_law_L_tear : GoodIn wsL_law (va_wsS RL 107 yL_tear wsL_tear) := goodIn_app (goodIn_of _ (by decide +kernel)) ggL_law_L_tear
set_option maxRecDepth 20000 in
theorem ggL_law_X2_tear : GoodIn wsL_law wsX2_tear := goodIn_r _ [204, 67, 97, 38, 71, 72, 73, 5, 74, 449, 450, 451, 452, 453, 454, 455, 456, 457, 458, 459, 460, 461, 462, 463, 464, 465] (by decide +kernel) (by decide +kernel)
set_option maxRecDepth 20000 in
theorem gL_law_X2_tear : GoodIn wsL_law (wsV RL 110 RX2 yX2_tear wsX2_tear) := goodIn_app (goodIn_of _ (by decide +kernel)) ggL_law_X2_tear
set_option maxRecDepth 20000 in
theorem ggL_law_L_entry : GoodIn wsL_law wsL_entry := goodIn_ca (goodIn_r _ [207, 47, 208, 209, 210, 2, 211, 21, 16, 17, 18, 20, 53, 54, 55, 56, 57, 212, 213, 214, 215, 25, 216, 217, 218, 219, 220, 24, 221, 222, 223, 224, 225, 226, 227, 228, 229, 230, 231, 232, 233, 234, 235, 236, 237, 238, 239, 240, 241, 242, 243, 244, 245, 29, 246, 247, 248, 249, 250, 251, 252, 253, 31, 254, 255, 256, 257, 258, 259, 260, 261, 30, 262, 263, 264, 265, 266, 267, 268, 269, 270, 271, 272, 273, 274, 275, 276, 277, 278, 279, 280, 281, 282, 283, 284, 441, 442, 443, 444, 445, 446, 447, 448, 466, 467, 468, 469, 470, 471, 472, 473, 474, 475, 476] (by decide +kernel) (by decide +kernel)) (goodIn_sub (fun _ h => List.mem_append_left _ (List.mem_append_left _ (List.mem_append_right _ h))) (by decide +kernel))
set_option maxRecDepth 20000 in
theorem gL_law_L_entry : GoodIn wsL_law (va_wsS RL 111 yL_entry wsL_entry) := goodIn_app (goodIn_of _ (by decide +kernel)) ggL_law_L_entry
set_option maxRecDepth 20000 in
theorem ggL_law_X2_entry : GoodIn wsL_law wsX2_entry := goodIn_r _ [288, 67, 168, 169, 170, 5, 171, 97, 68, 69, 70, 289, 290, 291, 292, 38, 39, 40, 41, 293, 294, 295, 296, 297, 298, 299, 300, 301, 302, 303, 304, 305, 235, 236, 237, 306, 307, 308, 309, 310, 311, 312, 313, 42, 37, 314, 315, 316, 317, 318, 319, 320, 321, 322, 271, 272, 323, 324, 325, 326, 36, 327, 328, 329, 330, 71, 72, 73, 74, 449, 450, 451, 452, 453, 454, 455, 456, 457, 458, 459, 460, 461, 462, 463, 464, 465] (by decide +kernel) (by decide +kernel)
set_option maxRecDepth 20000 in
theorem gL_law_X2_entry : GoodIn wsL_law (wsV RL 113 RX2 yX2_entry wsX2_entry) := goodIn_app (goodIn_of _ (by decide +kernel)) ggL_law_X2_entry
set_option maxRecDepth 20000 in
theorem ggL_law_L_behind : GoodIn wsL_law wsL_behind := goodIn_ca (goodIn_ca (goodIn_r _ [333, 48, 47, 334, 335, 336, 2, 337, 21, 25, 58, 59, 60, 61, 62, 53, 54, 55, 56, 57, 216, 217, 218, 219, 20, 16, 17, 18, 220, 24, 221, 222, 223, 224, 225, 226, 227, 228, 229, 230, 231, 232, 233, 234, 235, 236, 237, 238, 239, 240, 241, 242, 243, 244, 245, 29, 246, 247, 248, 249, 250, 251, 252, 253, 31, 254, 255, 256, 257, 258, 259, 260, 261, 30, 262, 263, 264, 265, 266, 267, 268, 269, 270, 271, 272, 273, 274, 275, 276, 277, 278, 279, 280, 281, 282, 283, 284, 338, 339, 340, 441, 442, 443, 444, 445, 446, 447, 448, 466, 467, 468, 469, 470, 471, 472, 473, 474, 475, 476] (by decide +kernel) (by decide +kernel)) (goodIn_sub (fun _ h => List.mem_append_left _ (List.mem_append_right _ h)) (by decide +kernel))) (goodIn_sub (fun _ h => List.mem_append_left _ (List.mem_append_left _ (List.mem_append_right _ h))) (by decide +kernel))
set_option maxRecDepth 20000 in
theorem gL_law_L_behind : GoodIn wsL_law (va_wsS RL 114 yL_behind wsL_behind) := goodIn_app (goodIn_of _ (by decide +kernel)) ggL_law_L_behind
set_option maxRecDepth 20000 in
theorem ggL_law_X2_behind : GoodIn wsL_law wsX2_behind := goodIn_r _ [344, 67, 97, 13, 297, 298, 299, 300, 301, 302, 68, 69, 5, 70, 71, 72, 73, 74, 293, 294, 295, 296, 303, 304, 41, 305, 235, 236, 237, 306, 307, 308, 309, 39, 38, 40, 310, 311, 312, 313, 42, 37, 314, 315, 316, 317, 318, 319, 320, 321, 322, 271, 272, 323, 324, 325, 326, 36, 327, 328, 329, 330, 345, 346, 347, 348, 449, 450, 451, 452, 453, 454, 455, 456, 457, 458, 459, 460, 461, 462, 463, 464, 465] (by decide +kernel) (by decide +kernel)
set_option maxRecDepth 20000 in
theorem gL_law_X2_behind : GoodIn wsL_law (wsV RL 116 RX2 yX2_behind wsX2_behind) := goodIn_app (goodIn_of _ (by decide +kernel)) ggL_law_X2_behind
set_option maxRecDepth 20000 in
theorem ggL_law_L_trust : GoodIn wsL_law wsL_trust := goodIn_ca (goodIn_ca (goodIn_r _ [351, 47, 48, 352, 353, 354, 2, 355, 21, 25, 53, 54, 55, 56, 57, 58, 59, 60, 61, 62, 216, 217, 218, 219, 20, 16, 17, 18, 220, 24, 221, 222, 223, 224, 225, 226, 227, 228, 229, 230, 231, 232, 233, 234, 235, 236, 237, 238, 239, 240, 241, 242, 243, 244, 245, 29, 246, 247, 248, 249, 250, 251, 252, 253, 31, 254, 255, 256, 257, 258, 259, 260, 261, 30, 262, 263, 264, 265, 266, 267, 268, 269, 270, 271, 272, 273, 274, 275, 276, 277, 278, 279, 280, 281, 282, 283, 284, 441, 442, 443, 444, 445, 446, 447, 448, 466, 467, 468, 469, 470, 471, 472, 473, 474, 475, 476] (by decide +kernel) (by decide +kernel)) (goodIn_sub (fun _ h => List.mem_append_left _ (List.mem_append_left _ (List.mem_append_right _ h))) (by decide +kernel))) (goodIn_sub (fun _ h => List.mem_append_left _ (List.mem_append_right _ h)) (by decide +kernel))
set_option maxRecDepth 20000 in
theorem gL_law_L_trust : GoodIn wsL_law (va_wsS RL 117 yL_trust wsL_trust) := goodIn_app (goodIn_of _ (by decide +kernel)) ggL_law_L_trust
set_option maxRecDepth 20000 in
theorem ggL_law_X2_trust : GoodIn wsL_law wsX2_trust := goodIn_r _ [359, 67, 97, 300, 42, 68, 69, 5, 70, 71, 72, 73, 74, 293, 294, 295, 296, 297, 298, 299, 301, 302, 303, 304, 41, 305, 235, 236, 237, 306, 307, 308, 309, 39, 38, 40, 310, 311, 312, 313, 37, 314, 315, 316, 317, 318, 319, 320, 321, 322, 271, 272, 323, 324, 325, 326, 36, 327, 328, 329, 330, 449, 450, 451, 452, 453, 454, 455, 456, 457, 458, 459, 460, 461, 462, 463, 464, 465] (by decide +kernel) (by decide +kernel)
set_option maxRecDepth 20000 in
theorem gL_law_X2_trust : GoodIn wsL_law (wsV RL 119 RX2 yX2_trust wsX2_trust) := goodIn_app (goodIn_of _ (by decide +kernel)) ggL_law_X2_trust
set_option maxRecDepth 20000 in
theorem ggL_law_L_count : GoodIn wsL_law wsL_count := goodIn_ca (goodIn_r _ [362, 47, 363, 364, 365, 2, 366, 21, 25, 53, 54, 55, 56, 57, 216, 217, 218, 219, 20, 16, 17, 18, 220, 24, 221, 222, 223, 224, 225, 226, 227, 228, 229, 230, 231, 232, 233, 234, 235, 236, 237, 238, 239, 240, 241, 242, 243, 244, 245, 29, 246, 247, 248, 249, 250, 251, 252, 253, 31, 254, 255, 256, 257, 258, 259, 260, 261, 30, 262, 263, 264, 265, 266, 267, 268, 269, 270, 271, 272, 273, 274, 275, 276, 277, 278, 279, 280, 281, 282, 283, 284, 441, 442, 443, 444, 445, 446, 447, 448, 466, 467, 468, 469, 470, 471, 472, 473, 474, 475, 476] (by decide +kernel) (by decide +kernel)) (goodIn_sub (fun _ h => List.mem_append_left _ (List.mem_append_left _ (List.mem_append_right _ h))) (by decide +kernel))
set_option maxRecDepth 20000 in
theorem gL_law_L_count : GoodIn wsL_law (va_wsS RL 120 yL_count wsL_count) := goodIn_app (goodIn_of _ (by decide +kernel)) ggL_law_L_count
set_option maxRecDepth 20000 in
theorem ggL_law_X2_count : GoodIn wsL_law wsX2_count := goodIn_r _ [370, 67, 68, 69, 5, 70, 371, 372, 373, 374, 97, 41, 301, 297, 303, 304, 293, 294, 295, 296, 298, 299, 300, 302, 305, 235, 236, 237, 306, 307, 308, 309, 39, 38, 40, 310, 311, 312, 313, 42, 37, 314, 315, 316, 317, 318, 319, 320, 321, 322, 271, 272, 323, 324, 325, 326, 36, 327, 328, 329, 330, 71, 72, 73, 74, 449, 450, 451, 452, 453, 454, 455, 456, 457, 458, 459, 460, 461, 462, 463, 464, 465] (by decide +kernel) (by decide +kernel)
set_option maxRecDepth 20000 in
theorem gL_law_X2_count : GoodIn wsL_law (wsV RL 122 RX2 yX2_count wsX2_count) := goodIn_app (goodIn_of _ (by decide +kernel)) ggL_law_X2_count
set_option maxRecDepth 20000 in
theorem ggL_law_L_worth : GoodIn wsL_law wsL_worth := goodIn_ca (goodIn_r _ [377, 47, 378, 379, 380, 2, 381, 21, 53, 54, 55, 56, 57, 382, 383, 384, 385, 25, 216, 217, 218, 219, 20, 16, 17, 18, 220, 24, 221, 222, 223, 224, 225, 226, 227, 228, 229, 230, 231, 232, 233, 234, 235, 236, 237, 238, 239, 240, 241, 242, 243, 244, 245, 29, 246, 247, 248, 249, 250, 251, 252, 253, 31, 254, 255, 256, 257, 258, 259, 260, 261, 30, 262, 263, 264, 265, 266, 267, 268, 269, 270, 271, 272, 273, 274, 275, 276, 277, 278, 279, 280, 281, 282, 283, 284, 441, 442, 443, 444, 445, 446, 447, 448, 466, 467, 468, 469, 470, 471, 472, 473, 474, 475, 476] (by decide +kernel) (by decide +kernel)) (goodIn_sub (fun _ h => List.mem_append_left _ (List.mem_append_left _ (List.mem_append_right _ h))) (by decide +kernel))
set_option maxRecDepth 20000 in
theorem gL_law_L_worth : GoodIn wsL_law (va_wsS RL 123 yL_worth wsL_worth) := goodIn_app (goodIn_of _ (by decide +kernel)) ggL_law_L_worth
set_option maxRecDepth 20000 in
theorem ggL_law_X2_worth : GoodIn wsL_law wsX2_worth := goodIn_r _ [389, 67, 168, 169, 170, 5, 171, 97, 68, 69, 70, 390, 391, 392, 393, 297, 293, 294, 295, 296, 298, 299, 300, 301, 302, 303, 304, 41, 305, 235, 236, 237, 306, 307, 308, 309, 39, 38, 40, 310, 311, 312, 313, 42, 37, 314, 315, 316, 317, 318, 319, 320, 321, 322, 271, 272, 323, 324, 325, 326, 36, 327, 328, 329, 330, 394, 395, 396, 397, 71, 72, 73, 74, 449, 450, 451, 452, 453, 454, 455, 456, 457, 458, 459, 460, 461, 462, 463, 464, 465] (by decide +kernel) (by decide +kernel)
set_option maxRecDepth 20000 in
theorem gL_law_X2_worth : GoodIn wsL_law (wsV RL 125 RX2 yX2_worth wsX2_worth) := goodIn_app (goodIn_of _ (by decide +kernel)) ggL_law_X2_worth
set_option maxRecDepth 20000 in
theorem ggL_law_X1_best : GoodIn wsL_law wsX1_best := goodIn_r _ [401, 21, 20, 382, 383, 384, 2, 385, 25, 216, 217, 218, 219, 16, 17, 18, 220, 24, 221, 222, 223, 224, 225, 226, 227, 228, 229, 230, 231, 232, 233, 234, 235, 236, 237, 238, 239, 240, 241, 242, 243, 244, 245, 29, 246, 247, 248, 249, 250, 251, 252, 253, 31, 254, 255, 256, 257, 258, 259, 260, 261, 30, 262, 263, 264, 265, 266, 267, 268, 269, 270, 271, 272, 273, 274, 275, 276, 277, 278, 279, 280, 281, 282, 283, 284, 441, 442, 443, 444, 445, 446, 447, 448, 466, 467, 468, 469, 470, 471, 472, 473, 474, 475, 476] (by decide +kernel) (by decide +kernel)
set_option maxRecDepth 20000 in
theorem gL_law_X1_best : GoodIn wsL_law (wsV RL 126 RX1 yX1_best wsX1_best) := goodIn_app (goodIn_of _ (by decide +kernel)) ggL_law_X1_best
set_option maxRecDepth 20000 in
theorem ggL_law_X2_best : GoodIn wsL_law wsX2_best := goodIn_r _ [405, 67, 97, 41, 390, 391, 392, 5, 393, 297, 293, 294, 295, 296, 298, 299, 300, 301, 302, 303, 304, 305, 235, 236, 237, 306, 307, 308, 309, 39, 38, 40, 310, 311, 312, 313, 42, 37, 314, 315, 316, 317, 318, 319, 320, 321, 322, 271, 272, 323, 324, 325, 326, 36, 327, 328, 329, 330, 394, 395, 396, 397, 449, 450, 451, 452, 453, 454, 455, 456, 457, 458, 459, 460, 461, 462, 463, 464, 465] (by decide +kernel) (by decide +kernel)
set_option maxRecDepth 20000 in
theorem gL_law_X2_best : GoodIn wsL_law (wsV RL 129 RX2 yX2_best wsX2_best) := goodIn_app (goodIn_of _ (by decide +kernel)) ggL_law_X2_best
set_option maxRecDepth 20000 in
theorem ggL_law_L_would : GoodIn wsL_law wsL_would := goodIn_ca (goodIn_ca (goodIn_r _ [408, 47, 48, 409, 410, 411, 2, 412, 21, 25, 53, 54, 55, 56, 57, 58, 59, 60, 61, 62, 216, 217, 218, 219, 20, 16, 17, 18, 220, 24, 221, 222, 223, 224, 225, 226, 227, 228, 229, 230, 231, 232, 233, 234, 235, 236, 237, 238, 239, 240, 241, 242, 243, 244, 245, 29, 246, 247, 248, 249, 250, 251, 252, 253, 31, 254, 255, 256, 257, 258, 259, 260, 261, 30, 262, 263, 264, 265, 266, 267, 268, 269, 270, 271, 272, 273, 274, 275, 276, 277, 278, 279, 280, 281, 282, 283, 284, 441, 442, 443, 444, 445, 446, 447, 448, 466, 467, 468, 469, 470, 471, 472, 473, 474, 475, 476] (by decide +kernel) (by decide +kernel)) (goodIn_sub (fun _ h => List.mem_append_left _ (List.mem_append_left _ (List.mem_append_right _ h))) (by decide +kernel))) (goodIn_sub (fun _ h => List.mem_append_left _ (List.mem_append_right _ h)) (by decide +kernel))
set_option maxRecDepth 20000 in
theorem gL_law_L_would : GoodIn wsL_law (va_wsS RL 130 yL_would wsL_would) := goodIn_app (goodIn_of _ (by decide +kernel)) ggL_law_L_would
set_option maxRecDepth 20000 in
theorem ggL_law_X2_would : GoodIn wsL_law wsX2_would := goodIn_r _ [416, 67, 97, 68, 69, 5, 70, 71, 72, 73, 74, 293, 294, 295, 296, 297, 298, 299, 300, 301, 302, 303, 304, 41, 305, 235, 236, 237, 306, 307, 308, 309, 39, 38, 40, 310, 311, 312, 313, 42, 37, 314, 315, 316, 317, 318, 319, 320, 321, 322, 271, 272, 323, 324, 325, 326, 36, 327, 328, 329, 330, 449, 450, 451, 452, 453, 454, 455, 456, 457, 458, 459, 460, 461, 462, 463, 464, 465] (by decide +kernel) (by decide +kernel)
set_option maxRecDepth 20000 in
theorem gL_law_X2_would : GoodIn wsL_law (wsV RL 132 RX2 yX2_would wsX2_would) := goodIn_app (goodIn_of _ (by decide +kernel)) ggL_law_X2_would
set_option maxRecDepth 20000 in
theorem ggL_law_X1_mean : GoodIn wsL_law wsX1_mean := goodIn_r _ [420, 21, 25, 216, 217, 218, 2, 219, 20, 16, 17, 18, 220, 24, 221, 222, 223, 224, 225, 226, 227, 228, 229, 230, 231, 232, 233, 234, 235, 236, 237, 238, 239, 240, 241, 242, 243, 244, 245, 29, 246, 247, 248, 249, 250, 251, 252, 253, 31, 254, 255, 256, 257, 258, 259, 260, 261, 30, 262, 263, 264, 265, 266, 267, 268, 269, 270, 271, 272, 273, 274, 275, 276, 277, 278, 279, 280, 281, 282, 283, 284, 338, 339, 340, 441, 442, 443, 444, 445, 446, 447, 448, 466, 467, 468, 469, 470, 471, 472, 473, 474, 475, 476] (by decide +kernel) (by decide +kernel)
set_option maxRecDepth 20000 in
theorem gL_law_X1_mean : GoodIn wsL_law (wsV RL 133 RX1 yX1_mean wsX1_mean) := goodIn_app (goodIn_of _ (by decide +kernel)) ggL_law_X1_mean
set_option maxRecDepth 20000 in
theorem ggL_law_X2_mean : GoodIn wsL_law wsX2_mean := goodIn_r _ [424, 67, 97, 300, 293, 294, 295, 5, 296, 297, 298, 299, 301, 302, 303, 304, 41, 305, 235, 236, 237, 306, 307, 308, 309, 39, 38, 40, 310, 311, 312, 313, 42, 37, 314, 315, 316, 317, 318, 319, 320, 321, 322, 271, 272, 323, 324, 325, 326, 36, 327, 328, 329, 330, 345, 346, 347, 348, 449, 450, 451, 452, 453, 454, 455, 456, 457, 458, 459, 460, 461, 462, 463, 464, 465] (by decide +kernel) (by decide +kernel)
set_option maxRecDepth 20000 in
theorem gL_law_X2_mean : GoodIn wsL_law (wsV RL 137 RX2 yX2_mean wsX2_mean) := goodIn_app (goodIn_of _ (by decide +kernel)) ggL_law_X2_mean
set_option maxRecDepth 20000 in
theorem ggL_law_X1_digest : GoodIn wsL_law wsX1_digest := goodIn_ca (goodIn_ca (goodIn_r _ [428, 429, 430, 14, 15, 21, 431, 364, 365, 2, 366, 25, 53, 54, 55, 56, 57, 216, 217, 218, 219, 20, 16, 17, 18, 220, 24, 221, 222, 223, 224, 225, 226, 227, 228, 229, 230, 231, 232, 233, 234, 235, 236, 237, 238, 239, 240, 241, 242, 243, 244, 245, 29, 246, 247, 248, 249, 250, 251, 252, 253, 31, 254, 255, 256, 257, 258, 259, 260, 261, 30, 262, 263, 264, 265, 266, 267, 268, 269, 270, 271, 272, 273, 274, 275, 276, 277, 278, 279, 280, 281, 282, 283, 284, 432, 209, 210, 211, 212, 213, 214, 215, 433, 335, 336, 337, 58, 59, 60, 61, 62, 338, 339, 340, 434, 353, 354, 355, 441, 442, 443, 444, 445, 446, 447, 448, 466, 467, 468, 469, 470, 471, 472, 473, 474, 475, 476] (by decide +kernel) (by decide +kernel)) (goodIn_sub (fun _ h => List.mem_append_left _ (List.mem_append_left _ (List.mem_append_right _ h))) (by decide +kernel))) (goodIn_sub (fun _ h => List.mem_append_left _ (List.mem_append_right _ h)) (by decide +kernel))
set_option maxRecDepth 20000 in
theorem gL_law_X1_digest : GoodIn wsL_law (wsV RL 138 RX1 yX1_digest wsX1_digest) := goodIn_app (goodIn_of _ (by decide +kernel)) ggL_law_X1_digest
set_option maxRecDepth 20000 in
theorem ggL_law_X2_digest : GoodIn wsL_law wsX2_digest := goodIn_r _ [438, 67, 439, 440, 36, 37, 97, 297, 300, 42, 371, 372, 373, 5, 374, 41, 301, 303, 304, 293, 294, 295, 296, 298, 299, 302, 305, 235, 236, 237, 306, 307, 308, 309, 39, 38, 40, 310, 311, 312, 313, 314, 315, 316, 317, 318, 319, 320, 321, 322, 271, 272, 323, 324, 325, 326, 327, 328, 329, 330, 289, 290, 291, 292, 449, 450, 451, 452, 453, 454, 455, 456, 457, 458, 459, 460, 461, 462, 463, 464, 465] (by decide +kernel) (by decide +kernel)
set_option maxRecDepth 20000 in
theorem gL_law_X2_digest : GoodIn wsL_law (wsV RL 142 RX2 yX2_digest wsX2_digest) := goodIn_app (goodIn_of _ (by decide +kernel)) ggL_law_X2_digest
