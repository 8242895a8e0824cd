set_option maxRecDepth 20000 in
theorem ggL_law_X3_frame : GoodIn wsL_law wsX3_frame := goodIn_r _ [374, 81, 56, 82, 83, 5, 84, 501, 502, 503, 504, 505, 506, 507, 508, 509, 510, 511, 512, 513, 514, 515, 516, 517] (by decide +kernel) (by decide +kernel)
set_option maxRecDepth 20000 in
theorem gL_law_X3_frame : GoodIn wsL_law (wsV RL 65 RX3 yX3_frame wsX3_frame) := goodIn_app (goodIn_of _ (by decide +kernel)) ggL_law_X3_frame
set_option maxRecDepth 20000 in
theorem ggL_law_X2_set : GoodIn wsL_law wsX2_set := goodIn_r _ [378, 20, 368, 369, 2, 370, 254, 255, 256, 19, 257, 38, 496, 497, 498, 499, 500, 523, 524, 525, 526, 527, 528, 529, 530, 531, 532, 533] (by decide +kernel) (by decide +kernel)
set_option maxRecDepth 20000 in
theorem gL_law_X2_set : GoodIn wsL_law (wsV RL 66 RX2 yX2_set wsX2_set) := goodIn_app (goodIn_of _ (by decide +kernel)) ggL_law_X2_set
set_option maxRecDepth 20000 in
theorem ggL_law_X3_set : GoodIn wsL_law wsX3_set := goodIn_r _ [382, 81, 56, 82, 83, 5, 84, 501, 502, 503, 504, 505, 506, 507, 508, 509, 510, 511, 512, 513, 514, 515, 516, 517] (by decide +kernel) (by decide +kernel)
set_option maxRecDepth 20000 in
theorem gL_law_X3_set : GoodIn wsL_law (wsV RL 70 RX3 yX3_set wsX3_set) := goodIn_app (goodIn_of _ (by decide +kernel)) ggL_law_X3_set
set_option maxRecDepth 20000 in
theorem ggL_law_X2_root : GoodIn wsL_law wsX2_root := goodIn_r _ [386, 20, 250, 251, 252, 19, 253, 38, 496, 497, 498, 499, 500, 523, 524, 525, 526, 527, 528, 529, 530, 531, 532, 533] (by decide +kernel) (by decide +kernel)
set_option maxRecDepth 20000 in
theorem gL_law_X2_root : GoodIn wsL_law (wsV RL 71 RX2 yX2_root wsX2_root) := goodIn_app (goodIn_of _ (by decide +kernel)) ggL_law_X2_root
set_option maxRecDepth 20000 in
theorem ggL_law_X3_root : GoodIn wsL_law wsX3_root := goodIn_r _ [390, 81, 57, 82, 83, 5, 84, 501, 502, 503, 504, 505, 506, 507, 508, 509, 510, 511, 512, 513, 514, 515, 516, 517] (by decide +kernel) (by decide +kernel)
set_option maxRecDepth 20000 in
theorem gL_law_X3_root : GoodIn wsL_law (wsV RL 74 RX3 yX3_root wsX3_root) := goodIn_app (goodIn_of _ (by decide +kernel)) ggL_law_X3_root
set_option maxRecDepth 20000 in
theorem ggL_law_X2_blocks : GoodIn wsL_law wsX2_blocks := goodIn_r _ [394, 20, 395, 396, 397, 19, 398, 46, 496, 497, 498, 499, 500, 523, 524, 525, 526, 527, 528, 529, 530, 531, 532, 533] (by decide +kernel) (by decide +kernel)
set_option maxRecDepth 20000 in
theorem gL_law_X2_blocks : GoodIn wsL_law (wsV RL 75 RX2 yX2_blocks wsX2_blocks) := goodIn_app (goodIn_of _ (by decide +kernel)) ggL_law_X2_blocks
set_option maxRecDepth 20000 in
theorem ggL_law_X3_blocks : GoodIn wsL_law wsX3_blocks := goodIn_r _ [402, 81, 58, 501, 502, 503, 504, 505, 506, 507, 508, 509, 510, 511, 512, 513, 514, 515, 516, 517] (by decide +kernel) (by decide +kernel)
set_option maxRecDepth 20000 in
theorem gL_law_X3_blocks : GoodIn wsL_law (wsV RL 78 RX3 yX3_blocks wsX3_blocks) := goodIn_app (goodIn_of _ (by decide +kernel)) ggL_law_X3_blocks
set_option maxRecDepth 20000 in
theorem ggL_law_X2_count : GoodIn wsL_law wsX2_count := goodIn_r _ [406, 20, 407, 408, 409, 19, 410, 42, 210, 211, 212, 213, 40, 496, 497, 498, 499, 500, 523, 524, 525, 526, 527, 528, 529, 530, 531, 532, 533] (by decide +kernel) (by decide +kernel)
set_option maxRecDepth 20000 in
theorem gL_law_X2_count : GoodIn wsL_law (wsV RL 79 RX2 yX2_count wsX2_count) := goodIn_app (goodIn_of _ (by decide +kernel)) ggL_law_X2_count
set_option maxRecDepth 20000 in
theorem ggL_law_X3_count : GoodIn wsL_law wsX3_count := goodIn_r _ [414, 81, 60, 415, 416, 417, 5, 418, 58, 82, 83, 84, 340, 341, 342, 343, 57, 52, 59, 312, 313, 314, 315, 53, 501, 502, 503, 504, 505, 506, 507, 508, 509, 510, 511, 512, 513, 514, 515, 516, 517] (by decide +kernel) (by decide +kernel)
set_option maxRecDepth 20000 in
theorem gL_law_X3_count : GoodIn wsL_law (wsV RL 82 RX3 yX3_count wsX3_count) := goodIn_app (goodIn_of _ (by decide +kernel)) ggL_law_X3_count
set_option maxRecDepth 20000 in
theorem ggL_law_X2_typeOf : GoodIn wsL_law wsX2_typeOf := goodIn_r _ [422, 20, 423, 424, 425, 19, 426, 41, 210, 211, 212, 213, 40, 496, 497, 498, 499, 500, 523, 524, 525, 526, 527, 528, 529, 530, 531, 532, 533] (by decide +kernel) (by decide +kernel)
set_option maxRecDepth 20000 in
theorem gL_law_X2_typeOf : GoodIn wsL_law (wsV RL 83 RX2 yX2_typeOf wsX2_typeOf) := goodIn_app (goodIn_of _ (by decide +kernel)) ggL_law_X2_typeOf
set_option maxRecDepth 20000 in
theorem ggL_law_X3_typeOf : GoodIn wsL_law wsX3_typeOf := goodIn_r _ [430, 81, 58, 415, 416, 417, 5, 418, 82, 83, 84, 501, 502, 503, 504, 505, 506, 507, 508, 509, 510, 511, 512, 513, 514, 515, 516, 517] (by decide +kernel) (by decide +kernel)
set_option maxRecDepth 20000 in
theorem gL_law_X3_typeOf : GoodIn wsL_law (wsV RL 86 RX3 yX3_typeOf wsX3_typeOf) := goodIn_app (goodIn_of _ (by decide +kernel)) ggL_law_X3_typeOf
set_option maxRecDepth 20000 in
theorem ggL_law_X2_word : GoodIn wsL_law wsX2_word := goodIn_r _ [434, 20, 435, 206, 207, 208, 19, 209, 36, 41, 210, 211, 212, 213, 40, 436, 240, 241, 250, 251, 252, 253, 38, 496, 497, 498, 499, 500, 523, 524, 525, 526, 527, 528, 529, 530, 531, 532, 533] (by decide +kernel) (by decide +kernel)
set_option maxRecDepth 20000 in
theorem gL_law_X2_word : GoodIn wsL_law (wsV RL 87 RX2 yX2_word wsX2_word) := goodIn_app (goodIn_of _ (by decide +kernel)) ggL_law_X2_word
set_option maxRecDepth 20000 in
theorem ggL_law_X3_word : GoodIn wsL_law wsX3_word := goodIn_r _ [440, 81, 52, 58, 59, 441, 415, 416, 417, 5, 418, 82, 83, 84, 501, 502, 503, 504, 505, 506, 507, 508, 509, 510, 511, 512, 513, 514, 515, 516, 517] (by decide +kernel) (by decide +kernel)
set_option maxRecDepth 20000 in
theorem gL_law_X3_word : GoodIn wsL_law (wsV RL 91 RX3 yX3_word wsX3_word) := goodIn_app (goodIn_of _ (by decide +kernel)) ggL_law_X3_word
set_option maxRecDepth 20000 in
theorem ggL_law_X2_given : GoodIn wsL_law wsX2_given := goodIn_r _ [445, 20, 446, 447, 448, 19, 449, 47, 496, 497, 498, 499, 500, 523, 524, 525, 526, 527, 528, 529, 530, 531, 532, 533] (by decide +kernel) (by decide +kernel)
set_option maxRecDepth 20000 in
theorem gL_law_X2_given : GoodIn wsL_law (wsV RL 92 RX2 yX2_given wsX2_given) := goodIn_app (goodIn_of _ (by decide +kernel)) ggL_law_X2_given
set_option maxRecDepth 20000 in
theorem ggL_law_X3_given : GoodIn wsL_law wsX3_given := goodIn_r _ [453, 81, 339, 501, 502, 503, 504, 505, 506, 507, 508, 509, 510, 511, 512, 513, 514, 515, 516, 517] (by decide +kernel) (by decide +kernel)
set_option maxRecDepth 20000 in
theorem gL_law_X3_given : GoodIn wsL_law (wsV RL 95 RX3 yX3_given wsX3_given) := goodIn_app (goodIn_of _ (by decide +kernel)) ggL_law_X3_given
set_option maxRecDepth 20000 in
theorem ggL_law_X2_lost : GoodIn wsL_law wsX2_lost := goodIn_r _ [457, 20, 458, 459, 460, 19, 461, 45, 43, 38, 44, 46, 462, 463, 464, 465, 210, 211, 212, 213, 40, 286, 287, 288, 289, 466, 467, 468, 469, 220, 221, 222, 223, 37, 41, 224, 207, 208, 209, 36, 239, 240, 241, 496, 497, 498, 499, 500, 523, 524, 525, 526, 527, 528, 529, 530, 531, 532, 533] (by decide +kernel) (by decide +kernel)
set_option maxRecDepth 20000 in
theorem gL_law_X2_lost : GoodIn wsL_law (wsV RL 96 RX2 yX2_lost wsX2_lost) := goodIn_app (goodIn_of _ (by decide +kernel)) ggL_law_X2_lost
set_option maxRecDepth 20000 in
theorem ggL_law_X3_lost : GoodIn wsL_law wsX3_lost := goodIn_r _ [473, 81, 58, 61, 474, 475, 476, 5, 477, 57, 52, 59, 312, 313, 314, 315, 53, 501, 502, 503, 504, 505, 506, 507, 508, 509, 510, 511, 512, 513, 514, 515, 516, 517] (by decide +kernel) (by decide +kernel)
set_option maxRecDepth 20000 in
theorem gL_law_X3_lost : GoodIn wsL_law (wsV RL 99 RX3 yX3_lost wsX3_lost) := goodIn_app (goodIn_of _ (by decide +kernel)) ggL_law_X3_lost
set_option maxRecDepth 20000 in
theorem ggL_law_X2_collect : GoodIn wsL_law wsX2_collect := goodIn_r _ [481, 20, 482, 483, 484, 19, 485, 40, 43, 486, 459, 460, 461, 45, 38, 44, 46, 462, 463, 464, 465, 210, 211, 212, 213, 286, 287, 288, 289, 466, 467, 468, 469, 220, 221, 222, 223, 37, 41, 224, 207, 208, 209, 36, 239, 240, 241, 487, 488, 489, 490, 42, 282, 283, 284, 285, 47, 496, 497, 498, 499, 500, 523, 524, 525, 526, 527, 528, 529, 530, 531, 532, 533] (by decide +kernel) (by decide +kernel)
set_option maxRecDepth 20000 in
theorem gL_law_X2_collect : GoodIn wsL_law (wsV RL 100 RX2 yX2_collect wsX2_collect) := goodIn_app (goodIn_of _ (by decide +kernel)) ggL_law_X2_collect
set_option maxRecDepth 20000 in
theorem ggL_law_X3_collect : GoodIn wsL_law wsX3_collect := goodIn_r _ [494, 61, 58, 339, 495, 471, 472, 5, 473, 81, 474, 475, 476, 477, 57, 52, 59, 312, 313, 314, 315, 53, 501, 502, 503, 504, 505, 506, 507, 508, 509, 510, 511, 512, 513, 514, 515, 516, 517] (by decide +kernel) (by decide +kernel)
set_option maxRecDepth 20000 in
theorem gL_law_X3_collect : GoodIn wsL_law (wsV RL 103 RX3 yX3_collect wsX3_collect) := goodIn_app (goodIn_of _ (by decide +kernel)) ggL_law_X3_collect

