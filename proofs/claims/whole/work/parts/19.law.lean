set_option maxRecDepth 20000 in
theorem ggL_law_X3_frame : GoodIn wsL_law wsX3_frame := goodIn_r _ [378, 81, 56, 82, 83, 5, 84, 505, 506, 507, 508, 509, 510, 511, 512, 513, 514, 515, 516, 517, 518, 519, 520, 521] (by decide +kernel) (by decide +kernel)
set_option maxRecDepth 20000 in
theorem gL_law_X3_frame : GoodIn wsL_law (wsV RL 65 RX3 yX3_frame wsX3_frame) := goodIn_app (goodIn_of _ (by decide +kernel)) ggL_law_X3_frame
set_option maxRecDepth 20000 in
theorem ggL_law_X2_set : GoodIn wsL_law wsX2_set := goodIn_r _ [382, 20, 372, 373, 2, 374, 258, 259, 260, 19, 261, 38, 500, 501, 502, 503, 504, 527, 528, 529, 530, 531, 532, 533, 534, 535, 536, 537] (by decide +kernel) (by decide +kernel)
set_option maxRecDepth 20000 in
theorem gL_law_X2_set : GoodIn wsL_law (wsV RL 66 RX2 yX2_set wsX2_set) := goodIn_app (goodIn_of _ (by decide +kernel)) ggL_law_X2_set
set_option maxRecDepth 20000 in
theorem ggL_law_X3_set : GoodIn wsL_law wsX3_set := goodIn_r _ [386, 81, 56, 82, 83, 5, 84, 505, 506, 507, 508, 509, 510, 511, 512, 513, 514, 515, 516, 517, 518, 519, 520, 521] (by decide +kernel) (by decide +kernel)
set_option maxRecDepth 20000 in
theorem gL_law_X3_set : GoodIn wsL_law (wsV RL 70 RX3 yX3_set wsX3_set) := goodIn_app (goodIn_of _ (by decide +kernel)) ggL_law_X3_set
set_option maxRecDepth 20000 in
theorem ggL_law_X2_root : GoodIn wsL_law wsX2_root := goodIn_r _ [390, 20, 254, 255, 256, 19, 257, 38, 500, 501, 502, 503, 504, 527, 528, 529, 530, 531, 532, 533, 534, 535, 536, 537] (by decide +kernel) (by decide +kernel)
set_option maxRecDepth 20000 in
theorem gL_law_X2_root : GoodIn wsL_law (wsV RL 71 RX2 yX2_root wsX2_root) := goodIn_app (goodIn_of _ (by decide +kernel)) ggL_law_X2_root
set_option maxRecDepth 20000 in
theorem ggL_law_X3_root : GoodIn wsL_law wsX3_root := goodIn_r _ [394, 81, 57, 82, 83, 5, 84, 505, 506, 507, 508, 509, 510, 511, 512, 513, 514, 515, 516, 517, 518, 519, 520, 521] (by decide +kernel) (by decide +kernel)
set_option maxRecDepth 20000 in
theorem gL_law_X3_root : GoodIn wsL_law (wsV RL 74 RX3 yX3_root wsX3_root) := goodIn_app (goodIn_of _ (by decide +kernel)) ggL_law_X3_root
set_option maxRecDepth 20000 in
theorem ggL_law_X2_blocks : GoodIn wsL_law wsX2_blocks := goodIn_r _ [398, 20, 399, 400, 401, 19, 402, 46, 500, 501, 502, 503, 504, 527, 528, 529, 530, 531, 532, 533, 534, 535, 536, 537] (by decide +kernel) (by decide +kernel)
set_option maxRecDepth 20000 in
theorem gL_law_X2_blocks : GoodIn wsL_law (wsV RL 75 RX2 yX2_blocks wsX2_blocks) := goodIn_app (goodIn_of _ (by decide +kernel)) ggL_law_X2_blocks
set_option maxRecDepth 20000 in
theorem ggL_law_X3_blocks : GoodIn wsL_law wsX3_blocks := goodIn_r _ [406, 81, 58, 505, 506, 507, 508, 509, 510, 511, 512, 513, 514, 515, 516, 517, 518, 519, 520, 521] (by decide +kernel) (by decide +kernel)
set_option maxRecDepth 20000 in
theorem gL_law_X3_blocks : GoodIn wsL_law (wsV RL 78 RX3 yX3_blocks wsX3_blocks) := goodIn_app (goodIn_of _ (by decide +kernel)) ggL_law_X3_blocks
set_option maxRecDepth 20000 in
theorem ggL_law_X2_count : GoodIn wsL_law wsX2_count := goodIn_r _ [410, 20, 411, 412, 413, 19, 414, 42, 210, 211, 212, 213, 40, 500, 501, 502, 503, 504, 527, 528, 529, 530, 531, 532, 533, 534, 535, 536, 537] (by decide +kernel) (by decide +kernel)
set_option maxRecDepth 20000 in
theorem gL_law_X2_count : GoodIn wsL_law (wsV RL 79 RX2 yX2_count wsX2_count) := goodIn_app (goodIn_of _ (by decide +kernel)) ggL_law_X2_count
set_option maxRecDepth 20000 in
theorem ggL_law_X3_count : GoodIn wsL_law wsX3_count := goodIn_r _ [418, 81, 60, 419, 420, 421, 5, 422, 58, 82, 83, 84, 344, 345, 346, 347, 57, 52, 59, 316, 317, 318, 319, 53, 505, 506, 507, 508, 509, 510, 511, 512, 513, 514, 515, 516, 517, 518, 519, 520, 521] (by decide +kernel) (by decide +kernel)
set_option maxRecDepth 20000 in
theorem gL_law_X3_count : GoodIn wsL_law (wsV RL 82 RX3 yX3_count wsX3_count) := goodIn_app (goodIn_of _ (by decide +kernel)) ggL_law_X3_count
set_option maxRecDepth 20000 in
theorem ggL_law_X2_typeOf : GoodIn wsL_law wsX2_typeOf := goodIn_r _ [426, 20, 427, 428, 429, 19, 430, 41, 210, 211, 212, 213, 40, 500, 501, 502, 503, 504, 527, 528, 529, 530, 531, 532, 533, 534, 535, 536, 537] (by decide +kernel) (by decide +kernel)
set_option maxRecDepth 20000 in
theorem gL_law_X2_typeOf : GoodIn wsL_law (wsV RL 83 RX2 yX2_typeOf wsX2_typeOf) := goodIn_app (goodIn_of _ (by decide +kernel)) ggL_law_X2_typeOf
set_option maxRecDepth 20000 in
theorem ggL_law_X3_typeOf : GoodIn wsL_law wsX3_typeOf := goodIn_r _ [434, 81, 58, 419, 420, 421, 5, 422, 82, 83, 84, 505, 506, 507, 508, 509, 510, 511, 512, 513, 514, 515, 516, 517, 518, 519, 520, 521] (by decide +kernel) (by decide +kernel)
set_option maxRecDepth 20000 in
theorem gL_law_X3_typeOf : GoodIn wsL_law (wsV RL 86 RX3 yX3_typeOf wsX3_typeOf) := goodIn_app (goodIn_of _ (by decide +kernel)) ggL_law_X3_typeOf
set_option maxRecDepth 20000 in
theorem ggL_law_X2_word : GoodIn wsL_law wsX2_word := goodIn_r _ [438, 20, 439, 206, 207, 208, 19, 209, 36, 41, 210, 211, 212, 213, 40, 440, 244, 245, 254, 255, 256, 257, 38, 500, 501, 502, 503, 504, 527, 528, 529, 530, 531, 532, 533, 534, 535, 536, 537] (by decide +kernel) (by decide +kernel)
set_option maxRecDepth 20000 in
theorem gL_law_X2_word : GoodIn wsL_law (wsV RL 87 RX2 yX2_word wsX2_word) := goodIn_app (goodIn_of _ (by decide +kernel)) ggL_law_X2_word
set_option maxRecDepth 20000 in
theorem ggL_law_X3_word : GoodIn wsL_law wsX3_word := goodIn_r _ [444, 81, 52, 58, 59, 445, 419, 420, 421, 5, 422, 82, 83, 84, 505, 506, 507, 508, 509, 510, 511, 512, 513, 514, 515, 516, 517, 518, 519, 520, 521] (by decide +kernel) (by decide +kernel)
set_option maxRecDepth 20000 in
theorem gL_law_X3_word : GoodIn wsL_law (wsV RL 91 RX3 yX3_word wsX3_word) := goodIn_app (goodIn_of _ (by decide +kernel)) ggL_law_X3_word
set_option maxRecDepth 20000 in
theorem ggL_law_X2_given : GoodIn wsL_law wsX2_given := goodIn_r _ [449, 20, 450, 451, 452, 19, 453, 47, 500, 501, 502, 503, 504, 527, 528, 529, 530, 531, 532, 533, 534, 535, 536, 537] (by decide +kernel) (by decide +kernel)
set_option maxRecDepth 20000 in
theorem gL_law_X2_given : GoodIn wsL_law (wsV RL 92 RX2 yX2_given wsX2_given) := goodIn_app (goodIn_of _ (by decide +kernel)) ggL_law_X2_given
set_option maxRecDepth 20000 in
theorem ggL_law_X3_given : GoodIn wsL_law wsX3_given := goodIn_r _ [457, 81, 343, 505, 506, 507, 508, 509, 510, 511, 512, 513, 514, 515, 516, 517, 518, 519, 520, 521] (by decide +kernel) (by decide +kernel)
set_option maxRecDepth 20000 in
theorem gL_law_X3_given : GoodIn wsL_law (wsV RL 95 RX3 yX3_given wsX3_given) := goodIn_app (goodIn_of _ (by decide +kernel)) ggL_law_X3_given
set_option maxRecDepth 20000 in
theorem ggL_law_X2_lost : GoodIn wsL_law wsX2_lost := goodIn_r _ [461, 20, 462, 463, 464, 19, 465, 45, 43, 38, 44, 46, 466, 467, 468, 469, 210, 211, 212, 213, 40, 290, 291, 292, 293, 470, 471, 472, 473, 220, 221, 222, 223, 224, 207, 208, 209, 36, 41, 225, 226, 227, 228, 37, 243, 244, 245, 500, 501, 502, 503, 504, 527, 528, 529, 530, 531, 532, 533, 534, 535, 536, 537] (by decide +kernel) (by decide +kernel)
set_option maxRecDepth 20000 in
theorem gL_law_X2_lost : GoodIn wsL_law (wsV RL 96 RX2 yX2_lost wsX2_lost) := goodIn_app (goodIn_of _ (by decide +kernel)) ggL_law_X2_lost
set_option maxRecDepth 20000 in
theorem ggL_law_X3_lost : GoodIn wsL_law wsX3_lost := goodIn_r _ [477, 81, 58, 61, 478, 479, 480, 5, 481, 57, 52, 59, 316, 317, 318, 319, 53, 505, 506, 507, 508, 509, 510, 511, 512, 513, 514, 515, 516, 517, 518, 519, 520, 521] (by decide +kernel) (by decide +kernel)
set_option maxRecDepth 20000 in
theorem gL_law_X3_lost : GoodIn wsL_law (wsV RL 99 RX3 yX3_lost wsX3_lost) := goodIn_app (goodIn_of _ (by decide +kernel)) ggL_law_X3_lost
set_option maxRecDepth 20000 in
theorem ggL_law_X2_collect : GoodIn wsL_law wsX2_collect := goodIn_r _ [485, 20, 486, 487, 488, 19, 489, 40, 43, 490, 463, 464, 465, 45, 38, 44, 46, 466, 467, 468, 469, 210, 211, 212, 213, 290, 291, 292, 293, 470, 471, 472, 473, 220, 221, 222, 223, 224, 207, 208, 209, 36, 41, 225, 226, 227, 228, 37, 243, 244, 245, 491, 492, 493, 494, 42, 286, 287, 288, 289, 47, 500, 501, 502, 503, 504, 527, 528, 529, 530, 531, 532, 533, 534, 535, 536, 537] (by decide +kernel) (by decide +kernel)
set_option maxRecDepth 20000 in
theorem gL_law_X2_collect : GoodIn wsL_law (wsV RL 100 RX2 yX2_collect wsX2_collect) := goodIn_app (goodIn_of _ (by decide +kernel)) ggL_law_X2_collect
set_option maxRecDepth 20000 in
theorem ggL_law_X3_collect : GoodIn wsL_law wsX3_collect := goodIn_r _ [498, 61, 58, 343, 499, 475, 476, 5, 477, 81, 478, 479, 480, 481, 57, 52, 59, 316, 317, 318, 319, 53, 505, 506, 507, 508, 509, 510, 511, 512, 513, 514, 515, 516, 517, 518, 519, 520, 521] (by decide +kernel) (by decide +kernel)
set_option maxRecDepth 20000 in
theorem gL_law_X3_collect : GoodIn wsL_law (wsV RL 103 RX3 yX3_collect wsX3_collect) := goodIn_app (goodIn_of _ (by decide +kernel)) ggL_law_X3_collect
