set_option maxRecDepth 20000 in
theorem ggL_law_X2_init : GoodIn wsL_law wsX2_init := goodIn_r _ [8, 9, 10, 11, 12, 13, 14, 15, 16, 17, 18, 19, 20, 21, 22, 23, 24, 25, 26, 27, 28, 29, 30, 31, 32, 33, 34, 35, 36, 37, 38, 39, 40, 41, 528, 529, 530, 531, 532, 533, 534, 535, 536, 570, 571, 572, 573, 574, 575, 576, 577, 578, 579, 580, 581, 582] (by decide +kernel) (by decide +kernel)
set_option maxRecDepth 20000 in
theorem gL_law_X2_init : GoodIn wsL_law (wsX2_init) := ggL_law_X2_init
set_option maxRecDepth 20000 in
theorem ggL_law_X3_init : GoodIn wsL_law wsX3_init := goodIn_r _ [44, 45, 10, 11, 15, 46, 47, 48, 49, 50, 51, 52, 53, 54, 55, 56, 57, 58, 59, 60, 61, 62, 63, 64, 65, 66, 67, 68, 69, 70, 71, 72, 73, 537, 538, 539, 540, 541, 542, 543, 544, 545, 546, 547, 548, 549, 550, 551, 552, 553, 554, 555, 556, 557, 558, 559, 560, 561, 562, 563, 564, 565, 566, 567, 568, 569] (by decide +kernel) (by decide +kernel)
set_option maxRecDepth 20000 in
theorem gL_law_X3_init : GoodIn wsL_law (wsX3_init) := ggL_law_X3_init
set_option maxRecDepth 20000 in
theorem ggL_law_X2_check : GoodIn wsL_law wsX2_check := goodIn_r _ [77, 20, 14, 13, 12, 78, 79, 80, 81, 2, 82, 83, 84, 85, 86, 87, 88, 89, 90, 10, 11, 91, 92, 93, 94, 95, 96, 97, 98, 15, 99, 100, 101, 102, 103, 104, 105, 106, 107, 108, 528, 529, 530, 531, 532, 533, 534, 535, 536, 583, 584, 585, 586, 587, 588, 589, 590, 591, 592, 593, 594, 595, 596, 597, 598, 599, 600] (by decide +kernel) (by decide +kernel)
set_option maxRecDepth 20000 in
theorem gL_law_X2_check : GoodIn wsL_law (wsV RL 13 RX2 yX2_check wsX2_check) := goodIn_app (goodIn_of _ (by decide +kernel)) ggL_law_X2_check
set_option maxRecDepth 20000 in
theorem ggL_law_X3_check : GoodIn wsL_law wsX3_check := goodIn_r _ [112, 113, 114, 46, 47, 48, 49, 50, 51, 53, 115, 116, 5, 117, 118, 119, 120, 121, 537, 538, 539, 540, 541, 542, 543, 544, 545, 546, 547, 548, 549, 550, 551, 552, 553, 554, 555, 556, 557, 558, 559, 560, 561, 562, 563, 564, 565, 566, 567, 568, 569] (by decide +kernel) (by decide +kernel)
set_option maxRecDepth 20000 in
theorem gL_law_X3_check : GoodIn wsL_law (wsV RL 17 RX3 yX3_check wsX3_check) := goodIn_app (goodIn_of _ (by decide +kernel)) ggL_law_X3_check
set_option maxRecDepth 20000 in
theorem ggL_law_X2_begin : GoodIn wsL_law wsX2_begin := goodIn_r _ [125, 20, 21, 19, 126, 127, 128, 2, 129, 130, 131, 132, 133, 14, 134, 83, 84, 85, 86, 13, 80, 81, 82, 528, 529, 530, 531, 532, 533, 534, 535, 536, 583, 584, 585, 586, 587, 588, 589, 590, 591, 592, 593, 594, 595, 596, 597, 598, 599, 600] (by decide +kernel) (by decide +kernel)
set_option maxRecDepth 20000 in
theorem gL_law_X2_begin : GoodIn wsL_law (wsV RL 18 RX2 yX2_begin wsX2_begin) := goodIn_app (goodIn_of _ (by decide +kernel)) ggL_law_X2_begin
set_option maxRecDepth 20000 in
theorem ggL_law_X3_begin : GoodIn wsL_law wsX3_begin := goodIn_r _ [138, 113, 114, 59, 54, 60, 139, 537, 538, 539, 540, 541, 542, 543, 544, 545, 546, 547, 548, 549, 550, 551, 552, 553, 554, 555, 556, 557, 558, 559, 560, 561, 562, 563, 564, 565, 566, 567, 568, 569] (by decide +kernel) (by decide +kernel)
set_option maxRecDepth 20000 in
theorem gL_law_X3_begin : GoodIn wsL_law (wsV RL 22 RX3 yX3_begin wsX3_begin) := goodIn_app (goodIn_of _ (by decide +kernel)) ggL_law_X3_begin
set_option maxRecDepth 20000 in
theorem ggL_law_X2_ran : GoodIn wsL_law wsX2_ran := goodIn_r _ [143, 20, 83, 84, 85, 2, 86, 14, 13, 80, 81, 82, 144, 145, 146, 79, 147, 95, 528, 529, 530, 531, 532, 533, 534, 535, 536, 583, 584, 585, 586, 587, 588, 589, 590, 591, 592, 593, 594, 595, 596, 597, 598, 599, 600] (by decide +kernel) (by decide +kernel)
set_option maxRecDepth 20000 in
theorem gL_law_X2_ran : GoodIn wsL_law (wsV RL 23 RX2 yX2_ran wsX2_ran) := goodIn_app (goodIn_of _ (by decide +kernel)) ggL_law_X2_ran
set_option maxRecDepth 20000 in
theorem ggL_law_X3_ran : GoodIn wsL_law wsX3_ran := goodIn_r _ [151, 113, 60, 118, 119, 120, 5, 121, 114, 115, 116, 117, 537, 538, 539, 540, 541, 542, 543, 544, 545, 546, 547, 548, 549, 550, 551, 552, 553, 554, 555, 556, 557, 558, 559, 560, 561, 562, 563, 564, 565, 566, 567, 568, 569] (by decide +kernel) (by decide +kernel)
set_option maxRecDepth 20000 in
theorem gL_law_X3_ran : GoodIn wsL_law (wsV RL 27 RX3 yX3_ran wsX3_ran) := goodIn_app (goodIn_of _ (by decide +kernel)) ggL_law_X3_ran
set_option maxRecDepth 20000 in
theorem ggL_law_X2_end : GoodIn wsL_law wsX2_end := goodIn_r _ [155, 20, 14, 19, 83, 84, 85, 2, 86, 13, 80, 81, 82, 156, 157, 158, 159, 21, 160, 161, 162, 163, 164, 165, 166, 167, 168, 79, 169, 91, 170, 171, 172, 173, 95, 96, 174, 175, 176, 177, 93, 94, 92, 104, 178, 179, 180, 181, 105, 182, 183, 184, 185, 106, 186, 187, 188, 189, 97, 190, 191, 192, 193, 100, 101, 194, 195, 196, 197, 16, 18, 17, 198, 199, 200, 201, 99, 202, 203, 204, 205, 98, 206, 207, 208, 209, 210, 211, 212, 213, 214, 215, 216, 217, 218, 219, 220, 221, 102, 222, 223, 224, 225, 107, 226, 528, 529, 530, 531, 532, 533, 534, 535, 536, 583, 584, 585, 586, 587, 588, 589, 590, 591, 592, 593, 594, 595, 596, 597, 598, 599, 600] (by decide +kernel) (by decide +kernel)
set_option maxRecDepth 20000 in
theorem gL_law_X2_end : GoodIn wsL_law (wsV RL 28 RX2 yX2_end wsX2_end) := goodIn_app (goodIn_of _ (by decide +kernel)) ggL_law_X2_end
set_option maxRecDepth 20000 in
theorem ggL_law_X3_end : GoodIn wsL_law wsX3_end := goodIn_r _ [230, 113, 114, 61, 58, 60, 54, 139, 231, 232, 233, 5, 234, 56, 57, 55, 48, 62, 59, 235, 236, 237, 238, 46, 47, 239, 240, 241, 242, 65, 67, 68, 243, 66, 63, 64, 244, 245, 246, 247, 248, 249, 250, 251, 51, 252, 253, 254, 255, 49, 256, 257, 258, 259, 50, 537, 538, 539, 540, 541, 542, 543, 544, 545, 546, 547, 548, 549, 550, 551, 552, 553, 554, 555, 556, 557, 558, 559, 560, 561, 562, 563, 564, 565, 566, 567, 568, 569] (by decide +kernel) (by decide +kernel)
set_option maxRecDepth 20000 in
theorem gL_law_X3_end : GoodIn wsL_law (wsV RL 31 RX3 yX3_end wsX3_end) := goodIn_app (goodIn_of _ (by decide +kernel)) ggL_law_X3_end
set_option maxRecDepth 20000 in
theorem ggL_law_X2_fact : GoodIn wsL_law wsX2_fact := goodIn_r _ [263, 16, 80, 81, 2, 82, 528, 529, 530, 531, 532, 533, 534, 535, 536] (by decide +kernel) (by decide +kernel)
set_option maxRecDepth 20000 in
theorem gL_law_X2_fact : GoodIn wsL_law (wsV RL 32 RX2 yX2_fact wsX2_fact) := goodIn_app (goodIn_of _ (by decide +kernel)) ggL_law_X2_fact
set_option maxRecDepth 20000 in
theorem ggL_law_X3_fact : GoodIn wsL_law wsX3_fact := goodIn_r _ [267, 63, 115, 116, 5, 117, 537, 538, 539, 540, 541, 542, 543, 544, 545, 546, 547, 548, 549, 550, 551, 552, 553, 554, 555, 556, 557, 558, 559, 560, 561, 562, 563, 564, 565, 566, 567, 568, 569] (by decide +kernel) (by decide +kernel)
set_option maxRecDepth 20000 in
theorem gL_law_X3_fact : GoodIn wsL_law (wsV RL 36 RX3 yX3_fact wsX3_fact) := goodIn_app (goodIn_of _ (by decide +kernel)) ggL_law_X3_fact
set_option maxRecDepth 20000 in
theorem ggL_law_X2_room : GoodIn wsL_law wsX2_room := goodIn_r _ [271, 17, 80, 81, 2, 82, 206, 207, 208, 209, 14, 83, 84, 85, 86, 13, 210, 211, 212, 79, 213, 97, 214, 215, 216, 217, 218, 219, 220, 221, 102, 222, 223, 224, 225, 107, 98, 226, 187, 188, 189, 528, 529, 530, 531, 532, 533, 534, 535, 536, 583, 584, 585, 586, 587, 588, 589, 590, 591, 592, 593, 594, 595, 596, 597, 598, 599, 600] (by decide +kernel) (by decide +kernel)
set_option maxRecDepth 20000 in
theorem gL_law_X2_room : GoodIn wsL_law (wsV RL 37 RX2 yX2_room wsX2_room) := goodIn_app (goodIn_of _ (by decide +kernel)) ggL_law_X2_room
set_option maxRecDepth 20000 in
theorem ggL_law_X3_room : GoodIn wsL_law wsX3_room := goodIn_r _ [275, 64, 65, 115, 116, 5, 117, 244, 245, 246, 247, 114, 248, 249, 250, 251, 46, 51, 68, 537, 538, 539, 540, 541, 542, 543, 544, 545, 546, 547, 548, 549, 550, 551, 552, 553, 554, 555, 556, 557, 558, 559, 560, 561, 562, 563, 564, 565, 566, 567, 568, 569] (by decide +kernel) (by decide +kernel)
set_option maxRecDepth 20000 in
theorem gL_law_X3_room : GoodIn wsL_law (wsV RL 41 RX3 yX3_room wsX3_room) := goodIn_app (goodIn_of _ (by decide +kernel)) ggL_law_X3_room
set_option maxRecDepth 20000 in
theorem ggL_law_X2_about : GoodIn wsL_law wsX2_about := goodIn_r _ [279, 83, 84, 85, 2, 86, 14, 13, 80, 81, 82, 160, 161, 162, 163, 164, 165, 166, 167, 168, 79, 169, 91, 280, 281, 282, 283, 284, 285, 286, 92, 93, 94, 96, 102, 287, 211, 212, 213, 97, 528, 529, 530, 531, 532, 533, 534, 535, 536, 583, 584, 585, 586, 587, 588, 589, 590, 591, 592, 593, 594, 595, 596, 597, 598, 599, 600] (by decide +kernel) (by decide +kernel)
set_option maxRecDepth 20000 in
theorem gL_law_X2_about : GoodIn wsL_law (wsV RL 42 RX2 yX2_about wsX2_about) := goodIn_app (goodIn_of _ (by decide +kernel)) ggL_law_X2_about
set_option maxRecDepth 20000 in
theorem ggL_law_X3_about : GoodIn wsL_law wsX3_about := goodIn_r _ [291, 118, 119, 120, 5, 121, 114, 115, 116, 117, 292, 293, 294, 295, 54, 55, 56, 57, 65, 58, 46, 235, 236, 237, 238, 47, 537, 538, 539, 540, 541, 542, 543, 544, 545, 546, 547, 548, 549, 550, 551, 552, 553, 554, 555, 556, 557, 558, 559, 560, 561, 562, 563, 564, 565, 566, 567, 568, 569] (by decide +kernel) (by decide +kernel)
set_option maxRecDepth 20000 in
theorem gL_law_X3_about : GoodIn wsL_law (wsV RL 45 RX3 yX3_about wsX3_about) := goodIn_app (goodIn_of _ (by decide +kernel)) ggL_law_X3_about
set_option maxRecDepth 20000 in
theorem ggL_law_X2_frozen : GoodIn wsL_law wsX2_frozen := goodIn_r _ [299, 300, 83, 84, 85, 2, 86, 14, 13, 80, 81, 82, 210, 211, 212, 79, 213, 97, 583, 584, 585, 586, 587, 588, 589, 590, 591, 592, 593, 594, 595, 596, 597, 598, 599, 600, 528, 529, 530, 531, 532, 533, 534, 535, 536] (by decide +kernel) (by decide +kernel)
set_option maxRecDepth 20000 in
theorem gL_law_X2_frozen : GoodIn wsL_law (wsV RL 46 RX2 yX2_frozen wsX2_frozen) := goodIn_app (goodIn_of _ (by decide +kernel)) ggL_law_X2_frozen
set_option maxRecDepth 20000 in
theorem ggL_law_X3_frozen : GoodIn wsL_law wsX3_frozen := goodIn_r _ [304, 65, 66, 118, 119, 120, 5, 121, 114, 115, 116, 117, 537, 538, 539, 540, 541, 542, 543, 544, 545, 546, 547, 548, 549, 550, 551, 552, 553, 554, 555, 556, 557, 558, 559, 560, 561, 562, 563, 564, 565, 566, 567, 568, 569] (by decide +kernel) (by decide +kernel)
set_option maxRecDepth 20000 in
theorem gL_law_X3_frozen : GoodIn wsL_law (wsV RL 49 RX3 yX3_frozen wsX3_frozen) := goodIn_app (goodIn_of _ (by decide +kernel)) ggL_law_X3_frozen
set_option maxRecDepth 20000 in
theorem ggL_law_X2_frozenAt : GoodIn wsL_law wsX2_frozenAt := goodIn_r _ [308, 309, 83, 84, 85, 2, 86, 14, 13, 80, 81, 82, 583, 584, 585, 586, 587, 588, 589, 590, 591, 592, 593, 594, 595, 596, 597, 598, 599, 600, 528, 529, 530, 531, 532, 533, 534, 535, 536] (by decide +kernel) (by decide +kernel)
set_option maxRecDepth 20000 in
theorem gL_law_X2_frozenAt : GoodIn wsL_law (wsV RL 50 RX2 yX2_frozenAt wsX2_frozenAt) := goodIn_app (goodIn_of _ (by decide +kernel)) ggL_law_X2_frozenAt
set_option maxRecDepth 20000 in
theorem ggL_law_X3_frozenAt : GoodIn wsL_law wsX3_frozenAt := goodIn_r _ [313, 65, 67, 118, 119, 120, 5, 121, 114, 115, 116, 117, 537, 538, 539, 540, 541, 542, 543, 544, 545, 546, 547, 548, 549, 550, 551, 552, 553, 554, 555, 556, 557, 558, 559, 560, 561, 562, 563, 564, 565, 566, 567, 568, 569] (by decide +kernel) (by decide +kernel)
set_option maxRecDepth 20000 in
theorem gL_law_X3_frozenAt : GoodIn wsL_law (wsV RL 53 RX3 yX3_frozenAt wsX3_frozenAt) := goodIn_app (goodIn_of _ (by decide +kernel)) ggL_law_X3_frozenAt
set_option maxRecDepth 20000 in
theorem ggL_law_X2_lamp : GoodIn wsL_law wsX2_lamp := goodIn_r _ [317, 14, 318, 134, 83, 84, 85, 2, 86, 13, 80, 81, 82, 528, 529, 530, 531, 532, 533, 534, 535, 536, 583, 584, 585, 586, 587, 588, 589, 590, 591, 592, 593, 594, 595, 596, 597, 598, 599, 600] (by decide +kernel) (by decide +kernel)
set_option maxRecDepth 20000 in
theorem gL_law_X2_lamp : GoodIn wsL_law (wsV RL 54 RX2 yX2_lamp wsX2_lamp) := goodIn_app (goodIn_of _ (by decide +kernel)) ggL_law_X2_lamp
set_option maxRecDepth 20000 in
theorem ggL_law_X3_lamp : GoodIn wsL_law wsX3_lamp := goodIn_r _ [322, 114, 53, 54, 537, 538, 539, 540, 541, 542, 543, 544, 545, 546, 547, 548, 549, 550, 551, 552, 553, 554, 555, 556, 557, 558, 559, 560, 561, 562, 563, 564, 565, 566, 567, 568, 569] (by decide +kernel) (by decide +kernel)
set_option maxRecDepth 20000 in
theorem gL_law_X3_lamp : GoodIn wsL_law (wsV RL 57 RX3 yX3_lamp wsX3_lamp) := goodIn_app (goodIn_of _ (by decide +kernel)) ggL_law_X3_lamp
set_option maxRecDepth 20000 in
theorem ggL_law_X2_clear : GoodIn wsL_law wsX2_clear := goodIn_r _ [326, 20, 14, 83, 84, 85, 2, 86, 13, 80, 81, 82, 327, 328, 329, 79, 330, 92, 93, 94, 96, 91, 331, 219, 220, 221, 102, 186, 187, 188, 189, 97, 528, 529, 530, 531, 532, 533, 534, 535, 536, 583, 584, 585, 586, 587, 588, 589, 590, 591, 592, 593, 594, 595, 596, 597, 598, 599, 600] (by decide +kernel) (by decide +kernel)
set_option maxRecDepth 20000 in
theorem gL_law_X2_clear : GoodIn wsL_law (wsV RL 58 RX2 yX2_clear wsX2_clear) := goodIn_app (goodIn_of _ (by decide +kernel)) ggL_law_X2_clear
set_option maxRecDepth 20000 in
theorem ggL_law_X3_clear : GoodIn wsL_law wsX3_clear := goodIn_r _ [335, 113, 114, 55, 56, 57, 58, 46, 54, 65, 537, 538, 539, 540, 541, 542, 543, 544, 545, 546, 547, 548, 549, 550, 551, 552, 553, 554, 555, 556, 557, 558, 559, 560, 561, 562, 563, 564, 565, 566, 567, 568, 569] (by decide +kernel) (by decide +kernel)
set_option maxRecDepth 20000 in
theorem gL_law_X3_clear : GoodIn wsL_law (wsV RL 61 RX3 yX3_clear wsX3_clear) := goodIn_app (goodIn_of _ (by decide +kernel)) ggL_law_X3_clear
set_option maxRecDepth 20000 in
theorem ggL_law_X2_cause : GoodIn wsL_law wsX2_cause := goodIn_r _ [339, 14, 25, 340, 341, 2, 342, 80, 81, 82, 343, 344, 345, 24, 346, 31, 29, 30, 32, 528, 529, 530, 531, 532, 533, 534, 535, 536, 570, 571, 572, 573, 574, 575, 576, 577, 578, 579, 580, 581, 582] (by decide +kernel) (by decide +kernel)
set_option maxRecDepth 20000 in
theorem gL_law_X2_cause : GoodIn wsL_law (wsV RL 62 RX2 yX2_cause wsX2_cause) := goodIn_app (goodIn_of _ (by decide +kernel)) ggL_law_X2_cause
set_option maxRecDepth 20000 in
theorem ggL_law_X3_cause : GoodIn wsL_law wsX3_cause := goodIn_r _ [350, 114, 351, 69, 70, 115, 116, 5, 117, 537, 538, 539, 540, 541, 542, 543, 544, 545, 546, 547, 548, 549, 550, 551, 552, 553, 554, 555, 556, 557, 558, 559, 560, 561, 562, 563, 564, 565, 566, 567, 568, 569] (by decide +kernel) (by decide +kernel)
set_option maxRecDepth 20000 in
theorem gL_law_X3_cause : GoodIn wsL_law (wsV RL 65 RX3 yX3_cause wsX3_cause) := goodIn_app (goodIn_of _ (by decide +kernel)) ggL_law_X3_cause
set_option maxRecDepth 20000 in
theorem ggL_law_X2_explains : GoodIn wsL_law wsX2_explains := goodIn_r _ [355, 25, 356, 340, 341, 2, 342, 357, 358, 359, 360, 14, 361, 83, 84, 85, 86, 13, 80, 81, 82, 130, 131, 132, 133, 134, 362, 363, 364, 24, 365, 32, 280, 281, 282, 528, 529, 530, 531, 532, 533, 534, 535, 536, 570, 571, 572, 573, 574, 575, 576, 577, 578, 579, 580, 581, 582, 583, 584, 585, 586, 587, 588, 589, 590, 591, 592, 593, 594, 595, 596, 597, 598, 599, 600] (by decide +kernel) (by decide +kernel)
set_option maxRecDepth 20000 in
theorem gL_law_X2_explains : GoodIn wsL_law (wsV RL 66 RX2 yX2_explains wsX2_explains) := goodIn_app (goodIn_of _ (by decide +kernel)) ggL_law_X2_explains
set_option maxRecDepth 20000 in
theorem ggL_law_X3_explains : GoodIn wsL_law wsX3_explains := goodIn_r _ [369, 351, 115, 116, 5, 117, 370, 371, 372, 373, 69, 114, 58, 54, 537, 538, 539, 540, 541, 542, 543, 544, 545, 546, 547, 548, 549, 550, 551, 552, 553, 554, 555, 556, 557, 558, 559, 560, 561, 562, 563, 564, 565, 566, 567, 568, 569] (by decide +kernel) (by decide +kernel)
set_option maxRecDepth 20000 in
theorem gL_law_X3_explains : GoodIn wsL_law (wsV RL 69 RX3 yX3_explains wsX3_explains) := goodIn_app (goodIn_of _ (by decide +kernel)) ggL_law_X3_explains
set_option maxRecDepth 20000 in
theorem ggL_law_X2_least : GoodIn wsL_law wsX2_least := goodIn_r _ [377, 25, 378, 379, 380, 381, 2, 382, 357, 358, 359, 360, 14, 361, 83, 84, 85, 86, 13, 80, 81, 82, 130, 131, 132, 133, 134, 383, 384, 385, 24, 386, 38, 39, 31, 40, 41, 387, 388, 389, 390, 34, 33, 391, 392, 393, 394, 395, 396, 397, 398, 363, 364, 365, 32, 528, 529, 530, 531, 532, 533, 534, 535, 536, 570, 571, 572, 573, 574, 575, 576, 577, 578, 579, 580, 581, 582, 583, 584, 585, 586, 587, 588, 589, 590, 591, 592, 593, 594, 595, 596, 597, 598, 599, 600] (by decide +kernel) (by decide +kernel)
set_option maxRecDepth 20000 in
theorem gL_law_X2_least : GoodIn wsL_law (wsV RL 70 RX2 yX2_least wsX2_least) := goodIn_app (goodIn_of _ (by decide +kernel)) ggL_law_X2_least
set_option maxRecDepth 20000 in
theorem ggL_law_X3_least : GoodIn wsL_law wsX3_least := goodIn_r _ [402, 403, 404, 405, 406, 5, 407, 351, 71, 370, 371, 372, 373, 69, 114, 58, 54, 408, 409, 410, 537, 538, 539, 540, 541, 542, 543, 544, 545, 546, 547, 548, 549, 550, 551, 552, 553, 554, 555, 556, 557, 558, 559, 560, 561, 562, 563, 564, 565, 566, 567, 568, 569] (by decide +kernel) (by decide +kernel)
set_option maxRecDepth 20000 in
theorem gL_law_X3_least : GoodIn wsL_law (wsV RL 73 RX3 yX3_least wsX3_least) := goodIn_app (goodIn_of _ (by decide +kernel)) ggL_law_X3_least
set_option maxRecDepth 20000 in
theorem ggL_law_X2_leastAt : GoodIn wsL_law wsX2_leastAt := goodIn_r _ [414, 25, 378, 415, 379, 380, 381, 2, 382, 357, 358, 359, 360, 14, 361, 83, 84, 85, 86, 13, 80, 81, 82, 130, 131, 132, 133, 134, 383, 384, 385, 24, 386, 38, 39, 31, 40, 41, 387, 388, 389, 390, 34, 33, 391, 392, 393, 394, 395, 396, 397, 398, 363, 364, 365, 32, 528, 529, 530, 531, 532, 533, 534, 535, 536, 570, 571, 572, 573, 574, 575, 576, 577, 578, 579, 580, 581, 582, 583, 584, 585, 586, 587, 588, 589, 590, 591, 592, 593, 594, 595, 596, 597, 598, 599, 600] (by decide +kernel) (by decide +kernel)
set_option maxRecDepth 20000 in
theorem gL_law_X2_leastAt : GoodIn wsL_law (wsV RL 74 RX2 yX2_leastAt wsX2_leastAt) := goodIn_app (goodIn_of _ (by decide +kernel)) ggL_law_X2_leastAt
set_option maxRecDepth 20000 in
theorem ggL_law_X3_leastAt : GoodIn wsL_law wsX3_leastAt := goodIn_r _ [419, 403, 71, 404, 405, 406, 5, 407, 351, 370, 371, 372, 373, 69, 114, 58, 54, 408, 409, 410, 115, 116, 117, 537, 538, 539, 540, 541, 542, 543, 544, 545, 546, 547, 548, 549, 550, 551, 552, 553, 554, 555, 556, 557, 558, 559, 560, 561, 562, 563, 564, 565, 566, 567, 568, 569] (by decide +kernel) (by decide +kernel)
set_option maxRecDepth 20000 in
theorem gL_law_X3_leastAt : GoodIn wsL_law (wsV RL 77 RX3 yX3_leastAt wsX3_leastAt) := goodIn_app (goodIn_of _ (by decide +kernel)) ggL_law_X3_leastAt
set_option maxRecDepth 20000 in
theorem ggL_law_X2_plan : GoodIn wsL_law wsX2_plan := goodIn_r _ [423, 25, 379, 380, 381, 2, 382, 357, 358, 359, 360, 14, 361, 83, 84, 85, 86, 13, 80, 81, 82, 130, 131, 132, 133, 134, 383, 384, 385, 24, 386, 38, 39, 31, 40, 41, 387, 388, 389, 390, 34, 33, 391, 392, 393, 394, 395, 396, 397, 398, 363, 364, 365, 32, 424, 425, 426, 427, 36, 428, 429, 430, 431, 35, 432, 433, 434, 435, 436, 437, 438, 439, 440, 441, 442, 443, 37, 30, 528, 529, 530, 531, 532, 533, 534, 535, 536, 583, 584, 585, 586, 587, 588, 589, 590, 591, 592, 593, 594, 595, 596, 597, 598, 599, 600, 570, 571, 572, 573, 574, 575, 576, 577, 578, 579, 580, 581, 582] (by decide +kernel) (by decide +kernel)
set_option maxRecDepth 20000 in
theorem gL_law_X2_plan : GoodIn wsL_law (wsV RL 78 RX2 yX2_plan wsX2_plan) := goodIn_app (goodIn_of _ (by decide +kernel)) ggL_law_X2_plan
set_option maxRecDepth 20000 in
theorem ggL_law_X3_plan : GoodIn wsL_law wsX3_plan := goodIn_r _ [447, 403, 72, 404, 405, 406, 5, 407, 351, 71, 370, 371, 372, 373, 69, 114, 58, 54, 408, 409, 410, 448, 449, 450, 451, 73, 70, 452, 453, 454, 455, 537, 538, 539, 540, 541, 542, 543, 544, 545, 546, 547, 548, 549, 550, 551, 552, 553, 554, 555, 556, 557, 558, 559, 560, 561, 562, 563, 564, 565, 566, 567, 568, 569] (by decide +kernel) (by decide +kernel)
set_option maxRecDepth 20000 in
theorem gL_law_X3_plan : GoodIn wsL_law (wsV RL 81 RX3 yX3_plan wsX3_plan) := goodIn_app (goodIn_of _ (by decide +kernel)) ggL_law_X3_plan
set_option maxRecDepth 20000 in
theorem ggL_law_X2_test : GoodIn wsL_law wsX2_test := goodIn_r _ [459, 25, 379, 380, 381, 2, 382, 357, 358, 359, 360, 14, 361, 83, 84, 85, 86, 13, 80, 81, 82, 130, 131, 132, 133, 134, 383, 384, 385, 24, 386, 38, 39, 31, 40, 41, 387, 388, 389, 390, 34, 33, 391, 392, 393, 394, 395, 396, 397, 398, 363, 364, 365, 32, 460, 461, 462, 463, 37, 428, 429, 430, 431, 35, 432, 433, 434, 435, 436, 437, 438, 439, 440, 441, 442, 443, 30, 36, 528, 529, 530, 531, 532, 533, 534, 535, 536, 583, 584, 585, 586, 587, 588, 589, 590, 591, 592, 593, 594, 595, 596, 597, 598, 599, 600, 570, 571, 572, 573, 574, 575, 576, 577, 578, 579, 580, 581, 582] (by decide +kernel) (by decide +kernel)
set_option maxRecDepth 20000 in
theorem gL_law_X2_test : GoodIn wsL_law (wsV RL 82 RX2 yX2_test wsX2_test) := goodIn_app (goodIn_of _ (by decide +kernel)) ggL_law_X2_test
set_option maxRecDepth 20000 in
theorem ggL_law_X3_test : GoodIn wsL_law wsX3_test := goodIn_r _ [467, 403, 73, 404, 405, 406, 5, 407, 351, 71, 370, 371, 372, 373, 69, 114, 58, 54, 408, 409, 410, 448, 449, 450, 451, 72, 70, 452, 453, 454, 455, 537, 538, 539, 540, 541, 542, 543, 544, 545, 546, 547, 548, 549, 550, 551, 552, 553, 554, 555, 556, 557, 558, 559, 560, 561, 562, 563, 564, 565, 566, 567, 568, 569] (by decide +kernel) (by decide +kernel)
set_option maxRecDepth 20000 in
theorem gL_law_X3_test : GoodIn wsL_law (wsV RL 85 RX3 yX3_test wsX3_test) := goodIn_app (goodIn_of _ (by decide +kernel)) ggL_law_X3_test
set_option maxRecDepth 20000 in
theorem ggL_law_X2_foretells : GoodIn wsL_law wsX2_foretells := goodIn_r _ [471, 472, 83, 84, 85, 2, 86, 14, 13, 80, 81, 82, 583, 584, 585, 586, 587, 588, 589, 590, 591, 592, 593, 594, 595, 596, 597, 598, 599, 600, 528, 529, 530, 531, 532, 533, 534, 535, 536] (by decide +kernel) (by decide +kernel)
set_option maxRecDepth 20000 in
theorem gL_law_X2_foretells : GoodIn wsL_law (wsV RL 86 RX2 yX2_foretells wsX2_foretells) := goodIn_app (goodIn_of _ (by decide +kernel)) ggL_law_X2_foretells
set_option maxRecDepth 20000 in
theorem ggL_law_X3_foretells : GoodIn wsL_law wsX3_foretells := goodIn_r _ [476, 62, 118, 119, 120, 5, 121, 114, 115, 116, 117, 537, 538, 539, 540, 541, 542, 543, 544, 545, 546, 547, 548, 549, 550, 551, 552, 553, 554, 555, 556, 557, 558, 559, 560, 561, 562, 563, 564, 565, 566, 567, 568, 569] (by decide +kernel) (by decide +kernel)
set_option maxRecDepth 20000 in
theorem gL_law_X3_foretells : GoodIn wsL_law (wsV RL 89 RX3 yX3_foretells wsX3_foretells) := goodIn_app (goodIn_of _ (by decide +kernel)) ggL_law_X3_foretells
set_option maxRecDepth 20000 in
theorem ggL_law_X2_sets : GoodIn wsL_law wsX2_sets := goodIn_r _ [480, 481, 83, 84, 85, 2, 86, 14, 13, 80, 81, 82, 583, 584, 585, 586, 587, 588, 589, 590, 591, 592, 593, 594, 595, 596, 597, 598, 599, 600, 528, 529, 530, 531, 532, 533, 534, 535, 536] (by decide +kernel) (by decide +kernel)
set_option maxRecDepth 20000 in
theorem gL_law_X2_sets : GoodIn wsL_law (wsV RL 90 RX2 yX2_sets wsX2_sets) := goodIn_app (goodIn_of _ (by decide +kernel)) ggL_law_X2_sets
set_option maxRecDepth 20000 in
theorem ggL_law_X3_sets : GoodIn wsL_law wsX3_sets := goodIn_r _ [485, 61, 118, 119, 120, 5, 121, 114, 115, 116, 117, 537, 538, 539, 540, 541, 542, 543, 544, 545, 546, 547, 548, 549, 550, 551, 552, 553, 554, 555, 556, 557, 558, 559, 560, 561, 562, 563, 564, 565, 566, 567, 568, 569] (by decide +kernel) (by decide +kernel)
set_option maxRecDepth 20000 in
theorem gL_law_X3_sets : GoodIn wsL_law (wsV RL 93 RX3 yX3_sets wsX3_sets) := goodIn_app (goodIn_of _ (by decide +kernel)) ggL_law_X3_sets
set_option maxRecDepth 20000 in
theorem ggL_law_X2_count : GoodIn wsL_law wsX2_count := goodIn_r _ [489, 14, 19, 25, 356, 20, 130, 131, 132, 2, 133, 134, 83, 84, 85, 86, 13, 80, 81, 82, 490, 392, 393, 394, 395, 396, 397, 206, 207, 208, 209, 210, 211, 212, 79, 213, 97, 280, 281, 282, 528, 529, 530, 531, 532, 533, 534, 535, 536, 570, 571, 572, 573, 574, 575, 576, 577, 578, 579, 580, 581, 582, 583, 584, 585, 586, 587, 588, 589, 590, 591, 592, 593, 594, 595, 596, 597, 598, 599, 600] (by decide +kernel) (by decide +kernel)
set_option maxRecDepth 20000 in
theorem gL_law_X2_count : GoodIn wsL_law (wsV RL 94 RX2 yX2_count wsX2_count) := goodIn_app (goodIn_of _ (by decide +kernel)) ggL_law_X2_count
set_option maxRecDepth 20000 in
theorem ggL_law_X3_count : GoodIn wsL_law wsX3_count := goodIn_r _ [494, 114, 139, 351, 113, 495, 496, 497, 5, 498, 54, 244, 245, 246, 247, 65, 537, 538, 539, 540, 541, 542, 543, 544, 545, 546, 547, 548, 549, 550, 551, 552, 553, 554, 555, 556, 557, 558, 559, 560, 561, 562, 563, 564, 565, 566, 567, 568, 569] (by decide +kernel) (by decide +kernel)
set_option maxRecDepth 20000 in
theorem gL_law_X3_count : GoodIn wsL_law (wsV RL 97 RX3 yX3_count wsX3_count) := goodIn_app (goodIn_of _ (by decide +kernel)) ggL_law_X3_count
set_option maxRecDepth 20000 in
theorem ggL_law_X2_digest : GoodIn wsL_law wsX2_digest := goodIn_r _ [502, 503, 504, 14, 16, 25, 505, 487, 488, 2, 489, 19, 356, 20, 130, 131, 132, 133, 134, 83, 84, 85, 86, 13, 80, 81, 82, 490, 392, 393, 394, 395, 396, 397, 206, 207, 208, 209, 210, 211, 212, 79, 213, 97, 280, 281, 282, 506, 507, 508, 509, 510, 277, 278, 279, 160, 161, 162, 163, 164, 165, 166, 167, 168, 169, 91, 283, 284, 285, 286, 92, 93, 94, 96, 102, 287, 511, 306, 307, 308, 309, 512, 297, 298, 299, 300, 513, 478, 479, 480, 481, 514, 515, 516, 24, 517, 31, 518, 29, 30, 528, 529, 530, 531, 532, 533, 534, 535, 536, 570, 571, 572, 573, 574, 575, 576, 577, 578, 579, 580, 581, 582, 583, 584, 585, 586, 587, 588, 589, 590, 591, 592, 593, 594, 595, 596, 597, 598, 599, 600] (by decide +kernel) (by decide +kernel)
set_option maxRecDepth 20000 in
theorem gL_law_X2_digest : GoodIn wsL_law (wsV RL 98 RX2 yX2_digest wsX2_digest) := goodIn_app (goodIn_of _ (by decide +kernel)) ggL_law_X2_digest
set_option maxRecDepth 20000 in
theorem ggL_law_X3_digest : GoodIn wsL_law wsX3_digest := goodIn_r _ [522, 523, 524, 114, 61, 63, 351, 69, 70, 525, 492, 493, 5, 494, 139, 113, 495, 496, 497, 498, 54, 244, 245, 246, 247, 65, 292, 293, 294, 295, 55, 56, 57, 58, 46, 235, 236, 237, 238, 47, 526, 311, 312, 313, 67, 118, 119, 120, 121, 115, 116, 117, 527, 302, 303, 304, 66, 537, 538, 539, 540, 541, 542, 543, 544, 545, 546, 547, 548, 549, 550, 551, 552, 553, 554, 555, 556, 557, 558, 559, 560, 561, 562, 563, 564, 565, 566, 567, 568, 569] (by decide +kernel) (by decide +kernel)
set_option maxRecDepth 20000 in
theorem gL_law_X3_digest : GoodIn wsL_law (wsV RL 102 RX3 yX3_digest wsX3_digest) := goodIn_app (goodIn_of _ (by decide +kernel)) ggL_law_X3_digest
