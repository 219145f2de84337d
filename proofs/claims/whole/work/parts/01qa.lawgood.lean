set_option maxRecDepth 20000 in
theorem ggL_law_X5_init : GoodIn wsL_law wsX5_init := goodIn_r _ [8, 9, 10, 11, 12, 13, 14, 15, 16, 17, 18, 19, 20, 21, 22, 23, 24, 25, 26, 27, 28, 29, 30, 31, 32, 33, 34, 35, 36, 37, 38, 39, 40, 41, 42, 43, 44, 619, 620, 621, 622, 623, 624, 625, 580, 581, 582, 583, 584, 585, 586, 587, 588, 589, 590] (by decide +kernel) (by decide +kernel)
set_option maxRecDepth 20000 in
theorem gL_law_X5_init : GoodIn wsL_law (wsX5_init) := ggL_law_X5_init
set_option maxRecDepth 20000 in
theorem ggL_law_X6_init : GoodIn wsL_law wsX6_init := goodIn_r _ [47, 48, 10, 11, 49, 50, 51, 24, 52, 33, 53, 54, 55, 56, 57, 58, 59, 60, 61, 62, 63, 64, 65, 66, 67, 68, 69, 591, 592, 593, 594, 595, 596, 597, 598, 599, 600, 601, 602, 603, 604, 605, 606, 607, 608, 609, 610, 611, 612, 613, 614, 615, 616, 617, 618] (by decide +kernel) (by decide +kernel)
set_option maxRecDepth 20000 in
theorem gL_law_X6_init : GoodIn wsL_law (wsX6_init) := ggL_law_X6_init
set_option maxRecDepth 20000 in
theorem ggL_law_X5_body : GoodIn wsL_law wsX5_body := goodIn_r _ [73, 19, 74, 75, 15, 76, 77, 78, 2, 79, 80, 36, 37, 14, 38, 39, 40, 41, 34, 30, 42, 43, 44, 81, 82, 83, 84, 85, 86, 87, 88, 89, 90, 91, 92, 93, 94, 580, 581, 582, 583, 584, 585, 586, 587, 588, 589, 590, 626, 627, 628, 629, 630, 631, 619, 620, 621, 622, 623, 624, 625] (by decide +kernel) (by decide +kernel)
set_option maxRecDepth 20000 in
theorem gL_law_X5_body : GoodIn wsL_law (wsV RL 13 RX5 yX5_body wsX5_body) := goodIn_app (goodIn_r _ [70, 71, 72, 2] (by decide +kernel) (by decide +kernel)) ggL_law_X5_body
set_option maxRecDepth 20000 in
theorem ggL_law_X6_body : GoodIn wsL_law wsX6_body := goodIn_r _ [98, 99, 100, 101, 102, 103, 54, 57, 104, 49, 50, 51, 105, 106, 107, 5, 108, 109, 110, 111, 112, 61, 113, 114, 115, 116, 591, 592, 593, 594, 595, 596, 597, 598, 599, 600, 601, 602, 603, 604, 605, 606, 607, 608, 609, 610, 611, 612, 613, 614, 615, 616, 617, 618] (by decide +kernel) (by decide +kernel)
set_option maxRecDepth 20000 in
theorem gL_law_X6_body : GoodIn wsL_law (wsV RL 17 RX6 yX6_body wsX6_body) := goodIn_app (goodIn_r _ [95, 96, 97, 5] (by decide +kernel) (by decide +kernel)) ggL_law_X6_body
set_option maxRecDepth 20000 in
theorem ggL_law_X5_element : GoodIn wsL_law wsX5_element := goodIn_r _ [120, 121, 17, 16, 122, 123, 76, 77, 78, 2, 79, 124, 125, 126, 127, 10, 11, 128, 129, 130, 580, 581, 582, 583, 584, 585, 586, 587, 588, 589, 590, 632, 633, 634, 635] (by decide +kernel) (by decide +kernel)
set_option maxRecDepth 20000 in
theorem gL_law_X5_element : GoodIn wsL_law (wsV RL 18 RX5 yX5_element wsX5_element) := goodIn_app (goodIn_r _ [117, 118, 119, 2] (by decide +kernel) (by decide +kernel)) ggL_law_X5_element
set_option maxRecDepth 20000 in
theorem ggL_law_X6_element : GoodIn wsL_law wsX6_element := goodIn_r _ [134, 99, 135, 136, 52, 53, 105, 106, 107, 5, 108, 591, 592, 593, 594, 595, 596, 597, 598, 599, 600, 601, 602, 603, 604, 605, 606, 607, 608, 609, 610, 611, 612, 613, 614, 615, 616, 617, 618] (by decide +kernel) (by decide +kernel)
set_option maxRecDepth 20000 in
theorem gL_law_X6_element : GoodIn wsL_law (wsV RL 22 RX6 yX6_element wsX6_element) := goodIn_app (goodIn_r _ [131, 132, 133, 5] (by decide +kernel) (by decide +kernel)) ggL_law_X6_element
set_option maxRecDepth 20000 in
theorem ggL_law_X5_lose : GoodIn wsL_law wsX5_lose := goodIn_r _ [140, 141, 76, 142, 143, 144, 2, 145, 17, 146, 147, 148, 149, 632, 633, 634, 635, 580, 581, 582, 583, 584, 585, 586, 587, 588, 589, 590] (by decide +kernel) (by decide +kernel)
set_option maxRecDepth 20000 in
theorem gL_law_X5_lose : GoodIn wsL_law (wsV RL 23 RX5 yX5_lose wsX5_lose) := goodIn_app (goodIn_r _ [137, 138, 139, 2] (by decide +kernel) (by decide +kernel)) ggL_law_X5_lose
set_option maxRecDepth 20000 in
theorem ggL_law_X6_lose : GoodIn wsL_law wsX6_lose := goodIn_r _ [153, 99, 53, 105, 154, 155, 156, 5, 157, 136, 106, 107, 108, 158, 159, 160, 161, 591, 592, 593, 594, 595, 596, 597, 598, 599, 600, 601, 602, 603, 604, 605, 606, 607, 608, 609, 610, 611, 612, 613, 614, 615, 616, 617, 618] (by decide +kernel) (by decide +kernel)
set_option maxRecDepth 20000 in
theorem gL_law_X6_lose : GoodIn wsL_law (wsV RL 27 RX6 yX6_lose wsX6_lose) := goodIn_app (goodIn_r _ [150, 151, 152, 5] (by decide +kernel) (by decide +kernel)) ggL_law_X6_lose
set_option maxRecDepth 20000 in
theorem ggL_law_X5_target : GoodIn wsL_law wsX5_target := goodIn_r _ [165, 15, 166, 19, 77, 78, 2, 79, 167, 168, 169, 14, 170, 39, 40, 171, 172, 173, 18, 174, 84, 175, 176, 177, 178, 10, 11, 179, 180, 181, 182, 183, 24, 86, 87, 88, 89, 90, 580, 581, 582, 583, 584, 585, 586, 587, 588, 589, 590, 619, 620, 621, 622, 623, 624, 625, 626, 627, 628, 629, 630, 631] (by decide +kernel) (by decide +kernel)
set_option maxRecDepth 20000 in
theorem gL_law_X5_target : GoodIn wsL_law (wsV RL 28 RX5 yX5_target wsX5_target) := goodIn_app (goodIn_r _ [162, 163, 164, 2] (by decide +kernel) (by decide +kernel)) ggL_law_X5_target
set_option maxRecDepth 20000 in
theorem ggL_law_X6_target : GoodIn wsL_law wsX6_target := goodIn_r _ [187, 99, 188, 135, 189, 190, 103, 54, 55, 56, 57, 58, 106, 107, 5, 108, 191, 192, 193, 194, 104, 113, 114, 115, 116, 49, 591, 592, 593, 594, 595, 596, 597, 598, 599, 600, 601, 602, 603, 604, 605, 606, 607, 608, 609, 610, 611, 612, 613, 614, 615, 616, 617, 618] (by decide +kernel) (by decide +kernel)
set_option maxRecDepth 20000 in
theorem gL_law_X6_target : GoodIn wsL_law (wsV RL 32 RX6 yX6_target wsX6_target) := goodIn_app (goodIn_r _ [184, 185, 186, 5] (by decide +kernel) (by decide +kernel)) ggL_law_X6_target
set_option maxRecDepth 20000 in
theorem ggL_law_X5_drop : GoodIn wsL_law wsX5_drop := goodIn_r _ [198, 166, 19, 580, 581, 582, 583, 584, 585, 586, 587, 588, 589, 590] (by decide +kernel) (by decide +kernel)
set_option maxRecDepth 20000 in
theorem gL_law_X5_drop : GoodIn wsL_law (wsV RL 33 RX5 yX5_drop wsX5_drop) := goodIn_app (goodIn_r _ [195, 196, 197, 2] (by decide +kernel) (by decide +kernel)) ggL_law_X5_drop
set_option maxRecDepth 20000 in
theorem ggL_law_X6_drop : GoodIn wsL_law wsX6_drop := goodIn_r _ [202, 99, 103, 591, 592, 593, 594, 595, 596, 597, 598, 599, 600, 601, 602, 603, 604, 605, 606, 607, 608, 609, 610, 611, 612, 613, 614, 615, 616, 617, 618] (by decide +kernel) (by decide +kernel)
set_option maxRecDepth 20000 in
theorem gL_law_X6_drop : GoodIn wsL_law (wsV RL 37 RX6 yX6_drop wsX6_drop) := goodIn_app (goodIn_r _ [199, 200, 201, 5] (by decide +kernel) (by decide +kernel)) ggL_law_X6_drop
set_option maxRecDepth 20000 in
theorem ggL_law_X5_taken : GoodIn wsL_law wsX5_taken := goodIn_r _ [206, 74, 207, 208, 209, 210, 211, 212, 2, 213, 19, 77, 78, 79, 214, 215, 216, 217, 218, 219, 220, 221, 222, 15, 75, 91, 92, 93, 14, 94, 39, 40, 626, 627, 628, 629, 630, 631, 580, 581, 582, 583, 584, 585, 586, 587, 588, 589, 590, 619, 620, 621, 622, 623, 624, 625] (by decide +kernel) (by decide +kernel)
set_option maxRecDepth 20000 in
theorem gL_law_X5_taken : GoodIn wsL_law (wsV RL 38 RX5 yX5_taken wsX5_taken) := goodIn_app (goodIn_r _ [203, 204, 205, 2] (by decide +kernel) (by decide +kernel)) ggL_law_X5_taken
set_option maxRecDepth 20000 in
theorem ggL_law_X6_taken : GoodIn wsL_law wsX6_taken := goodIn_r _ [226, 99, 103, 188, 227, 54, 58, 55, 56, 106, 107, 5, 108, 228, 229, 230, 231, 232, 233, 234, 235, 236, 57, 113, 114, 115, 116, 104, 49, 591, 592, 593, 594, 595, 596, 597, 598, 599, 600, 601, 602, 603, 604, 605, 606, 607, 608, 609, 610, 611, 612, 613, 614, 615, 616, 617, 618] (by decide +kernel) (by decide +kernel)
set_option maxRecDepth 20000 in
theorem gL_law_X6_taken : GoodIn wsL_law (wsV RL 42 RX6 yX6_taken wsX6_taken) := goodIn_app (goodIn_r _ [223, 224, 225, 5] (by decide +kernel) (by decide +kernel)) ggL_law_X6_taken
set_option maxRecDepth 20000 in
theorem ggL_law_X5_time : GoodIn wsL_law wsX5_time := goodIn_r _ [240, 15, 241, 142, 143, 144, 2, 145, 17, 167, 168, 169, 14, 170, 39, 40, 78, 79, 242, 243, 244, 245, 246, 247, 248, 249, 250, 34, 41, 32, 251, 252, 253, 254, 31, 255, 30, 256, 257, 258, 42, 43, 44, 580, 581, 582, 583, 584, 585, 586, 587, 588, 589, 590, 632, 633, 634, 635, 619, 620, 621, 622, 623, 624, 625] (by decide +kernel) (by decide +kernel)
set_option maxRecDepth 20000 in
theorem gL_law_X5_time : GoodIn wsL_law (wsV RL 43 RX5 yX5_time wsX5_time) := goodIn_app (goodIn_r _ [237, 238, 239, 2] (by decide +kernel) (by decide +kernel)) ggL_law_X5_time
set_option maxRecDepth 20000 in
theorem ggL_law_X6_time : GoodIn wsL_law wsX6_time := goodIn_r _ [262, 99, 154, 155, 156, 5, 157, 136, 106, 107, 108, 191, 192, 193, 194, 135, 104, 113, 114, 115, 116, 49, 263, 264, 265, 266, 59, 267, 268, 269, 270, 61, 50, 52, 51, 60, 271, 272, 273, 591, 592, 593, 594, 595, 596, 597, 598, 599, 600, 601, 602, 603, 604, 605, 606, 607, 608, 609, 610, 611, 612, 613, 614, 615, 616, 617, 618] (by decide +kernel) (by decide +kernel)
set_option maxRecDepth 20000 in
theorem gL_law_X6_time : GoodIn wsL_law (wsV RL 46 RX6 yX6_time wsX6_time) := goodIn_app (goodIn_r _ [259, 260, 261, 5] (by decide +kernel) (by decide +kernel)) ggL_law_X6_time
set_option maxRecDepth 20000 in
theorem ggL_law_X5_bend : GoodIn wsL_law wsX5_bend := goodIn_r _ [277, 15, 241, 142, 143, 144, 2, 145, 17, 167, 168, 169, 14, 170, 39, 40, 78, 79, 278, 279, 280, 281, 31, 41, 246, 247, 248, 249, 30, 250, 282, 243, 244, 245, 34, 32, 251, 252, 253, 254, 255, 256, 257, 258, 42, 43, 44, 580, 581, 582, 583, 584, 585, 586, 587, 588, 589, 590, 632, 633, 634, 635, 619, 620, 621, 622, 623, 624, 625] (by decide +kernel) (by decide +kernel)
set_option maxRecDepth 20000 in
theorem gL_law_X5_bend : GoodIn wsL_law (wsV RL 47 RX5 yX5_bend wsX5_bend) := goodIn_app (goodIn_r _ [274, 275, 276, 2] (by decide +kernel) (by decide +kernel)) ggL_law_X5_bend
set_option maxRecDepth 20000 in
theorem ggL_law_X6_bend : GoodIn wsL_law wsX6_bend := goodIn_r _ [286, 99, 60, 154, 155, 156, 5, 157, 136, 106, 107, 108, 191, 192, 193, 194, 135, 104, 113, 114, 115, 116, 49, 267, 268, 269, 270, 61, 50, 52, 51, 59, 271, 272, 273, 591, 592, 593, 594, 595, 596, 597, 598, 599, 600, 601, 602, 603, 604, 605, 606, 607, 608, 609, 610, 611, 612, 613, 614, 615, 616, 617, 618] (by decide +kernel) (by decide +kernel)
set_option maxRecDepth 20000 in
theorem gL_law_X6_bend : GoodIn wsL_law (wsV RL 50 RX6 yX6_bend wsX6_bend) := goodIn_app (goodIn_r _ [283, 284, 285, 5] (by decide +kernel) (by decide +kernel)) ggL_law_X6_bend
set_option maxRecDepth 20000 in
theorem ggL_law_X5_echoTime : GoodIn wsL_law wsX5_echoTime := goodIn_r _ [290, 142, 143, 144, 2, 145, 17, 210, 211, 212, 213, 19, 291, 292, 293, 294, 295, 296, 297, 298, 208, 209, 15, 241, 299, 257, 248, 258, 219, 220, 221, 222, 74, 75, 91, 92, 93, 14, 94, 39, 40, 242, 243, 244, 245, 246, 247, 249, 250, 34, 41, 32, 78, 79, 251, 252, 253, 254, 31, 255, 30, 256, 42, 43, 44, 580, 581, 582, 583, 584, 585, 586, 587, 588, 589, 590, 632, 633, 634, 635, 626, 627, 628, 629, 630, 631, 619, 620, 621, 622, 623, 624, 625] (by decide +kernel) (by decide +kernel)
set_option maxRecDepth 20000 in
theorem gL_law_X5_echoTime : GoodIn wsL_law (wsV RL 51 RX5 yX5_echoTime wsX5_echoTime) := goodIn_app (goodIn_r _ [287, 288, 289, 2] (by decide +kernel) (by decide +kernel)) ggL_law_X5_echoTime
set_option maxRecDepth 20000 in
theorem ggL_law_X6_echoTime : GoodIn wsL_law wsX6_echoTime := goodIn_r _ [303, 99, 103, 154, 155, 156, 5, 157, 136, 106, 107, 108, 304, 305, 306, 307, 55, 56, 233, 234, 235, 236, 54, 57, 113, 114, 115, 116, 104, 49, 308, 309, 310, 311, 263, 264, 265, 266, 59, 267, 268, 269, 270, 61, 50, 52, 51, 60, 271, 272, 273, 591, 592, 593, 594, 595, 596, 597, 598, 599, 600, 601, 602, 603, 604, 605, 606, 607, 608, 609, 610, 611, 612, 613, 614, 615, 616, 617, 618] (by decide +kernel) (by decide +kernel)
set_option maxRecDepth 20000 in
theorem gL_law_X6_echoTime : GoodIn wsL_law (wsV RL 54 RX6 yX6_echoTime wsX6_echoTime) := goodIn_app (goodIn_r _ [300, 301, 302, 5] (by decide +kernel) (by decide +kernel)) ggL_law_X6_echoTime
set_option maxRecDepth 20000 in
theorem ggL_law_X5_slowness : GoodIn wsL_law wsX5_slowness := goodIn_r _ [315, 298, 15, 241, 316, 247, 248, 249, 142, 143, 144, 2, 145, 17, 317, 318, 319, 14, 320, 40, 255, 246, 32, 256, 257, 258, 251, 252, 253, 254, 31, 30, 34, 78, 79, 42, 43, 44, 580, 581, 582, 583, 584, 585, 586, 587, 588, 589, 590, 632, 633, 634, 635, 619, 620, 621, 622, 623, 624, 625] (by decide +kernel) (by decide +kernel)
set_option maxRecDepth 20000 in
theorem gL_law_X5_slowness : GoodIn wsL_law (wsV RL 55 RX5 yX5_slowness wsX5_slowness) := goodIn_app (goodIn_r _ [312, 313, 314, 2] (by decide +kernel) (by decide +kernel)) ggL_law_X5_slowness
set_option maxRecDepth 20000 in
theorem ggL_law_X6_slowness : GoodIn wsL_law wsX6_slowness := goodIn_r _ [324, 99, 51, 154, 155, 156, 5, 157, 136, 106, 107, 108, 109, 110, 111, 112, 61, 113, 114, 115, 116, 104, 49, 308, 309, 310, 311, 263, 264, 265, 266, 59, 267, 268, 269, 270, 50, 52, 60, 271, 272, 273, 591, 592, 593, 594, 595, 596, 597, 598, 599, 600, 601, 602, 603, 604, 605, 606, 607, 608, 609, 610, 611, 612, 613, 614, 615, 616, 617, 618] (by decide +kernel) (by decide +kernel)
set_option maxRecDepth 20000 in
theorem gL_law_X6_slowness : GoodIn wsL_law (wsV RL 58 RX6 yX6_slowness wsX6_slowness) := goodIn_app (goodIn_r _ [321, 322, 323, 5] (by decide +kernel) (by decide +kernel)) ggL_law_X6_slowness
set_option maxRecDepth 20000 in
theorem ggL_law_X5_echo : GoodIn wsL_law wsX5_echo := goodIn_r _ [328, 142, 143, 144, 2, 145, 17, 329, 330, 331, 332, 141, 19, 207, 291, 292, 293, 294, 295, 296, 297, 298, 208, 209, 15, 241, 299, 257, 248, 258, 219, 220, 221, 222, 74, 75, 91, 92, 93, 14, 94, 39, 40, 242, 243, 244, 245, 246, 247, 249, 250, 34, 41, 32, 78, 79, 251, 252, 253, 254, 31, 255, 30, 256, 42, 43, 44, 580, 581, 582, 583, 584, 585, 586, 587, 588, 589, 590, 632, 633, 634, 635, 626, 627, 628, 629, 630, 631, 619, 620, 621, 622, 623, 624, 625] (by decide +kernel) (by decide +kernel)
set_option maxRecDepth 20000 in
theorem gL_law_X5_echo : GoodIn wsL_law (wsV RL 59 RX5 yX5_echo wsX5_echo) := goodIn_app (goodIn_r _ [325, 326, 327, 2] (by decide +kernel) (by decide +kernel)) ggL_law_X5_echo
set_option maxRecDepth 20000 in
theorem ggL_law_X6_echo : GoodIn wsL_law wsX6_echo := goodIn_r _ [336, 99, 154, 155, 156, 5, 157, 136, 106, 107, 108, 337, 338, 339, 340, 103, 53, 58, 304, 305, 306, 307, 55, 56, 233, 234, 235, 236, 54, 57, 113, 114, 115, 116, 104, 49, 308, 309, 310, 311, 263, 264, 265, 266, 59, 267, 268, 269, 270, 61, 50, 52, 51, 60, 271, 272, 273, 591, 592, 593, 594, 595, 596, 597, 598, 599, 600, 601, 602, 603, 604, 605, 606, 607, 608, 609, 610, 611, 612, 613, 614, 615, 616, 617, 618] (by decide +kernel) (by decide +kernel)
set_option maxRecDepth 20000 in
theorem gL_law_X6_echo : GoodIn wsL_law (wsV RL 62 RX6 yX6_echo wsX6_echo) := goodIn_app (goodIn_r _ [333, 334, 335, 5] (by decide +kernel) (by decide +kernel)) ggL_law_X6_echo
set_option maxRecDepth 20000 in
theorem ggL_law_X5_gate : GoodIn wsL_law wsX5_gate := goodIn_r _ [344, 297, 19, 316, 247, 248, 249, 142, 143, 144, 2, 145, 17, 77, 78, 79, 291, 292, 293, 294, 295, 296, 298, 208, 209, 15, 241, 299, 257, 258, 219, 220, 221, 222, 74, 75, 91, 92, 93, 14, 94, 39, 40, 242, 243, 244, 245, 246, 250, 34, 41, 32, 251, 252, 253, 254, 31, 255, 30, 256, 42, 43, 44, 329, 330, 331, 332, 141, 207, 580, 581, 582, 583, 584, 585, 586, 587, 588, 589, 590, 632, 633, 634, 635, 626, 627, 628, 629, 630, 631, 619, 620, 621, 622, 623, 624, 625] (by decide +kernel) (by decide +kernel)
set_option maxRecDepth 20000 in
theorem gL_law_X5_gate : GoodIn wsL_law (wsV RL 63 RX5 yX5_gate wsX5_gate) := goodIn_app (goodIn_r _ [341, 342, 343, 2] (by decide +kernel) (by decide +kernel)) ggL_law_X5_gate
set_option maxRecDepth 20000 in
theorem ggL_law_X6_gate : GoodIn wsL_law wsX6_gate := goodIn_r _ [348, 99, 349, 103, 154, 155, 156, 5, 157, 136, 106, 107, 108, 304, 305, 306, 307, 55, 56, 233, 234, 235, 236, 54, 57, 113, 114, 115, 116, 104, 49, 308, 309, 310, 311, 263, 264, 265, 266, 59, 267, 268, 269, 270, 61, 50, 52, 51, 60, 271, 272, 273, 337, 338, 339, 340, 53, 58, 591, 592, 593, 594, 595, 596, 597, 598, 599, 600, 601, 602, 603, 604, 605, 606, 607, 608, 609, 610, 611, 612, 613, 614, 615, 616, 617, 618] (by decide +kernel) (by decide +kernel)
set_option maxRecDepth 20000 in
theorem gL_law_X6_gate : GoodIn wsL_law (wsV RL 66 RX6 yX6_gate wsX6_gate) := goodIn_app (goodIn_r _ [345, 346, 347, 5] (by decide +kernel) (by decide +kernel)) ggL_law_X6_gate
set_option maxRecDepth 20000 in
theorem ggL_law_X5_focus : GoodIn wsL_law wsX5_focus := goodIn_r _ [353, 15, 17, 141, 241, 354, 355, 248, 356, 357, 76, 167, 168, 169, 14, 170, 39, 40, 78, 2, 79, 146, 147, 148, 149, 242, 243, 244, 245, 246, 247, 249, 250, 34, 41, 32, 251, 252, 253, 254, 31, 255, 30, 256, 257, 258, 42, 43, 44, 580, 581, 582, 583, 584, 585, 586, 587, 588, 589, 590, 632, 633, 634, 635, 619, 620, 621, 622, 623, 624, 625] (by decide +kernel) (by decide +kernel)
set_option maxRecDepth 20000 in
theorem gL_law_X5_focus : GoodIn wsL_law (wsV RL 67 RX5 yX5_focus wsX5_focus) := goodIn_app (goodIn_r _ [350, 351, 352, 2] (by decide +kernel) (by decide +kernel)) ggL_law_X5_focus
set_option maxRecDepth 20000 in
theorem ggL_law_X6_focus : GoodIn wsL_law wsX6_focus := goodIn_r _ [361, 99, 136, 53, 62, 105, 191, 192, 193, 5, 194, 135, 104, 106, 107, 108, 113, 114, 115, 116, 49, 158, 159, 160, 161, 263, 264, 265, 266, 59, 267, 268, 269, 270, 61, 50, 52, 51, 60, 271, 272, 273, 591, 592, 593, 594, 595, 596, 597, 598, 599, 600, 601, 602, 603, 604, 605, 606, 607, 608, 609, 610, 611, 612, 613, 614, 615, 616, 617, 618] (by decide +kernel) (by decide +kernel)
set_option maxRecDepth 20000 in
theorem gL_law_X6_focus : GoodIn wsL_law (wsV RL 71 RX6 yX6_focus wsX6_focus) := goodIn_app (goodIn_r _ [358, 359, 360, 5] (by decide +kernel) (by decide +kernel)) ggL_law_X6_focus
set_option maxRecDepth 20000 in
theorem ggL_law_X5_delay : GoodIn wsL_law wsX5_delay := goodIn_r _ [365, 76, 141, 357, 297, 142, 143, 144, 2, 145, 17, 580, 581, 582, 583, 584, 585, 586, 587, 588, 589, 590, 632, 633, 634, 635] (by decide +kernel) (by decide +kernel)
set_option maxRecDepth 20000 in
theorem gL_law_X5_delay : GoodIn wsL_law (wsV RL 72 RX5 yX5_delay wsX5_delay) := goodIn_app (goodIn_r _ [362, 363, 364, 2] (by decide +kernel) (by decide +kernel)) ggL_law_X5_delay
set_option maxRecDepth 20000 in
theorem ggL_law_X6_delay : GoodIn wsL_law wsX6_delay := goodIn_r _ [369, 99, 105, 53, 349, 62, 154, 155, 156, 5, 157, 136, 106, 107, 108, 591, 592, 593, 594, 595, 596, 597, 598, 599, 600, 601, 602, 603, 604, 605, 606, 607, 608, 609, 610, 611, 612, 613, 614, 615, 616, 617, 618] (by decide +kernel) (by decide +kernel)
set_option maxRecDepth 20000 in
theorem gL_law_X6_delay : GoodIn wsL_law (wsV RL 75 RX6 yX6_delay wsX6_delay) := goodIn_app (goodIn_r _ [366, 367, 368, 5] (by decide +kernel) (by decide +kernel)) ggL_law_X6_delay
