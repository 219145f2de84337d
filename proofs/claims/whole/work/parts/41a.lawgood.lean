set_option maxRecDepth 20000 in
theorem ggL_law_X5_init : GoodIn wsL_law wsX5_init := goodIn_r _ [8, 9, 10, 11, 12, 13, 14, 15, 16, 17, 18, 19, 20, 21, 22, 23, 24, 25, 26, 27, 28, 29, 30, 31, 32, 33, 34, 35, 36, 37, 38, 39, 40, 41, 42, 43, 44, 2, 45, 626, 627, 628, 629, 630, 587, 588, 589, 590, 591, 592, 593, 594, 595, 596, 597] (by decide +kernel) (by decide +kernel)
set_option maxRecDepth 20000 in
theorem gL_law_X5_init : GoodIn wsL_law (wsX5_init) := ggL_law_X5_init
set_option maxRecDepth 20000 in
theorem ggL_law_X6_init : GoodIn wsL_law wsX6_init := goodIn_r _ [48, 49, 10, 11, 50, 51, 52, 24, 53, 31, 54, 55, 56, 57, 58, 59, 60, 61, 62, 63, 64, 65, 66, 67, 68, 69, 70, 598, 599, 600, 601, 602, 603, 604, 605, 606, 607, 608, 609, 610, 611, 612, 613, 614, 615, 616, 617, 618, 619, 620, 621, 622, 623, 624, 625] (by decide +kernel) (by decide +kernel)
set_option maxRecDepth 20000 in
theorem gL_law_X6_init : GoodIn wsL_law (wsX6_init) := ggL_law_X6_init
set_option maxRecDepth 20000 in
theorem ggL_law_X5_body : GoodIn wsL_law wsX5_body := goodIn_r _ [74, 19, 75, 76, 15, 17, 77, 78, 44, 2, 45, 79, 34, 35, 14, 36, 37, 38, 39, 32, 40, 41, 42, 43, 30, 80, 81, 82, 83, 84, 85, 86, 87, 88, 89, 90, 91, 92, 93, 94, 95, 96, 97, 98, 99, 100, 587, 588, 589, 590, 591, 592, 593, 594, 595, 596, 597, 631, 632, 633, 634, 635, 636, 626, 627, 628, 629, 630, 637, 638, 639, 640, 641] (by decide +kernel) (by decide +kernel)
set_option maxRecDepth 20000 in
theorem gL_law_X5_body : GoodIn wsL_law (wsV RL 13 RX5 yX5_body wsX5_body) := goodIn_app (goodIn_r _ [71, 72, 73, 2] (by decide +kernel) (by decide +kernel)) ggL_law_X5_body
set_option maxRecDepth 20000 in
theorem ggL_law_X6_body : GoodIn wsL_law wsX6_body := goodIn_r _ [104, 105, 106, 107, 108, 109, 55, 58, 110, 50, 51, 52, 111, 112, 113, 5, 114, 115, 116, 117, 118, 62, 119, 120, 121, 122, 598, 599, 600, 601, 602, 603, 604, 605, 606, 607, 608, 609, 610, 611, 612, 613, 614, 615, 616, 617, 618, 619, 620, 621, 622, 623, 624, 625] (by decide +kernel) (by decide +kernel)
set_option maxRecDepth 20000 in
theorem gL_law_X6_body : GoodIn wsL_law (wsV RL 17 RX6 yX6_body wsX6_body) := goodIn_app (goodIn_r _ [101, 102, 103, 5] (by decide +kernel) (by decide +kernel)) ggL_law_X6_body
set_option maxRecDepth 20000 in
theorem ggL_law_X5_element : GoodIn wsL_law wsX5_element := goodIn_r _ [126, 127, 17, 16, 128, 83, 77, 78, 44, 2, 45, 129, 130, 131, 132, 10, 11, 133, 134, 135, 24, 85, 86, 87, 88, 89, 587, 588, 589, 590, 591, 592, 593, 594, 595, 596, 597, 637, 638, 639, 640, 641] (by decide +kernel) (by decide +kernel)
set_option maxRecDepth 20000 in
theorem gL_law_X5_element : GoodIn wsL_law (wsV RL 18 RX5 yX5_element wsX5_element) := goodIn_app (goodIn_r _ [123, 124, 125, 2] (by decide +kernel) (by decide +kernel)) ggL_law_X5_element
set_option maxRecDepth 20000 in
theorem ggL_law_X6_element : GoodIn wsL_law wsX6_element := goodIn_r _ [139, 105, 140, 141, 53, 54, 111, 112, 113, 5, 114, 598, 599, 600, 601, 602, 603, 604, 605, 606, 607, 608, 609, 610, 611, 612, 613, 614, 615, 616, 617, 618, 619, 620, 621, 622, 623, 624, 625] (by decide +kernel) (by decide +kernel)
set_option maxRecDepth 20000 in
theorem gL_law_X6_element : GoodIn wsL_law (wsV RL 22 RX6 yX6_element wsX6_element) := goodIn_app (goodIn_r _ [136, 137, 138, 5] (by decide +kernel) (by decide +kernel)) ggL_law_X6_element
set_option maxRecDepth 20000 in
theorem ggL_law_X5_lose : GoodIn wsL_law wsX5_lose := goodIn_r _ [145, 146, 77, 147, 148, 149, 2, 150, 17, 151, 152, 153, 154, 637, 638, 639, 640, 641, 587, 588, 589, 590, 591, 592, 593, 594, 595, 596, 597] (by decide +kernel) (by decide +kernel)
set_option maxRecDepth 20000 in
theorem gL_law_X5_lose : GoodIn wsL_law (wsV RL 23 RX5 yX5_lose wsX5_lose) := goodIn_app (goodIn_r _ [142, 143, 144, 2] (by decide +kernel) (by decide +kernel)) ggL_law_X5_lose
set_option maxRecDepth 20000 in
theorem ggL_law_X6_lose : GoodIn wsL_law wsX6_lose := goodIn_r _ [158, 105, 54, 111, 159, 160, 161, 5, 162, 141, 112, 113, 114, 163, 164, 165, 166, 598, 599, 600, 601, 602, 603, 604, 605, 606, 607, 608, 609, 610, 611, 612, 613, 614, 615, 616, 617, 618, 619, 620, 621, 622, 623, 624, 625] (by decide +kernel) (by decide +kernel)
set_option maxRecDepth 20000 in
theorem gL_law_X6_lose : GoodIn wsL_law (wsV RL 27 RX6 yX6_lose wsX6_lose) := goodIn_app (goodIn_r _ [155, 156, 157, 5] (by decide +kernel) (by decide +kernel)) ggL_law_X6_lose
set_option maxRecDepth 20000 in
theorem ggL_law_X5_target : GoodIn wsL_law wsX5_target := goodIn_r _ [170, 15, 171, 19, 78, 44, 2, 45, 172, 173, 174, 14, 175, 37, 38, 176, 177, 178, 18, 179, 93, 180, 181, 182, 183, 10, 11, 184, 185, 186, 187, 188, 24, 95, 96, 87, 88, 89, 587, 588, 589, 590, 591, 592, 593, 594, 595, 596, 597, 626, 627, 628, 629, 630, 631, 632, 633, 634, 635, 636] (by decide +kernel) (by decide +kernel)
set_option maxRecDepth 20000 in
theorem gL_law_X5_target : GoodIn wsL_law (wsV RL 28 RX5 yX5_target wsX5_target) := goodIn_app (goodIn_r _ [167, 168, 169, 2] (by decide +kernel) (by decide +kernel)) ggL_law_X5_target
set_option maxRecDepth 20000 in
theorem ggL_law_X6_target : GoodIn wsL_law wsX6_target := goodIn_r _ [192, 105, 193, 140, 194, 195, 109, 55, 56, 57, 58, 59, 112, 113, 5, 114, 196, 197, 198, 199, 110, 119, 120, 121, 122, 50, 598, 599, 600, 601, 602, 603, 604, 605, 606, 607, 608, 609, 610, 611, 612, 613, 614, 615, 616, 617, 618, 619, 620, 621, 622, 623, 624, 625] (by decide +kernel) (by decide +kernel)
set_option maxRecDepth 20000 in
theorem gL_law_X6_target : GoodIn wsL_law (wsV RL 32 RX6 yX6_target wsX6_target) := goodIn_app (goodIn_r _ [189, 190, 191, 5] (by decide +kernel) (by decide +kernel)) ggL_law_X6_target
set_option maxRecDepth 20000 in
theorem ggL_law_X5_drop : GoodIn wsL_law wsX5_drop := goodIn_r _ [203, 171, 19, 587, 588, 589, 590, 591, 592, 593, 594, 595, 596, 597] (by decide +kernel) (by decide +kernel)
set_option maxRecDepth 20000 in
theorem gL_law_X5_drop : GoodIn wsL_law (wsV RL 33 RX5 yX5_drop wsX5_drop) := goodIn_app (goodIn_r _ [200, 201, 202, 2] (by decide +kernel) (by decide +kernel)) ggL_law_X5_drop
set_option maxRecDepth 20000 in
theorem ggL_law_X6_drop : GoodIn wsL_law wsX6_drop := goodIn_r _ [207, 105, 109, 598, 599, 600, 601, 602, 603, 604, 605, 606, 607, 608, 609, 610, 611, 612, 613, 614, 615, 616, 617, 618, 619, 620, 621, 622, 623, 624, 625] (by decide +kernel) (by decide +kernel)
set_option maxRecDepth 20000 in
theorem gL_law_X6_drop : GoodIn wsL_law (wsV RL 37 RX6 yX6_drop wsX6_drop) := goodIn_app (goodIn_r _ [204, 205, 206, 5] (by decide +kernel) (by decide +kernel)) ggL_law_X6_drop
set_option maxRecDepth 20000 in
theorem ggL_law_X5_taken : GoodIn wsL_law wsX5_taken := goodIn_r _ [211, 75, 212, 213, 214, 215, 216, 217, 2, 218, 19, 78, 44, 45, 219, 220, 221, 222, 223, 224, 225, 226, 227, 15, 76, 97, 98, 99, 14, 100, 37, 38, 631, 632, 633, 634, 635, 636, 587, 588, 589, 590, 591, 592, 593, 594, 595, 596, 597, 626, 627, 628, 629, 630] (by decide +kernel) (by decide +kernel)
set_option maxRecDepth 20000 in
theorem gL_law_X5_taken : GoodIn wsL_law (wsV RL 38 RX5 yX5_taken wsX5_taken) := goodIn_app (goodIn_r _ [208, 209, 210, 2] (by decide +kernel) (by decide +kernel)) ggL_law_X5_taken
set_option maxRecDepth 20000 in
theorem ggL_law_X6_taken : GoodIn wsL_law wsX6_taken := goodIn_r _ [231, 105, 109, 193, 232, 55, 59, 56, 57, 112, 113, 5, 114, 233, 234, 235, 236, 237, 238, 239, 240, 241, 58, 119, 120, 121, 122, 110, 50, 598, 599, 600, 601, 602, 603, 604, 605, 606, 607, 608, 609, 610, 611, 612, 613, 614, 615, 616, 617, 618, 619, 620, 621, 622, 623, 624, 625] (by decide +kernel) (by decide +kernel)
set_option maxRecDepth 20000 in
theorem gL_law_X6_taken : GoodIn wsL_law (wsV RL 42 RX6 yX6_taken wsX6_taken) := goodIn_app (goodIn_r _ [228, 229, 230, 5] (by decide +kernel) (by decide +kernel)) ggL_law_X6_taken
set_option maxRecDepth 20000 in
theorem ggL_law_X5_time : GoodIn wsL_law wsX5_time := goodIn_r _ [245, 15, 147, 148, 149, 2, 150, 17, 172, 173, 174, 14, 175, 37, 38, 44, 45, 246, 247, 248, 249, 250, 251, 252, 253, 254, 255, 256, 257, 258, 32, 39, 259, 260, 261, 262, 263, 264, 265, 266, 30, 267, 268, 269, 40, 41, 42, 43, 587, 588, 589, 590, 591, 592, 593, 594, 595, 596, 597, 626, 627, 628, 629, 630, 637, 638, 639, 640, 641] (by decide +kernel) (by decide +kernel)
set_option maxRecDepth 20000 in
theorem gL_law_X5_time : GoodIn wsL_law (wsV RL 43 RX5 yX5_time wsX5_time) := goodIn_app (goodIn_r _ [242, 243, 244, 2] (by decide +kernel) (by decide +kernel)) ggL_law_X5_time
set_option maxRecDepth 20000 in
theorem ggL_law_X6_time : GoodIn wsL_law wsX6_time := goodIn_r _ [273, 105, 159, 160, 161, 5, 162, 141, 112, 113, 114, 196, 197, 198, 199, 140, 110, 119, 120, 121, 122, 50, 274, 275, 276, 277, 60, 278, 279, 280, 281, 62, 51, 53, 52, 61, 282, 283, 284, 598, 599, 600, 601, 602, 603, 604, 605, 606, 607, 608, 609, 610, 611, 612, 613, 614, 615, 616, 617, 618, 619, 620, 621, 622, 623, 624, 625] (by decide +kernel) (by decide +kernel)
set_option maxRecDepth 20000 in
theorem gL_law_X6_time : GoodIn wsL_law (wsV RL 46 RX6 yX6_time wsX6_time) := goodIn_app (goodIn_r _ [270, 271, 272, 5] (by decide +kernel) (by decide +kernel)) ggL_law_X6_time
set_option maxRecDepth 20000 in
theorem ggL_law_X5_bend : GoodIn wsL_law wsX5_bend := goodIn_r _ [288, 15, 253, 250, 147, 148, 149, 2, 150, 17, 172, 173, 174, 14, 175, 37, 38, 44, 45, 289, 290, 291, 292, 258, 30, 267, 268, 262, 269, 293, 255, 256, 257, 32, 39, 259, 260, 261, 263, 264, 265, 266, 40, 41, 42, 43, 587, 588, 589, 590, 591, 592, 593, 594, 595, 596, 597, 637, 638, 639, 640, 641, 626, 627, 628, 629, 630] (by decide +kernel) (by decide +kernel)
set_option maxRecDepth 20000 in
theorem gL_law_X5_bend : GoodIn wsL_law (wsV RL 47 RX5 yX5_bend wsX5_bend) := goodIn_app (goodIn_r _ [285, 286, 287, 2] (by decide +kernel) (by decide +kernel)) ggL_law_X5_bend
set_option maxRecDepth 20000 in
theorem ggL_law_X6_bend : GoodIn wsL_law wsX6_bend := goodIn_r _ [297, 105, 61, 159, 160, 161, 5, 162, 141, 112, 113, 114, 196, 197, 198, 199, 140, 110, 119, 120, 121, 122, 50, 278, 279, 280, 281, 62, 51, 53, 52, 60, 282, 283, 284, 598, 599, 600, 601, 602, 603, 604, 605, 606, 607, 608, 609, 610, 611, 612, 613, 614, 615, 616, 617, 618, 619, 620, 621, 622, 623, 624, 625] (by decide +kernel) (by decide +kernel)
set_option maxRecDepth 20000 in
theorem gL_law_X6_bend : GoodIn wsL_law (wsV RL 50 RX6 yX6_bend wsX6_bend) := goodIn_app (goodIn_r _ [294, 295, 296, 5] (by decide +kernel) (by decide +kernel)) ggL_law_X6_bend
set_option maxRecDepth 20000 in
theorem ggL_law_X5_echoTime : GoodIn wsL_law wsX5_echoTime := goodIn_r _ [301, 147, 148, 149, 2, 150, 17, 215, 216, 217, 218, 19, 302, 303, 304, 305, 306, 307, 252, 308, 213, 214, 309, 265, 262, 266, 224, 225, 226, 227, 75, 15, 76, 97, 98, 99, 14, 100, 37, 38, 246, 247, 248, 249, 250, 251, 253, 254, 255, 256, 257, 258, 32, 39, 259, 260, 261, 263, 264, 30, 267, 268, 269, 44, 45, 40, 41, 42, 43, 587, 588, 589, 590, 591, 592, 593, 594, 595, 596, 597, 637, 638, 639, 640, 641, 631, 632, 633, 634, 635, 636, 626, 627, 628, 629, 630] (by decide +kernel) (by decide +kernel)
set_option maxRecDepth 20000 in
theorem gL_law_X5_echoTime : GoodIn wsL_law (wsV RL 51 RX5 yX5_echoTime wsX5_echoTime) := goodIn_app (goodIn_r _ [298, 299, 300, 2] (by decide +kernel) (by decide +kernel)) ggL_law_X5_echoTime
set_option maxRecDepth 20000 in
theorem ggL_law_X6_echoTime : GoodIn wsL_law wsX6_echoTime := goodIn_r _ [313, 105, 109, 159, 160, 161, 5, 162, 141, 112, 113, 114, 314, 315, 316, 317, 56, 57, 238, 239, 240, 241, 55, 58, 119, 120, 121, 122, 110, 50, 318, 319, 320, 321, 274, 275, 276, 277, 60, 278, 279, 280, 281, 62, 51, 53, 52, 61, 282, 283, 284, 598, 599, 600, 601, 602, 603, 604, 605, 606, 607, 608, 609, 610, 611, 612, 613, 614, 615, 616, 617, 618, 619, 620, 621, 622, 623, 624, 625] (by decide +kernel) (by decide +kernel)
set_option maxRecDepth 20000 in
theorem gL_law_X6_echoTime : GoodIn wsL_law (wsV RL 54 RX6 yX6_echoTime wsX6_echoTime) := goodIn_app (goodIn_r _ [310, 311, 312, 5] (by decide +kernel) (by decide +kernel)) ggL_law_X6_echoTime
set_option maxRecDepth 20000 in
theorem ggL_law_X5_slowness : GoodIn wsL_law wsX5_slowness := goodIn_r _ [325, 308, 15, 253, 326, 268, 262, 269, 147, 148, 149, 2, 150, 17, 327, 328, 329, 14, 330, 38, 259, 264, 265, 266, 40, 41, 42, 43, 30, 32, 44, 45, 293, 255, 256, 257, 258, 39, 260, 261, 263, 267, 587, 588, 589, 590, 591, 592, 593, 594, 595, 596, 597, 637, 638, 639, 640, 641, 626, 627, 628, 629, 630] (by decide +kernel) (by decide +kernel)
set_option maxRecDepth 20000 in
theorem gL_law_X5_slowness : GoodIn wsL_law (wsV RL 55 RX5 yX5_slowness wsX5_slowness) := goodIn_app (goodIn_r _ [322, 323, 324, 2] (by decide +kernel) (by decide +kernel)) ggL_law_X5_slowness
set_option maxRecDepth 20000 in
theorem ggL_law_X6_slowness : GoodIn wsL_law wsX6_slowness := goodIn_r _ [334, 105, 52, 159, 160, 161, 5, 162, 141, 112, 113, 114, 115, 116, 117, 118, 62, 119, 120, 121, 122, 110, 50, 318, 319, 320, 321, 274, 275, 276, 277, 60, 278, 279, 280, 281, 51, 53, 61, 282, 283, 284, 598, 599, 600, 601, 602, 603, 604, 605, 606, 607, 608, 609, 610, 611, 612, 613, 614, 615, 616, 617, 618, 619, 620, 621, 622, 623, 624, 625] (by decide +kernel) (by decide +kernel)
set_option maxRecDepth 20000 in
theorem gL_law_X6_slowness : GoodIn wsL_law (wsV RL 58 RX6 yX6_slowness wsX6_slowness) := goodIn_app (goodIn_r _ [331, 332, 333, 5] (by decide +kernel) (by decide +kernel)) ggL_law_X6_slowness
set_option maxRecDepth 20000 in
theorem ggL_law_X5_echo : GoodIn wsL_law wsX5_echo := goodIn_r _ [338, 147, 148, 149, 2, 150, 17, 339, 340, 341, 342, 146, 19, 212, 302, 303, 304, 305, 306, 307, 252, 308, 213, 214, 309, 265, 262, 266, 224, 225, 226, 227, 75, 15, 76, 97, 98, 99, 14, 100, 37, 38, 246, 247, 248, 249, 250, 251, 253, 254, 255, 256, 257, 258, 32, 39, 259, 260, 261, 263, 264, 30, 267, 268, 269, 44, 45, 40, 41, 42, 43, 587, 588, 589, 590, 591, 592, 593, 594, 595, 596, 597, 637, 638, 639, 640, 641, 631, 632, 633, 634, 635, 636, 626, 627, 628, 629, 630] (by decide +kernel) (by decide +kernel)
set_option maxRecDepth 20000 in
theorem gL_law_X5_echo : GoodIn wsL_law (wsV RL 59 RX5 yX5_echo wsX5_echo) := goodIn_app (goodIn_r _ [335, 336, 337, 2] (by decide +kernel) (by decide +kernel)) ggL_law_X5_echo
set_option maxRecDepth 20000 in
theorem ggL_law_X6_echo : GoodIn wsL_law wsX6_echo := goodIn_r _ [346, 105, 159, 160, 161, 5, 162, 141, 112, 113, 114, 347, 348, 349, 350, 109, 54, 59, 314, 315, 316, 317, 56, 57, 238, 239, 240, 241, 55, 58, 119, 120, 121, 122, 110, 50, 318, 319, 320, 321, 274, 275, 276, 277, 60, 278, 279, 280, 281, 62, 51, 53, 52, 61, 282, 283, 284, 598, 599, 600, 601, 602, 603, 604, 605, 606, 607, 608, 609, 610, 611, 612, 613, 614, 615, 616, 617, 618, 619, 620, 621, 622, 623, 624, 625] (by decide +kernel) (by decide +kernel)
set_option maxRecDepth 20000 in
theorem gL_law_X6_echo : GoodIn wsL_law (wsV RL 62 RX6 yX6_echo wsX6_echo) := goodIn_app (goodIn_r _ [343, 344, 345, 5] (by decide +kernel) (by decide +kernel)) ggL_law_X6_echo
set_option maxRecDepth 20000 in
theorem ggL_law_X5_gate : GoodIn wsL_law wsX5_gate := goodIn_r _ [354, 252, 19, 326, 268, 262, 269, 147, 148, 149, 2, 150, 17, 78, 44, 45, 302, 303, 304, 305, 306, 307, 308, 213, 214, 309, 265, 266, 224, 225, 226, 227, 75, 15, 76, 97, 98, 99, 14, 100, 37, 38, 246, 247, 248, 249, 250, 251, 253, 254, 255, 256, 257, 258, 32, 39, 259, 260, 261, 263, 264, 30, 267, 40, 41, 42, 43, 339, 340, 341, 342, 146, 212, 587, 588, 589, 590, 591, 592, 593, 594, 595, 596, 597, 637, 638, 639, 640, 641, 631, 632, 633, 634, 635, 636, 626, 627, 628, 629, 630] (by decide +kernel) (by decide +kernel)
set_option maxRecDepth 20000 in
theorem gL_law_X5_gate : GoodIn wsL_law (wsV RL 63 RX5 yX5_gate wsX5_gate) := goodIn_app (goodIn_r _ [351, 352, 353, 2] (by decide +kernel) (by decide +kernel)) ggL_law_X5_gate
set_option maxRecDepth 20000 in
theorem ggL_law_X6_gate : GoodIn wsL_law wsX6_gate := goodIn_r _ [358, 105, 359, 109, 159, 160, 161, 5, 162, 141, 112, 113, 114, 314, 315, 316, 317, 56, 57, 238, 239, 240, 241, 55, 58, 119, 120, 121, 122, 110, 50, 318, 319, 320, 321, 274, 275, 276, 277, 60, 278, 279, 280, 281, 62, 51, 53, 52, 61, 282, 283, 284, 347, 348, 349, 350, 54, 59, 598, 599, 600, 601, 602, 603, 604, 605, 606, 607, 608, 609, 610, 611, 612, 613, 614, 615, 616, 617, 618, 619, 620, 621, 622, 623, 624, 625] (by decide +kernel) (by decide +kernel)
set_option maxRecDepth 20000 in
theorem gL_law_X6_gate : GoodIn wsL_law (wsV RL 66 RX6 yX6_gate wsX6_gate) := goodIn_app (goodIn_r _ [355, 356, 357, 5] (by decide +kernel) (by decide +kernel)) ggL_law_X6_gate
set_option maxRecDepth 20000 in
theorem ggL_law_X5_focus : GoodIn wsL_law wsX5_focus := goodIn_r _ [363, 15, 17, 146, 364, 261, 262, 263, 365, 77, 172, 173, 174, 14, 175, 37, 38, 44, 2, 45, 151, 152, 153, 154, 246, 247, 248, 249, 250, 251, 252, 253, 254, 255, 256, 257, 258, 32, 39, 259, 260, 264, 265, 266, 30, 267, 268, 269, 40, 41, 42, 43, 587, 588, 589, 590, 591, 592, 593, 594, 595, 596, 597, 637, 638, 639, 640, 641, 626, 627, 628, 629, 630] (by decide +kernel) (by decide +kernel)
set_option maxRecDepth 20000 in
theorem gL_law_X5_focus : GoodIn wsL_law (wsV RL 67 RX5 yX5_focus wsX5_focus) := goodIn_app (goodIn_r _ [360, 361, 362, 2] (by decide +kernel) (by decide +kernel)) ggL_law_X5_focus
set_option maxRecDepth 20000 in
theorem ggL_law_X6_focus : GoodIn wsL_law wsX6_focus := goodIn_r _ [369, 105, 141, 54, 63, 111, 196, 197, 198, 5, 199, 140, 110, 112, 113, 114, 119, 120, 121, 122, 50, 163, 164, 165, 166, 274, 275, 276, 277, 60, 278, 279, 280, 281, 62, 51, 53, 52, 61, 282, 283, 284, 598, 599, 600, 601, 602, 603, 604, 605, 606, 607, 608, 609, 610, 611, 612, 613, 614, 615, 616, 617, 618, 619, 620, 621, 622, 623, 624, 625] (by decide +kernel) (by decide +kernel)
set_option maxRecDepth 20000 in
theorem gL_law_X6_focus : GoodIn wsL_law (wsV RL 71 RX6 yX6_focus wsX6_focus) := goodIn_app (goodIn_r _ [366, 367, 368, 5] (by decide +kernel) (by decide +kernel)) ggL_law_X6_focus
set_option maxRecDepth 20000 in
theorem ggL_law_X5_delay : GoodIn wsL_law wsX5_delay := goodIn_r _ [373, 77, 146, 365, 252, 147, 148, 149, 2, 150, 17, 587, 588, 589, 590, 591, 592, 593, 594, 595, 596, 597, 637, 638, 639, 640, 641] (by decide +kernel) (by decide +kernel)
set_option maxRecDepth 20000 in
theorem gL_law_X5_delay : GoodIn wsL_law (wsV RL 72 RX5 yX5_delay wsX5_delay) := goodIn_app (goodIn_r _ [370, 371, 372, 2] (by decide +kernel) (by decide +kernel)) ggL_law_X5_delay
set_option maxRecDepth 20000 in
theorem ggL_law_X6_delay : GoodIn wsL_law wsX6_delay := goodIn_r _ [377, 105, 111, 54, 359, 63, 159, 160, 161, 5, 162, 141, 112, 113, 114, 598, 599, 600, 601, 602, 603, 604, 605, 606, 607, 608, 609, 610, 611, 612, 613, 614, 615, 616, 617, 618, 619, 620, 621, 622, 623, 624, 625] (by decide +kernel) (by decide +kernel)
set_option maxRecDepth 20000 in
theorem gL_law_X6_delay : GoodIn wsL_law (wsV RL 75 RX6 yX6_delay wsX6_delay) := goodIn_app (goodIn_r _ [374, 375, 376, 5] (by decide +kernel) (by decide +kernel)) ggL_law_X6_delay
