set_option maxRecDepth 20000 in
theorem ggL_law_X5_heard : GoodIn wsL_law wsX5_heard := goodIn_r _ [373, 76, 142, 143, 144, 2, 145, 17, 374, 375, 376, 377, 141, 357, 329, 330, 331, 332, 19, 207, 291, 292, 293, 294, 295, 296, 297, 298, 208, 209, 15, 241, 299, 257, 248, 258, 219, 220, 221, 222, 74, 75, 91, 92, 93, 14, 94, 39, 40, 242, 243, 244, 245, 246, 247, 249, 250, 34, 41, 32, 78, 79, 251, 252, 253, 254, 31, 255, 30, 256, 42, 43, 44, 580, 581, 582, 583, 584, 585, 586, 587, 588, 589, 590, 632, 633, 634, 635, 626, 627, 628, 629, 630, 631, 619, 620, 621, 622, 623, 624, 625] (by decide +kernel) (by decide +kernel)
set_option maxRecDepth 20000 in
theorem gL_law_X5_heard : GoodIn wsL_law (wsV RL 76 RX5 yX5_heard wsX5_heard) := goodIn_app (goodIn_r _ [370, 371, 372, 2] (by decide +kernel) (by decide +kernel)) ggL_law_X5_heard
set_option maxRecDepth 20000 in
theorem ggL_law_X6_heard : GoodIn wsL_law wsX6_heard := goodIn_r _ [381, 99, 105, 154, 155, 156, 5, 157, 136, 106, 107, 108, 382, 383, 384, 385, 53, 62, 337, 338, 339, 340, 103, 58, 304, 305, 306, 307, 55, 56, 233, 234, 235, 236, 54, 57, 113, 114, 115, 116, 104, 49, 308, 309, 310, 311, 263, 264, 265, 266, 59, 267, 268, 269, 270, 61, 50, 52, 51, 60, 271, 272, 273, 591, 592, 593, 594, 595, 596, 597, 598, 599, 600, 601, 602, 603, 604, 605, 606, 607, 608, 609, 610, 611, 612, 613, 614, 615, 616, 617, 618] (by decide +kernel) (by decide +kernel)
set_option maxRecDepth 20000 in
theorem gL_law_X6_heard : GoodIn wsL_law (wsV RL 79 RX6 yX6_heard wsX6_heard) := goodIn_app (goodIn_r _ [378, 379, 380, 5] (by decide +kernel) (by decide +kernel)) ggL_law_X6_heard
set_option maxRecDepth 20000 in
theorem ggL_law_X5_sum : GoodIn wsL_law wsX5_sum := goodIn_r _ [389, 76, 17, 141, 357, 374, 375, 376, 2, 377, 329, 330, 331, 332, 19, 207, 291, 292, 293, 294, 295, 296, 297, 298, 208, 209, 15, 241, 299, 257, 248, 258, 219, 220, 221, 222, 74, 75, 91, 92, 93, 14, 94, 39, 40, 242, 243, 244, 245, 246, 247, 249, 250, 34, 41, 32, 78, 79, 251, 252, 253, 254, 31, 255, 30, 256, 42, 43, 44, 580, 581, 582, 583, 584, 585, 586, 587, 588, 589, 590, 632, 633, 634, 635, 626, 627, 628, 629, 630, 631, 619, 620, 621, 622, 623, 624, 625] (by decide +kernel) (by decide +kernel)
set_option maxRecDepth 20000 in
theorem gL_law_X5_sum : GoodIn wsL_law (wsV RL 80 RX5 yX5_sum wsX5_sum) := goodIn_app (goodIn_r _ [386, 387, 388, 2] (by decide +kernel) (by decide +kernel)) ggL_law_X5_sum
set_option maxRecDepth 20000 in
theorem ggL_law_X6_sum : GoodIn wsL_law wsX6_sum := goodIn_r _ [393, 99, 105, 136, 53, 62, 382, 383, 384, 5, 385, 337, 338, 339, 340, 103, 58, 304, 305, 306, 307, 55, 56, 233, 234, 235, 236, 54, 57, 113, 114, 115, 116, 104, 49, 308, 309, 310, 311, 263, 264, 265, 266, 59, 267, 268, 269, 270, 61, 50, 52, 51, 60, 271, 272, 273, 591, 592, 593, 594, 595, 596, 597, 598, 599, 600, 601, 602, 603, 604, 605, 606, 607, 608, 609, 610, 611, 612, 613, 614, 615, 616, 617, 618] (by decide +kernel) (by decide +kernel)
set_option maxRecDepth 20000 in
theorem gL_law_X6_sum : GoodIn wsL_law (wsV RL 83 RX6 yX6_sum wsX6_sum) := goodIn_app (goodIn_r _ [390, 391, 392, 5] (by decide +kernel) (by decide +kernel)) ggL_law_X6_sum
set_option maxRecDepth 20000 in
theorem ggL_law_X5_board : GoodIn wsL_law wsX5_board := goodIn_r _ [397, 15, 17, 141, 241, 167, 168, 169, 14, 170, 39, 40, 78, 2, 79, 242, 243, 244, 245, 246, 247, 248, 249, 250, 34, 41, 32, 251, 252, 253, 254, 31, 255, 30, 256, 257, 258, 42, 43, 44, 329, 330, 331, 332, 19, 207, 291, 292, 293, 294, 295, 296, 297, 298, 208, 209, 299, 219, 220, 221, 222, 74, 75, 91, 92, 93, 94, 580, 581, 582, 583, 584, 585, 586, 587, 588, 589, 590, 632, 633, 634, 635, 619, 620, 621, 622, 623, 624, 625, 626, 627, 628, 629, 630, 631] (by decide +kernel) (by decide +kernel)
set_option maxRecDepth 20000 in
theorem gL_law_X5_board : GoodIn wsL_law (wsV RL 84 RX5 yX5_board wsX5_board) := goodIn_app (goodIn_r _ [394, 395, 396, 2] (by decide +kernel) (by decide +kernel)) ggL_law_X5_board
set_option maxRecDepth 20000 in
theorem ggL_law_X6_board : GoodIn wsL_law wsX6_board := goodIn_r _ [401, 99, 136, 191, 192, 193, 5, 194, 135, 104, 106, 107, 108, 113, 114, 115, 116, 49, 263, 264, 265, 266, 59, 267, 268, 269, 270, 61, 50, 52, 51, 60, 271, 272, 273, 337, 338, 339, 340, 103, 53, 58, 304, 305, 306, 307, 55, 56, 233, 234, 235, 236, 54, 57, 308, 309, 310, 311, 591, 592, 593, 594, 595, 596, 597, 598, 599, 600, 601, 602, 603, 604, 605, 606, 607, 608, 609, 610, 611, 612, 613, 614, 615, 616, 617, 618] (by decide +kernel) (by decide +kernel)
set_option maxRecDepth 20000 in
theorem gL_law_X6_board : GoodIn wsL_law (wsV RL 87 RX6 yX6_board wsX6_board) := goodIn_app (goodIn_r _ [398, 399, 400, 5] (by decide +kernel) (by decide +kernel)) ggL_law_X6_board
set_option maxRecDepth 20000 in
theorem ggL_law_X5_tell : GoodIn wsL_law wsX5_tell := goodIn_r _ [405, 406, 21, 20, 407, 408, 142, 143, 144, 2, 145, 17, 77, 78, 79, 409, 410, 411, 412, 10, 11, 413, 414, 415, 580, 581, 582, 583, 584, 585, 586, 587, 588, 589, 590, 636, 637, 638] (by decide +kernel) (by decide +kernel)
set_option maxRecDepth 20000 in
theorem gL_law_X5_tell : GoodIn wsL_law (wsV RL 88 RX5 yX5_tell wsX5_tell) := goodIn_app (goodIn_r _ [402, 403, 404, 2] (by decide +kernel) (by decide +kernel)) ggL_law_X5_tell
set_option maxRecDepth 20000 in
theorem ggL_law_X6_tell : GoodIn wsL_law wsX6_tell := goodIn_r _ [419, 99, 420, 421, 63, 64, 65, 154, 155, 156, 5, 157, 136, 106, 107, 108, 591, 592, 593, 594, 595, 596, 597, 598, 599, 600, 601, 602, 603, 604, 605, 606, 607, 608, 609, 610, 611, 612, 613, 614, 615, 616, 617, 618] (by decide +kernel) (by decide +kernel)
set_option maxRecDepth 20000 in
theorem gL_law_X6_tell : GoodIn wsL_law (wsV RL 91 RX6 yX6_tell wsX6_tell) := goodIn_app (goodIn_r _ [416, 417, 418, 5] (by decide +kernel) (by decide +kernel)) ggL_law_X6_tell
set_option maxRecDepth 20000 in
theorem ggL_law_X5_forget : GoodIn wsL_law wsX5_forget := goodIn_r _ [425, 406, 21, 580, 581, 582, 583, 584, 585, 586, 587, 588, 589, 590] (by decide +kernel) (by decide +kernel)
set_option maxRecDepth 20000 in
theorem gL_law_X5_forget : GoodIn wsL_law (wsV RL 92 RX5 yX5_forget wsX5_forget) := goodIn_app (goodIn_r _ [422, 423, 424, 2] (by decide +kernel) (by decide +kernel)) ggL_law_X5_forget
set_option maxRecDepth 20000 in
theorem ggL_law_X6_forget : GoodIn wsL_law wsX6_forget := goodIn_r _ [429, 99, 421, 591, 592, 593, 594, 595, 596, 597, 598, 599, 600, 601, 602, 603, 604, 605, 606, 607, 608, 609, 610, 611, 612, 613, 614, 615, 616, 617, 618] (by decide +kernel) (by decide +kernel)
set_option maxRecDepth 20000 in
theorem gL_law_X6_forget : GoodIn wsL_law (wsV RL 95 RX6 yX6_forget wsX6_forget) := goodIn_app (goodIn_r _ [426, 427, 428, 5] (by decide +kernel) (by decide +kernel)) ggL_law_X6_forget
set_option maxRecDepth 20000 in
theorem ggL_law_X5_places : GoodIn wsL_law wsX5_places := goodIn_r _ [433, 15, 434, 77, 78, 2, 79, 91, 92, 93, 14, 94, 39, 40, 435, 436, 437, 438, 21, 439, 241, 440, 441, 316, 247, 248, 249, 242, 243, 244, 245, 246, 250, 34, 41, 32, 251, 252, 253, 254, 31, 255, 30, 256, 257, 258, 42, 43, 44, 580, 581, 582, 583, 584, 585, 586, 587, 588, 589, 590, 619, 620, 621, 622, 623, 624, 625, 636, 637, 638, 632, 633, 634, 635] (by decide +kernel) (by decide +kernel)
set_option maxRecDepth 20000 in
theorem gL_law_X5_places : GoodIn wsL_law (wsV RL 96 RX5 yX5_places wsX5_places) := goodIn_app (goodIn_r _ [430, 431, 432, 2] (by decide +kernel) (by decide +kernel)) ggL_law_X5_places
set_option maxRecDepth 20000 in
theorem ggL_law_X6_places : GoodIn wsL_law wsX6_places := goodIn_r _ [445, 99, 446, 106, 107, 5, 108, 447, 448, 449, 450, 104, 349, 113, 114, 115, 116, 49, 451, 452, 453, 454, 421, 63, 64, 65, 263, 264, 265, 266, 59, 267, 268, 269, 270, 61, 50, 52, 51, 60, 271, 272, 273, 591, 592, 593, 594, 595, 596, 597, 598, 599, 600, 601, 602, 603, 604, 605, 606, 607, 608, 609, 610, 611, 612, 613, 614, 615, 616, 617, 618] (by decide +kernel) (by decide +kernel)
set_option maxRecDepth 20000 in
theorem gL_law_X6_places : GoodIn wsL_law (wsV RL 99 RX6 yX6_places wsX6_places) := goodIn_app (goodIn_r _ [442, 443, 444, 5] (by decide +kernel) (by decide +kernel)) ggL_law_X6_places
set_option maxRecDepth 20000 in
theorem ggL_law_X5_place : GoodIn wsL_law wsX5_place := goodIn_r _ [458, 297, 15, 434, 77, 78, 2, 79, 91, 92, 93, 14, 94, 39, 40, 435, 436, 437, 438, 21, 439, 241, 440, 441, 316, 247, 248, 249, 242, 243, 244, 245, 246, 250, 34, 41, 32, 251, 252, 253, 254, 31, 255, 30, 256, 257, 258, 42, 43, 44, 580, 581, 582, 583, 584, 585, 586, 587, 588, 589, 590, 619, 620, 621, 622, 623, 624, 625, 636, 637, 638, 632, 633, 634, 635] (by decide +kernel) (by decide +kernel)
set_option maxRecDepth 20000 in
theorem gL_law_X5_place : GoodIn wsL_law (wsV RL 100 RX5 yX5_place wsX5_place) := goodIn_app (goodIn_r _ [455, 456, 457, 2] (by decide +kernel) (by decide +kernel)) ggL_law_X5_place
set_option maxRecDepth 20000 in
theorem ggL_law_X6_place : GoodIn wsL_law wsX6_place := goodIn_r _ [462, 99, 446, 349, 106, 107, 5, 108, 447, 448, 449, 450, 104, 113, 114, 115, 116, 49, 451, 452, 453, 454, 421, 63, 64, 65, 263, 264, 265, 266, 59, 267, 268, 269, 270, 61, 50, 52, 51, 60, 271, 272, 273, 591, 592, 593, 594, 595, 596, 597, 598, 599, 600, 601, 602, 603, 604, 605, 606, 607, 608, 609, 610, 611, 612, 613, 614, 615, 616, 617, 618] (by decide +kernel) (by decide +kernel)
set_option maxRecDepth 20000 in
theorem gL_law_X6_place : GoodIn wsL_law (wsV RL 103 RX6 yX6_place wsX6_place) := goodIn_app (goodIn_r _ [459, 460, 461, 5] (by decide +kernel) (by decide +kernel)) ggL_law_X6_place
set_option maxRecDepth 20000 in
theorem ggL_law_X5_sheet : GoodIn wsL_law wsX5_sheet := goodIn_r _ [466, 23, 22, 467, 468, 469, 470, 2, 471, 77, 78, 79, 214, 215, 216, 217, 218, 472, 473, 474, 475, 10, 11, 476, 24, 477, 580, 581, 582, 583, 584, 585, 586, 587, 588, 589, 590, 639, 640] (by decide +kernel) (by decide +kernel)
set_option maxRecDepth 20000 in
theorem gL_law_X5_sheet : GoodIn wsL_law (wsV RL 104 RX5 yX5_sheet wsX5_sheet) := goodIn_app (goodIn_r _ [463, 464, 465, 2] (by decide +kernel) (by decide +kernel)) ggL_law_X5_sheet
set_option maxRecDepth 20000 in
theorem ggL_law_X6_sheet : GoodIn wsL_law wsX6_sheet := goodIn_r _ [481, 99, 188, 66, 67, 68, 482, 483, 5, 484, 485, 106, 107, 108, 228, 229, 230, 231, 232, 591, 592, 593, 594, 595, 596, 597, 598, 599, 600, 601, 602, 603, 604, 605, 606, 607, 608, 609, 610, 611, 612, 613, 614, 615, 616, 617, 618] (by decide +kernel) (by decide +kernel)
set_option maxRecDepth 20000 in
theorem gL_law_X6_sheet : GoodIn wsL_law (wsV RL 107 RX6 yX6_sheet wsX6_sheet) := goodIn_app (goodIn_r _ [478, 479, 480, 5] (by decide +kernel) (by decide +kernel)) ggL_law_X6_sheet
set_option maxRecDepth 20000 in
theorem ggL_law_X5_tear : GoodIn wsL_law wsX5_tear := goodIn_r _ [489, 23, 469, 470, 2, 471, 77, 78, 79, 214, 215, 216, 217, 218, 580, 581, 582, 583, 584, 585, 586, 587, 588, 589, 590] (by decide +kernel) (by decide +kernel)
set_option maxRecDepth 20000 in
theorem gL_law_X5_tear : GoodIn wsL_law (wsV RL 108 RX5 yX5_tear wsX5_tear) := goodIn_app (goodIn_r _ [486, 487, 488, 2] (by decide +kernel) (by decide +kernel)) ggL_law_X5_tear
set_option maxRecDepth 20000 in
theorem ggL_law_X6_tear : GoodIn wsL_law wsX6_tear := goodIn_r _ [493, 99, 66, 482, 483, 5, 484, 485, 106, 107, 108, 228, 229, 230, 231, 232, 591, 592, 593, 594, 595, 596, 597, 598, 599, 600, 601, 602, 603, 604, 605, 606, 607, 608, 609, 610, 611, 612, 613, 614, 615, 616, 617, 618] (by decide +kernel) (by decide +kernel)
set_option maxRecDepth 20000 in
theorem gL_law_X6_tear : GoodIn wsL_law (wsV RL 111 RX6 yX6_tear wsX6_tear) := goodIn_app (goodIn_r _ [490, 491, 492, 5] (by decide +kernel) (by decide +kernel)) ggL_law_X6_tear
set_option maxRecDepth 20000 in
theorem ggL_law_X5_record : GoodIn wsL_law wsX5_record := goodIn_r _ [497, 23, 498, 469, 470, 2, 471, 77, 78, 79, 214, 215, 216, 217, 218, 142, 143, 144, 145, 17, 329, 330, 331, 332, 141, 19, 207, 291, 292, 293, 294, 295, 296, 297, 298, 208, 209, 15, 241, 299, 257, 248, 258, 219, 220, 221, 222, 74, 75, 91, 92, 93, 14, 94, 39, 40, 242, 243, 244, 245, 246, 247, 249, 250, 34, 41, 32, 251, 252, 253, 254, 31, 255, 30, 256, 42, 43, 44, 499, 500, 501, 468, 502, 476, 503, 504, 505, 506, 507, 508, 509, 510, 511, 580, 581, 582, 583, 584, 585, 586, 587, 588, 589, 590, 639, 640, 632, 633, 634, 635, 626, 627, 628, 629, 630, 631, 619, 620, 621, 622, 623, 624, 625] (by decide +kernel) (by decide +kernel)
set_option maxRecDepth 20000 in
theorem gL_law_X5_record : GoodIn wsL_law (wsV RL 112 RX5 yX5_record wsX5_record) := goodIn_app (goodIn_r _ [494, 495, 496, 2] (by decide +kernel) (by decide +kernel)) ggL_law_X5_record
set_option maxRecDepth 20000 in
theorem ggL_law_X6_record : GoodIn wsL_law wsX6_record := goodIn_r _ [515, 99, 66, 68, 67, 482, 483, 5, 484, 485, 106, 107, 108, 228, 229, 230, 231, 232, 154, 155, 156, 157, 136, 337, 338, 339, 340, 103, 53, 58, 304, 305, 306, 307, 55, 56, 233, 234, 235, 236, 54, 57, 113, 114, 115, 116, 104, 49, 308, 309, 310, 311, 263, 264, 265, 266, 59, 267, 268, 269, 270, 61, 50, 52, 51, 60, 271, 272, 273, 516, 517, 518, 519, 520, 521, 591, 592, 593, 594, 595, 596, 597, 598, 599, 600, 601, 602, 603, 604, 605, 606, 607, 608, 609, 610, 611, 612, 613, 614, 615, 616, 617, 618] (by decide +kernel) (by decide +kernel)
set_option maxRecDepth 20000 in
theorem gL_law_X6_record : GoodIn wsL_law (wsV RL 115 RX6 yX6_record wsX6_record) := goodIn_app (goodIn_r _ [512, 513, 514, 5] (by decide +kernel) (by decide +kernel)) ggL_law_X6_record
set_option maxRecDepth 20000 in
theorem ggL_law_X5_add : GoodIn wsL_law wsX5_add := goodIn_r _ [525, 23, 498, 25, 299, 257, 248, 258, 526, 527, 528, 529, 469, 470, 2, 471, 77, 78, 79, 214, 215, 216, 217, 218, 499, 500, 501, 468, 502, 476, 503, 504, 505, 506, 507, 508, 509, 510, 511, 580, 581, 582, 583, 584, 585, 586, 587, 588, 589, 590, 639, 640] (by decide +kernel) (by decide +kernel)
set_option maxRecDepth 20000 in
theorem gL_law_X5_add : GoodIn wsL_law (wsV RL 116 RX5 yX5_add wsX5_add) := goodIn_app (goodIn_r _ [522, 523, 524, 2] (by decide +kernel) (by decide +kernel)) ggL_law_X5_add
set_option maxRecDepth 20000 in
theorem ggL_law_X6_add : GoodIn wsL_law wsX6_add := goodIn_r _ [533, 99, 66, 69, 68, 67, 482, 483, 5, 484, 485, 106, 107, 108, 228, 229, 230, 231, 232, 516, 517, 518, 519, 520, 521, 591, 592, 593, 594, 595, 596, 597, 598, 599, 600, 601, 602, 603, 604, 605, 606, 607, 608, 609, 610, 611, 612, 613, 614, 615, 616, 617, 618] (by decide +kernel) (by decide +kernel)
set_option maxRecDepth 20000 in
theorem gL_law_X6_add : GoodIn wsL_law (wsV RL 119 RX6 yX6_add wsX6_add) := goodIn_app (goodIn_r _ [530, 531, 532, 5] (by decide +kernel) (by decide +kernel)) ggL_law_X6_add
set_option maxRecDepth 20000 in
theorem ggL_law_X5_copy : GoodIn wsL_law wsX5_copy := goodIn_r _ [537, 23, 538, 498, 526, 527, 528, 529, 469, 470, 2, 471, 77, 78, 79, 214, 215, 216, 217, 218, 539, 540, 541, 468, 542, 477, 580, 581, 582, 583, 584, 585, 586, 587, 588, 589, 590, 639, 640] (by decide +kernel) (by decide +kernel)
set_option maxRecDepth 20000 in
theorem gL_law_X5_copy : GoodIn wsL_law (wsV RL 120 RX5 yX5_copy wsX5_copy) := goodIn_app (goodIn_r _ [534, 535, 536, 2] (by decide +kernel) (by decide +kernel)) ggL_law_X5_copy
set_option maxRecDepth 20000 in
theorem ggL_law_X6_copy : GoodIn wsL_law wsX6_copy := goodIn_r _ [546, 99, 66, 67, 69, 68, 482, 483, 5, 484, 485, 106, 107, 108, 228, 229, 230, 231, 232, 591, 592, 593, 594, 595, 596, 597, 598, 599, 600, 601, 602, 603, 604, 605, 606, 607, 608, 609, 610, 611, 612, 613, 614, 615, 616, 617, 618] (by decide +kernel) (by decide +kernel)
set_option maxRecDepth 20000 in
theorem gL_law_X6_copy : GoodIn wsL_law (wsV RL 123 RX6 yX6_copy wsX6_copy) := goodIn_app (goodIn_r _ [543, 544, 545, 5] (by decide +kernel) (by decide +kernel)) ggL_law_X6_copy
set_option maxRecDepth 20000 in
theorem ggL_law_X5_at : GoodIn wsL_law wsX5_at := goodIn_r _ [550, 23, 498, 469, 470, 2, 471, 77, 78, 79, 214, 215, 216, 217, 218, 580, 581, 582, 583, 584, 585, 586, 587, 588, 589, 590, 639, 640] (by decide +kernel) (by decide +kernel)
set_option maxRecDepth 20000 in
theorem gL_law_X5_at : GoodIn wsL_law (wsV RL 124 RX5 yX5_at wsX5_at) := goodIn_app (goodIn_r _ [547, 548, 549, 2] (by decide +kernel) (by decide +kernel)) ggL_law_X5_at
set_option maxRecDepth 20000 in
theorem ggL_law_X6_at : GoodIn wsL_law wsX6_at := goodIn_r _ [554, 99, 66, 68, 482, 483, 5, 484, 485, 106, 107, 108, 228, 229, 230, 231, 232, 591, 592, 593, 594, 595, 596, 597, 598, 599, 600, 601, 602, 603, 604, 605, 606, 607, 608, 609, 610, 611, 612, 613, 614, 615, 616, 617, 618] (by decide +kernel) (by decide +kernel)
set_option maxRecDepth 20000 in
theorem gL_law_X6_at : GoodIn wsL_law (wsV RL 127 RX6 yX6_at wsX6_at) := goodIn_app (goodIn_r _ [551, 552, 553, 5] (by decide +kernel) (by decide +kernel)) ggL_law_X6_at
set_option maxRecDepth 20000 in
theorem ggL_law_X5_peak : GoodIn wsL_law wsX5_peak := goodIn_r _ [558, 23, 297, 559, 498, 560, 561, 248, 562, 469, 470, 2, 471, 77, 78, 79, 214, 215, 216, 217, 218, 580, 581, 582, 583, 584, 585, 586, 587, 588, 589, 590, 639, 640] (by decide +kernel) (by decide +kernel)
set_option maxRecDepth 20000 in
theorem gL_law_X5_peak : GoodIn wsL_law (wsV RL 128 RX5 yX5_peak wsX5_peak) := goodIn_app (goodIn_r _ [555, 556, 557, 2] (by decide +kernel) (by decide +kernel)) ggL_law_X5_peak
set_option maxRecDepth 20000 in
theorem ggL_law_X6_peak : GoodIn wsL_law wsX6_peak := goodIn_r _ [566, 99, 66, 349, 567, 68, 482, 483, 5, 484, 485, 106, 107, 108, 228, 229, 230, 231, 232, 591, 592, 593, 594, 595, 596, 597, 598, 599, 600, 601, 602, 603, 604, 605, 606, 607, 608, 609, 610, 611, 612, 613, 614, 615, 616, 617, 618] (by decide +kernel) (by decide +kernel)
set_option maxRecDepth 20000 in
theorem gL_law_X6_peak : GoodIn wsL_law (wsV RL 131 RX6 yX6_peak wsX6_peak) := goodIn_app (goodIn_r _ [563, 564, 565, 5] (by decide +kernel) (by decide +kernel)) ggL_law_X6_peak
set_option maxRecDepth 20000 in
theorem ggL_law_X5_total : GoodIn wsL_law wsX5_total := goodIn_r _ [571, 121, 166, 406, 218, 15, 76, 146, 147, 148, 2, 149, 17, 141, 572, 573, 574, 575, 23, 91, 92, 93, 14, 94, 39, 40, 580, 581, 582, 583, 584, 585, 586, 587, 588, 589, 590, 632, 633, 634, 635, 619, 620, 621, 622, 623, 624, 625] (by decide +kernel) (by decide +kernel)
set_option maxRecDepth 20000 in
theorem gL_law_X5_total : GoodIn wsL_law (wsV RL 132 RX5 yX5_total wsX5_total) := goodIn_app (goodIn_r _ [568, 569, 570, 2] (by decide +kernel) (by decide +kernel)) ggL_law_X5_total
set_option maxRecDepth 20000 in
theorem ggL_law_X6_total : GoodIn wsL_law wsX6_total := goodIn_r _ [579, 99, 66, 136, 103, 421, 232, 105, 158, 159, 160, 5, 161, 53, 113, 114, 115, 116, 104, 49, 591, 592, 593, 594, 595, 596, 597, 598, 599, 600, 601, 602, 603, 604, 605, 606, 607, 608, 609, 610, 611, 612, 613, 614, 615, 616, 617, 618] (by decide +kernel) (by decide +kernel)
set_option maxRecDepth 20000 in
theorem gL_law_X6_total : GoodIn wsL_law (wsV RL 135 RX6 yX6_total wsX6_total) := goodIn_app (goodIn_r _ [576, 577, 578, 5] (by decide +kernel) (by decide +kernel)) ggL_law_X6_total
