set_option maxRecDepth 20000 in
theorem ggL_law_X5_heard : GoodIn wsL_law wsX5_heard := goodIn_r _ [381, 77, 147, 148, 149, 2, 150, 17, 382, 383, 384, 385, 146, 365, 339, 340, 341, 342, 19, 212, 302, 303, 304, 305, 306, 307, 252, 308, 213, 214, 309, 265, 262, 266, 224, 225, 226, 227, 75, 15, 76, 97, 98, 99, 14, 100, 37, 38, 246, 247, 248, 249, 250, 251, 253, 254, 255, 256, 257, 258, 32, 39, 259, 260, 261, 263, 264, 30, 267, 268, 269, 44, 45, 40, 41, 42, 43, 587, 588, 589, 590, 591, 592, 593, 594, 595, 596, 597, 637, 638, 639, 640, 641, 631, 632, 633, 634, 635, 636, 626, 627, 628, 629, 630] (by decide +kernel) (by decide +kernel)
set_option maxRecDepth 20000 in
theorem gL_law_X5_heard : GoodIn wsL_law (wsV RL 76 RX5 yX5_heard wsX5_heard) := goodIn_app (goodIn_r _ [378, 379, 380, 2] (by decide +kernel) (by decide +kernel)) ggL_law_X5_heard
set_option maxRecDepth 20000 in
theorem ggL_law_X6_heard : GoodIn wsL_law wsX6_heard := goodIn_r _ [389, 105, 111, 159, 160, 161, 5, 162, 141, 112, 113, 114, 390, 391, 392, 393, 54, 63, 347, 348, 349, 350, 109, 59, 314, 315, 316, 317, 56, 57, 238, 239, 240, 241, 55, 58, 119, 120, 121, 122, 110, 50, 318, 319, 320, 321, 274, 275, 276, 277, 60, 278, 279, 280, 281, 62, 51, 53, 52, 61, 282, 283, 284, 598, 599, 600, 601, 602, 603, 604, 605, 606, 607, 608, 609, 610, 611, 612, 613, 614, 615, 616, 617, 618, 619, 620, 621, 622, 623, 624, 625] (by decide +kernel) (by decide +kernel)
set_option maxRecDepth 20000 in
theorem gL_law_X6_heard : GoodIn wsL_law (wsV RL 79 RX6 yX6_heard wsX6_heard) := goodIn_app (goodIn_r _ [386, 387, 388, 5] (by decide +kernel) (by decide +kernel)) ggL_law_X6_heard
set_option maxRecDepth 20000 in
theorem ggL_law_X5_sum : GoodIn wsL_law wsX5_sum := goodIn_r _ [397, 77, 17, 146, 365, 382, 383, 384, 2, 385, 339, 340, 341, 342, 19, 212, 302, 303, 304, 305, 306, 307, 252, 308, 213, 214, 309, 265, 262, 266, 224, 225, 226, 227, 75, 15, 76, 97, 98, 99, 14, 100, 37, 38, 246, 247, 248, 249, 250, 251, 253, 254, 255, 256, 257, 258, 32, 39, 259, 260, 261, 263, 264, 30, 267, 268, 269, 44, 45, 40, 41, 42, 43, 587, 588, 589, 590, 591, 592, 593, 594, 595, 596, 597, 637, 638, 639, 640, 641, 631, 632, 633, 634, 635, 636, 626, 627, 628, 629, 630] (by decide +kernel) (by decide +kernel)
set_option maxRecDepth 20000 in
theorem gL_law_X5_sum : GoodIn wsL_law (wsV RL 80 RX5 yX5_sum wsX5_sum) := goodIn_app (goodIn_r _ [394, 395, 396, 2] (by decide +kernel) (by decide +kernel)) ggL_law_X5_sum
set_option maxRecDepth 20000 in
theorem ggL_law_X6_sum : GoodIn wsL_law wsX6_sum := goodIn_r _ [401, 105, 111, 141, 54, 63, 390, 391, 392, 5, 393, 347, 348, 349, 350, 109, 59, 314, 315, 316, 317, 56, 57, 238, 239, 240, 241, 55, 58, 119, 120, 121, 122, 110, 50, 318, 319, 320, 321, 274, 275, 276, 277, 60, 278, 279, 280, 281, 62, 51, 53, 52, 61, 282, 283, 284, 598, 599, 600, 601, 602, 603, 604, 605, 606, 607, 608, 609, 610, 611, 612, 613, 614, 615, 616, 617, 618, 619, 620, 621, 622, 623, 624, 625] (by decide +kernel) (by decide +kernel)
set_option maxRecDepth 20000 in
theorem gL_law_X6_sum : GoodIn wsL_law (wsV RL 83 RX6 yX6_sum wsX6_sum) := goodIn_app (goodIn_r _ [398, 399, 400, 5] (by decide +kernel) (by decide +kernel)) ggL_law_X6_sum
set_option maxRecDepth 20000 in
theorem ggL_law_X5_board : GoodIn wsL_law wsX5_board := goodIn_r _ [405, 15, 17, 146, 172, 173, 174, 14, 175, 37, 38, 44, 2, 45, 246, 247, 248, 249, 250, 251, 252, 253, 254, 255, 256, 257, 258, 32, 39, 259, 260, 261, 262, 263, 264, 265, 266, 30, 267, 268, 269, 40, 41, 42, 43, 339, 340, 341, 342, 19, 212, 302, 303, 304, 305, 306, 307, 308, 213, 214, 309, 224, 225, 226, 227, 75, 76, 97, 98, 99, 100, 587, 588, 589, 590, 591, 592, 593, 594, 595, 596, 597, 637, 638, 639, 640, 641, 626, 627, 628, 629, 630, 631, 632, 633, 634, 635, 636] (by decide +kernel) (by decide +kernel)
set_option maxRecDepth 20000 in
theorem gL_law_X5_board : GoodIn wsL_law (wsV RL 84 RX5 yX5_board wsX5_board) := goodIn_app (goodIn_r _ [402, 403, 404, 2] (by decide +kernel) (by decide +kernel)) ggL_law_X5_board
set_option maxRecDepth 20000 in
theorem ggL_law_X6_board : GoodIn wsL_law wsX6_board := goodIn_r _ [409, 105, 141, 196, 197, 198, 5, 199, 140, 110, 112, 113, 114, 119, 120, 121, 122, 50, 274, 275, 276, 277, 60, 278, 279, 280, 281, 62, 51, 53, 52, 61, 282, 283, 284, 347, 348, 349, 350, 109, 54, 59, 314, 315, 316, 317, 56, 57, 238, 239, 240, 241, 55, 58, 318, 319, 320, 321, 598, 599, 600, 601, 602, 603, 604, 605, 606, 607, 608, 609, 610, 611, 612, 613, 614, 615, 616, 617, 618, 619, 620, 621, 622, 623, 624, 625] (by decide +kernel) (by decide +kernel)
set_option maxRecDepth 20000 in
theorem gL_law_X6_board : GoodIn wsL_law (wsV RL 87 RX6 yX6_board wsX6_board) := goodIn_app (goodIn_r _ [406, 407, 408, 5] (by decide +kernel) (by decide +kernel)) ggL_law_X6_board
set_option maxRecDepth 20000 in
theorem ggL_law_X5_tell : GoodIn wsL_law wsX5_tell := goodIn_r _ [413, 414, 21, 20, 415, 416, 147, 148, 149, 2, 150, 17, 78, 44, 45, 417, 418, 419, 420, 10, 11, 421, 422, 423, 587, 588, 589, 590, 591, 592, 593, 594, 595, 596, 597, 642, 643, 644] (by decide +kernel) (by decide +kernel)
set_option maxRecDepth 20000 in
theorem gL_law_X5_tell : GoodIn wsL_law (wsV RL 88 RX5 yX5_tell wsX5_tell) := goodIn_app (goodIn_r _ [410, 411, 412, 2] (by decide +kernel) (by decide +kernel)) ggL_law_X5_tell
set_option maxRecDepth 20000 in
theorem ggL_law_X6_tell : GoodIn wsL_law wsX6_tell := goodIn_r _ [427, 105, 428, 429, 64, 65, 66, 159, 160, 161, 5, 162, 141, 112, 113, 114, 598, 599, 600, 601, 602, 603, 604, 605, 606, 607, 608, 609, 610, 611, 612, 613, 614, 615, 616, 617, 618, 619, 620, 621, 622, 623, 624, 625] (by decide +kernel) (by decide +kernel)
set_option maxRecDepth 20000 in
theorem gL_law_X6_tell : GoodIn wsL_law (wsV RL 91 RX6 yX6_tell wsX6_tell) := goodIn_app (goodIn_r _ [424, 425, 426, 5] (by decide +kernel) (by decide +kernel)) ggL_law_X6_tell
set_option maxRecDepth 20000 in
theorem ggL_law_X5_forget : GoodIn wsL_law wsX5_forget := goodIn_r _ [433, 414, 21, 587, 588, 589, 590, 591, 592, 593, 594, 595, 596, 597] (by decide +kernel) (by decide +kernel)
set_option maxRecDepth 20000 in
theorem gL_law_X5_forget : GoodIn wsL_law (wsV RL 92 RX5 yX5_forget wsX5_forget) := goodIn_app (goodIn_r _ [430, 431, 432, 2] (by decide +kernel) (by decide +kernel)) ggL_law_X5_forget
set_option maxRecDepth 20000 in
theorem ggL_law_X6_forget : GoodIn wsL_law wsX6_forget := goodIn_r _ [437, 105, 429, 598, 599, 600, 601, 602, 603, 604, 605, 606, 607, 608, 609, 610, 611, 612, 613, 614, 615, 616, 617, 618, 619, 620, 621, 622, 623, 624, 625] (by decide +kernel) (by decide +kernel)
set_option maxRecDepth 20000 in
theorem gL_law_X6_forget : GoodIn wsL_law (wsV RL 95 RX6 yX6_forget wsX6_forget) := goodIn_app (goodIn_r _ [434, 435, 436, 5] (by decide +kernel) (by decide +kernel)) ggL_law_X6_forget
set_option maxRecDepth 20000 in
theorem ggL_law_X5_places : GoodIn wsL_law wsX5_places := goodIn_r _ [441, 15, 250, 78, 44, 2, 45, 97, 98, 99, 14, 100, 37, 38, 442, 443, 444, 445, 21, 446, 447, 448, 326, 268, 262, 269, 246, 247, 248, 249, 251, 252, 253, 254, 255, 256, 257, 258, 32, 39, 259, 260, 261, 263, 264, 265, 266, 30, 267, 40, 41, 42, 43, 587, 588, 589, 590, 591, 592, 593, 594, 595, 596, 597, 626, 627, 628, 629, 630, 642, 643, 644, 637, 638, 639, 640, 641] (by decide +kernel) (by decide +kernel)
set_option maxRecDepth 20000 in
theorem gL_law_X5_places : GoodIn wsL_law (wsV RL 96 RX5 yX5_places wsX5_places) := goodIn_app (goodIn_r _ [438, 439, 440, 2] (by decide +kernel) (by decide +kernel)) ggL_law_X5_places
set_option maxRecDepth 20000 in
theorem ggL_law_X6_places : GoodIn wsL_law wsX6_places := goodIn_r _ [452, 105, 453, 112, 113, 5, 114, 454, 455, 456, 457, 110, 359, 119, 120, 121, 122, 50, 458, 459, 460, 461, 429, 64, 65, 66, 274, 275, 276, 277, 60, 278, 279, 280, 281, 62, 51, 53, 52, 61, 282, 283, 284, 598, 599, 600, 601, 602, 603, 604, 605, 606, 607, 608, 609, 610, 611, 612, 613, 614, 615, 616, 617, 618, 619, 620, 621, 622, 623, 624, 625] (by decide +kernel) (by decide +kernel)
set_option maxRecDepth 20000 in
theorem gL_law_X6_places : GoodIn wsL_law (wsV RL 99 RX6 yX6_places wsX6_places) := goodIn_app (goodIn_r _ [449, 450, 451, 5] (by decide +kernel) (by decide +kernel)) ggL_law_X6_places
set_option maxRecDepth 20000 in
theorem ggL_law_X5_place : GoodIn wsL_law wsX5_place := goodIn_r _ [465, 252, 15, 250, 78, 44, 2, 45, 97, 98, 99, 14, 100, 37, 38, 442, 443, 444, 445, 21, 446, 447, 448, 326, 268, 262, 269, 246, 247, 248, 249, 251, 253, 254, 255, 256, 257, 258, 32, 39, 259, 260, 261, 263, 264, 265, 266, 30, 267, 40, 41, 42, 43, 587, 588, 589, 590, 591, 592, 593, 594, 595, 596, 597, 626, 627, 628, 629, 630, 642, 643, 644, 637, 638, 639, 640, 641] (by decide +kernel) (by decide +kernel)
set_option maxRecDepth 20000 in
theorem gL_law_X5_place : GoodIn wsL_law (wsV RL 100 RX5 yX5_place wsX5_place) := goodIn_app (goodIn_r _ [462, 463, 464, 2] (by decide +kernel) (by decide +kernel)) ggL_law_X5_place
set_option maxRecDepth 20000 in
theorem ggL_law_X6_place : GoodIn wsL_law wsX6_place := goodIn_r _ [469, 105, 453, 359, 112, 113, 5, 114, 454, 455, 456, 457, 110, 119, 120, 121, 122, 50, 458, 459, 460, 461, 429, 64, 65, 66, 274, 275, 276, 277, 60, 278, 279, 280, 281, 62, 51, 53, 52, 61, 282, 283, 284, 598, 599, 600, 601, 602, 603, 604, 605, 606, 607, 608, 609, 610, 611, 612, 613, 614, 615, 616, 617, 618, 619, 620, 621, 622, 623, 624, 625] (by decide +kernel) (by decide +kernel)
set_option maxRecDepth 20000 in
theorem gL_law_X6_place : GoodIn wsL_law (wsV RL 103 RX6 yX6_place wsX6_place) := goodIn_app (goodIn_r _ [466, 467, 468, 5] (by decide +kernel) (by decide +kernel)) ggL_law_X6_place
set_option maxRecDepth 20000 in
theorem ggL_law_X5_sheet : GoodIn wsL_law wsX5_sheet := goodIn_r _ [473, 23, 22, 474, 475, 476, 477, 2, 478, 78, 44, 45, 219, 220, 221, 222, 223, 479, 480, 481, 482, 10, 11, 483, 24, 484, 587, 588, 589, 590, 591, 592, 593, 594, 595, 596, 597, 645, 646] (by decide +kernel) (by decide +kernel)
set_option maxRecDepth 20000 in
theorem gL_law_X5_sheet : GoodIn wsL_law (wsV RL 104 RX5 yX5_sheet wsX5_sheet) := goodIn_app (goodIn_r _ [470, 471, 472, 2] (by decide +kernel) (by decide +kernel)) ggL_law_X5_sheet
set_option maxRecDepth 20000 in
theorem ggL_law_X6_sheet : GoodIn wsL_law wsX6_sheet := goodIn_r _ [488, 105, 193, 67, 68, 69, 489, 490, 5, 491, 492, 112, 113, 114, 233, 234, 235, 236, 237, 598, 599, 600, 601, 602, 603, 604, 605, 606, 607, 608, 609, 610, 611, 612, 613, 614, 615, 616, 617, 618, 619, 620, 621, 622, 623, 624, 625] (by decide +kernel) (by decide +kernel)
set_option maxRecDepth 20000 in
theorem gL_law_X6_sheet : GoodIn wsL_law (wsV RL 107 RX6 yX6_sheet wsX6_sheet) := goodIn_app (goodIn_r _ [485, 486, 487, 5] (by decide +kernel) (by decide +kernel)) ggL_law_X6_sheet
set_option maxRecDepth 20000 in
theorem ggL_law_X5_tear : GoodIn wsL_law wsX5_tear := goodIn_r _ [496, 23, 476, 477, 2, 478, 78, 44, 45, 219, 220, 221, 222, 223, 587, 588, 589, 590, 591, 592, 593, 594, 595, 596, 597] (by decide +kernel) (by decide +kernel)
set_option maxRecDepth 20000 in
theorem gL_law_X5_tear : GoodIn wsL_law (wsV RL 108 RX5 yX5_tear wsX5_tear) := goodIn_app (goodIn_r _ [493, 494, 495, 2] (by decide +kernel) (by decide +kernel)) ggL_law_X5_tear
set_option maxRecDepth 20000 in
theorem ggL_law_X6_tear : GoodIn wsL_law wsX6_tear := goodIn_r _ [500, 105, 67, 489, 490, 5, 491, 492, 112, 113, 114, 233, 234, 235, 236, 237, 598, 599, 600, 601, 602, 603, 604, 605, 606, 607, 608, 609, 610, 611, 612, 613, 614, 615, 616, 617, 618, 619, 620, 621, 622, 623, 624, 625] (by decide +kernel) (by decide +kernel)
set_option maxRecDepth 20000 in
theorem gL_law_X6_tear : GoodIn wsL_law (wsV RL 111 RX6 yX6_tear wsX6_tear) := goodIn_app (goodIn_r _ [497, 498, 499, 5] (by decide +kernel) (by decide +kernel)) ggL_law_X6_tear
set_option maxRecDepth 20000 in
theorem ggL_law_X5_record : GoodIn wsL_law wsX5_record := goodIn_r _ [504, 23, 505, 476, 477, 2, 478, 78, 44, 45, 219, 220, 221, 222, 223, 147, 148, 149, 150, 17, 339, 340, 341, 342, 146, 19, 212, 302, 303, 304, 305, 306, 307, 252, 308, 213, 214, 309, 265, 262, 266, 224, 225, 226, 227, 75, 15, 76, 97, 98, 99, 14, 100, 37, 38, 246, 247, 248, 249, 250, 251, 253, 254, 255, 256, 257, 258, 32, 39, 259, 260, 261, 263, 264, 30, 267, 268, 269, 40, 41, 42, 43, 506, 507, 508, 475, 509, 483, 510, 511, 512, 513, 514, 515, 516, 517, 518, 587, 588, 589, 590, 591, 592, 593, 594, 595, 596, 597, 645, 646, 637, 638, 639, 640, 641, 631, 632, 633, 634, 635, 636, 626, 627, 628, 629, 630] (by decide +kernel) (by decide +kernel)
set_option maxRecDepth 20000 in
theorem gL_law_X5_record : GoodIn wsL_law (wsV RL 112 RX5 yX5_record wsX5_record) := goodIn_app (goodIn_r _ [501, 502, 503, 2] (by decide +kernel) (by decide +kernel)) ggL_law_X5_record
set_option maxRecDepth 20000 in
theorem ggL_law_X6_record : GoodIn wsL_law wsX6_record := goodIn_r _ [522, 105, 67, 69, 68, 489, 490, 5, 491, 492, 112, 113, 114, 233, 234, 235, 236, 237, 159, 160, 161, 162, 141, 347, 348, 349, 350, 109, 54, 59, 314, 315, 316, 317, 56, 57, 238, 239, 240, 241, 55, 58, 119, 120, 121, 122, 110, 50, 318, 319, 320, 321, 274, 275, 276, 277, 60, 278, 279, 280, 281, 62, 51, 53, 52, 61, 282, 283, 284, 523, 524, 525, 526, 527, 528, 598, 599, 600, 601, 602, 603, 604, 605, 606, 607, 608, 609, 610, 611, 612, 613, 614, 615, 616, 617, 618, 619, 620, 621, 622, 623, 624, 625] (by decide +kernel) (by decide +kernel)
set_option maxRecDepth 20000 in
theorem gL_law_X6_record : GoodIn wsL_law (wsV RL 115 RX6 yX6_record wsX6_record) := goodIn_app (goodIn_r _ [519, 520, 521, 5] (by decide +kernel) (by decide +kernel)) ggL_law_X6_record
set_option maxRecDepth 20000 in
theorem ggL_law_X5_add : GoodIn wsL_law wsX5_add := goodIn_r _ [532, 23, 505, 25, 309, 265, 262, 266, 533, 534, 535, 536, 476, 477, 2, 478, 78, 44, 45, 219, 220, 221, 222, 223, 506, 507, 508, 475, 509, 483, 510, 511, 512, 513, 514, 515, 516, 517, 518, 587, 588, 589, 590, 591, 592, 593, 594, 595, 596, 597, 645, 646] (by decide +kernel) (by decide +kernel)
set_option maxRecDepth 20000 in
theorem gL_law_X5_add : GoodIn wsL_law (wsV RL 116 RX5 yX5_add wsX5_add) := goodIn_app (goodIn_r _ [529, 530, 531, 2] (by decide +kernel) (by decide +kernel)) ggL_law_X5_add
set_option maxRecDepth 20000 in
theorem ggL_law_X6_add : GoodIn wsL_law wsX6_add := goodIn_r _ [540, 105, 67, 70, 69, 68, 489, 490, 5, 491, 492, 112, 113, 114, 233, 234, 235, 236, 237, 523, 524, 525, 526, 527, 528, 598, 599, 600, 601, 602, 603, 604, 605, 606, 607, 608, 609, 610, 611, 612, 613, 614, 615, 616, 617, 618, 619, 620, 621, 622, 623, 624, 625] (by decide +kernel) (by decide +kernel)
set_option maxRecDepth 20000 in
theorem gL_law_X6_add : GoodIn wsL_law (wsV RL 119 RX6 yX6_add wsX6_add) := goodIn_app (goodIn_r _ [537, 538, 539, 5] (by decide +kernel) (by decide +kernel)) ggL_law_X6_add
set_option maxRecDepth 20000 in
theorem ggL_law_X5_copy : GoodIn wsL_law wsX5_copy := goodIn_r _ [544, 23, 545, 505, 533, 534, 535, 536, 476, 477, 2, 478, 78, 44, 45, 219, 220, 221, 222, 223, 546, 547, 548, 475, 549, 484, 587, 588, 589, 590, 591, 592, 593, 594, 595, 596, 597, 645, 646] (by decide +kernel) (by decide +kernel)
set_option maxRecDepth 20000 in
theorem gL_law_X5_copy : GoodIn wsL_law (wsV RL 120 RX5 yX5_copy wsX5_copy) := goodIn_app (goodIn_r _ [541, 542, 543, 2] (by decide +kernel) (by decide +kernel)) ggL_law_X5_copy
set_option maxRecDepth 20000 in
theorem ggL_law_X6_copy : GoodIn wsL_law wsX6_copy := goodIn_r _ [553, 105, 67, 68, 70, 69, 489, 490, 5, 491, 492, 112, 113, 114, 233, 234, 235, 236, 237, 598, 599, 600, 601, 602, 603, 604, 605, 606, 607, 608, 609, 610, 611, 612, 613, 614, 615, 616, 617, 618, 619, 620, 621, 622, 623, 624, 625] (by decide +kernel) (by decide +kernel)
set_option maxRecDepth 20000 in
theorem gL_law_X6_copy : GoodIn wsL_law (wsV RL 123 RX6 yX6_copy wsX6_copy) := goodIn_app (goodIn_r _ [550, 551, 552, 5] (by decide +kernel) (by decide +kernel)) ggL_law_X6_copy
set_option maxRecDepth 20000 in
theorem ggL_law_X5_at : GoodIn wsL_law wsX5_at := goodIn_r _ [557, 23, 505, 476, 477, 2, 478, 78, 44, 45, 219, 220, 221, 222, 223, 587, 588, 589, 590, 591, 592, 593, 594, 595, 596, 597, 645, 646] (by decide +kernel) (by decide +kernel)
set_option maxRecDepth 20000 in
theorem gL_law_X5_at : GoodIn wsL_law (wsV RL 124 RX5 yX5_at wsX5_at) := goodIn_app (goodIn_r _ [554, 555, 556, 2] (by decide +kernel) (by decide +kernel)) ggL_law_X5_at
set_option maxRecDepth 20000 in
theorem ggL_law_X6_at : GoodIn wsL_law wsX6_at := goodIn_r _ [561, 105, 67, 69, 489, 490, 5, 491, 492, 112, 113, 114, 233, 234, 235, 236, 237, 598, 599, 600, 601, 602, 603, 604, 605, 606, 607, 608, 609, 610, 611, 612, 613, 614, 615, 616, 617, 618, 619, 620, 621, 622, 623, 624, 625] (by decide +kernel) (by decide +kernel)
set_option maxRecDepth 20000 in
theorem gL_law_X6_at : GoodIn wsL_law (wsV RL 127 RX6 yX6_at wsX6_at) := goodIn_app (goodIn_r _ [558, 559, 560, 5] (by decide +kernel) (by decide +kernel)) ggL_law_X6_at
set_option maxRecDepth 20000 in
theorem ggL_law_X5_peak : GoodIn wsL_law wsX5_peak := goodIn_r _ [565, 23, 252, 566, 505, 567, 568, 262, 569, 476, 477, 2, 478, 78, 44, 45, 219, 220, 221, 222, 223, 587, 588, 589, 590, 591, 592, 593, 594, 595, 596, 597, 645, 646] (by decide +kernel) (by decide +kernel)
set_option maxRecDepth 20000 in
theorem gL_law_X5_peak : GoodIn wsL_law (wsV RL 128 RX5 yX5_peak wsX5_peak) := goodIn_app (goodIn_r _ [562, 563, 564, 2] (by decide +kernel) (by decide +kernel)) ggL_law_X5_peak
set_option maxRecDepth 20000 in
theorem ggL_law_X6_peak : GoodIn wsL_law wsX6_peak := goodIn_r _ [573, 105, 67, 359, 574, 69, 489, 490, 5, 491, 492, 112, 113, 114, 233, 234, 235, 236, 237, 598, 599, 600, 601, 602, 603, 604, 605, 606, 607, 608, 609, 610, 611, 612, 613, 614, 615, 616, 617, 618, 619, 620, 621, 622, 623, 624, 625] (by decide +kernel) (by decide +kernel)
set_option maxRecDepth 20000 in
theorem gL_law_X6_peak : GoodIn wsL_law (wsV RL 131 RX6 yX6_peak wsX6_peak) := goodIn_app (goodIn_r _ [570, 571, 572, 5] (by decide +kernel) (by decide +kernel)) ggL_law_X6_peak
set_option maxRecDepth 20000 in
theorem ggL_law_X5_total : GoodIn wsL_law wsX5_total := goodIn_r _ [578, 127, 171, 414, 223, 15, 77, 151, 152, 153, 2, 154, 17, 146, 579, 580, 581, 582, 23, 97, 98, 99, 14, 100, 37, 38, 587, 588, 589, 590, 591, 592, 593, 594, 595, 596, 597, 637, 638, 639, 640, 641, 626, 627, 628, 629, 630] (by decide +kernel) (by decide +kernel)
set_option maxRecDepth 20000 in
theorem gL_law_X5_total : GoodIn wsL_law (wsV RL 132 RX5 yX5_total wsX5_total) := goodIn_app (goodIn_r _ [575, 576, 577, 2] (by decide +kernel) (by decide +kernel)) ggL_law_X5_total
set_option maxRecDepth 20000 in
theorem ggL_law_X6_total : GoodIn wsL_law wsX6_total := goodIn_r _ [586, 105, 67, 141, 109, 429, 237, 111, 163, 164, 165, 5, 166, 54, 119, 120, 121, 122, 110, 50, 598, 599, 600, 601, 602, 603, 604, 605, 606, 607, 608, 609, 610, 611, 612, 613, 614, 615, 616, 617, 618, 619, 620, 621, 622, 623, 624, 625] (by decide +kernel) (by decide +kernel)
set_option maxRecDepth 20000 in
theorem gL_law_X6_total : GoodIn wsL_law (wsV RL 135 RX6 yX6_total wsX6_total) := goodIn_app (goodIn_r _ [583, 584, 585, 5] (by decide +kernel) (by decide +kernel)) ggL_law_X6_total
