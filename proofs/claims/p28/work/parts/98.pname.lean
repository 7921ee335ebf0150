set_option maxRecDepth 20000 in
theorem ggL_law_X9_init : GoodIn wsL_law wsX9_init := goodIn_r _ [6, 7, 8, 9, 10, 11, 12, 13, 14, 15, 16, 17, 18, 19, 20, 21, 22, 23, 24, 25, 26, 27, 28, 29, 30, 31, 32, 33, 34, 35, 36, 37, 38, 39, 40, 41, 42, 43, 44, 45, 46, 47, 48, 49, 50, 51, 52, 53, 54, 55, 56, 57, 58, 59, 60, 61, 62, 63, 64, 65, 66, 67, 68, 69, 70, 71, 72, 73, 74, 75, 76, 77, 78, 79, 80, 81, 82, 83, 84, 85, 86, 87, 88, 89, 90, 91, 92, 93, 94, 95, 96, 97, 98, 99, 100, 101, 102, 103, 104, 105, 106, 107, 108, 109, 110, 111, 112, 113, 114, 115, 116, 117, 118, 119, 120, 121, 122, 123, 124, 125, 126, 127, 128, 129, 130, 131, 132, 133, 134, 135, 136, 137, 138, 139, 140, 141, 142, 143, 144, 145, 146, 147, 148, 149, 150, 151, 152, 153, 154, 155, 156, 157, 158, 159, 160, 161, 162, 163, 164, 597, 598, 599, 600, 601, 602, 603, 604, 605, 588, 589, 590, 591, 592, 593, 594, 595, 596, 606, 607, 608, 609, 610, 611, 612, 613, 614, 615, 616, 617, 618, 619, 620, 621, 622, 623, 624, 625, 626, 627, 628, 629, 630, 631, 632, 633, 634, 635, 636, 637, 638, 639, 640, 641, 642, 643, 644, 645, 646, 647, 648, 649, 650, 651, 652, 653, 654, 655, 656, 657, 658, 659] (by decide +kernel) (by decide +kernel)
set_option maxRecDepth 20000 in
theorem gL_law_X9_init : GoodIn wsL_law (wsX9_init) := ggL_law_X9_init
set_option maxRecDepth 20000 in
theorem ggL_law_X9_found : GoodIn wsL_law wsX9_found := goodIn_ca (goodIn_ca (goodIn_ca (goodIn_r _ [168, 13, 169, 170, 171, 172, 12, 173, 174, 175, 38, 176, 177, 178, 179, 37, 180, 105, 101, 181, 93, 94, 63, 95, 71, 182, 183, 184, 2, 185, 21, 22, 186, 187, 188, 189, 190, 191, 192, 193, 194, 195, 196, 15, 197, 198, 199, 200, 30, 201, 202, 203, 204, 205, 206, 207, 208, 209, 210, 211, 212, 213, 214, 215, 216, 217, 218, 219, 220, 18, 14, 221, 222, 223, 17, 224, 225, 226, 227, 228, 229, 230, 231, 34, 232, 55, 233, 89, 90, 33, 91, 81, 86, 82, 83, 84, 85, 92, 234, 235, 236, 237, 238, 239, 240, 241, 20, 242, 243, 244, 245, 246, 247, 248, 249, 42, 250, 251, 252, 253, 254, 255, 256, 257, 258, 259, 260, 261, 262, 263, 264, 102, 265, 266, 267, 268, 41, 269, 111, 112, 113, 114, 115, 116, 270, 271, 272, 273, 274, 117, 275, 276, 277, 278, 279, 588, 589, 590, 591, 592, 593, 594, 595, 596, 597, 598, 599, 600, 601, 602, 603, 604, 605, 615, 616, 617, 618, 619, 620, 659, 606, 607, 608, 609, 610, 611, 612, 613, 614, 621, 622, 623, 624, 625, 626, 627, 628, 629] (by decide +kernel) (by decide +kernel)) (goodIn_sub (fun _ h => List.mem_append_left _ (List.mem_append_left _ (List.mem_append_right _ h))) (by decide +kernel))) (goodIn_sub (fun _ h => List.mem_append_left _ (List.mem_append_right _ h)) (by decide +kernel))) (goodIn_sub (fun _ h => List.mem_append_right _ h) (by decide +kernel))
set_option maxRecDepth 20000 in
theorem gL_law_X9_found : GoodIn wsL_law (wsV RL 18 RX9 yX9_found wsX9_found) := goodIn_app (goodIn_of _ (by decide +kernel)) ggL_law_X9_found
set_option maxRecDepth 20000 in
theorem ggL_law_X8_many : GoodIn wsL_law wsX8_many := goodIn_ca (goodIn_r _ [283, 207, 208, 12, 209, 210, 211, 284, 285, 286, 287, 38, 176, 42, 251, 250, 252, 55, 34, 232, 288, 289, 56, 290, 291, 292, 63, 293, 71, 597, 598, 599, 600, 601, 602, 603, 604, 605, 615, 616, 617, 618, 619, 620, 621, 622, 623, 624, 625, 626, 627, 628, 629, 609, 610, 611, 612, 613, 614, 659] (by decide +kernel) (by decide +kernel)) (goodIn_sub (fun _ h => List.mem_append_right _ h) (by decide +kernel))
set_option maxRecDepth 20000 in
theorem gL_law_X8_many : GoodIn wsL_law (wsV RL 22 RX8 yX8_many wsX8_many) := goodIn_app (goodIn_of _ (by decide +kernel)) ggL_law_X8_many
set_option maxRecDepth 20000 in
theorem ggL_law_X9_draw : GoodIn wsL_law wsX9_draw := goodIn_r _ [185, 21, 22, 186, 187, 188, 189, 190, 191, 192, 588, 589, 590, 591, 592, 593, 594, 595, 596] (by decide +kernel) (by decide +kernel)
set_option maxRecDepth 20000 in
theorem gL_law_X9_draw : GoodIn wsL_law (wsV RL 28 RX9 yX9_draw wsX9_draw) := goodIn_app (goodIn_of _ (by decide +kernel)) ggL_law_X9_draw
set_option maxRecDepth 20000 in
theorem ggL_law_X8_ofWeek : GoodIn wsL_law wsX8_ofWeek := goodIn_ca (goodIn_ca (goodIn_r _ [298, 42, 251, 299, 300, 301, 12, 302, 205, 206, 38, 303, 304, 305, 37, 306, 105, 101, 265, 213, 214, 63, 215, 71, 202, 203, 204, 207, 208, 209, 210, 211, 307, 308, 309, 310, 46, 50, 30, 34, 54, 311, 312, 313, 45, 314, 135, 139, 132, 133, 134, 315, 316, 317, 318, 136, 319, 320, 73, 74, 75, 321, 322, 323, 324, 325, 137, 326, 93, 94, 95, 327, 328, 329, 330, 331, 332, 333, 334, 335, 126, 128, 336, 337, 338, 339, 340, 131, 341, 342, 343, 344, 125, 127, 129, 130, 345, 346, 347, 348, 349, 350, 351, 352, 353, 354, 355, 356, 138, 357, 358, 359, 49, 360, 154, 149, 150, 361, 362, 363, 364, 148, 145, 365, 366, 367, 151, 147, 368, 369, 370, 371, 372, 373, 152, 146, 153, 374, 375, 376, 377, 378, 379, 380, 381, 382, 383, 384, 385, 386, 387, 388, 389, 33, 390, 86, 81, 391, 392, 393, 394, 395, 396, 397, 398, 399, 82, 83, 400, 401, 402, 53, 403, 160, 162, 404, 163, 161, 405, 406, 407, 408, 409, 410, 411, 412, 413, 414, 415, 416, 417, 418, 419, 420, 84, 421, 422, 423, 424, 425, 85, 426, 427, 428, 429, 430, 431, 432, 433, 434, 435, 436, 437, 438, 439, 440, 441, 442, 443, 444, 445, 212, 446, 447, 448, 449, 597, 598, 599, 600, 601, 602, 603, 604, 605, 621, 622, 623, 624, 625, 626, 627, 628, 629, 615, 616, 617, 618, 619, 620, 659, 630, 631, 632, 633, 634, 635, 636, 637, 638, 639, 640, 641, 642, 643, 644, 645, 646, 647, 648, 649, 650, 651, 652, 653, 654, 606, 607, 608, 609, 610, 611, 612, 613, 614, 655, 656, 657, 658] (by decide +kernel) (by decide +kernel)) (goodIn_sub (fun _ h => List.mem_append_left _ (List.mem_append_right _ h)) (by decide +kernel))) (goodIn_sub (fun _ h => List.mem_append_right _ h) (by decide +kernel))
set_option maxRecDepth 20000 in
theorem gL_law_X8_ofWeek : GoodIn wsL_law (wsV RL 31 RX8 yX8_ofWeek wsX8_ofWeek) := goodIn_app (goodIn_of _ (by decide +kernel)) ggL_law_X8_ofWeek
set_option maxRecDepth 20000 in
theorem ggL_law_X8_digest : GoodIn wsL_law wsX8_digest := goodIn_r _ [453, 454, 455, 38, 176, 284, 285, 286, 12, 287, 42, 251, 250, 252, 55, 34, 232, 288, 289, 56, 290, 291, 292, 63, 293, 71, 456, 457, 458, 459, 460, 461, 212, 213, 214, 215, 462, 463, 464, 41, 465, 117, 111, 279, 303, 304, 305, 37, 306, 105, 101, 265, 466, 467, 468, 469, 46, 307, 308, 309, 310, 50, 30, 54, 311, 312, 313, 45, 314, 135, 139, 132, 133, 134, 315, 316, 317, 318, 136, 319, 320, 73, 74, 75, 321, 322, 323, 324, 325, 137, 326, 93, 94, 95, 327, 328, 329, 330, 331, 332, 333, 334, 335, 126, 128, 336, 337, 338, 339, 340, 131, 341, 342, 343, 344, 125, 127, 129, 130, 345, 346, 347, 348, 349, 350, 351, 352, 353, 354, 355, 356, 138, 357, 358, 359, 49, 360, 154, 149, 150, 361, 362, 363, 364, 148, 145, 365, 366, 367, 151, 147, 368, 369, 370, 371, 372, 373, 152, 146, 153, 374, 375, 376, 377, 378, 379, 380, 381, 382, 383, 384, 385, 386, 387, 388, 389, 33, 390, 86, 81, 391, 392, 393, 394, 395, 396, 397, 398, 399, 82, 83, 400, 401, 402, 53, 403, 160, 162, 404, 163, 161, 405, 406, 407, 408, 409, 410, 411, 412, 413, 414, 415, 416, 417, 418, 419, 420, 84, 421, 422, 423, 424, 425, 85, 426, 427, 428, 429, 430, 431, 432, 433, 434, 435, 436, 470, 471, 472, 473, 474, 475, 476, 477, 478, 479, 480, 481, 482, 483, 484, 485, 486, 487, 488, 489, 490, 491, 492, 493, 494, 495, 496, 497, 498, 499, 500, 501, 502, 503, 504, 505, 506, 507, 508, 509, 510, 511, 512, 513, 514, 515, 516, 517, 518, 519, 520, 521, 522, 523, 524, 525, 526, 527, 437, 438, 439, 440, 441, 442, 443, 444, 445, 446, 447, 448, 449, 528, 597, 598, 599, 600, 601, 602, 603, 604, 605, 615, 616, 617, 618, 619, 620, 621, 622, 623, 624, 625, 626, 627, 628, 629, 609, 610, 611, 612, 613, 614, 659, 630, 631, 632, 633, 634, 635, 636, 637, 638, 639, 640, 641, 642, 643, 644, 645, 646, 647, 648, 649, 650, 651, 652, 653, 654, 606, 607, 608, 655, 656, 657, 658] (by decide +kernel) (by decide +kernel)
set_option maxRecDepth 20000 in
theorem gL_law_X8_digest : GoodIn wsL_law (wsV RL 35 RX8 yX8_digest wsX8_digest) := goodIn_app (goodIn_of _ (by decide +kernel)) ggL_law_X8_digest
set_option maxRecDepth 20000 in
theorem ggL_law_X8_wouldCost : GoodIn wsL_law wsX8_wouldCost := goodIn_ca (goodIn_ca (goodIn_r _ [532, 38, 460, 42, 251, 253, 254, 255, 12, 256, 257, 258, 259, 260, 176, 202, 203, 204, 205, 206, 207, 208, 209, 210, 211, 212, 213, 214, 63, 215, 71, 533, 534, 535, 536, 54, 307, 308, 309, 310, 46, 50, 30, 34, 311, 312, 313, 45, 314, 135, 139, 132, 133, 134, 315, 316, 317, 318, 136, 319, 320, 73, 74, 75, 321, 322, 323, 324, 325, 137, 326, 93, 94, 95, 327, 328, 329, 330, 331, 332, 333, 334, 335, 126, 128, 336, 337, 338, 339, 340, 131, 341, 342, 343, 344, 125, 127, 129, 130, 345, 346, 347, 348, 349, 350, 351, 352, 353, 354, 355, 356, 138, 357, 358, 359, 49, 360, 154, 149, 150, 361, 362, 363, 364, 148, 145, 365, 366, 367, 151, 147, 368, 369, 370, 371, 372, 373, 152, 146, 153, 374, 375, 376, 377, 378, 379, 380, 381, 382, 383, 384, 385, 386, 387, 388, 389, 33, 390, 86, 81, 391, 392, 393, 394, 395, 396, 397, 398, 399, 82, 83, 400, 401, 402, 53, 403, 160, 162, 404, 163, 161, 405, 406, 407, 408, 409, 410, 411, 412, 413, 414, 415, 416, 417, 418, 419, 420, 84, 421, 422, 423, 424, 425, 85, 426, 427, 428, 429, 430, 431, 432, 433, 434, 435, 436, 442, 443, 444, 445, 266, 267, 268, 41, 269, 111, 112, 113, 114, 115, 116, 270, 597, 598, 599, 600, 601, 602, 603, 604, 605, 615, 616, 617, 618, 619, 620, 621, 622, 623, 624, 625, 626, 627, 628, 629, 659, 630, 631, 632, 633, 634, 635, 636, 637, 638, 639, 640, 641, 642, 643, 644, 645, 646, 647, 648, 649, 650, 651, 652, 653, 654, 606, 607, 608, 609, 610, 611, 612, 613, 614, 655, 656, 657, 658] (by decide +kernel) (by decide +kernel)) (goodIn_sub (fun _ h => List.mem_append_left _ (List.mem_append_right _ h)) (by decide +kernel))) (goodIn_sub (fun _ h => List.mem_append_right _ h) (by decide +kernel))
set_option maxRecDepth 20000 in
theorem gL_law_X8_wouldCost : GoodIn wsL_law (wsV RL 39 RX8 yX8_wouldCost wsX8_wouldCost) := goodIn_app (goodIn_of _ (by decide +kernel)) ggL_law_X8_wouldCost
set_option maxRecDepth 20000 in
theorem ggL_law_X8_guess : GoodIn wsL_law wsX8_guess := goodIn_ca (goodIn_r _ [540, 42, 251, 46, 299, 300, 301, 12, 302, 205, 206, 38, 303, 304, 305, 37, 306, 105, 101, 265, 213, 214, 63, 215, 71, 202, 203, 204, 307, 308, 309, 310, 50, 30, 34, 54, 311, 312, 313, 45, 314, 135, 139, 132, 133, 134, 315, 316, 317, 318, 136, 319, 320, 73, 74, 75, 321, 322, 323, 324, 325, 137, 326, 93, 94, 95, 327, 328, 329, 330, 331, 332, 333, 334, 335, 126, 128, 336, 337, 338, 339, 340, 131, 341, 342, 343, 344, 125, 127, 129, 130, 345, 346, 347, 348, 349, 350, 351, 352, 353, 354, 355, 356, 138, 357, 358, 359, 49, 360, 154, 149, 150, 361, 362, 363, 364, 148, 145, 365, 366, 367, 151, 147, 368, 369, 370, 371, 372, 373, 152, 146, 153, 374, 375, 376, 377, 378, 379, 380, 381, 382, 383, 384, 385, 386, 387, 388, 389, 33, 390, 86, 81, 391, 392, 393, 394, 395, 396, 397, 398, 399, 82, 83, 400, 401, 402, 53, 403, 160, 162, 404, 163, 161, 405, 406, 407, 408, 409, 410, 411, 412, 413, 414, 415, 416, 417, 418, 419, 420, 84, 421, 422, 423, 424, 425, 85, 426, 427, 428, 429, 430, 431, 432, 433, 434, 435, 436, 528, 597, 598, 599, 600, 601, 602, 603, 604, 605, 621, 622, 623, 624, 625, 626, 627, 628, 629, 615, 616, 617, 618, 619, 620, 659, 630, 631, 632, 633, 634, 635, 636, 637, 638, 639, 640, 641, 642, 643, 644, 645, 646, 647, 648, 649, 650, 651, 652, 653, 654, 606, 607, 608, 609, 610, 611, 612, 613, 614, 655, 656, 657, 658] (by decide +kernel) (by decide +kernel)) (goodIn_sub (fun _ h => List.mem_append_left _ (List.mem_append_right _ h)) (by decide +kernel))
set_option maxRecDepth 20000 in
theorem gL_law_X8_guess : GoodIn wsL_law (wsV RL 43 RX8 yX8_guess wsX8_guess) := goodIn_app (goodIn_of _ (by decide +kernel)) ggL_law_X8_guess
set_option maxRecDepth 20000 in
theorem ggL_law_X8_tap : GoodIn wsL_law wsX8_tap := goodIn_ca (goodIn_ca (goodIn_ca (goodIn_r _ [249, 174, 175, 38, 42, 250, 251, 252, 253, 254, 255, 12, 256, 257, 258, 259, 260, 176, 202, 203, 204, 205, 206, 207, 208, 209, 210, 211, 261, 262, 263, 37, 264, 102, 265, 213, 214, 63, 215, 71, 266, 267, 268, 41, 269, 111, 112, 113, 114, 115, 116, 270, 93, 94, 95, 271, 272, 273, 274, 117, 275, 276, 277, 278, 279, 597, 598, 599, 600, 601, 602, 603, 604, 605, 621, 622, 623, 624, 625, 626, 627, 628, 629, 615, 616, 617, 618, 619, 620, 659] (by decide +kernel) (by decide +kernel)) (goodIn_sub (fun _ h => List.mem_append_left _ (List.mem_append_left _ (List.mem_append_right _ h))) (by decide +kernel))) (goodIn_sub (fun _ h => List.mem_append_left _ (List.mem_append_right _ h)) (by decide +kernel))) (goodIn_sub (fun _ h => List.mem_append_right _ h) (by decide +kernel))
set_option maxRecDepth 20000 in
theorem gL_law_X8_tap : GoodIn wsL_law (wsV RL 47 RX8 yX8_tap wsX8_tap) := goodIn_app (goodIn_of _ (by decide +kernel)) ggL_law_X8_tap
set_option maxRecDepth 20000 in
theorem ggL_law_X8_ofDay : GoodIn wsL_law wsX8_ofDay := goodIn_ca (goodIn_ca (goodIn_r _ [545, 42, 251, 299, 300, 301, 12, 302, 205, 206, 38, 303, 304, 305, 37, 306, 105, 101, 265, 213, 214, 63, 215, 71, 202, 203, 204, 207, 208, 209, 210, 211, 307, 308, 309, 310, 46, 50, 30, 34, 54, 311, 312, 313, 45, 314, 135, 139, 132, 133, 134, 315, 316, 317, 318, 136, 319, 320, 73, 74, 75, 321, 322, 323, 324, 325, 137, 326, 93, 94, 95, 327, 328, 329, 330, 331, 332, 333, 334, 335, 126, 128, 336, 337, 338, 339, 340, 131, 341, 342, 343, 344, 125, 127, 129, 130, 345, 346, 347, 348, 349, 350, 351, 352, 353, 354, 355, 356, 138, 357, 358, 359, 49, 360, 154, 149, 150, 361, 362, 363, 364, 148, 145, 365, 366, 367, 151, 147, 368, 369, 370, 371, 372, 373, 152, 146, 153, 374, 375, 376, 377, 378, 379, 380, 381, 382, 383, 384, 385, 386, 387, 388, 389, 33, 390, 86, 81, 391, 392, 393, 394, 395, 396, 397, 398, 399, 82, 83, 400, 401, 402, 53, 403, 160, 162, 404, 163, 161, 405, 406, 407, 408, 409, 410, 411, 412, 413, 414, 415, 416, 417, 418, 419, 420, 84, 421, 422, 423, 424, 425, 85, 426, 427, 428, 429, 430, 431, 432, 433, 434, 435, 436, 477, 478, 479, 480, 474, 476, 481, 482, 212, 483, 484, 485, 486, 487, 488, 489, 490, 491, 492, 493, 494, 495, 597, 598, 599, 600, 601, 602, 603, 604, 605, 621, 622, 623, 624, 625, 626, 627, 628, 629, 615, 616, 617, 618, 619, 620, 659, 630, 631, 632, 633, 634, 635, 636, 637, 638, 639, 640, 641, 642, 643, 644, 645, 646, 647, 648, 649, 650, 651, 652, 653, 654, 606, 607, 608, 609, 610, 611, 612, 613, 614, 655, 656, 657, 658] (by decide +kernel) (by decide +kernel)) (goodIn_sub (fun _ h => List.mem_append_left _ (List.mem_append_right _ h)) (by decide +kernel))) (goodIn_sub (fun _ h => List.mem_append_right _ h) (by decide +kernel))
set_option maxRecDepth 20000 in
theorem gL_law_X8_ofDay : GoodIn wsL_law (wsV RL 50 RX8 yX8_ofDay wsX8_ofDay) := goodIn_app (goodIn_of _ (by decide +kernel)) ggL_law_X8_ofDay
set_option maxRecDepth 20000 in
theorem ggL_law_X8_ofLeg : GoodIn wsL_law wsX8_ofLeg := goodIn_ca (goodIn_ca (goodIn_r _ [549, 42, 251, 46, 476, 475, 299, 300, 301, 12, 302, 205, 206, 38, 303, 304, 305, 37, 306, 105, 101, 265, 213, 214, 63, 215, 71, 202, 203, 204, 307, 308, 309, 310, 50, 30, 34, 54, 311, 312, 313, 45, 314, 135, 139, 132, 133, 134, 315, 316, 317, 318, 136, 319, 320, 73, 74, 75, 321, 322, 323, 324, 325, 137, 326, 93, 94, 95, 327, 328, 329, 330, 331, 332, 333, 334, 335, 126, 128, 336, 337, 338, 339, 340, 131, 341, 342, 343, 344, 125, 127, 129, 130, 345, 346, 347, 348, 349, 350, 351, 352, 353, 354, 355, 356, 138, 357, 358, 359, 49, 360, 154, 149, 150, 361, 362, 363, 364, 148, 145, 365, 366, 367, 151, 147, 368, 369, 370, 371, 372, 373, 152, 146, 153, 374, 375, 376, 377, 378, 379, 380, 381, 382, 383, 384, 385, 386, 387, 388, 389, 33, 390, 86, 81, 391, 392, 393, 394, 395, 396, 397, 398, 399, 82, 83, 400, 401, 402, 53, 403, 160, 162, 404, 163, 161, 405, 406, 407, 408, 409, 410, 411, 412, 413, 414, 415, 416, 417, 418, 419, 420, 84, 421, 422, 423, 424, 425, 85, 426, 427, 428, 429, 430, 431, 432, 433, 434, 435, 436, 212, 207, 208, 209, 210, 211, 518, 519, 520, 521, 522, 523, 524, 525, 501, 526, 527, 597, 598, 599, 600, 601, 602, 603, 604, 605, 621, 622, 623, 624, 625, 626, 627, 628, 629, 630, 631, 632, 633, 634, 635, 636, 637, 638, 639, 640, 641, 642, 643, 644, 615, 616, 617, 618, 619, 620, 659, 645, 646, 647, 648, 649, 650, 651, 652, 653, 654, 606, 607, 608, 609, 610, 611, 612, 613, 614, 655, 656, 657, 658] (by decide +kernel) (by decide +kernel)) (goodIn_sub (fun _ h => List.mem_append_left _ (List.mem_append_right _ h)) (by decide +kernel))) (goodIn_sub (fun _ h => List.mem_append_right _ h) (by decide +kernel))
set_option maxRecDepth 20000 in
theorem gL_law_X8_ofLeg : GoodIn wsL_law (wsV RL 53 RX8 yX8_ofLeg wsX8_ofLeg) := goodIn_app (goodIn_of _ (by decide +kernel)) ggL_law_X8_ofLeg
set_option maxRecDepth 20000 in
theorem ggL_law_L_isTurned : GoodIn wsL_law wsL_isTurned := goodIn_ca (goodIn_ca (goodIn_ca (goodIn_r _ [552, 553, 11, 12, 554, 555, 556, 557, 3, 558, 24, 25, 26, 8, 9, 27, 28, 29, 30, 31, 32, 33, 34, 35, 36, 37, 38, 39, 40, 41, 42, 43, 44, 45, 46, 47, 48, 49, 50, 51, 52, 53, 54, 55, 56, 57, 58, 59, 60, 61, 62, 63, 64, 65, 66, 67, 68, 69, 70, 14, 71, 72, 73, 74, 75, 76, 77, 78, 79, 80, 81, 82, 83, 84, 85, 86, 87, 88, 89, 90, 91, 92, 93, 94, 95, 96, 97, 98, 99, 100, 101, 102, 103, 104, 105, 106, 107, 108, 109, 110, 111, 112, 113, 114, 115, 116, 117, 118, 119, 120, 121, 122, 123, 124, 125, 126, 127, 128, 129, 130, 131, 132, 133, 134, 135, 136, 137, 138, 139, 140, 141, 142, 143, 144, 145, 146, 147, 148, 149, 150, 151, 152, 153, 154, 155, 156, 157, 158, 159, 160, 161, 162, 163, 164, 559, 171, 172, 173, 174, 175, 176, 177, 178, 179, 180, 181, 560, 198, 199, 200, 201, 202, 203, 204, 205, 206, 207, 208, 209, 210, 211, 212, 213, 214, 215, 216, 561, 229, 230, 231, 232, 233, 541, 247, 248, 249, 250, 251, 252, 253, 254, 255, 256, 257, 258, 259, 260, 261, 262, 263, 264, 265, 266, 267, 268, 269, 270, 271, 272, 273, 274, 275, 276, 277, 278, 279, 542, 543, 544, 545, 299, 300, 301, 302, 303, 304, 305, 306, 307, 308, 309, 310, 311, 312, 313, 314, 315, 316, 317, 318, 319, 320, 321, 322, 323, 324, 325, 326, 327, 328, 329, 330, 331, 332, 333, 334, 335, 336, 337, 338, 339, 340, 341, 342, 343, 344, 345, 346, 347, 348, 349, 350, 351, 352, 353, 354, 355, 356, 357, 358, 359, 360, 361, 362, 363, 364, 365, 366, 367, 368, 369, 370, 371, 372, 373, 374, 375, 376, 377, 378, 379, 380, 381, 382, 383, 384, 385, 386, 387, 388, 389, 390, 391, 392, 393, 394, 395, 396, 397, 398, 399, 400, 401, 402, 403, 404, 405, 406, 407, 408, 409, 410, 411, 412, 413, 414, 415, 416, 417, 418, 419, 420, 421, 422, 423, 424, 425, 426, 427, 428, 429, 430, 431, 432, 433, 434, 435, 436, 477, 478, 479, 480, 474, 476, 481, 482, 483, 484, 485, 486, 487, 488, 489, 490, 491, 492, 493, 494, 495, 546, 547, 548, 549, 475, 518, 519, 520, 521, 522, 523, 524, 525, 501, 526, 527, 597, 598, 599, 600, 601, 602, 603, 604, 605, 588, 589, 590, 591, 592, 593, 594, 595, 596, 606, 607, 608, 609, 610, 611, 612, 613, 614, 615, 616, 617, 618, 619, 620, 621, 622, 623, 624, 625, 626, 627, 628, 629, 630, 631, 632, 633, 634, 635, 636, 637, 638, 639, 640, 641, 642, 643, 644, 645, 646, 647, 648, 649, 650, 651, 652, 653, 654, 655, 656, 657, 658, 659] (by decide +kernel) (by decide +kernel)) (goodIn_sub (fun _ h => List.mem_append_left _ (List.mem_append_left _ (List.mem_append_right _ h))) (by decide +kernel))) (goodIn_sub (fun _ h => List.mem_append_left _ (List.mem_append_right _ h)) (by decide +kernel))) (goodIn_sub (fun _ h => List.mem_append_right _ h) (by decide +kernel))
set_option maxRecDepth 20000 in
theorem gL_law_L_isTurned : GoodIn wsL_law (va_wsS RL 57 yL_isTurned wsL_isTurned) := goodIn_app (goodIn_of _ (by decide +kernel)) ggL_law_L_isTurned
set_option maxRecDepth 20000 in
theorem ggL_law_X8_close : GoodIn wsL_law wsX8_close := goodIn_ca (goodIn_r _ [565, 174, 175, 55, 38, 176, 303, 304, 305, 37, 306, 105, 101, 265, 213, 214, 63, 215, 71, 566, 567, 568, 12, 569, 42, 251, 54, 289, 307, 308, 309, 310, 46, 50, 30, 34, 311, 312, 313, 45, 314, 135, 139, 132, 133, 134, 315, 316, 317, 318, 136, 319, 320, 73, 74, 75, 321, 322, 323, 324, 325, 137, 326, 93, 94, 95, 327, 328, 329, 330, 331, 332, 333, 334, 335, 126, 128, 336, 337, 338, 339, 340, 131, 341, 342, 343, 344, 125, 127, 129, 130, 345, 346, 347, 348, 349, 350, 351, 352, 353, 354, 355, 356, 138, 357, 358, 359, 49, 360, 154, 149, 150, 361, 362, 363, 364, 148, 145, 365, 366, 367, 151, 147, 368, 369, 370, 371, 372, 373, 152, 146, 153, 374, 375, 376, 377, 378, 379, 380, 381, 382, 383, 384, 385, 386, 387, 388, 389, 33, 390, 86, 81, 391, 392, 393, 394, 395, 396, 397, 398, 399, 82, 83, 400, 401, 402, 53, 403, 160, 162, 404, 163, 161, 405, 406, 407, 408, 409, 410, 411, 412, 413, 414, 415, 416, 417, 418, 419, 420, 84, 421, 422, 423, 424, 425, 85, 426, 427, 428, 429, 430, 431, 432, 433, 434, 435, 436, 570, 571, 572, 573, 212, 574, 575, 576, 577, 100, 103, 578, 597, 598, 599, 600, 601, 602, 603, 604, 605, 615, 616, 617, 618, 619, 620, 659, 621, 622, 623, 624, 625, 626, 627, 628, 629, 630, 631, 632, 633, 634, 635, 636, 637, 638, 639, 640, 641, 642, 643, 644, 645, 646, 647, 648, 649, 650, 651, 652, 653, 654, 606, 607, 608, 609, 610, 611, 612, 613, 614, 655, 656, 657, 658] (by decide +kernel) (by decide +kernel)) (goodIn_sub (fun _ h => List.mem_append_left _ (List.mem_append_left _ (List.mem_append_right _ h))) (by decide +kernel))
set_option maxRecDepth 20000 in
theorem gL_law_X8_close : GoodIn wsL_law (wsV RL 63 RX8 yX8_close wsX8_close) := goodIn_app (goodIn_of _ (by decide +kernel)) ggL_law_X8_close
set_option maxRecDepth 20000 in
theorem ggL_law_X8_settle : GoodIn wsL_law wsX8_settle := goodIn_ca (goodIn_ca (goodIn_r _ [582, 174, 175, 55, 583, 385, 382, 386, 38, 299, 300, 301, 12, 302, 205, 206, 303, 304, 305, 37, 306, 105, 101, 265, 213, 214, 63, 215, 71, 202, 203, 204, 566, 567, 568, 569, 42, 251, 54, 289, 307, 308, 309, 310, 46, 50, 30, 34, 311, 312, 313, 45, 314, 135, 139, 132, 133, 134, 315, 316, 317, 318, 136, 319, 320, 73, 74, 75, 321, 322, 323, 324, 325, 137, 326, 93, 94, 95, 327, 328, 329, 330, 331, 332, 333, 334, 335, 126, 128, 336, 337, 338, 339, 340, 131, 341, 342, 343, 344, 125, 127, 129, 130, 345, 346, 347, 348, 349, 350, 351, 352, 353, 354, 355, 356, 138, 357, 358, 359, 49, 360, 154, 149, 150, 361, 362, 363, 364, 148, 145, 365, 366, 367, 151, 147, 368, 369, 370, 371, 372, 373, 152, 146, 153, 374, 375, 376, 377, 378, 379, 380, 381, 383, 384, 387, 388, 389, 33, 390, 86, 81, 391, 392, 393, 394, 395, 396, 397, 398, 399, 82, 83, 400, 401, 402, 53, 403, 160, 162, 404, 163, 161, 405, 406, 407, 408, 409, 410, 411, 412, 413, 414, 415, 416, 417, 418, 419, 420, 84, 421, 422, 423, 424, 425, 85, 426, 427, 428, 429, 430, 431, 432, 433, 434, 435, 436, 570, 571, 572, 573, 212, 574, 575, 576, 577, 100, 103, 578, 597, 598, 599, 600, 601, 602, 603, 604, 605, 615, 616, 617, 618, 619, 620, 659, 621, 622, 623, 624, 625, 626, 627, 628, 629, 630, 631, 632, 633, 634, 635, 636, 637, 638, 639, 640, 641, 642, 643, 644, 645, 646, 647, 648, 649, 650, 651, 652, 653, 654, 606, 607, 608, 609, 610, 611, 612, 613, 614, 655, 656, 657, 658] (by decide +kernel) (by decide +kernel)) (goodIn_sub (fun _ h => List.mem_append_left _ (List.mem_append_left _ (List.mem_append_right _ h))) (by decide +kernel))) (goodIn_sub (fun _ h => List.mem_append_left _ (List.mem_append_right _ h)) (by decide +kernel))
set_option maxRecDepth 20000 in
theorem gL_law_X8_settle : GoodIn wsL_law (wsV RL 67 RX8 yX8_settle wsX8_settle) := goodIn_app (goodIn_of _ (by decide +kernel)) ggL_law_X8_settle
set_option maxRecDepth 20000 in
theorem ggL_law_X8_ofCard : GoodIn wsL_law wsX8_ofCard := goodIn_ca (goodIn_ca (goodIn_r _ [587, 257, 258, 259, 12, 260, 38, 176, 202, 203, 204, 205, 206, 207, 208, 209, 210, 211, 456, 457, 458, 459, 288, 460, 461, 42, 289, 212, 213, 214, 63, 215, 71, 462, 463, 464, 41, 465, 117, 111, 279, 597, 598, 599, 600, 601, 602, 603, 604, 605, 615, 616, 617, 618, 619, 620, 659, 621, 622, 623, 624, 625, 626, 627, 628, 629] (by decide +kernel) (by decide +kernel)) (goodIn_sub (fun _ h => List.mem_append_left _ (List.mem_append_right _ h)) (by decide +kernel))) (goodIn_sub (fun _ h => List.mem_append_right _ h) (by decide +kernel))
set_option maxRecDepth 20000 in
theorem gL_law_X8_ofCard : GoodIn wsL_law (wsV RL 71 RX8 yX8_ofCard wsX8_ofCard) := goodIn_app (goodIn_of _ (by decide +kernel)) ggL_law_X8_ofCard
theorem dL_law_0 : decode cL_law 0 = .ok (.iconst 0, 1) := by decide +kernel
theorem dL_law_1 : decode cL_law 1 = .ok (.istore_n 1, 1) := by decide +kernel
theorem dL_law_2 : decode cL_law 2 = .ok (.iload_n 1, 1) := by decide +kernel
theorem dL_law_3 : decode cL_law 3 = .ok (.iconst 3, 1) := by decide +kernel
theorem dL_law_4 : decode cL_law 4 = .ok (.if_icmp .ge 532, 3) := by decide +kernel
theorem dL_law_7 : decode cL_law 7 = .ok (.new 9, 3) := by decide +kernel
theorem dL_law_10 : decode cL_law 10 = .ok (.dup, 1) := by decide +kernel
theorem dL_law_11 : decode cL_law 11 = .ok (.aload_n 0, 1) := by decide +kernel
theorem dL_law_12 : decode cL_law 12 = .ok (.bipush 31, 2) := by decide +kernel
theorem dL_law_14 : decode cL_law 14 = .ok (.iload_n 1, 1) := by decide +kernel
theorem dL_law_15 : decode cL_law 15 = .ok (.imul, 1) := by decide +kernel
theorem dL_law_16 : decode cL_law 16 = .ok (.bipush 7, 2) := by decide +kernel
theorem dL_law_18 : decode cL_law 18 = .ok (.iadd, 1) := by decide +kernel
theorem dL_law_19 : decode cL_law 19 = .ok (.invokespecial 11, 3) := by decide +kernel
theorem dL_law_22 : decode cL_law 22 = .ok (.astore_n 2, 1) := by decide +kernel
theorem dL_law_23 : decode cL_law 23 = .ok (.new 9, 3) := by decide +kernel
theorem dL_law_26 : decode cL_law 26 = .ok (.dup, 1) := by decide +kernel
theorem dL_law_27 : decode cL_law 27 = .ok (.aload_n 0, 1) := by decide +kernel
theorem dL_law_28 : decode cL_law 28 = .ok (.bipush 31, 2) := by decide +kernel
theorem dL_law_30 : decode cL_law 30 = .ok (.iload_n 1, 1) := by decide +kernel
theorem dL_law_31 : decode cL_law 31 = .ok (.imul, 1) := by decide +kernel
theorem dL_law_32 : decode cL_law 32 = .ok (.bipush 7, 2) := by decide +kernel
theorem dL_law_34 : decode cL_law 34 = .ok (.iadd, 1) := by decide +kernel
theorem dL_law_35 : decode cL_law 35 = .ok (.invokespecial 11, 3) := by decide +kernel
theorem dL_law_38 : decode cL_law 38 = .ok (.astore_n 3, 1) := by decide +kernel
theorem dL_law_39 : decode cL_law 39 = .ok (.aload_n 2, 1) := by decide +kernel
theorem dL_law_40 : decode cL_law 40 = .ok (.getfield 14, 3) := by decide +kernel
theorem dL_law_43 : decode cL_law 43 = .ok (.astore 4, 2) := by decide +kernel
theorem dL_law_45 : decode cL_law 45 = .ok (.aload_n 2, 1) := by decide +kernel
theorem dL_law_46 : decode cL_law 46 = .ok (.bipush 6, 2) := by decide +kernel
theorem dL_law_48 : decode cL_law 48 = .ok (.invokevirtual 18, 3) := by decide +kernel
theorem dL_law_51 : decode cL_law 51 = .ok (.ifCond .eq 12, 3) := by decide +kernel
theorem dL_law_54 : decode cL_law 54 = .ok (.aload_n 3, 1) := by decide +kernel
theorem dL_law_55 : decode cL_law 55 = .ok (.bipush 6, 2) := by decide +kernel
theorem dL_law_57 : decode cL_law 57 = .ok (.invokevirtual 18, 3) := by decide +kernel
theorem dL_law_60 : decode cL_law 60 = .ok (.ifCond .ne 5, 3) := by decide +kernel
theorem dL_law_63 : decode cL_law 63 = .ok (.iconst 0, 1) := by decide +kernel
theorem dL_law_64 : decode cL_law 64 = .ok (.ireturn, 1) := by decide +kernel
theorem dL_law_65 : decode cL_law 65 = .ok (.iconst 0, 1) := by decide +kernel
theorem dL_law_66 : decode cL_law 66 = .ok (.istore 5, 2) := by decide +kernel
theorem dL_law_68 : decode cL_law 68 = .ok (.iload 5, 2) := by decide +kernel
theorem dL_law_70 : decode cL_law 70 = .ok (.bipush 6, 2) := by decide +kernel
theorem dL_law_72 : decode cL_law 72 = .ok (.if_icmp .ge 310, 3) := by decide +kernel
theorem dL_law_75 : decode cL_law 75 = .ok (.aload 4, 2) := by decide +kernel
theorem dL_law_77 : decode cL_law 77 = .ok (.iconst 1, 1) := by decide +kernel
theorem dL_law_78 : decode cL_law 78 = .ok (.invokevirtual 22, 3) := by decide +kernel
theorem dL_law_81 : decode cL_law 81 = .ok (.bipush 40, 2) := by decide +kernel
theorem dL_law_83 : decode cL_law 83 = .ok (.if_icmp .ge 299, 3) := by decide +kernel
theorem dL_law_86 : decode cL_law 86 = .ok (.aload_n 2, 1) := by decide +kernel
theorem dL_law_87 : decode cL_law 87 = .ok (.iconst 3, 1) := by decide +kernel
theorem dL_law_88 : decode cL_law 88 = .ok (.invokevirtual 28, 3) := by decide +kernel
theorem dL_law_91 : decode cL_law 91 = .ok (.istore 6, 2) := by decide +kernel
theorem dL_law_93 : decode cL_law 93 = .ok (.aload_n 2, 1) := by decide +kernel
theorem dL_law_94 : decode cL_law 94 = .ok (.bipush 6, 2) := by decide +kernel
theorem dL_law_96 : decode cL_law 96 = .ok (.invokevirtual 28, 3) := by decide +kernel
theorem dL_law_99 : decode cL_law 99 = .ok (.istore 7, 2) := by decide +kernel
theorem dL_law_101 : decode cL_law 101 = .ok (.aload_n 2, 1) := by decide +kernel
theorem dL_law_102 : decode cL_law 102 = .ok (.iconst 4, 1) := by decide +kernel
theorem dL_law_103 : decode cL_law 103 = .ok (.invokevirtual 28, 3) := by decide +kernel
theorem dL_law_106 : decode cL_law 106 = .ok (.istore 8, 2) := by decide +kernel
theorem dL_law_108 : decode cL_law 108 = .ok (.aload_n 2, 1) := by decide +kernel
theorem dL_law_109 : decode cL_law 109 = .ok (.iconst 2, 1) := by decide +kernel
theorem dL_law_110 : decode cL_law 110 = .ok (.invokevirtual 28, 3) := by decide +kernel
theorem dL_law_113 : decode cL_law 113 = .ok (.ifCond .ne 7, 3) := by decide +kernel
theorem dL_law_116 : decode cL_law 116 = .ok (.iconst 1, 1) := by decide +kernel
theorem dL_law_117 : decode cL_law 117 = .ok (.goto 4, 3) := by decide +kernel
theorem dL_law_120 : decode cL_law 120 = .ok (.iconst 0, 1) := by decide +kernel
theorem dL_law_121 : decode cL_law 121 = .ok (.istore 9, 2) := by decide +kernel
theorem dL_law_123 : decode cL_law 123 = .ok (.bipush 10, 2) := by decide +kernel
theorem dL_law_125 : decode cL_law 125 = .ok (.aload_n 2, 1) := by decide +kernel
theorem dL_law_126 : decode cL_law 126 = .ok (.bipush 18, 2) := by decide +kernel
theorem dL_law_128 : decode cL_law 128 = .ok (.invokevirtual 28, 3) := by decide +kernel
theorem dL_law_131 : decode cL_law 131 = .ok (.iadd, 1) := by decide +kernel
theorem dL_law_132 : decode cL_law 132 = .ok (.istore 10, 2) := by decide +kernel
theorem dL_law_134 : decode cL_law 134 = .ok (.bipush 10, 2) := by decide +kernel
theorem dL_law_136 : decode cL_law 136 = .ok (.aload_n 2, 1) := by decide +kernel
theorem dL_law_137 : decode cL_law 137 = .ok (.sipush 140, 3) := by decide +kernel
theorem dL_law_140 : decode cL_law 140 = .ok (.invokevirtual 28, 3) := by decide +kernel
theorem dL_law_143 : decode cL_law 143 = .ok (.imul, 1) := by decide +kernel
theorem dL_law_144 : decode cL_law 144 = .ok (.iload 5, 2) := by decide +kernel
theorem dL_law_146 : decode cL_law 146 = .ok (.iadd, 1) := by decide +kernel
theorem dL_law_147 : decode cL_law 147 = .ok (.istore 11, 2) := by decide +kernel
theorem dL_law_149 : decode cL_law 149 = .ok (.aload 4, 2) := by decide +kernel
theorem dL_law_151 : decode cL_law 151 = .ok (.iload 6, 2) := by decide +kernel
theorem dL_law_153 : decode cL_law 153 = .ok (.iload 10, 2) := by decide +kernel
theorem dL_law_155 : decode cL_law 155 = .ok (.bipush 7, 2) := by decide +kernel
theorem dL_law_157 : decode cL_law 157 = .ok (.idiv, 1) := by decide +kernel
theorem dL_law_158 : decode cL_law 158 = .ok (.iconst 0, 1) := by decide +kernel
theorem dL_law_159 : decode cL_law 159 = .ok (.invokevirtual 31, 3) := by decide +kernel
theorem dL_law_162 : decode cL_law 162 = .ok (.istore 12, 2) := by decide +kernel
theorem dL_law_164 : decode cL_law 164 = .ok (.aload 4, 2) := by decide +kernel
theorem dL_law_166 : decode cL_law 166 = .ok (.invokevirtual 35, 3) := by decide +kernel
theorem dL_law_169 : decode cL_law 169 = .ok (.lstore 13, 2) := by decide +kernel
theorem dL_law_171 : decode cL_law 171 = .ok (.aload 4, 2) := by decide +kernel
theorem dL_law_173 : decode cL_law 173 = .ok (.iload 6, 2) := by decide +kernel
theorem dL_law_175 : decode cL_law 175 = .ok (.iload 7, 2) := by decide +kernel
theorem dL_law_177 : decode cL_law 177 = .ok (.iload 8, 2) := by decide +kernel
theorem dL_law_179 : decode cL_law 179 = .ok (.iload 9, 2) := by decide +kernel
theorem dL_law_181 : decode cL_law 181 = .ok (.iload 10, 2) := by decide +kernel
theorem dL_law_183 : decode cL_law 183 = .ok (.iload 11, 2) := by decide +kernel
theorem dL_law_185 : decode cL_law 185 = .ok (.invokevirtual 39, 3) := by decide +kernel
theorem dL_law_188 : decode cL_law 188 = .ok (.istore 15, 2) := by decide +kernel
theorem dL_law_190 : decode cL_law 190 = .ok (.aload 4, 2) := by decide +kernel
theorem dL_law_192 : decode cL_law 192 = .ok (.iload 6, 2) := by decide +kernel
theorem dL_law_194 : decode cL_law 194 = .ok (.iload 10, 2) := by decide +kernel
theorem dL_law_196 : decode cL_law 196 = .ok (.iload 7, 2) := by decide +kernel
theorem dL_law_198 : decode cL_law 198 = .ok (.iload 9, 2) := by decide +kernel
theorem dL_law_200 : decode cL_law 200 = .ok (.invokevirtual 43, 3) := by decide +kernel
theorem dL_law_203 : decode cL_law 203 = .ok (.istore 16, 2) := by decide +kernel
theorem dL_law_205 : decode cL_law 205 = .ok (.aload 4, 2) := by decide +kernel
theorem dL_law_207 : decode cL_law 207 = .ok (.invokevirtual 35, 3) := by decide +kernel
theorem dL_law_210 : decode cL_law 210 = .ok (.lload 13, 2) := by decide +kernel
theorem dL_law_212 : decode cL_law 212 = .ok (.lcmp, 1) := by decide +kernel
theorem dL_law_213 : decode cL_law 213 = .ok (.ifCond .ne 16, 3) := by decide +kernel
theorem dL_law_216 : decode cL_law 216 = .ok (.aload_n 3, 1) := by decide +kernel
theorem dL_law_217 : decode cL_law 217 = .ok (.getfield 14, 3) := by decide +kernel
theorem dL_law_220 : decode cL_law 220 = .ok (.invokevirtual 35, 3) := by decide +kernel
theorem dL_law_223 : decode cL_law 223 = .ok (.lload 13, 2) := by decide +kernel
theorem dL_law_225 : decode cL_law 225 = .ok (.lcmp, 1) := by decide +kernel
theorem dL_law_226 : decode cL_law 226 = .ok (.ifCond .eq 5, 3) := by decide +kernel
theorem dL_law_229 : decode cL_law 229 = .ok (.iconst 0, 1) := by decide +kernel
theorem dL_law_230 : decode cL_law 230 = .ok (.ireturn, 1) := by decide +kernel
theorem dL_law_231 : decode cL_law 231 = .ok (.aload 4, 2) := by decide +kernel
theorem dL_law_233 : decode cL_law 233 = .ok (.iload 6, 2) := by decide +kernel
theorem dL_law_235 : decode cL_law 235 = .ok (.iload 7, 2) := by decide +kernel
theorem dL_law_237 : decode cL_law 237 = .ok (.iload 8, 2) := by decide +kernel
theorem dL_law_239 : decode cL_law 239 = .ok (.iload 9, 2) := by decide +kernel
theorem dL_law_241 : decode cL_law 241 = .ok (.iload 10, 2) := by decide +kernel
theorem dL_law_243 : decode cL_law 243 = .ok (.iload 11, 2) := by decide +kernel
theorem dL_law_245 : decode cL_law 245 = .ok (.invokevirtual 47, 3) := by decide +kernel
theorem dL_law_248 : decode cL_law 248 = .ok (.aload_n 3, 1) := by decide +kernel
theorem dL_law_249 : decode cL_law 249 = .ok (.getfield 14, 3) := by decide +kernel
theorem dL_law_252 : decode cL_law 252 = .ok (.iload 6, 2) := by decide +kernel
theorem dL_law_254 : decode cL_law 254 = .ok (.iload 7, 2) := by decide +kernel
theorem dL_law_256 : decode cL_law 256 = .ok (.iload 8, 2) := by decide +kernel
theorem dL_law_258 : decode cL_law 258 = .ok (.iload 9, 2) := by decide +kernel
theorem dL_law_260 : decode cL_law 260 = .ok (.iload 10, 2) := by decide +kernel
theorem dL_law_262 : decode cL_law 262 = .ok (.iload 11, 2) := by decide +kernel
theorem dL_law_264 : decode cL_law 264 = .ok (.invokevirtual 47, 3) := by decide +kernel
theorem dL_law_267 : decode cL_law 267 = .ok (.if_icmp .ne 24, 3) := by decide +kernel
theorem dL_law_270 : decode cL_law 270 = .ok (.aload 4, 2) := by decide +kernel
theorem dL_law_272 : decode cL_law 272 = .ok (.iload 6, 2) := by decide +kernel
theorem dL_law_274 : decode cL_law 274 = .ok (.iload 10, 2) := by decide +kernel
theorem dL_law_276 : decode cL_law 276 = .ok (.bipush 7, 2) := by decide +kernel
theorem dL_law_278 : decode cL_law 278 = .ok (.idiv, 1) := by decide +kernel
theorem dL_law_279 : decode cL_law 279 = .ok (.iconst 0, 1) := by decide +kernel
theorem dL_law_280 : decode cL_law 280 = .ok (.invokevirtual 31, 3) := by decide +kernel
theorem dL_law_283 : decode cL_law 283 = .ok (.iload 12, 2) := by decide +kernel
theorem dL_law_285 : decode cL_law 285 = .ok (.iload 15, 2) := by decide +kernel
theorem dL_law_287 : decode cL_law 287 = .ok (.iadd, 1) := by decide +kernel
theorem dL_law_288 : decode cL_law 288 = .ok (.if_icmp .eq 5, 3) := by decide +kernel
theorem dL_law_291 : decode cL_law 291 = .ok (.iconst 0, 1) := by decide +kernel
theorem dL_law_292 : decode cL_law 292 = .ok (.ireturn, 1) := by decide +kernel
theorem dL_law_293 : decode cL_law 293 = .ok (.aload 4, 2) := by decide +kernel
theorem dL_law_295 : decode cL_law 295 = .ok (.iload 6, 2) := by decide +kernel
theorem dL_law_297 : decode cL_law 297 = .ok (.iload 10, 2) := by decide +kernel
theorem dL_law_299 : decode cL_law 299 = .ok (.iconst 1, 1) := by decide +kernel
theorem dL_law_300 : decode cL_law 300 = .ok (.invokevirtual 50, 3) := by decide +kernel
theorem dL_law_303 : decode cL_law 303 = .ok (.istore 17, 2) := by decide +kernel
theorem dL_law_305 : decode cL_law 305 = .ok (.iload 17, 2) := by decide +kernel
theorem dL_law_307 : decode cL_law 307 = .ok (.iconst 1, 1) := by decide +kernel
theorem dL_law_308 : decode cL_law 308 = .ok (.if_icmp .ne 68, 3) := by decide +kernel
theorem dL_law_311 : decode cL_law 311 = .ok (.aload 4, 2) := by decide +kernel
theorem dL_law_313 : decode cL_law 313 = .ok (.iload 6, 2) := by decide +kernel
theorem dL_law_315 : decode cL_law 315 = .ok (.iload 10, 2) := by decide +kernel
theorem dL_law_317 : decode cL_law 317 = .ok (.iconst 0, 1) := by decide +kernel
theorem dL_law_318 : decode cL_law 318 = .ok (.invokevirtual 50, 3) := by decide +kernel
theorem dL_law_321 : decode cL_law 321 = .ok (.iconst 1, 1) := by decide +kernel
theorem dL_law_322 : decode cL_law 322 = .ok (.if_icmp .ne 54, 3) := by decide +kernel
theorem dL_law_325 : decode cL_law 325 = .ok (.aload 4, 2) := by decide +kernel
theorem dL_law_327 : decode cL_law 327 = .ok (.iload 6, 2) := by decide +kernel
theorem dL_law_329 : decode cL_law 329 = .ok (.iload 10, 2) := by decide +kernel
theorem dL_law_331 : decode cL_law 331 = .ok (.iconst 0, 1) := by decide +kernel
theorem dL_law_332 : decode cL_law 332 = .ok (.iload 9, 2) := by decide +kernel
theorem dL_law_334 : decode cL_law 334 = .ok (.ifCond .eq 7, 3) := by decide +kernel
theorem dL_law_337 : decode cL_law 337 = .ok (.iconst 1, 1) := by decide +kernel
theorem dL_law_338 : decode cL_law 338 = .ok (.goto 4, 3) := by decide +kernel
theorem dL_law_341 : decode cL_law 341 = .ok (.iconst 0, 1) := by decide +kernel
theorem dL_law_342 : decode cL_law 342 = .ok (.invokevirtual 53, 3) := by decide +kernel
theorem dL_law_345 : decode cL_law 345 = .ok (.iload 16, 2) := by decide +kernel
theorem dL_law_347 : decode cL_law 347 = .ok (.if_icmp .ne 27, 3) := by decide +kernel
theorem dL_law_350 : decode cL_law 350 = .ok (.aload 4, 2) := by decide +kernel
theorem dL_law_352 : decode cL_law 352 = .ok (.iload 6, 2) := by decide +kernel
theorem dL_law_354 : decode cL_law 354 = .ok (.iload 10, 2) := by decide +kernel
theorem dL_law_356 : decode cL_law 356 = .ok (.iconst 0, 1) := by decide +kernel
theorem dL_law_357 : decode cL_law 357 = .ok (.iconst 5, 1) := by decide +kernel
theorem dL_law_358 : decode cL_law 358 = .ok (.invokevirtual 53, 3) := by decide +kernel
theorem dL_law_361 : decode cL_law 361 = .ok (.iload 9, 2) := by decide +kernel
theorem dL_law_363 : decode cL_law 363 = .ok (.ifCond .eq 7, 3) := by decide +kernel
theorem dL_law_366 : decode cL_law 366 = .ok (.iconst 2, 1) := by decide +kernel
theorem dL_law_367 : decode cL_law 367 = .ok (.goto 4, 3) := by decide +kernel
theorem dL_law_370 : decode cL_law 370 = .ok (.iconst 1, 1) := by decide +kernel
theorem dL_law_371 : decode cL_law 371 = .ok (.if_icmp .eq 5, 3) := by decide +kernel
theorem dL_law_374 : decode cL_law 374 = .ok (.iconst 0, 1) := by decide +kernel
theorem dL_law_375 : decode cL_law 375 = .ok (.ireturn, 1) := by decide +kernel
theorem dL_law_376 : decode cL_law 376 = .ok (.iinc 5 1, 3) := by decide +kernel
theorem dL_law_379 : decode cL_law 379 = .ok (.goto (-311), 3) := by decide +kernel
theorem dL_law_382 : decode cL_law 382 = .ok (.aload_n 2, 1) := by decide +kernel
theorem dL_law_383 : decode cL_law 383 = .ok (.invokestatic 57, 3) := by decide +kernel
theorem dL_law_386 : decode cL_law 386 = .ok (.ifCond .ne 5, 3) := by decide +kernel
theorem dL_law_389 : decode cL_law 389 = .ok (.iconst 0, 1) := by decide +kernel
theorem dL_law_390 : decode cL_law 390 = .ok (.ireturn, 1) := by decide +kernel
theorem dL_law_391 : decode cL_law 391 = .ok (.iconst 0, 1) := by decide +kernel
theorem dL_law_392 : decode cL_law 392 = .ok (.istore 5, 2) := by decide +kernel
theorem dL_law_394 : decode cL_law 394 = .ok (.iload 5, 2) := by decide +kernel
theorem dL_law_396 : decode cL_law 396 = .ok (.bipush 28, 2) := by decide +kernel
theorem dL_law_398 : decode cL_law 398 = .ok (.if_icmp .ge 26, 3) := by decide +kernel
theorem dL_law_401 : decode cL_law 401 = .ok (.aload 4, 2) := by decide +kernel
theorem dL_law_403 : decode cL_law 403 = .ok (.invokevirtual 63, 3) := by decide +kernel
theorem dL_law_406 : decode cL_law 406 = .ok (.aload_n 3, 1) := by decide +kernel
theorem dL_law_407 : decode cL_law 407 = .ok (.getfield 14, 3) := by decide +kernel
theorem dL_law_410 : decode cL_law 410 = .ok (.invokevirtual 63, 3) := by decide +kernel
theorem dL_law_413 : decode cL_law 413 = .ok (.if_icmp .eq 5, 3) := by decide +kernel
theorem dL_law_416 : decode cL_law 416 = .ok (.iconst 0, 1) := by decide +kernel
theorem dL_law_417 : decode cL_law 417 = .ok (.ireturn, 1) := by decide +kernel
theorem dL_law_418 : decode cL_law 418 = .ok (.iinc 5 1, 3) := by decide +kernel
theorem dL_law_421 : decode cL_law 421 = .ok (.goto (-27), 3) := by decide +kernel
theorem dL_law_424 : decode cL_law 424 = .ok (.iconst 0, 1) := by decide +kernel
theorem dL_law_425 : decode cL_law 425 = .ok (.istore 5, 2) := by decide +kernel
theorem dL_law_427 : decode cL_law 427 = .ok (.iload 5, 2) := by decide +kernel
theorem dL_law_429 : decode cL_law 429 = .ok (.iconst 3, 1) := by decide +kernel
theorem dL_law_430 : decode cL_law 430 = .ok (.if_icmp .ge 82, 3) := by decide +kernel
theorem dL_law_433 : decode cL_law 433 = .ok (.iconst 0, 1) := by decide +kernel
theorem dL_law_434 : decode cL_law 434 = .ok (.istore 6, 2) := by decide +kernel
theorem dL_law_436 : decode cL_law 436 = .ok (.iload 6, 2) := by decide +kernel
theorem dL_law_438 : decode cL_law 438 = .ok (.iconst 4, 1) := by decide +kernel
theorem dL_law_439 : decode cL_law 439 = .ok (.if_icmp .ge 67, 3) := by decide +kernel
theorem dL_law_442 : decode cL_law 442 = .ok (.aload 4, 2) := by decide +kernel
theorem dL_law_444 : decode cL_law 444 = .ok (.iload 5, 2) := by decide +kernel
theorem dL_law_446 : decode cL_law 446 = .ok (.iload 6, 2) := by decide +kernel
theorem dL_law_448 : decode cL_law 448 = .ok (.invokevirtual 67, 3) := by decide +kernel
theorem dL_law_451 : decode cL_law 451 = .ok (.istore 7, 2) := by decide +kernel
theorem dL_law_453 : decode cL_law 453 = .ok (.iload 7, 2) := by decide +kernel
theorem dL_law_455 : decode cL_law 455 = .ok (.ifCond .gt 43, 3) := by decide +kernel
theorem dL_law_458 : decode cL_law 458 = .ok (.aload 4, 2) := by decide +kernel
theorem dL_law_460 : decode cL_law 460 = .ok (.iload 5, 2) := by decide +kernel
theorem dL_law_462 : decode cL_law 462 = .ok (.iconst 4, 1) := by decide +kernel
theorem dL_law_463 : decode cL_law 463 = .ok (.iload 6, 2) := by decide +kernel
theorem dL_law_465 : decode cL_law 465 = .ok (.iadd, 1) := by decide +kernel
theorem dL_law_466 : decode cL_law 466 = .ok (.invokevirtual 71, 3) := by decide +kernel
theorem dL_law_469 : decode cL_law 469 = .ok (.aload 4, 2) := by decide +kernel
theorem dL_law_471 : decode cL_law 471 = .ok (.iload 5, 2) := by decide +kernel
theorem dL_law_473 : decode cL_law 473 = .ok (.iload 6, 2) := by decide +kernel
theorem dL_law_475 : decode cL_law 475 = .ok (.iconst 0, 1) := by decide +kernel
theorem dL_law_476 : decode cL_law 476 = .ok (.invokevirtual 31, 3) := by decide +kernel
theorem dL_law_479 : decode cL_law 479 = .ok (.if_icmp .ne 19, 3) := by decide +kernel
theorem dL_law_482 : decode cL_law 482 = .ok (.aload_n 3, 1) := by decide +kernel
theorem dL_law_483 : decode cL_law 483 = .ok (.getfield 14, 3) := by decide +kernel
theorem dL_law_486 : decode cL_law 486 = .ok (.iload 5, 2) := by decide +kernel
theorem dL_law_488 : decode cL_law 488 = .ok (.iload 6, 2) := by decide +kernel
theorem dL_law_490 : decode cL_law 490 = .ok (.invokevirtual 67, 3) := by decide +kernel
theorem dL_law_493 : decode cL_law 493 = .ok (.iload 7, 2) := by decide +kernel
theorem dL_law_495 : decode cL_law 495 = .ok (.if_icmp .eq 5, 3) := by decide +kernel
theorem dL_law_498 : decode cL_law 498 = .ok (.iconst 0, 1) := by decide +kernel
theorem dL_law_499 : decode cL_law 499 = .ok (.ireturn, 1) := by decide +kernel
theorem dL_law_500 : decode cL_law 500 = .ok (.iinc 6 1, 3) := by decide +kernel
theorem dL_law_503 : decode cL_law 503 = .ok (.goto (-67), 3) := by decide +kernel
theorem dL_law_506 : decode cL_law 506 = .ok (.iinc 5 1, 3) := by decide +kernel
theorem dL_law_509 : decode cL_law 509 = .ok (.goto (-82), 3) := by decide +kernel
theorem dL_law_512 : decode cL_law 512 = .ok (.aload 4, 2) := by decide +kernel
theorem dL_law_514 : decode cL_law 514 = .ok (.invokevirtual 35, 3) := by decide +kernel
theorem dL_law_517 : decode cL_law 517 = .ok (.aload_n 3, 1) := by decide +kernel
theorem dL_law_518 : decode cL_law 518 = .ok (.getfield 14, 3) := by decide +kernel
theorem dL_law_521 : decode cL_law 521 = .ok (.invokevirtual 35, 3) := by decide +kernel
theorem dL_law_524 : decode cL_law 524 = .ok (.lcmp, 1) := by decide +kernel
theorem dL_law_525 : decode cL_law 525 = .ok (.ifCond .eq 5, 3) := by decide +kernel
theorem dL_law_528 : decode cL_law 528 = .ok (.iconst 0, 1) := by decide +kernel
theorem dL_law_529 : decode cL_law 529 = .ok (.ireturn, 1) := by decide +kernel
theorem dL_law_530 : decode cL_law 530 = .ok (.iinc 1 1, 3) := by decide +kernel
theorem dL_law_533 : decode cL_law 533 = .ok (.goto (-531), 3) := by decide +kernel
theorem dL_law_536 : decode cL_law 536 = .ok (.iconst 1, 1) := by decide +kernel
theorem dL_law_537 : decode cL_law 537 = .ok (.ireturn, 1) := by decide +kernel
