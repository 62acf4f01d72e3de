set_option maxRecDepth 20000 in
theorem ggL_law_X7_numberOf : GoodIn wsL_law wsX7_numberOf := goodIn_r _ [477, 158, 87, 204, 205, 206, 207, 5, 208, 745, 746, 747, 748, 749, 750, 751, 752, 753, 754, 755, 756, 757, 758, 759, 760, 761, 762] (by decide +kernel) (by decide +kernel)
set_option maxRecDepth 20000 in
theorem gL_law_X7_numberOf : GoodIn wsL_law (wsV RL 63 RX7 yX7_numberOf wsX7_numberOf) := goodIn_app (goodIn_of _ (by decide +kernel)) ggL_law_X7_numberOf
set_option maxRecDepth 20000 in
theorem ggL_law_X6_contractOf : GoodIn wsL_law wsX6_contractOf := goodIn_r _ [481, 15, 482, 142, 483, 484, 485, 486, 307, 308, 38, 309, 117, 740, 741, 742, 743, 744, 763, 764, 765, 766, 767, 768, 769, 770, 771, 800, 801, 802] (by decide +kernel) (by decide +kernel)
set_option maxRecDepth 20000 in
theorem gL_law_X6_contractOf : GoodIn wsL_law (wsV RL 64 RX6 yX6_contractOf wsX6_contractOf) := goodIn_app (goodIn_of _ (by decide +kernel)) ggL_law_X6_contractOf
set_option maxRecDepth 20000 in
theorem ggL_law_X7_contractOf : GoodIn wsL_law wsX7_contractOf := goodIn_r _ [490, 158, 87, 319, 320, 321, 5, 322, 160, 161, 162, 412, 413, 414, 415, 323, 324, 325, 326, 745, 746, 747, 748, 749, 750, 751, 752, 753, 754, 755, 756, 757, 758, 759, 760, 761, 762] (by decide +kernel) (by decide +kernel)
set_option maxRecDepth 20000 in
theorem gL_law_X7_contractOf : GoodIn wsL_law (wsV RL 67 RX7 yX7_contractOf wsX7_contractOf) := goodIn_app (goodIn_of _ (by decide +kernel)) ggL_law_X7_contractOf
set_option maxRecDepth 20000 in
theorem ggL_law_X6_paid : GoodIn wsL_law wsX6_paid := goodIn_r _ [494, 15, 457, 142, 485, 141, 495, 458, 187, 188, 34, 189, 111, 52, 143, 123, 2, 124, 496, 222, 223, 224, 54, 55, 497, 366, 367, 368, 498, 370, 371, 14, 372, 47, 499, 373, 374, 740, 741, 742, 743, 744, 763, 764, 765, 766, 767, 768, 769, 770, 771, 794, 795, 796, 797, 798, 799] (by decide +kernel) (by decide +kernel)
set_option maxRecDepth 20000 in
theorem gL_law_X6_paid : GoodIn wsL_law (wsV RL 68 RX6 yX6_paid wsX6_paid) := goodIn_app (goodIn_of _ (by decide +kernel)) ggL_law_X6_paid
set_option maxRecDepth 20000 in
theorem ggL_law_X7_paid : GoodIn wsL_law wsX7_paid := goodIn_r _ [503, 158, 204, 87, 196, 197, 198, 5, 199, 200, 201, 202, 203, 205, 206, 207, 208, 160, 161, 162, 233, 234, 235, 236, 237, 238, 239, 240, 401, 402, 403, 404, 405, 406, 407, 408, 397, 398, 399, 400, 409, 410, 411, 745, 746, 747, 748, 749, 750, 751, 752, 753, 754, 755, 756, 757, 758, 759, 760, 761, 762] (by decide +kernel) (by decide +kernel)
set_option maxRecDepth 20000 in
theorem gL_law_X7_paid : GoodIn wsL_law (wsV RL 72 RX7 yX7_paid wsX7_paid) := goodIn_app (goodIn_of _ (by decide +kernel)) ggL_law_X7_paid
set_option maxRecDepth 20000 in
theorem ggL_law_X6_given : GoodIn wsL_law wsX6_given := goodIn_r _ [507, 15, 482, 142, 24, 484, 485, 508, 141, 457, 473, 509, 510, 486, 307, 308, 38, 309, 117, 143, 123, 2, 124, 511, 346, 347, 23, 348, 349, 350, 351, 352, 353, 354, 355, 356, 357, 358, 359, 360, 361, 362, 73, 74, 75, 76, 363, 364, 222, 223, 34, 224, 54, 55, 365, 366, 367, 368, 369, 370, 371, 14, 372, 47, 373, 374, 375, 376, 377, 378, 379, 380, 381, 382, 383, 384, 385, 386, 70, 71, 740, 741, 742, 743, 744, 763, 764, 765, 766, 767, 768, 769, 770, 771, 800, 801, 802, 774, 775, 776, 777, 778, 779, 780, 781, 782, 783, 784, 785, 794, 795, 796, 797, 798, 799] (by decide +kernel) (by decide +kernel)
set_option maxRecDepth 20000 in
theorem gL_law_X6_given : GoodIn wsL_law (wsV RL 73 RX6 yX6_given wsX6_given) := goodIn_app (goodIn_of _ (by decide +kernel)) ggL_law_X6_given
set_option maxRecDepth 20000 in
theorem ggL_law_X7_given : GoodIn wsL_law wsX7_given := goodIn_r _ [515, 158, 87, 392, 204, 91, 92, 319, 320, 321, 5, 322, 160, 161, 162, 323, 324, 325, 326, 393, 394, 395, 396, 391, 237, 238, 239, 240, 205, 206, 207, 208, 397, 398, 399, 400, 401, 402, 403, 404, 405, 406, 407, 408, 409, 410, 411, 745, 746, 747, 748, 749, 750, 751, 752, 753, 754, 755, 756, 757, 758, 759, 760, 761, 762] (by decide +kernel) (by decide +kernel)
set_option maxRecDepth 20000 in
theorem gL_law_X7_given : GoodIn wsL_law (wsV RL 76 RX7 yX7_given wsX7_given) := goodIn_app (goodIn_of _ (by decide +kernel)) ggL_law_X7_given
set_option maxRecDepth 20000 in
theorem ggL_law_X6_would : GoodIn wsL_law wsX6_would := goodIn_r _ [519, 15, 482, 142, 24, 484, 485, 520, 521, 522, 523, 524, 525, 526, 527, 486, 307, 308, 38, 309, 117, 143, 123, 2, 124, 511, 346, 347, 23, 348, 349, 350, 351, 352, 353, 354, 355, 356, 357, 358, 359, 360, 361, 362, 73, 74, 75, 76, 363, 364, 222, 223, 34, 224, 54, 55, 365, 366, 367, 368, 369, 370, 371, 14, 372, 47, 373, 374, 375, 376, 377, 378, 379, 380, 381, 382, 383, 384, 385, 386, 70, 71, 528, 529, 530, 531, 532, 533, 740, 741, 742, 743, 744, 763, 764, 765, 766, 767, 768, 769, 770, 771, 800, 801, 802, 774, 775, 776, 777, 778, 779, 780, 781, 782, 783, 784, 785, 794, 795, 796, 797, 798, 799] (by decide +kernel) (by decide +kernel)
set_option maxRecDepth 20000 in
theorem gL_law_X6_would : GoodIn wsL_law (wsV RL 77 RX6 yX6_would wsX6_would) := goodIn_app (goodIn_of _ (by decide +kernel)) ggL_law_X6_would
set_option maxRecDepth 20000 in
theorem ggL_law_X7_would : GoodIn wsL_law wsX7_would := goodIn_r _ [537, 158, 87, 391, 195, 538, 392, 92, 91, 319, 320, 321, 5, 322, 160, 161, 162, 323, 324, 325, 326, 393, 394, 395, 396, 204, 237, 238, 239, 240, 205, 206, 207, 208, 397, 398, 399, 400, 401, 402, 403, 404, 405, 406, 407, 408, 409, 410, 411, 416, 417, 418, 419, 233, 234, 235, 236, 539, 540, 541, 542, 543, 544, 545, 546, 547, 548, 549, 550, 745, 746, 747, 748, 749, 750, 751, 752, 753, 754, 755, 756, 757, 758, 759, 760, 761, 762] (by decide +kernel) (by decide +kernel)
set_option maxRecDepth 20000 in
theorem gL_law_X7_would : GoodIn wsL_law (wsV RL 80 RX7 yX7_would wsX7_would) := goodIn_app (goodIn_of _ (by decide +kernel)) ggL_law_X7_would
set_option maxRecDepth 20000 in
theorem ggL_law_X6_lift : GoodIn wsL_law wsX6_lift := goodIn_r _ [554, 15, 457, 142, 485, 555, 141, 458, 187, 188, 34, 189, 111, 52, 143, 123, 2, 124, 496, 222, 223, 224, 54, 55, 556, 557, 558, 740, 741, 742, 743, 744, 763, 764, 765, 766, 767, 768, 769, 770, 771, 794, 795, 796, 797, 798, 799] (by decide +kernel) (by decide +kernel)
set_option maxRecDepth 20000 in
theorem gL_law_X6_lift : GoodIn wsL_law (wsV RL 81 RX6 yX6_lift wsX6_lift) := goodIn_app (goodIn_of _ (by decide +kernel)) ggL_law_X6_lift
set_option maxRecDepth 20000 in
theorem ggL_law_X7_lift : GoodIn wsL_law wsX7_lift := goodIn_r _ [562, 158, 204, 196, 197, 198, 5, 199, 200, 201, 202, 203, 87, 205, 206, 207, 208, 160, 161, 162, 233, 234, 235, 236, 237, 238, 239, 240, 241, 242, 243, 745, 746, 747, 748, 749, 750, 751, 752, 753, 754, 755, 756, 757, 758, 759, 760, 761, 762] (by decide +kernel) (by decide +kernel)
set_option maxRecDepth 20000 in
theorem gL_law_X7_lift : GoodIn wsL_law (wsV RL 84 RX7 yX7_lift wsX7_lift) := goodIn_app (goodIn_of _ (by decide +kernel)) ggL_law_X7_lift
set_option maxRecDepth 20000 in
theorem ggL_law_X6_bestMonth : GoodIn wsL_law wsX6_bestMonth := goodIn_r _ [566, 142, 141, 15, 485, 24, 520, 523, 524, 143, 123, 2, 124, 567, 277, 278, 14, 279, 47, 280, 281, 282, 283, 511, 346, 347, 23, 348, 349, 350, 351, 352, 353, 354, 355, 356, 357, 358, 359, 360, 361, 362, 73, 74, 75, 76, 363, 364, 222, 223, 34, 224, 54, 55, 365, 366, 367, 368, 369, 370, 371, 372, 373, 374, 375, 376, 377, 378, 379, 380, 381, 382, 383, 384, 385, 386, 70, 71, 740, 741, 742, 743, 744, 763, 764, 765, 766, 767, 768, 769, 770, 771, 774, 775, 776, 777, 778, 779, 780, 781, 782, 783, 784, 785, 794, 795, 796, 797, 798, 799] (by decide +kernel) (by decide +kernel)
set_option maxRecDepth 20000 in
theorem gL_law_X6_bestMonth : GoodIn wsL_law (wsV RL 85 RX6 yX6_bestMonth wsX6_bestMonth) := goodIn_app (goodIn_of _ (by decide +kernel)) ggL_law_X6_bestMonth
set_option maxRecDepth 20000 in
theorem ggL_law_X7_bestMonth : GoodIn wsL_law wsX7_bestMonth := goodIn_r _ [571, 158, 204, 87, 391, 538, 160, 161, 5, 162, 393, 394, 395, 396, 392, 91, 92, 237, 238, 239, 240, 205, 206, 207, 208, 397, 398, 399, 400, 401, 402, 403, 404, 405, 406, 407, 408, 409, 410, 411, 416, 417, 418, 419, 293, 294, 295, 296, 745, 746, 747, 748, 749, 750, 751, 752, 753, 754, 755, 756, 757, 758, 759, 760, 761, 762] (by decide +kernel) (by decide +kernel)
set_option maxRecDepth 20000 in
theorem gL_law_X7_bestMonth : GoodIn wsL_law (wsV RL 88 RX7 yX7_bestMonth wsX7_bestMonth) := goodIn_app (goodIn_of _ (by decide +kernel)) ggL_law_X7_bestMonth
set_option maxRecDepth 20000 in
theorem ggL_law_X6_count : GoodIn wsL_law wsX6_count := goodIn_r _ [575, 15, 527, 20, 576, 28, 577, 143, 123, 2, 124, 578, 579, 580, 14, 581, 35, 582, 102, 39, 448, 103, 104, 105, 106, 583, 122, 584, 585, 586, 34, 587, 111, 53, 588, 589, 590, 591, 592, 222, 223, 224, 54, 55, 740, 741, 742, 743, 744, 763, 764, 765, 766, 767, 768, 769, 770, 771, 772, 773, 786, 787, 788, 789, 790, 791, 792, 793, 794, 795, 796, 797, 798, 799, 800, 801, 802] (by decide +kernel) (by decide +kernel)
set_option maxRecDepth 20000 in
theorem gL_law_X6_count : GoodIn wsL_law (wsV RL 89 RX6 yX6_count wsX6_count) := goodIn_app (goodIn_of _ (by decide +kernel)) ggL_law_X6_count
set_option maxRecDepth 20000 in
theorem ggL_law_X7_count : GoodIn wsL_law wsX7_count := goodIn_r _ [596, 87, 168, 597, 158, 598, 599, 600, 5, 601, 233, 234, 235, 236, 237, 238, 239, 240, 205, 206, 207, 208, 160, 161, 162, 745, 746, 747, 748, 749, 750, 751, 752, 753, 754, 755, 756, 757, 758, 759, 760, 761, 762] (by decide +kernel) (by decide +kernel)
set_option maxRecDepth 20000 in
theorem gL_law_X7_count : GoodIn wsL_law (wsV RL 92 RX7 yX7_count wsX7_count) := goodIn_app (goodIn_of _ (by decide +kernel)) ggL_law_X7_count
set_option maxRecDepth 20000 in
theorem ggL_law_X6_undo : GoodIn wsL_law wsX6_undo := goodIn_r _ [605, 20, 576, 521, 15, 606, 607, 608, 19, 609, 148, 66, 153, 99, 100, 14, 101, 35, 39, 46, 47, 102, 103, 104, 105, 106, 107, 108, 109, 34, 110, 52, 53, 54, 55, 111, 112, 113, 114, 115, 38, 116, 59, 60, 117, 740, 741, 742, 743, 744, 772, 773, 763, 764, 765, 766, 767, 768, 769, 770, 771, 794, 795, 796, 797, 798, 799, 800, 801, 802] (by decide +kernel) (by decide +kernel)
set_option maxRecDepth 20000 in
theorem gL_law_X6_undo : GoodIn wsL_law (wsV RL 93 RX6 yX6_undo wsX6_undo) := goodIn_app (goodIn_of _ (by decide +kernel)) ggL_law_X6_undo
set_option maxRecDepth 20000 in
theorem ggL_law_X7_undo : GoodIn wsL_law wsX7_undo := goodIn_r _ [613, 168, 195, 87, 88, 745, 746, 747, 748, 749, 750, 751, 752, 753, 754, 755, 756, 757, 758, 759, 760, 761, 762] (by decide +kernel) (by decide +kernel)
set_option maxRecDepth 20000 in
theorem gL_law_X7_undo : GoodIn wsL_law (wsV RL 97 RX7 yX7_undo wsX7_undo) := goodIn_app (goodIn_of _ (by decide +kernel)) ggL_law_X7_undo
set_option maxRecDepth 20000 in
theorem ggL_law_X6_type : GoodIn wsL_law wsX6_type := goodIn_r _ [617, 28, 142, 143, 123, 2, 124, 618, 619, 620, 27, 621, 622, 623, 81, 740, 741, 742, 743, 744, 786, 787, 788, 789, 790, 791, 792, 793] (by decide +kernel) (by decide +kernel)
set_option maxRecDepth 20000 in
theorem gL_law_X6_type : GoodIn wsL_law (wsV RL 98 RX6 yX6_type wsX6_type) := goodIn_app (goodIn_of _ (by decide +kernel)) ggL_law_X6_type
set_option maxRecDepth 20000 in
theorem ggL_law_X7_type : GoodIn wsL_law wsX7_type := goodIn_r _ [627, 158, 597, 159, 90, 160, 161, 5, 162, 745, 746, 747, 748, 749, 750, 751, 752, 753, 754, 755, 756, 757, 758, 759, 760, 761, 762] (by decide +kernel) (by decide +kernel)
set_option maxRecDepth 20000 in
theorem gL_law_X7_type : GoodIn wsL_law (wsV RL 101 RX7 yX7_type wsX7_type) := goodIn_app (goodIn_of _ (by decide +kernel)) ggL_law_X7_type
set_option maxRecDepth 20000 in
theorem ggL_law_X6_clearText : GoodIn wsL_law wsX6_clearText := goodIn_r _ [631, 28, 577, 740, 741, 742, 743, 744, 786, 787, 788, 789, 790, 791, 792, 793] (by decide +kernel) (by decide +kernel)
set_option maxRecDepth 20000 in
theorem gL_law_X6_clearText : GoodIn wsL_law (wsV RL 102 RX6 yX6_clearText wsX6_clearText) := goodIn_app (goodIn_of _ (by decide +kernel)) ggL_law_X6_clearText
set_option maxRecDepth 20000 in
theorem ggL_law_X7_clearText : GoodIn wsL_law wsX7_clearText := goodIn_r _ [635, 597, 745, 746, 747, 748, 749, 750, 751, 752, 753, 754, 755, 756, 757, 758, 759, 760, 761, 762] (by decide +kernel) (by decide +kernel)
set_option maxRecDepth 20000 in
theorem gL_law_X7_clearText : GoodIn wsL_law (wsV RL 105 RX7 yX7_clearText wsX7_clearText) := goodIn_app (goodIn_of _ (by decide +kernel)) ggL_law_X7_clearText
set_option maxRecDepth 20000 in
theorem ggL_law_X6_fault : GoodIn wsL_law wsX6_fault := goodIn_r _ [639, 142, 16, 15, 28, 24, 640, 141, 641, 642, 143, 123, 2, 124, 98, 99, 100, 14, 101, 35, 39, 46, 47, 102, 103, 104, 105, 106, 107, 108, 109, 34, 110, 52, 53, 54, 55, 111, 112, 113, 114, 115, 38, 116, 59, 60, 117, 643, 644, 645, 27, 646, 647, 648, 649, 650, 622, 651, 652, 653, 654, 655, 656, 657, 658, 659, 81, 660, 661, 662, 663, 664, 665, 666, 82, 667, 668, 669, 670, 671, 672, 673, 674, 675, 119, 120, 121, 122, 125, 126, 127, 128, 129, 130, 131, 132, 133, 676, 218, 219, 220, 181, 182, 183, 186, 187, 188, 189, 190, 221, 222, 223, 224, 225, 226, 227, 228, 677, 249, 250, 251, 184, 185, 678, 273, 274, 275, 276, 277, 278, 279, 280, 281, 282, 283, 284, 285, 286, 287, 288, 679, 336, 337, 338, 339, 305, 340, 341, 342, 343, 344, 306, 307, 308, 309, 345, 346, 347, 23, 348, 349, 350, 351, 352, 353, 354, 355, 356, 357, 358, 359, 360, 361, 362, 73, 74, 75, 76, 363, 364, 365, 366, 367, 368, 369, 370, 371, 372, 373, 374, 375, 376, 377, 378, 379, 380, 381, 382, 383, 384, 385, 386, 70, 71, 310, 311, 312, 313, 314, 680, 425, 426, 427, 428, 429, 430, 431, 681, 682, 683, 684, 139, 140, 740, 741, 742, 743, 744, 786, 787, 788, 789, 790, 791, 792, 793, 763, 764, 765, 766, 767, 768, 769, 770, 771, 794, 795, 796, 797, 798, 799, 800, 801, 802, 774, 775, 776, 777, 778, 779, 780, 781, 782, 783, 784, 785] (by decide +kernel) (by decide +kernel)
set_option maxRecDepth 20000 in
theorem gL_law_X6_fault : GoodIn wsL_law (wsV RL 106 RX6 yX6_fault wsX6_fault) := goodIn_app (goodIn_of _ (by decide +kernel)) ggL_law_X6_fault
set_option maxRecDepth 20000 in
theorem ggL_law_X7_fault : GoodIn wsL_law wsX7_fault := goodIn_r _ [688, 158, 87, 89, 204, 689, 690, 691, 160, 161, 5, 162, 692, 693, 694, 695, 696, 697, 698, 167, 699, 700, 597, 701, 702, 703, 704, 90, 705, 706, 707, 708, 709, 710, 711, 712, 713, 714, 715, 716, 93, 717, 718, 719, 720, 721, 722, 723, 724, 725, 155, 156, 157, 159, 163, 164, 165, 166, 168, 88, 169, 170, 171, 172, 726, 230, 231, 232, 195, 196, 197, 198, 199, 200, 201, 202, 203, 205, 206, 207, 208, 233, 234, 235, 236, 237, 238, 239, 240, 241, 242, 243, 209, 210, 211, 212, 727, 253, 254, 255, 728, 290, 291, 292, 293, 294, 295, 296, 729, 388, 389, 390, 391, 392, 91, 92, 319, 320, 321, 322, 323, 324, 325, 326, 393, 394, 395, 396, 397, 398, 399, 400, 401, 402, 403, 404, 405, 406, 407, 408, 409, 410, 411, 412, 413, 414, 415, 416, 417, 418, 419, 327, 328, 329, 330, 730, 433, 434, 435, 436, 437, 438, 439, 745, 746, 747, 748, 749, 750, 751, 752, 753, 754, 755, 756, 757, 758, 759, 760, 761, 762] (by decide +kernel) (by decide +kernel)
set_option maxRecDepth 20000 in
theorem gL_law_X7_fault : GoodIn wsL_law (wsV RL 109 RX7 yX7_fault wsX7_fault) := goodIn_app (goodIn_of _ (by decide +kernel)) ggL_law_X7_fault
set_option maxRecDepth 20000 in
theorem ggL_law_X6_play : GoodIn wsL_law wsX6_play := goodIn_r _ [734, 16, 15, 28, 24, 640, 735, 521, 98, 99, 100, 14, 101, 35, 39, 46, 47, 102, 103, 104, 105, 106, 107, 108, 109, 34, 110, 52, 53, 54, 55, 111, 112, 113, 114, 115, 38, 116, 59, 60, 117, 643, 644, 645, 27, 646, 647, 648, 649, 650, 622, 651, 652, 653, 654, 655, 656, 657, 658, 659, 81, 660, 661, 662, 663, 664, 665, 666, 82, 667, 668, 669, 670, 671, 672, 673, 674, 675, 119, 120, 121, 122, 123, 2, 124, 125, 126, 127, 128, 129, 130, 131, 132, 133, 676, 218, 219, 220, 181, 182, 183, 186, 187, 188, 189, 190, 221, 222, 223, 224, 225, 226, 227, 228, 677, 249, 250, 251, 184, 185, 678, 273, 274, 275, 276, 277, 278, 279, 280, 281, 282, 283, 284, 285, 286, 287, 288, 679, 336, 337, 338, 339, 305, 340, 341, 342, 343, 344, 306, 307, 308, 309, 345, 346, 347, 23, 348, 349, 350, 351, 352, 353, 354, 355, 356, 357, 358, 359, 360, 361, 362, 73, 74, 75, 76, 363, 364, 365, 366, 367, 368, 369, 370, 371, 372, 373, 374, 375, 376, 377, 378, 379, 380, 381, 382, 383, 384, 385, 386, 70, 71, 310, 311, 312, 313, 314, 680, 425, 426, 427, 428, 429, 430, 431, 681, 682, 683, 684, 139, 140, 141, 142, 143, 134, 135, 136, 137, 20, 138, 144, 145, 146, 19, 147, 148, 66, 149, 150, 151, 152, 153, 740, 741, 742, 743, 744, 786, 787, 788, 789, 790, 791, 792, 793, 763, 764, 765, 766, 767, 768, 769, 770, 771, 794, 795, 796, 797, 798, 799, 800, 801, 802, 774, 775, 776, 777, 778, 779, 780, 781, 782, 783, 784, 785, 772, 773] (by decide +kernel) (by decide +kernel)
set_option maxRecDepth 20000 in
theorem gL_law_X6_play : GoodIn wsL_law (wsV RL 110 RX6 yX6_play wsX6_play) := goodIn_app (goodIn_of _ (by decide +kernel)) ggL_law_X6_play
set_option maxRecDepth 20000 in
theorem ggL_law_X7_play : GoodIn wsL_law wsX7_play := goodIn_r _ [739, 87, 89, 195, 700, 204, 692, 693, 5, 694, 695, 696, 697, 698, 167, 699, 689, 597, 158, 690, 691, 701, 702, 703, 704, 90, 705, 706, 707, 708, 709, 160, 161, 162, 710, 711, 712, 713, 714, 715, 716, 93, 717, 718, 719, 720, 721, 722, 723, 724, 725, 155, 156, 157, 159, 163, 164, 165, 166, 168, 88, 169, 170, 171, 172, 726, 230, 231, 232, 196, 197, 198, 199, 200, 201, 202, 203, 205, 206, 207, 208, 233, 234, 235, 236, 237, 238, 239, 240, 241, 242, 243, 209, 210, 211, 212, 727, 253, 254, 255, 728, 290, 291, 292, 293, 294, 295, 296, 729, 388, 389, 390, 391, 392, 91, 92, 319, 320, 321, 322, 323, 324, 325, 326, 393, 394, 395, 396, 397, 398, 399, 400, 401, 402, 403, 404, 405, 406, 407, 408, 409, 410, 411, 412, 413, 414, 415, 416, 417, 418, 419, 327, 328, 329, 330, 730, 433, 434, 435, 436, 437, 438, 439, 745, 746, 747, 748, 749, 750, 751, 752, 753, 754, 755, 756, 757, 758, 759, 760, 761, 762] (by decide +kernel) (by decide +kernel)
set_option maxRecDepth 20000 in
theorem gL_law_X7_play : GoodIn wsL_law (wsV RL 113 RX7 yX7_play wsX7_play) := goodIn_app (goodIn_of _ (by decide +kernel)) ggL_law_X7_play
