set_option maxRecDepth 20000 in
theorem ggL_law_X9_init : GoodIn wsL_law wsX9_init := goodIn_r _ [9, 10, 11, 12, 13, 14, 15, 16, 17, 18, 19, 20, 21, 22, 23, 24, 25, 26, 27, 28, 29, 30, 31, 32, 33, 34, 35, 36, 37, 38, 39, 40, 41, 42, 43, 44, 45, 46, 47, 48, 49, 50, 51, 52, 53, 54, 55, 56, 57, 58, 59, 60, 61, 62, 63, 64, 65, 66, 67, 68, 69, 70, 71, 72, 73, 74, 75, 76, 77, 78, 79, 2, 80, 81, 82, 83, 84, 85, 86, 87, 88, 89, 90, 91, 92, 93, 94, 95, 96, 97, 98, 99, 100, 101, 102, 103, 104, 105, 106, 107, 108, 109, 110, 111, 112, 113, 114, 115, 116, 117, 118, 119, 120, 121, 122, 123, 124, 125, 126, 127, 128, 129, 130, 131, 132, 133, 134, 135, 136, 137, 138, 139, 140, 141, 828, 829, 779, 780, 781, 782, 783, 784, 785, 786, 787, 830, 831, 832, 833, 834, 835, 836, 837, 838, 839, 840, 841, 842, 843, 844, 845, 846, 847, 848, 849, 850, 851, 852, 853, 854, 855, 856, 857, 858, 859, 860, 861, 862, 863, 864, 865, 866] (by decide +kernel) (by decide +kernel)
set_option maxRecDepth 20000 in
theorem gL_law_X9_init : GoodIn wsL_law (wsX9_init) := ggL_law_X9_init
set_option maxRecDepth 20000 in
theorem ggL_law_X10_init : GoodIn wsL_law wsX10_init := goodIn_r _ [144, 145, 11, 12, 146, 147, 52, 148, 149, 150, 151, 152, 153, 154, 155, 156, 157, 158, 159, 160, 161, 162, 84, 163, 164, 165, 788, 789, 790, 791, 792, 793, 794, 795, 796, 797, 798, 799, 800, 801, 802, 803, 804, 805, 806, 807, 808, 809, 810, 811, 812, 813, 814, 815, 816, 817, 818, 819, 820, 821, 822, 823, 824, 825, 826, 827] (by decide +kernel) (by decide +kernel)
set_option maxRecDepth 20000 in
theorem gL_law_X10_init : GoodIn wsL_law (wsX10_init) := ggL_law_X10_init
set_option maxRecDepth 20000 in
theorem ggL_law_X9_write : GoodIn wsL_law wsX9_write := goodIn_r _ [169, 16, 170, 79, 2, 80, 171, 15, 172, 173, 174, 53, 175, 779, 780, 781, 782, 783, 784, 785, 786, 787, 828, 829] (by decide +kernel) (by decide +kernel)
set_option maxRecDepth 20000 in
theorem gL_law_X9_write : GoodIn wsL_law (wsV RL 15 RX9 yX9_write wsX9_write) := goodIn_app (goodIn_of _ (by decide +kernel)) ggL_law_X9_write
set_option maxRecDepth 20000 in
theorem ggL_law_X10_write : GoodIn wsL_law wsX10_write := goodIn_r _ [179, 180, 153, 181, 182, 183, 5, 184, 788, 789, 790, 791, 792, 793, 794, 795, 796, 797, 798, 799, 800, 801, 802, 803, 804, 805, 806, 807, 808, 809, 810, 811, 812, 813, 814, 815, 816, 817, 818, 819, 820, 821, 822, 823, 824, 825, 826, 827] (by decide +kernel) (by decide +kernel)
set_option maxRecDepth 20000 in
theorem gL_law_X10_write : GoodIn wsL_law (wsV RL 19 RX10 yX10_write wsX10_write) := goodIn_app (goodIn_of _ (by decide +kernel)) ggL_law_X10_write
set_option maxRecDepth 20000 in
theorem ggL_law_X9_erase : GoodIn wsL_law wsX9_erase := goodIn_r _ [188, 16, 779, 780, 781, 782, 783, 784, 785, 786, 787, 828, 829] (by decide +kernel) (by decide +kernel)
set_option maxRecDepth 20000 in
theorem gL_law_X9_erase : GoodIn wsL_law (wsV RL 20 RX9 yX9_erase wsX9_erase) := goodIn_app (goodIn_of _ (by decide +kernel)) ggL_law_X9_erase
set_option maxRecDepth 20000 in
theorem ggL_law_X10_erase : GoodIn wsL_law wsX10_erase := goodIn_r _ [192, 180, 788, 789, 790, 791, 792, 793, 794, 795, 796, 797, 798, 799, 800, 801, 802, 803, 804, 805, 806, 807, 808, 809, 810, 811, 812, 813, 814, 815, 816, 817, 818, 819, 820, 821, 822, 823, 824, 825, 826, 827] (by decide +kernel) (by decide +kernel)
set_option maxRecDepth 20000 in
theorem gL_law_X10_erase : GoodIn wsL_law (wsV RL 24 RX10 yX10_erase wsX10_erase) := goodIn_app (goodIn_of _ (by decide +kernel)) ggL_law_X10_erase
set_option maxRecDepth 20000 in
theorem ggL_law_X9_fault : GoodIn wsL_law wsX9_fault := goodIn_r _ [196, 20, 197, 19, 198, 199, 200, 201, 202, 203, 204, 205, 206, 207, 57, 208, 209, 210, 211, 59, 212, 15, 213, 214, 174, 53, 79, 2, 80, 215, 216, 217, 218, 219, 220, 221, 222, 223, 224, 225, 226, 227, 228, 229, 230, 231, 232, 233, 234, 235, 236, 237, 238, 239, 240, 241, 242, 243, 244, 245, 246, 247, 248, 249, 250, 251, 252, 253, 254, 255, 256, 257, 258, 259, 260, 261, 262, 263, 264, 265, 266, 267, 268, 269, 270, 271, 272, 273, 274, 275, 276, 277, 278, 58, 279, 280, 281, 282, 283, 284, 285, 286, 779, 780, 781, 782, 783, 784, 785, 786, 787, 830, 831, 832, 833, 834, 835, 836, 828, 829] (by decide +kernel) (by decide +kernel)
set_option maxRecDepth 20000 in
theorem gL_law_X9_fault : GoodIn wsL_law (wsV RL 25 RX9 yX9_fault wsX9_fault) := goodIn_app (goodIn_of _ (by decide +kernel)) ggL_law_X9_fault
set_option maxRecDepth 20000 in
theorem ggL_law_X10_fault : GoodIn wsL_law wsX10_fault := goodIn_r _ [290, 291, 292, 293, 294, 5, 295, 296, 297, 298, 299, 300, 301, 302, 303, 304, 154, 305, 306, 307, 308, 309, 310, 311, 312, 313, 314, 180, 153, 315, 316, 317, 318, 319, 320, 321, 182, 183, 184, 322, 323, 324, 325, 326, 327, 328, 329, 330, 331, 332, 333, 788, 789, 790, 791, 792, 793, 794, 795, 796, 797, 798, 799, 800, 801, 802, 803, 804, 805, 806, 807, 808, 809, 810, 811, 812, 813, 814, 815, 816, 817, 818, 819, 820, 821, 822, 823, 824, 825, 826, 827] (by decide +kernel) (by decide +kernel)
set_option maxRecDepth 20000 in
theorem gL_law_X10_fault : GoodIn wsL_law (wsV RL 28 RX10 yX10_fault wsX10_fault) := goodIn_app (goodIn_of _ (by decide +kernel)) ggL_law_X10_fault
set_option maxRecDepth 20000 in
theorem ggL_law_X9_game : GoodIn wsL_law wsX9_game := goodIn_r _ [337, 20, 32, 36, 40, 24, 16, 197, 19, 198, 199, 200, 201, 202, 203, 204, 205, 206, 207, 57, 208, 209, 210, 211, 59, 212, 15, 213, 214, 174, 53, 79, 2, 80, 215, 216, 217, 218, 219, 220, 221, 222, 223, 224, 225, 226, 227, 228, 229, 230, 231, 232, 233, 234, 235, 236, 237, 238, 239, 240, 241, 242, 243, 244, 245, 246, 247, 248, 249, 250, 251, 252, 253, 254, 255, 256, 257, 258, 259, 260, 261, 262, 263, 264, 265, 266, 267, 268, 269, 270, 271, 272, 273, 274, 275, 276, 277, 278, 58, 279, 280, 281, 282, 283, 284, 285, 286, 338, 339, 340, 341, 342, 343, 344, 345, 346, 347, 348, 28, 349, 27, 350, 351, 73, 76, 77, 78, 74, 352, 353, 354, 355, 107, 31, 108, 109, 86, 110, 111, 112, 113, 85, 114, 115, 116, 117, 118, 119, 120, 121, 87, 122, 123, 124, 125, 126, 127, 128, 129, 130, 131, 132, 133, 134, 356, 35, 357, 358, 91, 359, 360, 361, 362, 363, 135, 39, 136, 137, 138, 139, 140, 141, 779, 780, 781, 782, 783, 784, 785, 786, 787, 830, 831, 832, 833, 834, 835, 836, 828, 829, 837, 838, 839, 840, 841, 842, 843, 844, 845, 846, 847, 848, 849, 850, 851, 852, 853, 854, 855, 856] (by decide +kernel) (by decide +kernel)
set_option maxRecDepth 20000 in
theorem gL_law_X9_game : GoodIn wsL_law (wsV RL 29 RX9 yX9_game wsX9_game) := goodIn_app (goodIn_of _ (by decide +kernel)) ggL_law_X9_game
set_option maxRecDepth 20000 in
theorem ggL_law_X10_game : GoodIn wsL_law wsX10_game := goodIn_r _ [367, 297, 180, 292, 293, 294, 5, 295, 296, 298, 299, 300, 301, 302, 303, 304, 154, 305, 306, 307, 308, 309, 310, 311, 312, 313, 314, 153, 315, 316, 317, 318, 319, 320, 321, 182, 183, 184, 322, 323, 324, 325, 326, 327, 328, 329, 291, 330, 331, 332, 333, 368, 369, 370, 371, 146, 372, 147, 148, 149, 150, 151, 373, 374, 152, 375, 376, 788, 789, 790, 791, 792, 793, 794, 795, 796, 797, 798, 799, 800, 801, 802, 803, 804, 805, 806, 807, 808, 809, 810, 811, 812, 813, 814, 815, 816, 817, 818, 819, 820, 821, 822, 823, 824, 825, 826, 827] (by decide +kernel) (by decide +kernel)
set_option maxRecDepth 20000 in
theorem gL_law_X10_game : GoodIn wsL_law (wsV RL 32 RX10 yX10_game wsX10_game) := goodIn_app (goodIn_of _ (by decide +kernel)) ggL_law_X10_game
set_option maxRecDepth 20000 in
theorem ggL_law_X9_mood : GoodIn wsL_law wsX9_mood := goodIn_r _ [380, 28, 170, 79, 2, 80, 122, 27, 123, 124, 73, 125, 126, 127, 74, 779, 780, 781, 782, 783, 784, 785, 786, 787, 844, 845] (by decide +kernel) (by decide +kernel)
set_option maxRecDepth 20000 in
theorem gL_law_X9_mood : GoodIn wsL_law (wsV RL 33 RX9 yX9_mood wsX9_mood) := goodIn_app (goodIn_of _ (by decide +kernel)) ggL_law_X9_mood
set_option maxRecDepth 20000 in
theorem ggL_law_X10_mood : GoodIn wsL_law wsX10_mood := goodIn_r _ [384, 148, 149, 182, 183, 5, 184, 788, 789, 790, 791, 792, 793, 794, 795, 796, 797, 798, 799, 800, 801, 802, 803, 804, 805, 806, 807, 808, 809, 810, 811, 812, 813, 814, 815, 816, 817, 818, 819, 820, 821, 822, 823, 824, 825, 826, 827] (by decide +kernel) (by decide +kernel)
set_option maxRecDepth 20000 in
theorem gL_law_X10_mood : GoodIn wsL_law (wsV RL 37 RX10 yX10_mood wsX10_mood) := goodIn_app (goodIn_of _ (by decide +kernel)) ggL_law_X10_mood
set_option maxRecDepth 20000 in
theorem ggL_law_X9_makes : GoodIn wsL_law wsX9_makes := goodIn_r _ [388, 389, 32, 390, 391, 392, 2, 393, 24, 170, 79, 80, 132, 31, 133, 134, 85, 394, 128, 129, 130, 395, 396, 397, 398, 399, 400, 401, 402, 403, 779, 780, 781, 782, 783, 784, 785, 786, 787, 837, 838, 839, 840, 841, 842, 843, 846, 847, 848] (by decide +kernel) (by decide +kernel)
set_option maxRecDepth 20000 in
theorem gL_law_X9_makes : GoodIn wsL_law (wsV RL 38 RX9 yX9_makes wsX9_makes) := goodIn_app (goodIn_of _ (by decide +kernel)) ggL_law_X9_makes
set_option maxRecDepth 20000 in
theorem ggL_law_X10_makes : GoodIn wsL_law wsX10_makes := goodIn_r _ [407, 299, 408, 409, 410, 5, 411, 146, 147, 182, 183, 184, 412, 413, 414, 415, 376, 163, 165, 148, 416, 417, 418, 419, 149, 420, 421, 422, 423, 424, 425, 426, 427, 428, 429, 430, 431, 432, 433, 434, 435, 436, 437, 438, 439, 440, 441, 442, 443, 444, 445, 446, 447, 448, 788, 789, 790, 791, 792, 793, 794, 795, 796, 797, 798, 799, 800, 801, 802, 803, 804, 805, 806, 807, 808, 809, 810, 811, 812, 813, 814, 815, 816, 817, 818, 819, 820, 821, 822, 823, 824, 825, 826, 827] (by decide +kernel) (by decide +kernel)
set_option maxRecDepth 20000 in
theorem gL_law_X10_makes : GoodIn wsL_law (wsV RL 42 RX10 yX10_makes wsX10_makes) := goodIn_app (goodIn_of _ (by decide +kernel)) ggL_law_X10_makes
set_option maxRecDepth 20000 in
theorem ggL_law_X9_wins : GoodIn wsL_law wsX9_wins := goodIn_r _ [452, 389, 32, 390, 391, 392, 2, 393, 24, 170, 79, 80, 453, 31, 454, 455, 86, 110, 111, 112, 113, 128, 129, 130, 456, 457, 458, 459, 87, 122, 27, 123, 124, 73, 125, 126, 127, 74, 460, 394, 395, 396, 397, 398, 399, 400, 401, 402, 403, 779, 780, 781, 782, 783, 784, 785, 786, 787, 837, 838, 839, 840, 841, 842, 843, 846, 847, 848, 844, 845] (by decide +kernel) (by decide +kernel)
set_option maxRecDepth 20000 in
theorem gL_law_X9_wins : GoodIn wsL_law (wsV RL 43 RX9 yX9_wins wsX9_wins) := goodIn_app (goodIn_of _ (by decide +kernel)) ggL_law_X9_wins
set_option maxRecDepth 20000 in
theorem ggL_law_X10_wins : GoodIn wsL_law wsX10_wins := goodIn_r _ [464, 299, 408, 409, 410, 5, 411, 146, 147, 182, 183, 184, 412, 413, 414, 415, 376, 163, 165, 148, 416, 417, 418, 419, 149, 420, 421, 422, 423, 424, 425, 426, 427, 428, 429, 430, 431, 432, 433, 434, 435, 436, 437, 438, 439, 440, 441, 442, 443, 444, 445, 446, 447, 448, 788, 789, 790, 791, 792, 793, 794, 795, 796, 797, 798, 799, 800, 801, 802, 803, 804, 805, 806, 807, 808, 809, 810, 811, 812, 813, 814, 815, 816, 817, 818, 819, 820, 821, 822, 823, 824, 825, 826, 827] (by decide +kernel) (by decide +kernel)
set_option maxRecDepth 20000 in
theorem gL_law_X10_wins : GoodIn wsL_law (wsV RL 47 RX10 yX10_wins wsX10_wins) := goodIn_app (goodIn_of _ (by decide +kernel)) ggL_law_X10_wins
set_option maxRecDepth 20000 in
theorem ggL_law_X9_best : GoodIn wsL_law wsX9_best := goodIn_r _ [468, 32, 390, 391, 392, 2, 393, 24, 170, 79, 80, 469, 31, 470, 471, 87, 122, 27, 123, 124, 73, 118, 119, 120, 121, 125, 126, 127, 74, 128, 129, 130, 131, 132, 133, 134, 85, 472, 473, 474, 456, 457, 458, 459, 460, 453, 454, 455, 86, 110, 111, 112, 113, 779, 780, 781, 782, 783, 784, 785, 786, 787, 837, 838, 839, 840, 841, 842, 843, 846, 847, 848, 844, 845] (by decide +kernel) (by decide +kernel)
set_option maxRecDepth 20000 in
theorem gL_law_X9_best : GoodIn wsL_law (wsV RL 48 RX9 yX9_best wsX9_best) := goodIn_app (goodIn_of _ (by decide +kernel)) ggL_law_X9_best
set_option maxRecDepth 20000 in
theorem ggL_law_X10_best : GoodIn wsL_law wsX10_best := goodIn_r _ [478, 148, 408, 409, 410, 5, 411, 146, 147, 182, 183, 184, 412, 413, 414, 415, 376, 163, 165, 416, 417, 418, 419, 149, 420, 421, 422, 423, 424, 425, 426, 427, 428, 429, 430, 431, 432, 433, 434, 435, 436, 437, 438, 439, 440, 441, 442, 443, 444, 445, 788, 789, 790, 791, 792, 793, 794, 795, 796, 797, 798, 799, 800, 801, 802, 803, 804, 805, 806, 807, 808, 809, 810, 811, 812, 813, 814, 815, 816, 817, 818, 819, 820, 821, 822, 823, 824, 825, 826, 827] (by decide +kernel) (by decide +kernel)
set_option maxRecDepth 20000 in
theorem gL_law_X10_best : GoodIn wsL_law (wsV RL 51 RX10 yX10_best wsX10_best) := goodIn_app (goodIn_of _ (by decide +kernel)) ggL_law_X10_best
set_option maxRecDepth 20000 in
theorem ggL_law_X9_spend : GoodIn wsL_law wsX9_spend := goodIn_r _ [482, 32, 24, 390, 391, 392, 2, 393, 170, 79, 80, 483, 31, 484, 485, 486, 131, 132, 133, 134, 85, 128, 129, 130, 402, 403, 779, 780, 781, 782, 783, 784, 785, 786, 787, 837, 838, 839, 840, 841, 842, 843, 846, 847, 848] (by decide +kernel) (by decide +kernel)
set_option maxRecDepth 20000 in
theorem gL_law_X9_spend : GoodIn wsL_law (wsV RL 52 RX9 yX9_spend wsX9_spend) := goodIn_app (goodIn_of _ (by decide +kernel)) ggL_law_X9_spend
set_option maxRecDepth 20000 in
theorem ggL_law_X10_spend : GoodIn wsL_law wsX10_spend := goodIn_r _ [490, 408, 409, 410, 5, 411, 146, 147, 182, 183, 184, 491, 492, 493, 494, 495, 412, 413, 414, 415, 376, 163, 165, 148, 416, 417, 418, 419, 149, 420, 421, 422, 423, 424, 425, 426, 427, 428, 429, 430, 431, 432, 433, 434, 435, 436, 437, 438, 439, 440, 441, 442, 443, 444, 445, 788, 789, 790, 791, 792, 793, 794, 795, 796, 797, 798, 799, 800, 801, 802, 803, 804, 805, 806, 807, 808, 809, 810, 811, 812, 813, 814, 815, 816, 817, 818, 819, 820, 821, 822, 823, 824, 825, 826, 827] (by decide +kernel) (by decide +kernel)
set_option maxRecDepth 20000 in
theorem gL_law_X10_spend : GoodIn wsL_law (wsV RL 56 RX10 yX10_spend wsX10_spend) := goodIn_app (goodIn_of _ (by decide +kernel)) ggL_law_X10_spend
set_option maxRecDepth 20000 in
theorem ggL_law_X9_bat : GoodIn wsL_law wsX9_bat := goodIn_r _ [499, 36, 24, 170, 79, 2, 80, 500, 35, 501, 502, 359, 91, 360, 779, 780, 781, 782, 783, 784, 785, 786, 787, 849, 850, 851, 837, 838, 839, 840, 841, 842, 843] (by decide +kernel) (by decide +kernel)
set_option maxRecDepth 20000 in
theorem gL_law_X9_bat : GoodIn wsL_law (wsV RL 57 RX9 yX9_bat wsX9_bat) := goodIn_app (goodIn_of _ (by decide +kernel)) ggL_law_X9_bat
set_option maxRecDepth 20000 in
theorem ggL_law_X10_bat : GoodIn wsL_law wsX10_bat := goodIn_r _ [506, 372, 146, 155, 182, 183, 5, 184, 788, 789, 790, 791, 792, 793, 794, 795, 796, 797, 798, 799, 800, 801, 802, 803, 804, 805, 806, 807, 808, 809, 810, 811, 812, 813, 814, 815, 816, 817, 818, 819, 820, 821, 822, 823, 824, 825, 826, 827] (by decide +kernel) (by decide +kernel)
set_option maxRecDepth 20000 in
theorem gL_law_X10_bat : GoodIn wsL_law (wsV RL 61 RX10 yX10_bat wsX10_bat) := goodIn_app (goodIn_of _ (by decide +kernel)) ggL_law_X10_bat
set_option maxRecDepth 20000 in
theorem ggL_law_X9_anew : GoodIn wsL_law wsX9_anew := goodIn_r _ [510, 36, 40, 24, 356, 35, 357, 358, 91, 359, 360, 361, 362, 116, 363, 135, 39, 136, 137, 138, 139, 140, 141, 779, 780, 781, 782, 783, 784, 785, 786, 787, 849, 850, 851, 852, 853, 854, 855, 856, 837, 838, 839, 840, 841, 842, 843] (by decide +kernel) (by decide +kernel)
set_option maxRecDepth 20000 in
theorem gL_law_X9_anew : GoodIn wsL_law (wsV RL 62 RX9 yX9_anew wsX9_anew) := goodIn_app (goodIn_of _ (by decide +kernel)) ggL_law_X9_anew
set_option maxRecDepth 20000 in
theorem ggL_law_X10_anew : GoodIn wsL_law wsX10_anew := goodIn_r _ [514, 372, 375, 515, 516, 517, 5, 518, 155, 788, 789, 790, 791, 792, 793, 794, 795, 796, 797, 798, 799, 800, 801, 802, 803, 804, 805, 806, 807, 808, 809, 810, 811, 812, 813, 814, 815, 816, 817, 818, 819, 820, 821, 822, 823, 824, 825, 826, 827] (by decide +kernel) (by decide +kernel)
set_option maxRecDepth 20000 in
theorem gL_law_X10_anew : GoodIn wsL_law (wsV RL 65 RX10 yX10_anew wsX10_anew) := goodIn_app (goodIn_of _ (by decide +kernel)) ggL_law_X10_anew
set_option maxRecDepth 20000 in
theorem ggL_law_X9_play : GoodIn wsL_law wsX9_play := goodIn_r _ [522, 40, 170, 79, 2, 80, 523, 39, 524, 525, 139, 140, 526, 527, 528, 529, 530, 112, 531, 141, 532, 533, 534, 535, 138, 95, 779, 780, 781, 782, 783, 784, 785, 786, 787, 852, 853, 854, 855, 856] (by decide +kernel) (by decide +kernel)
set_option maxRecDepth 20000 in
theorem gL_law_X9_play : GoodIn wsL_law (wsV RL 66 RX9 yX9_play wsX9_play) := goodIn_app (goodIn_of _ (by decide +kernel)) ggL_law_X9_play
set_option maxRecDepth 20000 in
theorem ggL_law_X10_play : GoodIn wsL_law wsX10_play := goodIn_r _ [539, 375, 540, 541, 157, 158, 159, 542, 182, 183, 5, 184, 543, 544, 545, 546, 547, 548, 549, 550, 146, 147, 551, 552, 553, 554, 412, 413, 414, 415, 376, 163, 165, 148, 416, 417, 418, 419, 149, 420, 421, 422, 423, 424, 425, 426, 427, 428, 429, 430, 431, 432, 433, 434, 435, 436, 437, 438, 439, 440, 441, 442, 443, 444, 445, 515, 516, 517, 518, 372, 155, 555, 556, 557, 558, 491, 492, 493, 494, 495, 559, 560, 561, 562, 150, 151, 788, 789, 790, 791, 792, 793, 794, 795, 796, 797, 798, 799, 800, 801, 802, 803, 804, 805, 806, 807, 808, 809, 810, 811, 812, 813, 814, 815, 816, 817, 818, 819, 820, 821, 822, 823, 824, 825, 826, 827] (by decide +kernel) (by decide +kernel)
set_option maxRecDepth 20000 in
theorem gL_law_X10_play : GoodIn wsL_law (wsV RL 69 RX10 yX10_play wsX10_play) := goodIn_app (goodIn_of _ (by decide +kernel)) ggL_law_X10_play
