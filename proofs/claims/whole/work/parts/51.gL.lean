set_option maxRecDepth 20000 in
theorem ggL_law_X8_init : GoodIn wsL_law wsX8_init := goodIn_r _ [9, 10, 11, 12, 13, 14, 15, 16, 17, 18, 19, 20, 21, 22, 23, 24, 25, 26, 27, 28, 29, 30, 31, 32, 33, 34, 35, 36, 37, 38, 39, 40, 41, 42, 43, 44, 45, 46, 47, 48, 49, 50, 51, 52, 53, 54, 55, 56, 57, 58, 59, 60, 61, 62, 63, 64, 65, 66, 67, 68, 69, 70, 71, 72, 73, 74, 75, 76, 77, 78, 79, 80, 81, 82, 83, 84, 85, 86, 87, 88, 89, 90, 91, 92, 93, 94, 95, 96, 97, 98, 99, 100, 101, 102, 103, 104, 105, 106, 107, 813, 814, 815, 816, 817, 818, 819, 820, 821, 822, 823, 824, 825, 857, 858, 859, 860, 861, 862, 863, 864, 865, 866, 867, 868, 869, 870, 871, 872, 873, 874, 875, 876, 877, 878, 879, 880] (by decide +kernel) (by decide +kernel)
set_option maxRecDepth 20000 in
theorem gL_law_X8_init : GoodIn wsL_law (wsX8_init) := ggL_law_X8_init
set_option maxRecDepth 20000 in
theorem ggL_law_X9_init : GoodIn wsL_law wsX9_init := goodIn_r _ [110, 111, 11, 12, 54, 112, 113, 114, 82, 115, 116, 117, 118, 119, 120, 121, 122, 123, 124, 125, 126, 127, 128, 129, 130, 131, 826, 827, 828, 829, 830, 831, 832, 833, 834, 835, 836, 837, 838, 839, 840, 841, 842, 843, 844, 845, 846, 847, 848, 849, 850, 851, 852, 853, 854, 855, 856] (by decide +kernel) (by decide +kernel)
set_option maxRecDepth 20000 in
theorem gL_law_X9_init : GoodIn wsL_law (wsX9_init) := ggL_law_X9_init
set_option maxRecDepth 20000 in
theorem ggL_law_X8_row : GoodIn wsL_law wsX8_row := goodIn_r _ [135, 47, 14, 18, 35, 136, 137, 138, 2, 139, 140, 141, 142, 143, 144, 145, 49, 146, 104, 105, 147, 148, 149, 150, 151, 152, 153, 154, 106, 155, 156, 157, 17, 158, 53, 57, 159, 160, 161, 162, 163, 164, 165, 166, 107, 167, 168, 169, 170, 55, 171, 172, 173, 174, 175, 176, 177, 178, 179, 180, 181, 182, 183, 21, 184, 61, 62, 63, 185, 186, 187, 188, 189, 190, 191, 22, 192, 41, 45, 193, 194, 195, 196, 197, 198, 199, 200, 201, 202, 203, 204, 40, 205, 90, 89, 206, 207, 208, 209, 27, 210, 36, 211, 212, 213, 34, 214, 83, 84, 215, 216, 217, 218, 219, 81, 220, 813, 814, 815, 816, 817, 818, 819, 820, 821, 822, 823, 824, 825, 869, 870, 871, 877, 878, 879, 880, 857, 858, 859, 860, 861, 862, 874, 875, 876, 872, 873, 863, 864] (by decide +kernel) (by decide +kernel)
set_option maxRecDepth 20000 in
theorem gL_law_X8_row : GoodIn wsL_law (wsV RL 13 RX8 yX8_row wsX8_row) := goodIn_app (goodIn_of _ (by decide +kernel)) ggL_law_X8_row
set_option maxRecDepth 20000 in
theorem ggL_law_X9_row : GoodIn wsL_law wsX9_row := goodIn_r _ [224, 225, 226, 227, 228, 229, 230, 115, 124, 118, 125, 119, 126, 231, 232, 233, 5, 234, 235, 236, 237, 238, 239, 240, 241, 242, 243, 244, 112, 113, 245, 246, 247, 248, 249, 250, 251, 252, 253, 254, 255, 256, 114, 257, 258, 259, 260, 261, 262, 263, 264, 265, 266, 267, 268, 269, 116, 117, 826, 827, 828, 829, 830, 831, 832, 833, 834, 835, 836, 837, 838, 839, 840, 841, 842, 843, 844, 845, 846, 847, 848, 849, 850, 851, 852, 853, 854, 855, 856] (by decide +kernel) (by decide +kernel)
set_option maxRecDepth 20000 in
theorem gL_law_X9_row : GoodIn wsL_law (wsV RL 17 RX9 yX9_row wsX9_row) := goodIn_app (goodIn_of _ (by decide +kernel)) ggL_law_X9_row
set_option maxRecDepth 20000 in
theorem ggL_law_X8_ofHelper : GoodIn wsL_law wsX8_ofHelper := goodIn_r _ [273, 22, 274, 275, 27, 276, 277, 278, 21, 279, 61, 280, 281, 282, 283, 63, 62, 284, 285, 286, 287, 26, 288, 68, 70, 289, 290, 291, 292, 30, 293, 74, 813, 814, 815, 816, 817, 818, 819, 820, 821, 822, 823, 824, 825, 860, 861, 862, 863, 864, 865, 866, 867, 868] (by decide +kernel) (by decide +kernel)
set_option maxRecDepth 20000 in
theorem gL_law_X8_ofHelper : GoodIn wsL_law (wsV RL 18 RX8 yX8_ofHelper wsX8_ofHelper) := goodIn_app (goodIn_of _ (by decide +kernel)) ggL_law_X8_ofHelper
set_option maxRecDepth 20000 in
theorem ggL_law_X9_ofHelper : GoodIn wsL_law wsX9_ofHelper := goodIn_r _ [297, 118, 119, 298, 299, 300, 5, 301, 230, 302, 303, 304, 305, 306, 307, 308, 309, 269, 120, 123, 826, 827, 828, 829, 830, 831, 832, 833, 834, 835, 836, 837, 838, 839, 840, 841, 842, 843, 844, 845, 846, 847, 848, 849, 850, 851, 852, 853, 854, 855, 856] (by decide +kernel) (by decide +kernel)
set_option maxRecDepth 20000 in
theorem gL_law_X9_ofHelper : GoodIn wsL_law (wsV RL 22 RX9 yX9_ofHelper wsX9_ofHelper) := goodIn_app (goodIn_of _ (by decide +kernel)) ggL_law_X9_ofHelper
set_option maxRecDepth 20000 in
theorem ggL_law_X8_at : GoodIn wsL_law wsX8_at := goodIn_r _ [313, 35, 314, 190, 315, 316, 317, 318, 34, 319, 81, 813, 814, 815, 816, 817, 818, 819, 820, 821, 822, 823, 824, 825, 869, 870, 871] (by decide +kernel) (by decide +kernel)
set_option maxRecDepth 20000 in
theorem gL_law_X8_at : GoodIn wsL_law (wsV RL 23 RX8 yX8_at wsX8_at) := goodIn_app (goodIn_of _ (by decide +kernel)) ggL_law_X8_at
set_option maxRecDepth 20000 in
theorem ggL_law_X9_at : GoodIn wsL_law wsX9_at := goodIn_r _ [323, 324, 115, 116, 325, 326, 327, 5, 328, 228, 235, 236, 237, 826, 827, 828, 829, 830, 831, 832, 833, 834, 835, 836, 837, 838, 839, 840, 841, 842, 843, 844, 845, 846, 847, 848, 849, 850, 851, 852, 853, 854, 855, 856] (by decide +kernel) (by decide +kernel)
set_option maxRecDepth 20000 in
theorem gL_law_X9_at : GoodIn wsL_law (wsV RL 27 RX9 yX9_at wsX9_at) := goodIn_app (goodIn_of _ (by decide +kernel)) ggL_law_X9_at
set_option maxRecDepth 20000 in
theorem ggL_law_X8_add : GoodIn wsL_law wsX8_add := goodIn_r _ [332, 27, 210, 333, 334, 335, 2, 336, 337, 338, 339, 340, 341, 342, 35, 316, 317, 318, 34, 319, 81, 343, 344, 345, 346, 22, 347, 348, 349, 26, 350, 68, 70, 351, 352, 353, 30, 354, 74, 75, 76, 77, 355, 356, 357, 358, 359, 360, 83, 361, 84, 362, 363, 364, 365, 366, 367, 368, 369, 370, 371, 281, 282, 21, 283, 63, 62, 284, 277, 278, 279, 61, 372, 373, 374, 375, 376, 377, 813, 814, 815, 816, 817, 818, 819, 820, 821, 822, 823, 824, 825, 863, 864, 869, 870, 871, 865, 866, 867, 868, 860, 861, 862] (by decide +kernel) (by decide +kernel)
set_option maxRecDepth 20000 in
theorem gL_law_X8_add : GoodIn wsL_law (wsV RL 30 RX8 yX8_add wsX8_add) := goodIn_app (goodIn_of _ (by decide +kernel)) ggL_law_X8_add
set_option maxRecDepth 20000 in
theorem ggL_law_X9_add : GoodIn wsL_law wsX9_add := goodIn_r _ [381, 269, 382, 383, 384, 5, 385, 386, 387, 325, 326, 327, 328, 228, 388, 389, 390, 391, 392, 393, 394, 115, 116, 302, 303, 304, 305, 118, 119, 395, 396, 397, 398, 399, 400, 401, 402, 120, 121, 122, 123, 826, 827, 828, 829, 830, 831, 832, 833, 834, 835, 836, 837, 838, 839, 840, 841, 842, 843, 844, 845, 846, 847, 848, 849, 850, 851, 852, 853, 854, 855, 856] (by decide +kernel) (by decide +kernel)
set_option maxRecDepth 20000 in
theorem gL_law_X9_add : GoodIn wsL_law (wsV RL 34 RX9 yX9_add wsX9_add) := goodIn_app (goodIn_of _ (by decide +kernel)) ggL_law_X9_add
set_option maxRecDepth 20000 in
theorem ggL_law_X8_cap : GoodIn wsL_law wsX8_cap := goodIn_r _ [406, 333, 334, 335, 2, 336, 337, 338, 339, 340, 341, 342, 35, 316, 317, 318, 34, 319, 81, 343, 344, 345, 346, 27, 22, 347, 348, 349, 26, 350, 68, 70, 351, 352, 353, 30, 354, 74, 75, 76, 77, 355, 356, 357, 358, 359, 360, 83, 361, 84, 362, 363, 364, 365, 366, 367, 368, 369, 370, 371, 281, 282, 21, 283, 63, 62, 284, 277, 278, 279, 61, 372, 373, 374, 375, 376, 377, 813, 814, 815, 816, 817, 818, 819, 820, 821, 822, 823, 824, 825, 869, 870, 871, 863, 864, 865, 866, 867, 868, 860, 861, 862] (by decide +kernel) (by decide +kernel)
set_option maxRecDepth 20000 in
theorem gL_law_X8_cap : GoodIn wsL_law (wsV RL 35 RX8 yX8_cap wsX8_cap) := goodIn_app (goodIn_of _ (by decide +kernel)) ggL_law_X8_cap
set_option maxRecDepth 20000 in
theorem ggL_law_X9_cap : GoodIn wsL_law wsX9_cap := goodIn_r _ [410, 382, 383, 384, 5, 385, 386, 387, 269, 325, 326, 327, 328, 228, 388, 389, 390, 399, 400, 401, 402, 120, 121, 122, 123, 391, 392, 393, 394, 115, 116, 302, 303, 304, 305, 118, 119, 395, 396, 397, 398, 826, 827, 828, 829, 830, 831, 832, 833, 834, 835, 836, 837, 838, 839, 840, 841, 842, 843, 844, 845, 846, 847, 848, 849, 850, 851, 852, 853, 854, 855, 856] (by decide +kernel) (by decide +kernel)
set_option maxRecDepth 20000 in
theorem gL_law_X9_cap : GoodIn wsL_law (wsV RL 38 RX9 yX9_cap wsX9_cap) := goodIn_app (goodIn_of _ (by decide +kernel)) ggL_law_X9_cap
set_option maxRecDepth 20000 in
theorem ggL_law_X8_floor : GoodIn wsL_law wsX8_floor := goodIn_r _ [414, 333, 334, 335, 2, 336, 337, 338, 339, 340, 341, 342, 35, 316, 317, 318, 34, 319, 81, 343, 344, 345, 346, 27, 22, 347, 348, 349, 26, 350, 68, 70, 351, 352, 353, 30, 354, 74, 75, 76, 77, 355, 356, 357, 358, 359, 360, 83, 361, 84, 362, 363, 364, 365, 366, 367, 368, 369, 370, 371, 281, 282, 21, 283, 63, 62, 284, 277, 278, 279, 61, 372, 373, 374, 375, 376, 377, 813, 814, 815, 816, 817, 818, 819, 820, 821, 822, 823, 824, 825, 869, 870, 871, 863, 864, 865, 866, 867, 868, 860, 861, 862] (by decide +kernel) (by decide +kernel)
set_option maxRecDepth 20000 in
theorem gL_law_X8_floor : GoodIn wsL_law (wsV RL 39 RX8 yX8_floor wsX8_floor) := goodIn_app (goodIn_of _ (by decide +kernel)) ggL_law_X8_floor
set_option maxRecDepth 20000 in
theorem ggL_law_X9_floor : GoodIn wsL_law wsX9_floor := goodIn_r _ [418, 382, 383, 384, 5, 385, 386, 387, 269, 325, 326, 327, 328, 228, 388, 389, 390, 399, 400, 401, 402, 120, 121, 122, 123, 391, 392, 393, 394, 115, 116, 302, 303, 304, 305, 118, 119, 395, 396, 397, 398, 826, 827, 828, 829, 830, 831, 832, 833, 834, 835, 836, 837, 838, 839, 840, 841, 842, 843, 844, 845, 846, 847, 848, 849, 850, 851, 852, 853, 854, 855, 856] (by decide +kernel) (by decide +kernel)
set_option maxRecDepth 20000 in
theorem gL_law_X9_floor : GoodIn wsL_law (wsV RL 42 RX9 yX9_floor wsX9_floor) := goodIn_app (goodIn_of _ (by decide +kernel)) ggL_law_X9_floor
set_option maxRecDepth 20000 in
theorem ggL_law_X8_help : GoodIn wsL_law wsX8_help := goodIn_r _ [422, 22, 276, 277, 278, 21, 279, 61, 339, 340, 341, 2, 342, 35, 316, 317, 318, 34, 319, 81, 343, 344, 345, 346, 27, 347, 348, 349, 26, 350, 68, 70, 351, 352, 353, 30, 354, 74, 75, 76, 77, 355, 356, 357, 358, 359, 360, 83, 361, 84, 362, 363, 364, 365, 366, 367, 368, 369, 370, 371, 281, 282, 283, 63, 62, 284, 372, 373, 374, 375, 376, 377, 280, 813, 814, 815, 816, 817, 818, 819, 820, 821, 822, 823, 824, 825, 860, 861, 862, 869, 870, 871, 863, 864, 865, 866, 867, 868] (by decide +kernel) (by decide +kernel)
set_option maxRecDepth 20000 in
theorem gL_law_X8_help : GoodIn wsL_law (wsV RL 43 RX8 yX8_help wsX8_help) := goodIn_app (goodIn_of _ (by decide +kernel)) ggL_law_X8_help
set_option maxRecDepth 20000 in
theorem ggL_law_X9_help : GoodIn wsL_law wsX9_help := goodIn_r _ [426, 269, 298, 299, 300, 5, 301, 230, 325, 326, 327, 328, 228, 235, 236, 237, 391, 392, 393, 394, 115, 116, 302, 303, 304, 305, 118, 119, 395, 396, 397, 398, 399, 400, 401, 402, 120, 121, 122, 123, 826, 827, 828, 829, 830, 831, 832, 833, 834, 835, 836, 837, 838, 839, 840, 841, 842, 843, 844, 845, 846, 847, 848, 849, 850, 851, 852, 853, 854, 855, 856] (by decide +kernel) (by decide +kernel)
set_option maxRecDepth 20000 in
theorem gL_law_X9_help : GoodIn wsL_law (wsV RL 46 RX9 yX9_help wsX9_help) := goodIn_app (goodIn_of _ (by decide +kernel)) ggL_law_X9_help
set_option maxRecDepth 20000 in
theorem ggL_law_X8_fresh : GoodIn wsL_law wsX8_fresh := goodIn_r _ [430, 35, 27, 210, 431, 432, 433, 34, 434, 81, 206, 207, 208, 2, 209, 36, 211, 212, 213, 214, 83, 84, 215, 199, 200, 201, 216, 217, 218, 219, 220, 813, 814, 815, 816, 817, 818, 819, 820, 821, 822, 823, 824, 825, 863, 864, 869, 870, 871] (by decide +kernel) (by decide +kernel)
set_option maxRecDepth 20000 in
theorem gL_law_X8_fresh : GoodIn wsL_law (wsV RL 47 RX8 yX8_fresh wsX8_fresh) := goodIn_app (goodIn_of _ (by decide +kernel)) ggL_law_X8_fresh
set_option maxRecDepth 20000 in
theorem ggL_law_X9_fresh : GoodIn wsL_law wsX9_fresh := goodIn_r _ [438, 228, 269, 265, 266, 267, 5, 268, 116, 115, 117, 826, 827, 828, 829, 830, 831, 832, 833, 834, 835, 836, 837, 838, 839, 840, 841, 842, 843, 844, 845, 846, 847, 848, 849, 850, 851, 852, 853, 854, 855, 856] (by decide +kernel) (by decide +kernel)
set_option maxRecDepth 20000 in
theorem gL_law_X9_fresh : GoodIn wsL_law (wsV RL 51 RX9 yX9_fresh wsX9_fresh) := goodIn_app (goodIn_of _ (by decide +kernel)) ggL_law_X9_fresh
set_option maxRecDepth 20000 in
theorem ggL_law_X8_day : GoodIn wsL_law wsX8_day := goodIn_r _ [442, 47, 314, 14, 35, 137, 138, 2, 139, 140, 141, 142, 443, 444, 445, 143, 144, 145, 49, 146, 104, 105, 446, 447, 448, 449, 151, 152, 153, 154, 106, 431, 432, 433, 34, 434, 81, 450, 451, 452, 453, 164, 165, 166, 107, 454, 455, 456, 457, 37, 31, 22, 216, 217, 218, 219, 83, 215, 199, 200, 201, 220, 212, 213, 214, 84, 351, 352, 353, 30, 354, 74, 75, 76, 77, 458, 459, 460, 461, 462, 463, 464, 339, 340, 341, 342, 316, 317, 318, 319, 465, 291, 292, 293, 276, 277, 278, 21, 279, 61, 355, 356, 357, 358, 359, 360, 361, 362, 363, 364, 365, 366, 367, 368, 369, 370, 371, 281, 282, 283, 63, 62, 284, 372, 373, 374, 375, 376, 377, 466, 467, 468, 469, 136, 190, 315, 470, 471, 472, 473, 474, 475, 476, 477, 478, 479, 480, 813, 814, 815, 816, 817, 818, 819, 820, 821, 822, 823, 824, 825, 877, 878, 879, 880, 869, 870, 871, 865, 866, 867, 868, 860, 861, 862] (by decide +kernel) (by decide +kernel)
set_option maxRecDepth 20000 in
theorem gL_law_X8_day : GoodIn wsL_law (wsV RL 52 RX8 yX8_day wsX8_day) := goodIn_app (goodIn_of _ (by decide +kernel)) ggL_law_X8_day
set_option maxRecDepth 20000 in
theorem ggL_law_X9_day : GoodIn wsL_law wsX9_day := goodIn_r _ [484, 225, 324, 228, 114, 116, 115, 232, 233, 5, 234, 235, 236, 237, 238, 239, 240, 241, 242, 243, 244, 112, 113, 485, 486, 487, 488, 489, 490, 491, 492, 127, 128, 493, 494, 495, 496, 497, 498, 499, 500, 325, 326, 327, 328, 298, 299, 300, 301, 230, 391, 392, 393, 394, 302, 303, 304, 305, 118, 119, 395, 396, 397, 398, 501, 502, 503, 504, 505, 506, 507, 508, 509, 510, 511, 512, 513, 514, 515, 516, 517, 518, 519, 520, 521, 522, 523, 524, 826, 827, 828, 829, 830, 831, 832, 833, 834, 835, 836, 837, 838, 839, 840, 841, 842, 843, 844, 845, 846, 847, 848, 849, 850, 851, 852, 853, 854, 855, 856] (by decide +kernel) (by decide +kernel)
set_option maxRecDepth 20000 in
theorem gL_law_X9_day : GoodIn wsL_law (wsV RL 56 RX9 yX9_day wsX9_day) := goodIn_app (goodIn_of _ (by decide +kernel)) ggL_law_X9_day
set_option maxRecDepth 20000 in
theorem ggL_law_X8_ask : GoodIn wsL_law wsX8_ask := goodIn_r _ [528, 314, 35, 190, 315, 339, 340, 341, 2, 342, 316, 317, 318, 34, 319, 81, 470, 471, 472, 473, 474, 475, 476, 363, 364, 365, 477, 478, 479, 480, 376, 377, 529, 530, 531, 532, 533, 534, 535, 536, 537, 538, 539, 540, 541, 542, 543, 813, 814, 815, 816, 817, 818, 819, 820, 821, 822, 823, 824, 825, 869, 870, 871] (by decide +kernel) (by decide +kernel)
set_option maxRecDepth 20000 in
theorem gL_law_X8_ask : GoodIn wsL_law (wsV RL 57 RX8 yX8_ask wsX8_ask) := goodIn_app (goodIn_of _ (by decide +kernel)) ggL_law_X8_ask
set_option maxRecDepth 20000 in
theorem ggL_law_X9_ask : GoodIn wsL_law wsX9_ask := goodIn_r _ [547, 324, 116, 325, 326, 327, 5, 328, 228, 505, 506, 507, 508, 115, 509, 510, 511, 512, 513, 514, 515, 516, 548, 549, 550, 551, 552, 553, 554, 555, 556, 557, 558, 559, 517, 518, 519, 520, 826, 827, 828, 829, 830, 831, 832, 833, 834, 835, 836, 837, 838, 839, 840, 841, 842, 843, 844, 845, 846, 847, 848, 849, 850, 851, 852, 853, 854, 855, 856] (by decide +kernel) (by decide +kernel)
set_option maxRecDepth 20000 in
theorem gL_law_X9_ask : GoodIn wsL_law (wsV RL 61 RX9 yX9_ask wsX9_ask) := goodIn_app (goodIn_of _ (by decide +kernel)) ggL_law_X9_ask
set_option maxRecDepth 20000 in
theorem ggL_law_X8_ofSpan : GoodIn wsL_law wsX8_ofSpan := goodIn_r _ [563, 41, 314, 564, 565, 35, 190, 566, 567, 568, 40, 569, 89, 90, 473, 474, 2, 475, 476, 363, 364, 365, 535, 536, 537, 529, 530, 531, 532, 533, 534, 470, 471, 472, 538, 539, 540, 541, 542, 543, 813, 814, 815, 816, 817, 818, 819, 820, 821, 822, 823, 824, 825, 872, 873, 869, 870, 871] (by decide +kernel) (by decide +kernel)
set_option maxRecDepth 20000 in
theorem gL_law_X8_ofSpan : GoodIn wsL_law (wsV RL 62 RX8 yX8_ofSpan wsX8_ofSpan) := goodIn_app (goodIn_of _ (by decide +kernel)) ggL_law_X8_ofSpan
set_option maxRecDepth 20000 in
theorem ggL_law_X9_ofSpan : GoodIn wsL_law wsX9_ofSpan := goodIn_r _ [573, 324, 574, 575, 576, 577, 578, 5, 579, 228, 509, 510, 511, 512, 115, 552, 553, 554, 555, 548, 549, 550, 551, 505, 506, 507, 508, 556, 557, 558, 559, 826, 827, 828, 829, 830, 831, 832, 833, 834, 835, 836, 837, 838, 839, 840, 841, 842, 843, 844, 845, 846, 847, 848, 849, 850, 851, 852, 853, 854, 855, 856] (by decide +kernel) (by decide +kernel)
set_option maxRecDepth 20000 in
theorem gL_law_X9_ofSpan : GoodIn wsL_law (wsV RL 65 RX9 yX9_ofSpan wsX9_ofSpan) := goodIn_app (goodIn_of _ (by decide +kernel)) ggL_law_X9_ofSpan
set_option maxRecDepth 20000 in
theorem ggL_law_X8_looks : GoodIn wsL_law wsX8_looks := goodIn_r _ [583, 584, 41, 333, 334, 335, 2, 336, 337, 338, 339, 340, 341, 342, 35, 316, 317, 318, 34, 319, 81, 566, 567, 568, 40, 569, 89, 90, 585, 586, 587, 588, 564, 565, 190, 314, 473, 474, 475, 476, 363, 364, 365, 535, 536, 537, 589, 590, 591, 592, 593, 594, 595, 813, 814, 815, 816, 817, 818, 819, 820, 821, 822, 823, 824, 825, 869, 870, 871, 872, 873] (by decide +kernel) (by decide +kernel)
set_option maxRecDepth 20000 in
theorem gL_law_X8_looks : GoodIn wsL_law (wsV RL 66 RX8 yX8_looks wsX8_looks) := goodIn_app (goodIn_of _ (by decide +kernel)) ggL_law_X8_looks
set_option maxRecDepth 20000 in
theorem ggL_law_X9_looks : GoodIn wsL_law wsX9_looks := goodIn_r _ [599, 386, 387, 129, 325, 326, 327, 5, 328, 228, 388, 389, 390, 576, 577, 578, 579, 574, 575, 600, 601, 602, 603, 324, 509, 510, 511, 512, 115, 552, 553, 554, 555, 826, 827, 828, 829, 830, 831, 832, 833, 834, 835, 836, 837, 838, 839, 840, 841, 842, 843, 844, 845, 846, 847, 848, 849, 850, 851, 852, 853, 854, 855, 856] (by decide +kernel) (by decide +kernel)
set_option maxRecDepth 20000 in
theorem gL_law_X9_looks : GoodIn wsL_law (wsV RL 69 RX9 yX9_looks wsX9_looks) := goodIn_app (goodIn_of _ (by decide +kernel)) ggL_law_X9_looks
set_option maxRecDepth 20000 in
theorem ggL_law_X8_unlike : GoodIn wsL_law wsX8_unlike := goodIn_r _ [607, 35, 41, 190, 564, 565, 431, 432, 433, 34, 434, 81, 566, 567, 568, 40, 569, 89, 90, 538, 539, 2, 540, 541, 542, 543, 813, 814, 815, 816, 817, 818, 819, 820, 821, 822, 823, 824, 825, 869, 870, 871, 872, 873] (by decide +kernel) (by decide +kernel)
set_option maxRecDepth 20000 in
theorem gL_law_X8_unlike : GoodIn wsL_law (wsV RL 70 RX8 yX8_unlike wsX8_unlike) := goodIn_app (goodIn_of _ (by decide +kernel)) ggL_law_X8_unlike
set_option maxRecDepth 20000 in
theorem ggL_law_X9_unlike : GoodIn wsL_law wsX9_unlike := goodIn_r _ [611, 228, 574, 575, 576, 577, 578, 5, 579, 556, 557, 558, 559, 115, 826, 827, 828, 829, 830, 831, 832, 833, 834, 835, 836, 837, 838, 839, 840, 841, 842, 843, 844, 845, 846, 847, 848, 849, 850, 851, 852, 853, 854, 855, 856] (by decide +kernel) (by decide +kernel)
set_option maxRecDepth 20000 in
theorem gL_law_X9_unlike : GoodIn wsL_law (wsV RL 73 RX9 yX9_unlike wsX9_unlike) := goodIn_app (goodIn_of _ (by decide +kernel)) ggL_law_X9_unlike
set_option maxRecDepth 20000 in
theorem ggL_law_X8_reading : GoodIn wsL_law wsX8_reading := goodIn_r _ [615, 35, 616, 617, 45, 316, 317, 318, 34, 319, 81, 618, 619, 620, 44, 621, 98, 99, 100, 813, 814, 815, 816, 817, 818, 819, 820, 821, 822, 823, 824, 825, 869, 870, 871, 874, 875, 876] (by decide +kernel) (by decide +kernel)
set_option maxRecDepth 20000 in
theorem gL_law_X8_reading : GoodIn wsL_law (wsV RL 74 RX8 yX8_reading wsX8_reading) := goodIn_app (goodIn_of _ (by decide +kernel)) ggL_law_X8_reading
set_option maxRecDepth 20000 in
theorem ggL_law_X9_reading : GoodIn wsL_law wsX9_reading := goodIn_r _ [625, 626, 627, 231, 130, 131, 325, 326, 327, 5, 328, 228, 388, 389, 390, 826, 827, 828, 829, 830, 831, 832, 833, 834, 835, 836, 837, 838, 839, 840, 841, 842, 843, 844, 845, 846, 847, 848, 849, 850, 851, 852, 853, 854, 855, 856] (by decide +kernel) (by decide +kernel)
set_option maxRecDepth 20000 in
theorem gL_law_X9_reading : GoodIn wsL_law (wsV RL 78 RX9 yX9_reading wsX9_reading) := goodIn_app (goodIn_of _ (by decide +kernel)) ggL_law_X9_reading
set_option maxRecDepth 20000 in
theorem ggL_law_X8_back : GoodIn wsL_law wsX8_back := goodIn_r _ [631, 45, 193, 813, 814, 815, 816, 817, 818, 819, 820, 821, 822, 823, 824, 825, 874, 875, 876] (by decide +kernel) (by decide +kernel)
set_option maxRecDepth 20000 in
theorem gL_law_X8_back : GoodIn wsL_law (wsV RL 79 RX8 yX8_back wsX8_back) := goodIn_app (goodIn_of _ (by decide +kernel)) ggL_law_X8_back
set_option maxRecDepth 20000 in
theorem ggL_law_X9_back : GoodIn wsL_law wsX9_back := goodIn_r _ [635, 231, 235, 236, 5, 237, 826, 827, 828, 829, 830, 831, 832, 833, 834, 835, 836, 837, 838, 839, 840, 841, 842, 843, 844, 845, 846, 847, 848, 849, 850, 851, 852, 853, 854, 855, 856] (by decide +kernel) (by decide +kernel)
set_option maxRecDepth 20000 in
theorem gL_law_X9_back : GoodIn wsL_law (wsV RL 83 RX9 yX9_back wsX9_back) := goodIn_app (goodIn_of _ (by decide +kernel)) ggL_law_X9_back
set_option maxRecDepth 20000 in
theorem ggL_law_X8_kinds : GoodIn wsL_law wsX8_kinds := goodIn_r _ [639, 22, 275, 276, 277, 278, 21, 279, 61, 640, 641, 642, 2, 643, 23, 274, 37, 36, 27, 210, 644, 45, 194, 195, 196, 197, 62, 198, 199, 200, 201, 63, 216, 217, 218, 34, 219, 81, 83, 215, 220, 212, 213, 214, 84, 355, 356, 357, 358, 359, 360, 361, 362, 363, 364, 365, 366, 317, 318, 319, 367, 368, 369, 30, 370, 74, 77, 371, 281, 282, 283, 284, 372, 373, 374, 375, 376, 377, 645, 646, 647, 44, 648, 98, 99, 649, 100, 650, 813, 814, 815, 816, 817, 818, 819, 820, 821, 822, 823, 824, 825, 860, 861, 862, 863, 864, 869, 870, 871, 865, 866, 867, 868, 874, 875, 876] (by decide +kernel) (by decide +kernel)
set_option maxRecDepth 20000 in
theorem gL_law_X8_kinds : GoodIn wsL_law (wsV RL 84 RX8 yX8_kinds wsX8_kinds) := goodIn_app (goodIn_of _ (by decide +kernel)) ggL_law_X8_kinds
set_option maxRecDepth 20000 in
theorem ggL_law_X9_kinds : GoodIn wsL_law wsX9_kinds := goodIn_r _ [654, 118, 298, 299, 300, 5, 301, 230, 655, 656, 657, 658, 228, 115, 117, 269, 120, 121, 122, 123, 231, 130, 131, 489, 490, 491, 492, 127, 128, 116, 391, 392, 393, 394, 302, 303, 304, 305, 119, 395, 396, 397, 398, 521, 522, 523, 524, 826, 827, 828, 829, 830, 831, 832, 833, 834, 835, 836, 837, 838, 839, 840, 841, 842, 843, 844, 845, 846, 847, 848, 849, 850, 851, 852, 853, 854, 855, 856] (by decide +kernel) (by decide +kernel)
set_option maxRecDepth 20000 in
theorem gL_law_X9_kinds : GoodIn wsL_law (wsV RL 87 RX9 yX9_kinds wsX9_kinds) := goodIn_app (goodIn_of _ (by decide +kernel)) ggL_law_X9_kinds
set_option maxRecDepth 20000 in
theorem ggL_law_X8_paces : GoodIn wsL_law wsX8_paces := goodIn_r _ [662, 22, 274, 276, 277, 278, 21, 279, 61, 640, 641, 642, 2, 643, 23, 275, 37, 36, 27, 210, 644, 45, 194, 195, 196, 197, 62, 198, 199, 200, 201, 63, 216, 217, 218, 34, 219, 81, 83, 215, 220, 212, 213, 214, 84, 355, 356, 357, 358, 359, 360, 361, 362, 363, 364, 365, 366, 317, 318, 319, 367, 368, 369, 30, 370, 74, 77, 371, 281, 282, 283, 284, 372, 373, 374, 375, 376, 377, 645, 646, 647, 44, 648, 98, 99, 649, 100, 650, 813, 814, 815, 816, 817, 818, 819, 820, 821, 822, 823, 824, 825, 860, 861, 862, 863, 864, 869, 870, 871, 865, 866, 867, 868, 874, 875, 876] (by decide +kernel) (by decide +kernel)
set_option maxRecDepth 20000 in
theorem gL_law_X8_paces : GoodIn wsL_law (wsV RL 88 RX8 yX8_paces wsX8_paces) := goodIn_app (goodIn_of _ (by decide +kernel)) ggL_law_X8_paces
set_option maxRecDepth 20000 in
theorem ggL_law_X9_paces : GoodIn wsL_law wsX9_paces := goodIn_r _ [666, 119, 298, 299, 300, 5, 301, 230, 655, 656, 657, 658, 228, 115, 117, 269, 120, 121, 122, 123, 231, 130, 131, 489, 490, 491, 492, 127, 128, 116, 391, 392, 393, 394, 302, 303, 304, 305, 118, 395, 396, 397, 398, 521, 522, 523, 524, 826, 827, 828, 829, 830, 831, 832, 833, 834, 835, 836, 837, 838, 839, 840, 841, 842, 843, 844, 845, 846, 847, 848, 849, 850, 851, 852, 853, 854, 855, 856] (by decide +kernel) (by decide +kernel)
set_option maxRecDepth 20000 in
theorem gL_law_X9_paces : GoodIn wsL_law (wsV RL 91 RX9 yX9_paces wsX9_paces) := goodIn_app (goodIn_of _ (by decide +kernel)) ggL_law_X9_paces
set_option maxRecDepth 20000 in
theorem ggL_law_X8_odds : GoodIn wsL_law wsX8_odds := goodIn_r _ [670, 314, 35, 190, 339, 340, 341, 2, 342, 316, 317, 318, 34, 319, 81, 532, 533, 534, 671, 672, 673, 813, 814, 815, 816, 817, 818, 819, 820, 821, 822, 823, 824, 825, 869, 870, 871] (by decide +kernel) (by decide +kernel)
set_option maxRecDepth 20000 in
theorem gL_law_X8_odds : GoodIn wsL_law (wsV RL 92 RX8 yX8_odds wsX8_odds) := goodIn_app (goodIn_of _ (by decide +kernel)) ggL_law_X8_odds
set_option maxRecDepth 20000 in
theorem ggL_law_X9_odds : GoodIn wsL_law wsX9_odds := goodIn_r _ [677, 324, 115, 325, 326, 327, 5, 328, 228, 235, 236, 237, 678, 679, 680, 826, 827, 828, 829, 830, 831, 832, 833, 834, 835, 836, 837, 838, 839, 840, 841, 842, 843, 844, 845, 846, 847, 848, 849, 850, 851, 852, 853, 854, 855, 856] (by decide +kernel) (by decide +kernel)
set_option maxRecDepth 20000 in
theorem gL_law_X9_odds : GoodIn wsL_law (wsV RL 96 RX9 yX9_odds wsX9_odds) := goodIn_app (goodIn_of _ (by decide +kernel)) ggL_law_X9_odds
set_option maxRecDepth 20000 in
theorem ggL_law_X8_sheet : GoodIn wsL_law wsX8_sheet := goodIn_r _ [684, 47, 14, 137, 138, 2, 139, 140, 141, 142, 147, 148, 149, 150, 685, 686, 687, 49, 688, 104, 105, 106, 107, 689, 92, 93, 94, 813, 814, 815, 816, 817, 818, 819, 820, 821, 822, 823, 824, 825, 877, 878, 879, 880] (by decide +kernel) (by decide +kernel)
set_option maxRecDepth 20000 in
theorem gL_law_X8_sheet : GoodIn wsL_law (wsV RL 97 RX8 yX8_sheet wsX8_sheet) := goodIn_app (goodIn_of _ (by decide +kernel)) ggL_law_X8_sheet
set_option maxRecDepth 20000 in
theorem ggL_law_X9_sheet : GoodIn wsL_law wsX9_sheet := goodIn_r _ [693, 225, 112, 113, 114, 232, 233, 5, 234, 235, 236, 237, 238, 239, 240, 245, 246, 247, 248, 826, 827, 828, 829, 830, 831, 832, 833, 834, 835, 836, 837, 838, 839, 840, 841, 842, 843, 844, 845, 846, 847, 848, 849, 850, 851, 852, 853, 854, 855, 856] (by decide +kernel) (by decide +kernel)
set_option maxRecDepth 20000 in
theorem gL_law_X9_sheet : GoodIn wsL_law (wsV RL 101 RX9 yX9_sheet wsX9_sheet) := goodIn_app (goodIn_of _ (by decide +kernel)) ggL_law_X9_sheet
set_option maxRecDepth 20000 in
theorem ggL_law_X8_lose : GoodIn wsL_law wsX8_lose := goodIn_r _ [697, 14, 137, 138, 2, 139, 698, 699, 700, 49, 701, 104, 106, 813, 814, 815, 816, 817, 818, 819, 820, 821, 822, 823, 824, 825, 877, 878, 879, 880] (by decide +kernel) (by decide +kernel)
set_option maxRecDepth 20000 in
theorem gL_law_X8_lose : GoodIn wsL_law (wsV RL 102 RX8 yX8_lose wsX8_lose) := goodIn_app (goodIn_of _ (by decide +kernel)) ggL_law_X8_lose
set_option maxRecDepth 20000 in
theorem ggL_law_X9_lose : GoodIn wsL_law wsX9_lose := goodIn_r _ [705, 112, 232, 233, 5, 234, 235, 236, 237, 826, 827, 828, 829, 830, 831, 832, 833, 834, 835, 836, 837, 838, 839, 840, 841, 842, 843, 844, 845, 846, 847, 848, 849, 850, 851, 852, 853, 854, 855, 856] (by decide +kernel) (by decide +kernel)
set_option maxRecDepth 20000 in
theorem gL_law_X9_lose : GoodIn wsL_law (wsV RL 105 RX9 yX9_lose wsX9_lose) := goodIn_app (goodIn_of _ (by decide +kernel)) ggL_law_X9_lose
set_option maxRecDepth 20000 in
theorem ggL_law_X8_put : GoodIn wsL_law wsX8_put := goodIn_r _ [709, 47, 14, 710, 711, 137, 138, 2, 139, 147, 148, 149, 150, 151, 152, 153, 49, 154, 106, 712, 713, 714, 715, 105, 813, 814, 815, 816, 817, 818, 819, 820, 821, 822, 823, 824, 825, 877, 878, 879, 880] (by decide +kernel) (by decide +kernel)
set_option maxRecDepth 20000 in
theorem gL_law_X8_put : GoodIn wsL_law (wsV RL 106 RX8 yX8_put wsX8_put) := goodIn_app (goodIn_of _ (by decide +kernel)) ggL_law_X8_put
set_option maxRecDepth 20000 in
theorem ggL_law_X9_put : GoodIn wsL_law wsX9_put := goodIn_r _ [719, 225, 112, 113, 114, 232, 233, 5, 234, 235, 236, 237, 245, 246, 247, 248, 826, 827, 828, 829, 830, 831, 832, 833, 834, 835, 836, 837, 838, 839, 840, 841, 842, 843, 844, 845, 846, 847, 848, 849, 850, 851, 852, 853, 854, 855, 856] (by decide +kernel) (by decide +kernel)
set_option maxRecDepth 20000 in
theorem gL_law_X9_put : GoodIn wsL_law (wsV RL 109 RX9 yX9_put wsX9_put) := goodIn_app (goodIn_of _ (by decide +kernel)) ggL_law_X9_put
set_option maxRecDepth 20000 in
theorem ggL_law_X8_cell : GoodIn wsL_law wsX8_cell := goodIn_r _ [723, 47, 314, 14, 711, 137, 138, 2, 139, 140, 141, 142, 143, 144, 145, 49, 146, 104, 105, 446, 447, 448, 449, 151, 152, 153, 154, 106, 813, 814, 815, 816, 817, 818, 819, 820, 821, 822, 823, 824, 825, 877, 878, 879, 880] (by decide +kernel) (by decide +kernel)
set_option maxRecDepth 20000 in
theorem gL_law_X8_cell : GoodIn wsL_law (wsV RL 110 RX8 yX8_cell wsX8_cell) := goodIn_app (goodIn_of _ (by decide +kernel)) ggL_law_X8_cell
set_option maxRecDepth 20000 in
theorem ggL_law_X9_cell : GoodIn wsL_law wsX9_cell := goodIn_r _ [727, 225, 324, 112, 113, 114, 232, 233, 5, 234, 235, 236, 237, 238, 239, 240, 485, 486, 487, 488, 826, 827, 828, 829, 830, 831, 832, 833, 834, 835, 836, 837, 838, 839, 840, 841, 842, 843, 844, 845, 846, 847, 848, 849, 850, 851, 852, 853, 854, 855, 856] (by decide +kernel) (by decide +kernel)
set_option maxRecDepth 20000 in
theorem gL_law_X9_cell : GoodIn wsL_law (wsV RL 113 RX9 yX9_cell wsX9_cell) := goodIn_app (goodIn_of _ (by decide +kernel)) ggL_law_X9_cell
set_option maxRecDepth 20000 in
theorem ggL_law_X8_copy : GoodIn wsL_law wsX8_copy := goodIn_r _ [731, 47, 14, 710, 732, 711, 733, 199, 200, 201, 137, 138, 2, 139, 147, 148, 149, 150, 151, 152, 153, 49, 154, 106, 813, 814, 815, 816, 817, 818, 819, 820, 821, 822, 823, 824, 825, 877, 878, 879, 880] (by decide +kernel) (by decide +kernel)
set_option maxRecDepth 20000 in
theorem gL_law_X8_copy : GoodIn wsL_law (wsV RL 114 RX8 yX8_copy wsX8_copy) := goodIn_app (goodIn_of _ (by decide +kernel)) ggL_law_X8_copy
set_option maxRecDepth 20000 in
theorem ggL_law_X9_copy : GoodIn wsL_law wsX9_copy := goodIn_r _ [737, 225, 112, 113, 114, 232, 233, 5, 234, 235, 236, 237, 245, 246, 247, 248, 826, 827, 828, 829, 830, 831, 832, 833, 834, 835, 836, 837, 838, 839, 840, 841, 842, 843, 844, 845, 846, 847, 848, 849, 850, 851, 852, 853, 854, 855, 856] (by decide +kernel) (by decide +kernel)
set_option maxRecDepth 20000 in
theorem gL_law_X9_copy : GoodIn wsL_law (wsV RL 118 RX9 yX9_copy wsX9_copy) := goodIn_app (goodIn_of _ (by decide +kernel)) ggL_law_X9_copy
set_option maxRecDepth 20000 in
theorem ggL_law_X8_tell : GoodIn wsL_law wsX8_tell := goodIn_r _ [741, 22, 275, 274, 276, 277, 278, 21, 279, 61, 742, 743, 744, 2, 745, 746, 747, 748, 749, 46, 750, 751, 752, 753, 754, 755, 756, 757, 813, 814, 815, 816, 817, 818, 819, 820, 821, 822, 823, 824, 825, 860, 861, 862] (by decide +kernel) (by decide +kernel)
set_option maxRecDepth 20000 in
theorem gL_law_X8_tell : GoodIn wsL_law (wsV RL 119 RX8 yX8_tell wsX8_tell) := goodIn_app (goodIn_of _ (by decide +kernel)) ggL_law_X8_tell
set_option maxRecDepth 20000 in
theorem ggL_law_X9_tell : GoodIn wsL_law wsX9_tell := goodIn_r _ [761, 119, 118, 298, 299, 300, 5, 301, 230, 762, 763, 764, 765, 766, 826, 827, 828, 829, 830, 831, 832, 833, 834, 835, 836, 837, 838, 839, 840, 841, 842, 843, 844, 845, 846, 847, 848, 849, 850, 851, 852, 853, 854, 855, 856] (by decide +kernel) (by decide +kernel)
set_option maxRecDepth 20000 in
theorem gL_law_X9_tell : GoodIn wsL_law (wsV RL 122 RX9 yX9_tell wsX9_tell) := goodIn_app (goodIn_of _ (by decide +kernel)) ggL_law_X9_tell
set_option maxRecDepth 20000 in
theorem ggL_law_X8_cheer : GoodIn wsL_law wsX8_cheer := goodIn_r _ [770, 22, 274, 276, 277, 278, 21, 279, 61, 746, 747, 748, 2, 749, 46, 813, 814, 815, 816, 817, 818, 819, 820, 821, 822, 823, 824, 825, 860, 861, 862] (by decide +kernel) (by decide +kernel)
set_option maxRecDepth 20000 in
theorem gL_law_X8_cheer : GoodIn wsL_law (wsV RL 123 RX8 yX8_cheer wsX8_cheer) := goodIn_app (goodIn_of _ (by decide +kernel)) ggL_law_X8_cheer
set_option maxRecDepth 20000 in
theorem ggL_law_X9_cheer : GoodIn wsL_law wsX9_cheer := goodIn_r _ [774, 118, 298, 299, 300, 5, 301, 230, 762, 763, 764, 765, 766, 826, 827, 828, 829, 830, 831, 832, 833, 834, 835, 836, 837, 838, 839, 840, 841, 842, 843, 844, 845, 846, 847, 848, 849, 850, 851, 852, 853, 854, 855, 856] (by decide +kernel) (by decide +kernel)
set_option maxRecDepth 20000 in
theorem gL_law_X9_cheer : GoodIn wsL_law (wsV RL 126 RX9 yX9_cheer wsX9_cheer) := goodIn_app (goodIn_of _ (by decide +kernel)) ggL_law_X9_cheer
set_option maxRecDepth 20000 in
theorem ggL_law_X8_as : GoodIn wsL_law wsX8_as := goodIn_r _ [778, 47, 22, 274, 276, 277, 278, 21, 279, 61, 147, 148, 149, 2, 150, 813, 814, 815, 816, 817, 818, 819, 820, 821, 822, 823, 824, 825, 860, 861, 862] (by decide +kernel) (by decide +kernel)
set_option maxRecDepth 20000 in
theorem gL_law_X8_as : GoodIn wsL_law (wsV RL 127 RX8 yX8_as wsX8_as) := goodIn_app (goodIn_of _ (by decide +kernel)) ggL_law_X8_as
set_option maxRecDepth 20000 in
theorem ggL_law_X9_as : GoodIn wsL_law wsX9_as := goodIn_r _ [782, 225, 118, 298, 299, 300, 5, 301, 230, 235, 236, 237, 245, 246, 247, 248, 826, 827, 828, 829, 830, 831, 832, 833, 834, 835, 836, 837, 838, 839, 840, 841, 842, 843, 844, 845, 846, 847, 848, 849, 850, 851, 852, 853, 854, 855, 856] (by decide +kernel) (by decide +kernel)
set_option maxRecDepth 20000 in
theorem gL_law_X9_as : GoodIn wsL_law (wsV RL 130 RX9 yX9_as wsX9_as) := goodIn_app (goodIn_of _ (by decide +kernel)) ggL_law_X9_as
set_option maxRecDepth 20000 in
theorem ggL_law_X8_trace : GoodIn wsL_law wsX8_trace := goodIn_r _ [786, 46, 813, 814, 815, 816, 817, 818, 819, 820, 821, 822, 823, 824, 825] (by decide +kernel) (by decide +kernel)
set_option maxRecDepth 20000 in
theorem gL_law_X8_trace : GoodIn wsL_law (wsV RL 131 RX8 yX8_trace wsX8_trace) := goodIn_app (goodIn_of _ (by decide +kernel)) ggL_law_X8_trace
set_option maxRecDepth 20000 in
theorem ggL_law_X9_trace : GoodIn wsL_law wsX9_trace := goodIn_r _ [790, 766, 826, 827, 828, 829, 830, 831, 832, 833, 834, 835, 836, 837, 838, 839, 840, 841, 842, 843, 844, 845, 846, 847, 848, 849, 850, 851, 852, 853, 854, 855, 856] (by decide +kernel) (by decide +kernel)
set_option maxRecDepth 20000 in
theorem gL_law_X9_trace : GoodIn wsL_law (wsV RL 134 RX9 yX9_trace wsX9_trace) := goodIn_app (goodIn_of _ (by decide +kernel)) ggL_law_X9_trace
set_option maxRecDepth 20000 in
theorem ggL_law_X8_fault : GoodIn wsL_law wsX8_fault := goodIn_r _ [794, 47, 813, 814, 815, 816, 817, 818, 819, 820, 821, 822, 823, 824, 825] (by decide +kernel) (by decide +kernel)
set_option maxRecDepth 20000 in
theorem gL_law_X8_fault : GoodIn wsL_law (wsV RL 135 RX8 yX8_fault wsX8_fault) := goodIn_app (goodIn_of _ (by decide +kernel)) ggL_law_X8_fault
set_option maxRecDepth 20000 in
theorem ggL_law_X9_fault : GoodIn wsL_law wsX9_fault := goodIn_r _ [798, 225, 826, 827, 828, 829, 830, 831, 832, 833, 834, 835, 836, 837, 838, 839, 840, 841, 842, 843, 844, 845, 846, 847, 848, 849, 850, 851, 852, 853, 854, 855, 856] (by decide +kernel) (by decide +kernel)
set_option maxRecDepth 20000 in
theorem gL_law_X9_fault : GoodIn wsL_law (wsV RL 138 RX9 yX9_fault wsX9_fault) := goodIn_app (goodIn_of _ (by decide +kernel)) ggL_law_X9_fault
set_option maxRecDepth 20000 in
theorem ggL_law_X8_many : GoodIn wsL_law wsX8_many := goodIn_r _ [802, 35, 136, 22, 803, 27, 210, 41, 45, 193, 804, 805, 806, 40, 807, 808, 567, 568, 569, 89, 90, 813, 814, 815, 816, 817, 818, 819, 820, 821, 822, 823, 824, 825, 869, 870, 871, 860, 861, 862, 863, 864, 874, 875, 876, 872, 873] (by decide +kernel) (by decide +kernel)
set_option maxRecDepth 20000 in
theorem gL_law_X8_many : GoodIn wsL_law (wsV RL 139 RX8 yX8_many wsX8_many) := goodIn_app (goodIn_of _ (by decide +kernel)) ggL_law_X8_many
set_option maxRecDepth 20000 in
theorem ggL_law_X9_many : GoodIn wsL_law wsX9_many := goodIn_r _ [812, 228, 230, 269, 231, 826, 827, 828, 829, 830, 831, 832, 833, 834, 835, 836, 837, 838, 839, 840, 841, 842, 843, 844, 845, 846, 847, 848, 849, 850, 851, 852, 853, 854, 855, 856] (by decide +kernel) (by decide +kernel)
set_option maxRecDepth 20000 in
theorem gL_law_X9_many : GoodIn wsL_law (wsV RL 142 RX9 yX9_many wsX9_many) := goodIn_app (goodIn_of _ (by decide +kernel)) ggL_law_X9_many
