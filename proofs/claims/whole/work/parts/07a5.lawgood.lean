set_option maxRecDepth 20000 in
theorem ggL_law_X7_rests : GoodIn wsL_law wsX7_rests := goodIn_r _ [800, 20, 24, 41, 290, 225, 226, 19, 227, 212, 307, 308, 309, 23, 310, 222, 801, 802, 803, 40, 804, 90, 91, 805, 806, 807, 808, 94, 93, 809, 67, 68, 69, 810, 507, 508, 509, 58, 59, 60, 223, 170, 2, 171, 130, 131, 811, 292, 293, 294, 812, 440, 441, 442, 813, 389, 390, 391, 61, 392, 255, 256, 257, 209, 53, 52, 266, 236, 237, 238, 315, 316, 317, 318, 323, 324, 325, 326, 327, 328, 300, 301, 302, 51, 329, 330, 296, 297, 298, 50, 331, 332, 176, 177, 814, 903, 904, 905, 906, 907, 908, 909, 910, 911, 912, 913, 914, 950, 951, 952, 953, 954, 955, 956, 957, 958, 959, 960, 961, 969, 970, 971, 972, 973] (by decide +kernel) (by decide +kernel)
set_option maxRecDepth 20000 in
theorem gL_law_X7_rests : GoodIn wsL_law (wsV RL 113 RX7 yX7_rests wsX7_rests) := goodIn_app (goodIn_of _ (by decide +kernel)) ggL_law_X7_rests
set_option maxRecDepth 20000 in
theorem ggL_law_X8_rests : GoodIn wsL_law wsX8_rests := goodIn_r _ [818, 136, 106, 819, 820, 115, 338, 339, 340, 5, 341, 244, 139, 140, 141, 349, 350, 351, 821, 822, 823, 824, 107, 524, 525, 526, 527, 337, 401, 402, 403, 404, 352, 353, 354, 355, 103, 356, 357, 358, 359, 102, 360, 361, 362, 278, 279, 280, 281, 243, 100, 101, 915, 916, 917, 918, 919, 920, 921, 922, 923, 924, 925, 926, 927, 928, 929, 930, 931, 932, 933, 934, 935, 936, 937, 938, 939, 940, 941, 942, 943, 944, 945, 946, 947] (by decide +kernel) (by decide +kernel)
set_option maxRecDepth 20000 in
theorem gL_law_X8_rests : GoodIn wsL_law (wsV RL 117 RX8 yX8_rests wsX8_rests) := goodIn_app (goodIn_of _ (by decide +kernel)) ggL_law_X8_rests
set_option maxRecDepth 20000 in
theorem ggL_law_X7_stumbles : GoodIn wsL_law wsX7_stumbles := goodIn_r _ [828, 41, 829, 830, 831, 40, 832, 92, 94, 93, 833, 236, 237, 19, 238, 212, 810, 507, 508, 23, 509, 58, 59, 60, 222, 223, 170, 2, 171, 130, 131, 813, 389, 390, 391, 61, 392, 255, 256, 257, 209, 53, 52, 266, 315, 316, 317, 318, 323, 308, 309, 310, 324, 325, 326, 327, 328, 300, 301, 302, 51, 329, 292, 293, 294, 330, 296, 297, 298, 50, 331, 332, 176, 177, 834, 567, 568, 569, 570, 516, 517, 518, 571, 465, 466, 467, 468, 469, 470, 835, 836, 837, 838, 839, 840, 841, 842, 719, 720, 721, 722, 599, 68, 600, 723, 724, 725, 903, 904, 905, 906, 907, 908, 909, 910, 911, 912, 913, 914, 969, 970, 971, 972, 973, 950, 951, 952, 953, 954, 955, 956, 957, 958, 959, 960, 961] (by decide +kernel) (by decide +kernel)
set_option maxRecDepth 20000 in
theorem gL_law_X7_stumbles : GoodIn wsL_law (wsV RL 118 RX7 yX7_stumbles wsX7_stumbles) := goodIn_app (goodIn_of _ (by decide +kernel)) ggL_law_X7_stumbles
set_option maxRecDepth 20000 in
theorem ggL_law_X8_stumbles : GoodIn wsL_law wsX8_stumbles := goodIn_r _ [846, 136, 847, 848, 244, 337, 107, 139, 140, 5, 141, 524, 525, 526, 527, 106, 401, 402, 403, 404, 349, 350, 351, 352, 353, 354, 355, 103, 356, 357, 358, 359, 102, 360, 361, 362, 278, 279, 280, 281, 243, 100, 101, 479, 480, 481, 532, 533, 534, 535, 638, 639, 640, 733, 734, 735, 736, 737, 738, 915, 916, 917, 918, 919, 920, 921, 922, 923, 924, 925, 926, 927, 928, 929, 930, 931, 932, 933, 934, 935, 936, 937, 938, 939, 940, 941, 942, 943, 944, 945, 946, 947] (by decide +kernel) (by decide +kernel)
set_option maxRecDepth 20000 in
theorem gL_law_X8_stumbles : GoodIn wsL_law (wsV RL 122 RX8 yX8_stumbles wsX8_stumbles) := goodIn_app (goodIn_of _ (by decide +kernel)) ggL_law_X8_stumbles
set_option maxRecDepth 20000 in
theorem ggL_law_X7_seed : GoodIn wsL_law wsX7_seed := goodIn_r _ [852, 853, 903, 904, 905, 906, 907, 908, 909, 910, 911, 912, 913, 914] (by decide +kernel) (by decide +kernel)
set_option maxRecDepth 20000 in
theorem gL_law_X7_seed : GoodIn wsL_law (wsV RL 123 RX7 yX7_seed wsX7_seed) := goodIn_app (goodIn_of _ (by decide +kernel)) ggL_law_X7_seed
set_option maxRecDepth 20000 in
theorem ggL_law_X8_seed : GoodIn wsL_law wsX8_seed := goodIn_r _ [857, 136, 858, 915, 916, 917, 918, 919, 920, 921, 922, 923, 924, 925, 926, 927, 928, 929, 930, 931, 932, 933, 934, 935, 936, 937, 938, 939, 940, 941, 942, 943, 944, 945, 946, 947] (by decide +kernel) (by decide +kernel)
set_option maxRecDepth 20000 in
theorem gL_law_X8_seed : GoodIn wsL_law (wsV RL 127 RX8 yX8_seed wsX8_seed) := goodIn_app (goodIn_of _ (by decide +kernel)) ggL_law_X8_seed
set_option maxRecDepth 20000 in
theorem ggL_law_X7_winters : GoodIn wsL_law wsX7_winters := goodIn_r _ [862, 41, 853, 863, 864, 865, 866, 867, 868, 40, 869, 94, 93, 810, 507, 508, 23, 509, 58, 59, 60, 222, 223, 170, 2, 171, 130, 131, 870, 871, 872, 873, 874, 435, 436, 437, 438, 430, 431, 432, 61, 224, 225, 226, 19, 227, 212, 323, 308, 309, 310, 433, 304, 305, 306, 329, 292, 293, 294, 176, 177, 439, 440, 441, 442, 875, 414, 415, 416, 417, 410, 411, 412, 266, 236, 237, 238, 315, 316, 317, 318, 876, 459, 460, 461, 462, 312, 313, 314, 463, 813, 389, 390, 391, 392, 255, 256, 257, 209, 53, 52, 324, 325, 326, 327, 328, 300, 301, 302, 51, 330, 296, 297, 298, 50, 331, 332, 834, 567, 568, 569, 570, 516, 517, 518, 571, 465, 466, 467, 468, 469, 470, 903, 904, 905, 906, 907, 908, 909, 910, 911, 912, 913, 914, 969, 970, 971, 972, 973, 956, 957, 958, 959, 960, 961, 950, 951, 952, 953, 954, 955] (by decide +kernel) (by decide +kernel)
set_option maxRecDepth 20000 in
theorem gL_law_X7_winters : GoodIn wsL_law (wsV RL 128 RX7 yX7_winters wsX7_winters) := goodIn_app (goodIn_of _ (by decide +kernel)) ggL_law_X7_winters
set_option maxRecDepth 20000 in
theorem ggL_law_X8_winters : GoodIn wsL_law wsX8_winters := goodIn_r _ [880, 136, 881, 858, 882, 883, 523, 107, 139, 140, 5, 141, 524, 525, 526, 527, 337, 106, 696, 697, 698, 699, 244, 401, 402, 403, 404, 349, 350, 351, 352, 353, 354, 355, 103, 356, 357, 358, 359, 102, 360, 361, 362, 278, 279, 280, 281, 243, 100, 101, 422, 423, 424, 338, 339, 340, 341, 447, 448, 449, 450, 451, 452, 453, 475, 476, 477, 478, 342, 343, 344, 532, 533, 534, 535, 479, 480, 481, 915, 916, 917, 918, 919, 920, 921, 922, 923, 924, 925, 926, 927, 928, 929, 930, 931, 932, 933, 934, 935, 936, 937, 938, 939, 940, 941, 942, 943, 944, 945, 946, 947] (by decide +kernel) (by decide +kernel)
set_option maxRecDepth 20000 in
theorem gL_law_X8_winters : GoodIn wsL_law (wsV RL 131 RX8 yX8_winters wsX8_winters) := goodIn_app (goodIn_of _ (by decide +kernel)) ggL_law_X8_winters
set_option maxRecDepth 20000 in
theorem ggL_law_X7_keep : GoodIn wsL_law wsX7_keep := goodIn_r _ [887, 29, 24, 204, 888, 889, 2, 890, 380, 381, 382, 27, 383, 73, 384, 385, 386, 23, 387, 58, 59, 60, 222, 223, 170, 171, 130, 131, 250, 251, 252, 253, 903, 904, 905, 906, 907, 908, 909, 910, 911, 912, 913, 914, 962, 956, 957, 958, 959, 960, 961] (by decide +kernel) (by decide +kernel)
set_option maxRecDepth 20000 in
theorem gL_law_X7_keep : GoodIn wsL_law (wsV RL 132 RX7 yX7_keep wsX7_keep) := goodIn_app (goodIn_of _ (by decide +kernel)) ggL_law_X7_keep
set_option maxRecDepth 20000 in
theorem ggL_law_X8_keep : GoodIn wsL_law wsX8_keep := goodIn_r _ [894, 136, 111, 109, 106, 139, 140, 5, 141, 915, 916, 917, 918, 919, 920, 921, 922, 923, 924, 925, 926, 927, 928, 929, 930, 931, 932, 933, 934, 935, 936, 937, 938, 939, 940, 941, 942, 943, 944, 945, 946, 947] (by decide +kernel) (by decide +kernel)
set_option maxRecDepth 20000 in
theorem gL_law_X8_keep : GoodIn wsL_law (wsV RL 135 RX8 yX8_keep wsX8_keep) := goodIn_app (goodIn_of _ (by decide +kernel)) ggL_law_X8_keep
set_option maxRecDepth 20000 in
theorem ggL_law_X7_again : GoodIn wsL_law wsX7_again := goodIn_r _ [898, 204, 29, 24, 888, 889, 2, 890, 486, 487, 488, 27, 489, 73, 490, 491, 492, 23, 493, 58, 59, 60, 222, 223, 170, 171, 130, 131, 229, 230, 231, 232, 233, 234, 250, 251, 252, 253, 903, 904, 905, 906, 907, 908, 909, 910, 911, 912, 913, 914, 962, 956, 957, 958, 959, 960, 961] (by decide +kernel) (by decide +kernel)
set_option maxRecDepth 20000 in
theorem gL_law_X7_again : GoodIn wsL_law (wsV RL 136 RX7 yX7_again wsX7_again) := goodIn_app (goodIn_of _ (by decide +kernel)) ggL_law_X7_again
set_option maxRecDepth 20000 in
theorem ggL_law_X8_again : GoodIn wsL_law wsX8_again := goodIn_r _ [902, 136, 111, 106, 109, 245, 139, 140, 5, 141, 915, 916, 917, 918, 919, 920, 921, 922, 923, 924, 925, 926, 927, 928, 929, 930, 931, 932, 933, 934, 935, 936, 937, 938, 939, 940, 941, 942, 943, 944, 945, 946, 947] (by decide +kernel) (by decide +kernel)
set_option maxRecDepth 20000 in
theorem gL_law_X8_again : GoodIn wsL_law (wsV RL 139 RX8 yX8_again wsX8_again) := goodIn_app (goodIn_of _ (by decide +kernel)) ggL_law_X8_again
