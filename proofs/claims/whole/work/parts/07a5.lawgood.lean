set_option maxRecDepth 20000 in
theorem ggL_law_X7_rests : GoodIn wsL_law wsX7_rests := goodIn_r _ [807, 20, 24, 41, 289, 224, 225, 19, 226, 211, 306, 307, 308, 23, 309, 221, 808, 809, 810, 40, 811, 87, 88, 812, 813, 814, 815, 91, 90, 816, 208, 68, 209, 817, 513, 514, 515, 58, 59, 60, 222, 167, 2, 168, 127, 128, 818, 291, 292, 293, 819, 446, 447, 448, 820, 395, 396, 397, 61, 398, 254, 255, 256, 206, 53, 52, 265, 235, 236, 237, 314, 315, 316, 317, 322, 323, 324, 325, 326, 327, 299, 300, 301, 51, 328, 329, 330, 331, 332, 333, 295, 296, 297, 50, 334, 335, 336, 337, 338, 173, 174, 821, 910, 911, 912, 913, 914, 915, 916, 917, 918, 919, 920, 921, 957, 958, 959, 960, 961, 962, 963, 964, 965, 966, 967, 968, 976, 977, 978, 979, 980] (by decide +kernel) (by decide +kernel)
set_option maxRecDepth 20000 in
theorem gL_law_X7_rests : GoodIn wsL_law (wsV RL 113 RX7 yX7_rests wsX7_rests) := goodIn_app (goodIn_of _ (by decide +kernel)) ggL_law_X7_rests
set_option maxRecDepth 20000 in
theorem ggL_law_X8_rests : GoodIn wsL_law wsX8_rests := goodIn_r _ [825, 133, 103, 826, 827, 112, 344, 345, 346, 5, 347, 243, 136, 137, 138, 355, 356, 357, 828, 829, 830, 831, 104, 530, 531, 532, 533, 343, 407, 408, 409, 410, 358, 359, 360, 361, 100, 362, 363, 364, 365, 99, 366, 367, 368, 277, 278, 279, 280, 242, 97, 98, 922, 923, 924, 925, 926, 927, 928, 929, 930, 931, 932, 933, 934, 935, 936, 937, 938, 939, 940, 941, 942, 943, 944, 945, 946, 947, 948, 949, 950, 951, 952, 953, 954] (by decide +kernel) (by decide +kernel)
set_option maxRecDepth 20000 in
theorem gL_law_X8_rests : GoodIn wsL_law (wsV RL 117 RX8 yX8_rests wsX8_rests) := goodIn_app (goodIn_of _ (by decide +kernel)) ggL_law_X8_rests
set_option maxRecDepth 20000 in
theorem ggL_law_X7_stumbles : GoodIn wsL_law wsX7_stumbles := goodIn_r _ [835, 41, 836, 837, 838, 40, 839, 89, 91, 90, 840, 235, 236, 19, 237, 211, 817, 513, 514, 23, 515, 58, 59, 60, 221, 222, 167, 2, 168, 127, 128, 820, 395, 396, 397, 61, 398, 254, 255, 256, 206, 53, 52, 265, 314, 315, 316, 317, 322, 307, 308, 309, 323, 324, 325, 326, 327, 299, 300, 301, 51, 328, 329, 330, 331, 332, 291, 292, 293, 333, 295, 296, 297, 50, 334, 335, 336, 337, 338, 173, 174, 841, 573, 574, 575, 576, 522, 523, 524, 577, 471, 472, 473, 474, 475, 476, 842, 843, 844, 845, 846, 847, 848, 849, 726, 727, 728, 729, 605, 68, 606, 730, 731, 732, 910, 911, 912, 913, 914, 915, 916, 917, 918, 919, 920, 921, 976, 977, 978, 979, 980, 957, 958, 959, 960, 961, 962, 963, 964, 965, 966, 967, 968] (by decide +kernel) (by decide +kernel)
set_option maxRecDepth 20000 in
theorem gL_law_X7_stumbles : GoodIn wsL_law (wsV RL 118 RX7 yX7_stumbles wsX7_stumbles) := goodIn_app (goodIn_of _ (by decide +kernel)) ggL_law_X7_stumbles
set_option maxRecDepth 20000 in
theorem ggL_law_X8_stumbles : GoodIn wsL_law wsX8_stumbles := goodIn_r _ [853, 133, 854, 855, 243, 343, 104, 136, 137, 5, 138, 530, 531, 532, 533, 103, 407, 408, 409, 410, 355, 356, 357, 358, 359, 360, 361, 100, 362, 363, 364, 365, 99, 366, 367, 368, 277, 278, 279, 280, 242, 97, 98, 485, 486, 487, 538, 539, 540, 541, 641, 642, 643, 740, 741, 742, 743, 744, 745, 922, 923, 924, 925, 926, 927, 928, 929, 930, 931, 932, 933, 934, 935, 936, 937, 938, 939, 940, 941, 942, 943, 944, 945, 946, 947, 948, 949, 950, 951, 952, 953, 954] (by decide +kernel) (by decide +kernel)
set_option maxRecDepth 20000 in
theorem gL_law_X8_stumbles : GoodIn wsL_law (wsV RL 122 RX8 yX8_stumbles wsX8_stumbles) := goodIn_app (goodIn_of _ (by decide +kernel)) ggL_law_X8_stumbles
set_option maxRecDepth 20000 in
theorem ggL_law_X7_seed : GoodIn wsL_law wsX7_seed := goodIn_r _ [859, 860, 910, 911, 912, 913, 914, 915, 916, 917, 918, 919, 920, 921] (by decide +kernel) (by decide +kernel)
set_option maxRecDepth 20000 in
theorem gL_law_X7_seed : GoodIn wsL_law (wsV RL 123 RX7 yX7_seed wsX7_seed) := goodIn_app (goodIn_of _ (by decide +kernel)) ggL_law_X7_seed
set_option maxRecDepth 20000 in
theorem ggL_law_X8_seed : GoodIn wsL_law wsX8_seed := goodIn_r _ [864, 133, 865, 922, 923, 924, 925, 926, 927, 928, 929, 930, 931, 932, 933, 934, 935, 936, 937, 938, 939, 940, 941, 942, 943, 944, 945, 946, 947, 948, 949, 950, 951, 952, 953, 954] (by decide +kernel) (by decide +kernel)
set_option maxRecDepth 20000 in
theorem gL_law_X8_seed : GoodIn wsL_law (wsV RL 127 RX8 yX8_seed wsX8_seed) := goodIn_app (goodIn_of _ (by decide +kernel)) ggL_law_X8_seed
set_option maxRecDepth 20000 in
theorem ggL_law_X7_winters : GoodIn wsL_law wsX7_winters := goodIn_r _ [869, 41, 860, 870, 871, 872, 873, 874, 875, 40, 876, 91, 90, 817, 513, 514, 23, 515, 58, 59, 60, 221, 222, 167, 2, 168, 127, 128, 877, 878, 879, 880, 881, 441, 442, 443, 444, 436, 437, 438, 61, 223, 224, 225, 19, 226, 211, 322, 307, 308, 309, 439, 303, 304, 305, 332, 291, 292, 293, 173, 174, 445, 446, 447, 448, 882, 420, 421, 422, 423, 416, 417, 418, 265, 235, 236, 237, 314, 315, 316, 317, 883, 465, 466, 467, 468, 311, 312, 313, 469, 820, 395, 396, 397, 398, 254, 255, 256, 206, 53, 52, 323, 324, 325, 326, 327, 299, 300, 301, 51, 328, 329, 330, 331, 333, 295, 296, 297, 50, 334, 335, 336, 337, 338, 841, 573, 574, 575, 576, 522, 523, 524, 577, 471, 472, 473, 474, 475, 476, 910, 911, 912, 913, 914, 915, 916, 917, 918, 919, 920, 921, 976, 977, 978, 979, 980, 963, 964, 965, 966, 967, 968, 957, 958, 959, 960, 961, 962] (by decide +kernel) (by decide +kernel)
set_option maxRecDepth 20000 in
theorem gL_law_X7_winters : GoodIn wsL_law (wsV RL 128 RX7 yX7_winters wsX7_winters) := goodIn_app (goodIn_of _ (by decide +kernel)) ggL_law_X7_winters
set_option maxRecDepth 20000 in
theorem ggL_law_X8_winters : GoodIn wsL_law wsX8_winters := goodIn_r _ [887, 133, 888, 865, 889, 890, 529, 104, 136, 137, 5, 138, 530, 531, 532, 533, 343, 103, 703, 704, 705, 706, 243, 407, 408, 409, 410, 355, 356, 357, 358, 359, 360, 361, 100, 362, 363, 364, 365, 99, 366, 367, 368, 277, 278, 279, 280, 242, 97, 98, 428, 429, 430, 344, 345, 346, 347, 453, 454, 455, 456, 457, 458, 459, 481, 482, 483, 484, 348, 349, 350, 538, 539, 540, 541, 485, 486, 487, 922, 923, 924, 925, 926, 927, 928, 929, 930, 931, 932, 933, 934, 935, 936, 937, 938, 939, 940, 941, 942, 943, 944, 945, 946, 947, 948, 949, 950, 951, 952, 953, 954] (by decide +kernel) (by decide +kernel)
set_option maxRecDepth 20000 in
theorem gL_law_X8_winters : GoodIn wsL_law (wsV RL 131 RX8 yX8_winters wsX8_winters) := goodIn_app (goodIn_of _ (by decide +kernel)) ggL_law_X8_winters
set_option maxRecDepth 20000 in
theorem ggL_law_X7_keep : GoodIn wsL_law wsX7_keep := goodIn_r _ [894, 29, 24, 201, 895, 896, 2, 897, 386, 387, 388, 27, 389, 70, 390, 391, 392, 23, 393, 58, 59, 60, 221, 222, 167, 168, 127, 128, 249, 250, 251, 252, 910, 911, 912, 913, 914, 915, 916, 917, 918, 919, 920, 921, 969, 963, 964, 965, 966, 967, 968] (by decide +kernel) (by decide +kernel)
set_option maxRecDepth 20000 in
theorem gL_law_X7_keep : GoodIn wsL_law (wsV RL 132 RX7 yX7_keep wsX7_keep) := goodIn_app (goodIn_of _ (by decide +kernel)) ggL_law_X7_keep
set_option maxRecDepth 20000 in
theorem ggL_law_X8_keep : GoodIn wsL_law wsX8_keep := goodIn_r _ [901, 133, 108, 106, 103, 136, 137, 5, 138, 922, 923, 924, 925, 926, 927, 928, 929, 930, 931, 932, 933, 934, 935, 936, 937, 938, 939, 940, 941, 942, 943, 944, 945, 946, 947, 948, 949, 950, 951, 952, 953, 954] (by decide +kernel) (by decide +kernel)
set_option maxRecDepth 20000 in
theorem gL_law_X8_keep : GoodIn wsL_law (wsV RL 135 RX8 yX8_keep wsX8_keep) := goodIn_app (goodIn_of _ (by decide +kernel)) ggL_law_X8_keep
set_option maxRecDepth 20000 in
theorem ggL_law_X7_again : GoodIn wsL_law wsX7_again := goodIn_r _ [905, 201, 29, 24, 895, 896, 2, 897, 492, 493, 494, 27, 495, 70, 496, 497, 498, 23, 499, 58, 59, 60, 221, 222, 167, 168, 127, 128, 228, 229, 230, 231, 232, 233, 249, 250, 251, 252, 910, 911, 912, 913, 914, 915, 916, 917, 918, 919, 920, 921, 969, 963, 964, 965, 966, 967, 968] (by decide +kernel) (by decide +kernel)
set_option maxRecDepth 20000 in
theorem gL_law_X7_again : GoodIn wsL_law (wsV RL 136 RX7 yX7_again wsX7_again) := goodIn_app (goodIn_of _ (by decide +kernel)) ggL_law_X7_again
set_option maxRecDepth 20000 in
theorem ggL_law_X8_again : GoodIn wsL_law wsX8_again := goodIn_r _ [909, 133, 108, 103, 106, 244, 136, 137, 5, 138, 922, 923, 924, 925, 926, 927, 928, 929, 930, 931, 932, 933, 934, 935, 936, 937, 938, 939, 940, 941, 942, 943, 944, 945, 946, 947, 948, 949, 950, 951, 952, 953, 954] (by decide +kernel) (by decide +kernel)
set_option maxRecDepth 20000 in
theorem gL_law_X8_again : GoodIn wsL_law (wsV RL 139 RX8 yX8_again wsX8_again) := goodIn_app (goodIn_of _ (by decide +kernel)) ggL_law_X8_again
