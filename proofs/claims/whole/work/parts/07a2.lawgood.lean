set_option maxRecDepth 20000 in
theorem ggL_law_X7_walker : GoodIn wsL_law wsX7_walker := goodIn_r _ [289, 20, 24, 290, 225, 226, 19, 227, 212, 291, 292, 293, 23, 294, 59, 170, 2, 171, 295, 296, 297, 298, 50, 299, 300, 301, 302, 51, 303, 304, 305, 306, 60, 307, 308, 309, 310, 222, 311, 312, 313, 314, 61, 266, 236, 237, 238, 315, 316, 317, 318, 58, 319, 320, 321, 322, 323, 324, 325, 326, 327, 223, 328, 329, 330, 331, 332, 903, 904, 905, 906, 907, 908, 909, 910, 911, 912, 913, 914, 950, 951, 952, 953, 954, 955, 956, 957, 958, 959, 960, 961] (by decide +kernel) (by decide +kernel)
set_option maxRecDepth 20000 in
theorem gL_law_X7_walker : GoodIn wsL_law (wsV RL 35 RX7 yX7_walker wsX7_walker) := goodIn_app (goodIn_of _ (by decide +kernel)) ggL_law_X7_walker
set_option maxRecDepth 20000 in
theorem ggL_law_X8_walker : GoodIn wsL_law wsX8_walker := goodIn_r _ [336, 136, 337, 106, 102, 103, 338, 339, 340, 5, 341, 244, 139, 140, 141, 342, 343, 344, 345, 346, 347, 348, 349, 350, 351, 352, 353, 354, 355, 356, 357, 358, 359, 360, 361, 362, 915, 916, 917, 918, 919, 920, 921, 922, 923, 924, 925, 926, 927, 928, 929, 930, 931, 932, 933, 934, 935, 936, 937, 938, 939, 940, 941, 942, 943, 944, 945, 946, 947] (by decide +kernel) (by decide +kernel)
set_option maxRecDepth 20000 in
theorem gL_law_X8_walker : GoodIn wsL_law (wsV RL 39 RX8 yX8_walker wsX8_walker) := goodIn_app (goodIn_of _ (by decide +kernel)) ggL_law_X8_walker
set_option maxRecDepth 20000 in
theorem ggL_law_X7_line : GoodIn wsL_law wsX7_line := goodIn_r _ [366, 20, 24, 290, 225, 226, 19, 227, 212, 367, 316, 317, 23, 318, 58, 170, 2, 171, 903, 904, 905, 906, 907, 908, 909, 910, 911, 912, 913, 914, 950, 951, 952, 953, 954, 955, 956, 957, 958, 959, 960, 961] (by decide +kernel) (by decide +kernel)
set_option maxRecDepth 20000 in
theorem gL_law_X7_line : GoodIn wsL_law (wsV RL 40 RX7 yX7_line wsX7_line) := goodIn_app (goodIn_of _ (by decide +kernel)) ggL_law_X7_line
set_option maxRecDepth 20000 in
theorem ggL_law_X8_line : GoodIn wsL_law wsX8_line := goodIn_r _ [371, 136, 244, 106, 139, 140, 5, 141, 915, 916, 917, 918, 919, 920, 921, 922, 923, 924, 925, 926, 927, 928, 929, 930, 931, 932, 933, 934, 935, 936, 937, 938, 939, 940, 941, 942, 943, 944, 945, 946, 947] (by decide +kernel) (by decide +kernel)
set_option maxRecDepth 20000 in
theorem gL_law_X8_line : GoodIn wsL_law (wsV RL 43 RX8 yX8_line wsX8_line) := goodIn_app (goodIn_of _ (by decide +kernel)) ggL_law_X8_line
set_option maxRecDepth 20000 in
theorem ggL_law_X7_step : GoodIn wsL_law wsX7_step := goodIn_r _ [375, 24, 376, 377, 378, 2, 379, 28, 233, 234, 380, 381, 382, 27, 383, 73, 384, 385, 386, 23, 387, 58, 59, 60, 222, 223, 170, 171, 130, 131, 388, 389, 390, 391, 61, 392, 255, 256, 19, 257, 209, 53, 52, 266, 236, 237, 238, 212, 315, 316, 317, 318, 323, 308, 309, 310, 324, 325, 326, 327, 328, 300, 301, 302, 51, 329, 292, 293, 294, 330, 296, 297, 298, 50, 331, 332, 176, 177, 903, 904, 905, 906, 907, 908, 909, 910, 911, 912, 913, 914, 962, 956, 957, 958, 959, 960, 961, 950, 951, 952, 953, 954, 955] (by decide +kernel) (by decide +kernel)
set_option maxRecDepth 20000 in
theorem gL_law_X7_step : GoodIn wsL_law (wsV RL 44 RX7 yX7_step wsX7_step) := goodIn_app (goodIn_of _ (by decide +kernel)) ggL_law_X7_step
set_option maxRecDepth 20000 in
theorem ggL_law_X8_step : GoodIn wsL_law wsX8_step := goodIn_r _ [396, 136, 337, 106, 397, 398, 399, 5, 400, 245, 108, 401, 402, 403, 404, 244, 349, 350, 351, 352, 353, 354, 355, 103, 356, 357, 358, 359, 102, 360, 361, 362, 278, 279, 280, 281, 243, 100, 101, 915, 916, 917, 918, 919, 920, 921, 922, 923, 924, 925, 926, 927, 928, 929, 930, 931, 932, 933, 934, 935, 936, 937, 938, 939, 940, 941, 942, 943, 944, 945, 946, 947] (by decide +kernel) (by decide +kernel)
set_option maxRecDepth 20000 in
theorem gL_law_X8_step : GoodIn wsL_law (wsV RL 47 RX8 yX8_step wsX8_step) := goodIn_app (goodIn_of _ (by decide +kernel)) ggL_law_X8_step
set_option maxRecDepth 20000 in
theorem ggL_law_X7_change : GoodIn wsL_law wsX7_change := goodIn_r _ [408, 24, 409, 410, 411, 23, 412, 61, 266, 236, 237, 19, 238, 212, 376, 377, 378, 2, 379, 28, 233, 234, 380, 381, 382, 27, 383, 73, 384, 385, 386, 387, 58, 59, 60, 222, 223, 170, 171, 130, 131, 413, 414, 415, 416, 417, 315, 316, 317, 318, 367, 903, 904, 905, 906, 907, 908, 909, 910, 911, 912, 913, 914, 956, 957, 958, 959, 960, 961, 950, 951, 952, 953, 954, 955, 962] (by decide +kernel) (by decide +kernel)
set_option maxRecDepth 20000 in
theorem gL_law_X7_change : GoodIn wsL_law (wsV RL 48 RX7 yX7_change wsX7_change) := goodIn_app (goodIn_of _ (by decide +kernel)) ggL_law_X7_change
set_option maxRecDepth 20000 in
theorem ggL_law_X8_change : GoodIn wsL_law wsX8_change := goodIn_r _ [421, 136, 244, 106, 139, 140, 5, 141, 397, 398, 399, 400, 245, 108, 422, 423, 424, 915, 916, 917, 918, 919, 920, 921, 922, 923, 924, 925, 926, 927, 928, 929, 930, 931, 932, 933, 934, 935, 936, 937, 938, 939, 940, 941, 942, 943, 944, 945, 946, 947] (by decide +kernel) (by decide +kernel)
set_option maxRecDepth 20000 in
theorem gL_law_X8_change : GoodIn wsL_law (wsV RL 51 RX8 yX8_change wsX8_change) := goodIn_app (goodIn_of _ (by decide +kernel)) ggL_law_X8_change
set_option maxRecDepth 20000 in
theorem ggL_law_X7_drill : GoodIn wsL_law wsX7_drill := goodIn_r _ [428, 20, 24, 290, 225, 226, 19, 227, 212, 429, 430, 431, 23, 432, 61, 224, 323, 308, 309, 310, 222, 433, 304, 305, 306, 60, 170, 2, 171, 329, 292, 293, 294, 59, 176, 177, 376, 377, 378, 379, 28, 233, 234, 380, 381, 382, 27, 383, 73, 384, 385, 386, 387, 58, 223, 130, 131, 434, 435, 436, 437, 438, 439, 440, 441, 442, 291, 903, 904, 905, 906, 907, 908, 909, 910, 911, 912, 913, 914, 950, 951, 952, 953, 954, 955, 956, 957, 958, 959, 960, 961, 962] (by decide +kernel) (by decide +kernel)
set_option maxRecDepth 20000 in
theorem gL_law_X7_drill : GoodIn wsL_law (wsV RL 52 RX7 yX7_drill wsX7_drill) := goodIn_app (goodIn_of _ (by decide +kernel)) ggL_law_X7_drill
set_option maxRecDepth 20000 in
theorem ggL_law_X8_drill : GoodIn wsL_law wsX8_drill := goodIn_r _ [446, 136, 106, 338, 339, 340, 5, 341, 244, 139, 140, 141, 447, 448, 449, 450, 349, 350, 351, 397, 398, 399, 400, 245, 108, 451, 452, 453, 915, 916, 917, 918, 919, 920, 921, 922, 923, 924, 925, 926, 927, 928, 929, 930, 931, 932, 933, 934, 935, 936, 937, 938, 939, 940, 941, 942, 943, 944, 945, 946, 947] (by decide +kernel) (by decide +kernel)
set_option maxRecDepth 20000 in
theorem gL_law_X8_drill : GoodIn wsL_law (wsV RL 56 RX8 yX8_drill wsX8_drill) := goodIn_app (goodIn_of _ (by decide +kernel)) ggL_law_X8_drill
set_option maxRecDepth 20000 in
theorem ggL_law_X7_rescue : GoodIn wsL_law wsX7_rescue := goodIn_r _ [457, 20, 24, 290, 225, 226, 19, 227, 212, 307, 308, 309, 23, 310, 222, 376, 377, 378, 2, 379, 28, 233, 234, 380, 381, 382, 27, 383, 73, 384, 385, 386, 387, 58, 59, 60, 223, 170, 171, 130, 131, 458, 459, 460, 461, 61, 224, 323, 462, 312, 313, 314, 266, 236, 237, 238, 315, 316, 317, 318, 463, 414, 415, 416, 417, 410, 411, 412, 258, 259, 260, 261, 464, 465, 466, 467, 468, 469, 470, 903, 904, 905, 906, 907, 908, 909, 910, 911, 912, 913, 914, 950, 951, 952, 953, 954, 955, 956, 957, 958, 959, 960, 961, 962] (by decide +kernel) (by decide +kernel)
set_option maxRecDepth 20000 in
theorem gL_law_X7_rescue : GoodIn wsL_law (wsV RL 57 RX7 yX7_rescue wsX7_rescue) := goodIn_app (goodIn_of _ (by decide +kernel)) ggL_law_X7_rescue
set_option maxRecDepth 20000 in
theorem ggL_law_X8_rescue : GoodIn wsL_law wsX8_rescue := goodIn_r _ [474, 136, 106, 338, 339, 340, 5, 341, 244, 139, 140, 141, 349, 350, 351, 397, 398, 399, 400, 245, 108, 475, 476, 477, 478, 342, 343, 344, 422, 423, 424, 479, 480, 481, 915, 916, 917, 918, 919, 920, 921, 922, 923, 924, 925, 926, 927, 928, 929, 930, 931, 932, 933, 934, 935, 936, 937, 938, 939, 940, 941, 942, 943, 944, 945, 946, 947] (by decide +kernel) (by decide +kernel)
set_option maxRecDepth 20000 in
theorem gL_law_X8_rescue : GoodIn wsL_law (wsV RL 60 RX8 yX8_rescue wsX8_rescue) := goodIn_app (goodIn_of _ (by decide +kernel)) ggL_law_X8_rescue
