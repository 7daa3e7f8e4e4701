set_option maxRecDepth 20000 in
theorem ggL_law_X7_walker : GoodIn wsL_law wsX7_walker := goodIn_r _ [288, 20, 24, 289, 224, 225, 19, 226, 211, 290, 291, 292, 23, 293, 59, 167, 2, 168, 294, 295, 296, 297, 50, 298, 299, 300, 301, 51, 302, 303, 304, 305, 60, 306, 307, 308, 309, 221, 310, 311, 312, 313, 61, 265, 235, 236, 237, 314, 315, 316, 317, 58, 318, 319, 320, 321, 322, 323, 324, 325, 326, 222, 327, 328, 329, 330, 331, 332, 333, 334, 335, 336, 337, 338, 910, 911, 912, 913, 914, 915, 916, 917, 918, 919, 920, 921, 957, 958, 959, 960, 961, 962, 963, 964, 965, 966, 967, 968] (by decide +kernel) (by decide +kernel)
set_option maxRecDepth 20000 in
theorem gL_law_X7_walker : GoodIn wsL_law (wsV RL 35 RX7 yX7_walker wsX7_walker) := goodIn_app (goodIn_of _ (by decide +kernel)) ggL_law_X7_walker
set_option maxRecDepth 20000 in
theorem ggL_law_X8_walker : GoodIn wsL_law wsX8_walker := goodIn_r _ [342, 133, 343, 103, 99, 100, 344, 345, 346, 5, 347, 243, 136, 137, 138, 348, 349, 350, 351, 352, 353, 354, 355, 356, 357, 358, 359, 360, 361, 362, 363, 364, 365, 366, 367, 368, 922, 923, 924, 925, 926, 927, 928, 929, 930, 931, 932, 933, 934, 935, 936, 937, 938, 939, 940, 941, 942, 943, 944, 945, 946, 947, 948, 949, 950, 951, 952, 953, 954] (by decide +kernel) (by decide +kernel)
set_option maxRecDepth 20000 in
theorem gL_law_X8_walker : GoodIn wsL_law (wsV RL 39 RX8 yX8_walker wsX8_walker) := goodIn_app (goodIn_of _ (by decide +kernel)) ggL_law_X8_walker
set_option maxRecDepth 20000 in
theorem ggL_law_X7_line : GoodIn wsL_law wsX7_line := goodIn_r _ [372, 20, 24, 289, 224, 225, 19, 226, 211, 373, 315, 316, 23, 317, 58, 167, 2, 168, 910, 911, 912, 913, 914, 915, 916, 917, 918, 919, 920, 921, 957, 958, 959, 960, 961, 962, 963, 964, 965, 966, 967, 968] (by decide +kernel) (by decide +kernel)
set_option maxRecDepth 20000 in
theorem gL_law_X7_line : GoodIn wsL_law (wsV RL 40 RX7 yX7_line wsX7_line) := goodIn_app (goodIn_of _ (by decide +kernel)) ggL_law_X7_line
set_option maxRecDepth 20000 in
theorem ggL_law_X8_line : GoodIn wsL_law wsX8_line := goodIn_r _ [377, 133, 243, 103, 136, 137, 5, 138, 922, 923, 924, 925, 926, 927, 928, 929, 930, 931, 932, 933, 934, 935, 936, 937, 938, 939, 940, 941, 942, 943, 944, 945, 946, 947, 948, 949, 950, 951, 952, 953, 954] (by decide +kernel) (by decide +kernel)
set_option maxRecDepth 20000 in
theorem gL_law_X8_line : GoodIn wsL_law (wsV RL 43 RX8 yX8_line wsX8_line) := goodIn_app (goodIn_of _ (by decide +kernel)) ggL_law_X8_line
set_option maxRecDepth 20000 in
theorem ggL_law_X7_step : GoodIn wsL_law wsX7_step := goodIn_r _ [381, 24, 382, 383, 384, 2, 385, 28, 232, 233, 386, 387, 388, 27, 389, 70, 390, 391, 392, 23, 393, 58, 59, 60, 221, 222, 167, 168, 127, 128, 394, 395, 396, 397, 61, 398, 254, 255, 19, 256, 206, 53, 52, 265, 235, 236, 237, 211, 314, 315, 316, 317, 322, 307, 308, 309, 323, 324, 325, 326, 327, 299, 300, 301, 51, 328, 329, 330, 331, 332, 291, 292, 293, 333, 295, 296, 297, 50, 334, 335, 336, 337, 338, 173, 174, 910, 911, 912, 913, 914, 915, 916, 917, 918, 919, 920, 921, 969, 963, 964, 965, 966, 967, 968, 957, 958, 959, 960, 961, 962] (by decide +kernel) (by decide +kernel)
set_option maxRecDepth 20000 in
theorem gL_law_X7_step : GoodIn wsL_law (wsV RL 44 RX7 yX7_step wsX7_step) := goodIn_app (goodIn_of _ (by decide +kernel)) ggL_law_X7_step
set_option maxRecDepth 20000 in
theorem ggL_law_X8_step : GoodIn wsL_law wsX8_step := goodIn_r _ [402, 133, 343, 103, 403, 404, 405, 5, 406, 244, 105, 407, 408, 409, 410, 243, 355, 356, 357, 358, 359, 360, 361, 100, 362, 363, 364, 365, 99, 366, 367, 368, 277, 278, 279, 280, 242, 97, 98, 922, 923, 924, 925, 926, 927, 928, 929, 930, 931, 932, 933, 934, 935, 936, 937, 938, 939, 940, 941, 942, 943, 944, 945, 946, 947, 948, 949, 950, 951, 952, 953, 954] (by decide +kernel) (by decide +kernel)
set_option maxRecDepth 20000 in
theorem gL_law_X8_step : GoodIn wsL_law (wsV RL 47 RX8 yX8_step wsX8_step) := goodIn_app (goodIn_of _ (by decide +kernel)) ggL_law_X8_step
set_option maxRecDepth 20000 in
theorem ggL_law_X7_change : GoodIn wsL_law wsX7_change := goodIn_r _ [414, 24, 415, 416, 417, 23, 418, 61, 265, 235, 236, 19, 237, 211, 382, 383, 384, 2, 385, 28, 232, 233, 386, 387, 388, 27, 389, 70, 390, 391, 392, 393, 58, 59, 60, 221, 222, 167, 168, 127, 128, 419, 420, 421, 422, 423, 314, 315, 316, 317, 373, 910, 911, 912, 913, 914, 915, 916, 917, 918, 919, 920, 921, 963, 964, 965, 966, 967, 968, 957, 958, 959, 960, 961, 962, 969] (by decide +kernel) (by decide +kernel)
set_option maxRecDepth 20000 in
theorem gL_law_X7_change : GoodIn wsL_law (wsV RL 48 RX7 yX7_change wsX7_change) := goodIn_app (goodIn_of _ (by decide +kernel)) ggL_law_X7_change
set_option maxRecDepth 20000 in
theorem ggL_law_X8_change : GoodIn wsL_law wsX8_change := goodIn_r _ [427, 133, 243, 103, 136, 137, 5, 138, 403, 404, 405, 406, 244, 105, 428, 429, 430, 922, 923, 924, 925, 926, 927, 928, 929, 930, 931, 932, 933, 934, 935, 936, 937, 938, 939, 940, 941, 942, 943, 944, 945, 946, 947, 948, 949, 950, 951, 952, 953, 954] (by decide +kernel) (by decide +kernel)
set_option maxRecDepth 20000 in
theorem gL_law_X8_change : GoodIn wsL_law (wsV RL 51 RX8 yX8_change wsX8_change) := goodIn_app (goodIn_of _ (by decide +kernel)) ggL_law_X8_change
set_option maxRecDepth 20000 in
theorem ggL_law_X7_drill : GoodIn wsL_law wsX7_drill := goodIn_r _ [434, 20, 24, 289, 224, 225, 19, 226, 211, 435, 436, 437, 23, 438, 61, 223, 322, 307, 308, 309, 221, 439, 303, 304, 305, 60, 167, 2, 168, 332, 291, 292, 293, 59, 173, 174, 382, 383, 384, 385, 28, 232, 233, 386, 387, 388, 27, 389, 70, 390, 391, 392, 393, 58, 222, 127, 128, 440, 441, 442, 443, 444, 445, 446, 447, 448, 290, 910, 911, 912, 913, 914, 915, 916, 917, 918, 919, 920, 921, 957, 958, 959, 960, 961, 962, 963, 964, 965, 966, 967, 968, 969] (by decide +kernel) (by decide +kernel)
set_option maxRecDepth 20000 in
theorem gL_law_X7_drill : GoodIn wsL_law (wsV RL 52 RX7 yX7_drill wsX7_drill) := goodIn_app (goodIn_of _ (by decide +kernel)) ggL_law_X7_drill
set_option maxRecDepth 20000 in
theorem ggL_law_X8_drill : GoodIn wsL_law wsX8_drill := goodIn_r _ [452, 133, 103, 344, 345, 346, 5, 347, 243, 136, 137, 138, 453, 454, 455, 456, 355, 356, 357, 403, 404, 405, 406, 244, 105, 457, 458, 459, 922, 923, 924, 925, 926, 927, 928, 929, 930, 931, 932, 933, 934, 935, 936, 937, 938, 939, 940, 941, 942, 943, 944, 945, 946, 947, 948, 949, 950, 951, 952, 953, 954] (by decide +kernel) (by decide +kernel)
set_option maxRecDepth 20000 in
theorem gL_law_X8_drill : GoodIn wsL_law (wsV RL 56 RX8 yX8_drill wsX8_drill) := goodIn_app (goodIn_of _ (by decide +kernel)) ggL_law_X8_drill
set_option maxRecDepth 20000 in
theorem ggL_law_X7_rescue : GoodIn wsL_law wsX7_rescue := goodIn_r _ [463, 20, 24, 289, 224, 225, 19, 226, 211, 306, 307, 308, 23, 309, 221, 382, 383, 384, 2, 385, 28, 232, 233, 386, 387, 388, 27, 389, 70, 390, 391, 392, 393, 58, 59, 60, 222, 167, 168, 127, 128, 464, 465, 466, 467, 61, 223, 322, 468, 311, 312, 313, 265, 235, 236, 237, 314, 315, 316, 317, 469, 420, 421, 422, 423, 416, 417, 418, 257, 258, 259, 260, 470, 471, 472, 473, 474, 475, 476, 910, 911, 912, 913, 914, 915, 916, 917, 918, 919, 920, 921, 957, 958, 959, 960, 961, 962, 963, 964, 965, 966, 967, 968, 969] (by decide +kernel) (by decide +kernel)
set_option maxRecDepth 20000 in
theorem gL_law_X7_rescue : GoodIn wsL_law (wsV RL 57 RX7 yX7_rescue wsX7_rescue) := goodIn_app (goodIn_of _ (by decide +kernel)) ggL_law_X7_rescue
set_option maxRecDepth 20000 in
theorem ggL_law_X8_rescue : GoodIn wsL_law wsX8_rescue := goodIn_r _ [480, 133, 103, 344, 345, 346, 5, 347, 243, 136, 137, 138, 355, 356, 357, 403, 404, 405, 406, 244, 105, 481, 482, 483, 484, 348, 349, 350, 428, 429, 430, 485, 486, 487, 922, 923, 924, 925, 926, 927, 928, 929, 930, 931, 932, 933, 934, 935, 936, 937, 938, 939, 940, 941, 942, 943, 944, 945, 946, 947, 948, 949, 950, 951, 952, 953, 954] (by decide +kernel) (by decide +kernel)
set_option maxRecDepth 20000 in
theorem gL_law_X8_rescue : GoodIn wsL_law (wsV RL 60 RX8 yX8_rescue wsX8_rescue) := goodIn_app (goodIn_of _ (by decide +kernel)) ggL_law_X8_rescue
