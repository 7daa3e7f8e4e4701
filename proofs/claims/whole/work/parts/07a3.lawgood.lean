set_option maxRecDepth 20000 in
theorem ggL_law_X7_undo : GoodIn wsL_law wsX7_undo := goodIn_r _ [491, 233, 28, 232, 24, 492, 493, 494, 27, 495, 70, 496, 497, 498, 23, 499, 58, 59, 60, 221, 222, 167, 2, 168, 127, 128, 910, 911, 912, 913, 914, 915, 916, 917, 918, 919, 920, 921, 969, 963, 964, 965, 966, 967, 968] (by decide +kernel) (by decide +kernel)
set_option maxRecDepth 20000 in
theorem gL_law_X7_undo : GoodIn wsL_law (wsV RL 61 RX7 yX7_undo wsX7_undo) := goodIn_app (goodIn_of _ (by decide +kernel)) ggL_law_X7_undo
set_option maxRecDepth 20000 in
theorem ggL_law_X8_undo : GoodIn wsL_law wsX8_undo := goodIn_r _ [503, 133, 244, 103, 105, 922, 923, 924, 925, 926, 927, 928, 929, 930, 931, 932, 933, 934, 935, 936, 937, 938, 939, 940, 941, 942, 943, 944, 945, 946, 947, 948, 949, 950, 951, 952, 953, 954] (by decide +kernel) (by decide +kernel)
set_option maxRecDepth 20000 in
theorem gL_law_X8_undo : GoodIn wsL_law (wsV RL 64 RX8 yX8_undo wsX8_undo) := goodIn_app (goodIn_of _ (by decide +kernel)) ggL_law_X8_undo
set_option maxRecDepth 20000 in
theorem ggL_law_X7_ahead : GoodIn wsL_law wsX7_ahead := goodIn_r _ [507, 37, 508, 509, 510, 36, 511, 82, 81, 512, 513, 514, 23, 515, 58, 59, 60, 221, 222, 167, 2, 168, 127, 128, 516, 517, 518, 519, 520, 395, 396, 397, 61, 398, 254, 255, 19, 256, 206, 53, 52, 265, 235, 236, 237, 211, 314, 315, 316, 317, 322, 307, 308, 309, 323, 324, 325, 326, 327, 299, 300, 301, 51, 328, 329, 330, 331, 332, 291, 292, 293, 333, 295, 296, 297, 50, 334, 335, 336, 337, 338, 173, 174, 521, 522, 523, 524, 910, 911, 912, 913, 914, 915, 916, 917, 918, 919, 920, 921, 973, 974, 975, 963, 964, 965, 966, 967, 968, 957, 958, 959, 960, 961, 962] (by decide +kernel) (by decide +kernel)
set_option maxRecDepth 20000 in
theorem gL_law_X7_ahead : GoodIn wsL_law (wsV RL 65 RX7 yX7_ahead wsX7_ahead) := goodIn_app (goodIn_of _ (by decide +kernel)) ggL_law_X7_ahead
set_option maxRecDepth 20000 in
theorem ggL_law_X8_ahead : GoodIn wsL_law wsX8_ahead := goodIn_r _ [528, 133, 529, 104, 136, 137, 5, 138, 530, 531, 532, 533, 343, 103, 534, 535, 536, 537, 407, 408, 409, 410, 243, 355, 356, 357, 358, 359, 360, 361, 100, 362, 363, 364, 365, 99, 366, 367, 368, 277, 278, 279, 280, 242, 97, 98, 538, 539, 540, 541, 922, 923, 924, 925, 926, 927, 928, 929, 930, 931, 932, 933, 934, 935, 936, 937, 938, 939, 940, 941, 942, 943, 944, 945, 946, 947, 948, 949, 950, 951, 952, 953, 954] (by decide +kernel) (by decide +kernel)
set_option maxRecDepth 20000 in
theorem gL_law_X8_ahead : GoodIn wsL_law (wsV RL 68 RX8 yX8_ahead wsX8_ahead) := goodIn_app (goodIn_of _ (by decide +kernel)) ggL_law_X8_ahead
set_option maxRecDepth 20000 in
theorem ggL_law_X7_drops : GoodIn wsL_law wsX7_drops := goodIn_r _ [545, 20, 37, 289, 224, 225, 19, 226, 211, 546, 547, 548, 36, 549, 82, 81, 512, 513, 514, 23, 515, 58, 59, 60, 221, 222, 167, 2, 168, 127, 128, 550, 307, 308, 309, 520, 395, 396, 397, 61, 398, 254, 255, 256, 206, 53, 52, 265, 235, 236, 237, 314, 315, 316, 317, 322, 323, 324, 325, 326, 327, 299, 300, 301, 51, 328, 329, 330, 331, 332, 291, 292, 293, 333, 295, 296, 297, 50, 334, 335, 336, 337, 338, 173, 174, 910, 911, 912, 913, 914, 915, 916, 917, 918, 919, 920, 921, 957, 958, 959, 960, 961, 962, 973, 974, 975, 963, 964, 965, 966, 967, 968] (by decide +kernel) (by decide +kernel)
set_option maxRecDepth 20000 in
theorem gL_law_X7_drops : GoodIn wsL_law (wsV RL 69 RX7 yX7_drops wsX7_drops) := goodIn_app (goodIn_of _ (by decide +kernel)) ggL_law_X7_drops
set_option maxRecDepth 20000 in
theorem ggL_law_X8_drops : GoodIn wsL_law wsX8_drops := goodIn_r _ [554, 133, 104, 344, 345, 346, 5, 347, 243, 136, 137, 138, 530, 531, 532, 533, 343, 103, 355, 356, 357, 407, 408, 409, 410, 358, 359, 360, 361, 100, 362, 363, 364, 365, 99, 366, 367, 368, 277, 278, 279, 280, 242, 97, 98, 922, 923, 924, 925, 926, 927, 928, 929, 930, 931, 932, 933, 934, 935, 936, 937, 938, 939, 940, 941, 942, 943, 944, 945, 946, 947, 948, 949, 950, 951, 952, 953, 954] (by decide +kernel) (by decide +kernel)
set_option maxRecDepth 20000 in
theorem gL_law_X8_drops : GoodIn wsL_law (wsV RL 72 RX8 yX8_drops wsX8_drops) := goodIn_app (goodIn_of _ (by decide +kernel)) ggL_law_X8_drops
set_option maxRecDepth 20000 in
theorem ggL_law_X7_lines : GoodIn wsL_law wsX7_lines := goodIn_r _ [558, 37, 559, 560, 561, 36, 562, 80, 82, 81, 563, 235, 236, 19, 237, 211, 167, 2, 168, 512, 513, 514, 23, 515, 58, 59, 60, 221, 222, 127, 128, 564, 565, 566, 567, 61, 568, 67, 68, 69, 265, 569, 570, 571, 516, 517, 518, 519, 520, 395, 396, 397, 398, 254, 255, 256, 206, 53, 52, 314, 315, 316, 317, 322, 307, 308, 309, 323, 324, 325, 326, 327, 299, 300, 301, 51, 328, 329, 330, 331, 332, 291, 292, 293, 333, 295, 296, 297, 50, 334, 335, 336, 337, 338, 173, 174, 572, 573, 574, 575, 576, 522, 523, 524, 577, 471, 472, 473, 474, 475, 476, 578, 579, 580, 581, 910, 911, 912, 913, 914, 915, 916, 917, 918, 919, 920, 921, 973, 974, 975, 957, 958, 959, 960, 961, 962, 963, 964, 965, 966, 967, 968] (by decide +kernel) (by decide +kernel)
set_option maxRecDepth 20000 in
theorem gL_law_X7_lines : GoodIn wsL_law (wsV RL 73 RX7 yX7_lines wsX7_lines) := goodIn_app (goodIn_of _ (by decide +kernel)) ggL_law_X7_lines
set_option maxRecDepth 20000 in
theorem ggL_law_X8_lines : GoodIn wsL_law wsX8_lines := goodIn_r _ [585, 133, 586, 587, 588, 589, 590, 5, 591, 243, 111, 104, 530, 531, 532, 533, 343, 103, 534, 535, 536, 537, 407, 408, 409, 410, 355, 356, 357, 358, 359, 360, 361, 100, 362, 363, 364, 365, 99, 366, 367, 368, 277, 278, 279, 280, 242, 97, 98, 538, 539, 540, 541, 485, 486, 487, 592, 593, 594, 595, 922, 923, 924, 925, 926, 927, 928, 929, 930, 931, 932, 933, 934, 935, 936, 937, 938, 939, 940, 941, 942, 943, 944, 945, 946, 947, 948, 949, 950, 951, 952, 953, 954] (by decide +kernel) (by decide +kernel)
set_option maxRecDepth 20000 in
theorem gL_law_X8_lines : GoodIn wsL_law (wsV RL 77 RX8 yX8_lines wsX8_lines) := goodIn_app (goodIn_of _ (by decide +kernel)) ggL_law_X8_lines
set_option maxRecDepth 20000 in
theorem ggL_law_X7_drills : GoodIn wsL_law wsX7_drills := goodIn_r _ [599, 37, 600, 601, 602, 36, 603, 81, 604, 605, 68, 606, 607, 208, 209, 608, 609, 610, 23, 611, 61, 265, 235, 236, 19, 237, 211, 314, 315, 316, 317, 58, 167, 2, 168, 322, 307, 308, 309, 221, 612, 613, 614, 615, 173, 174, 616, 291, 292, 293, 59, 617, 618, 619, 620, 80, 621, 250, 251, 252, 222, 622, 329, 330, 331, 327, 299, 300, 301, 51, 332, 333, 295, 296, 297, 50, 334, 335, 336, 337, 338, 623, 254, 255, 256, 206, 53, 52, 624, 625, 626, 627, 563, 550, 628, 629, 630, 631, 632, 633, 634, 635, 636, 910, 911, 912, 913, 914, 915, 916, 917, 918, 919, 920, 921, 973, 974, 975, 963, 964, 965, 966, 967, 968, 957, 958, 959, 960, 961, 962] (by decide +kernel) (by decide +kernel)
set_option maxRecDepth 20000 in
theorem gL_law_X7_drills : GoodIn wsL_law (wsV RL 78 RX7 yX7_drills wsX7_drills) := goodIn_app (goodIn_of _ (by decide +kernel)) ggL_law_X7_drills
set_option maxRecDepth 20000 in
theorem ggL_law_X8_drills : GoodIn wsL_law wsX8_drills := goodIn_r _ [640, 133, 243, 641, 642, 5, 643, 644, 645, 646, 647, 104, 456, 103, 530, 531, 532, 533, 343, 136, 137, 138, 355, 356, 357, 534, 535, 536, 537, 407, 408, 409, 410, 358, 359, 360, 361, 100, 362, 363, 364, 365, 99, 366, 367, 368, 277, 278, 279, 280, 242, 97, 98, 922, 923, 924, 925, 926, 927, 928, 929, 930, 931, 932, 933, 934, 935, 936, 937, 938, 939, 940, 941, 942, 943, 944, 945, 946, 947, 948, 949, 950, 951, 952, 953, 954] (by decide +kernel) (by decide +kernel)
set_option maxRecDepth 20000 in
theorem gL_law_X8_drills : GoodIn wsL_law (wsV RL 81 RX8 yX8_drills wsX8_drills) := goodIn_app (goodIn_of _ (by decide +kernel)) ggL_law_X8_drills
set_option maxRecDepth 20000 in
theorem ggL_law_X7_fallsIn : GoodIn wsL_law wsX7_fallsIn := goodIn_r _ [651, 20, 37, 289, 224, 225, 19, 226, 211, 652, 653, 654, 36, 655, 633, 634, 635, 636, 81, 621, 250, 251, 23, 252, 222, 622, 329, 330, 331, 61, 327, 299, 300, 301, 51, 167, 2, 168, 332, 291, 292, 293, 59, 333, 295, 296, 297, 50, 334, 335, 336, 337, 338, 910, 911, 912, 913, 914, 915, 916, 917, 918, 919, 920, 921, 957, 958, 959, 960, 961, 962, 973, 974, 975, 963, 964, 965, 966, 967, 968] (by decide +kernel) (by decide +kernel)
set_option maxRecDepth 20000 in
theorem gL_law_X7_fallsIn : GoodIn wsL_law (wsV RL 82 RX7 yX7_fallsIn wsX7_fallsIn) := goodIn_app (goodIn_of _ (by decide +kernel)) ggL_law_X7_fallsIn
set_option maxRecDepth 20000 in
theorem ggL_law_X8_fallsIn : GoodIn wsL_law wsX8_fallsIn := goodIn_r _ [659, 133, 103, 344, 345, 346, 5, 347, 243, 136, 137, 138, 362, 363, 364, 365, 100, 99, 366, 367, 368, 922, 923, 924, 925, 926, 927, 928, 929, 930, 931, 932, 933, 934, 935, 936, 937, 938, 939, 940, 941, 942, 943, 944, 945, 946, 947, 948, 949, 950, 951, 952, 953, 954] (by decide +kernel) (by decide +kernel)
set_option maxRecDepth 20000 in
theorem gL_law_X8_fallsIn : GoodIn wsL_law (wsV RL 85 RX8 yX8_fallsIn wsX8_fallsIn) := goodIn_app (goodIn_of _ (by decide +kernel)) ggL_law_X8_fallsIn
