set_option maxRecDepth 20000 in
theorem ggL_law_X7_undo : GoodIn wsL_law wsX7_undo := goodIn_r _ [485, 234, 28, 233, 24, 486, 487, 488, 27, 489, 73, 490, 491, 492, 23, 493, 58, 59, 60, 222, 223, 170, 2, 171, 130, 131, 903, 904, 905, 906, 907, 908, 909, 910, 911, 912, 913, 914, 962, 956, 957, 958, 959, 960, 961] (by decide +kernel) (by decide +kernel)
set_option maxRecDepth 20000 in
theorem gL_law_X7_undo : GoodIn wsL_law (wsV RL 61 RX7 yX7_undo wsX7_undo) := goodIn_app (goodIn_of _ (by decide +kernel)) ggL_law_X7_undo
set_option maxRecDepth 20000 in
theorem ggL_law_X8_undo : GoodIn wsL_law wsX8_undo := goodIn_r _ [497, 136, 245, 106, 108, 915, 916, 917, 918, 919, 920, 921, 922, 923, 924, 925, 926, 927, 928, 929, 930, 931, 932, 933, 934, 935, 936, 937, 938, 939, 940, 941, 942, 943, 944, 945, 946, 947] (by decide +kernel) (by decide +kernel)
set_option maxRecDepth 20000 in
theorem gL_law_X8_undo : GoodIn wsL_law (wsV RL 64 RX8 yX8_undo wsX8_undo) := goodIn_app (goodIn_of _ (by decide +kernel)) ggL_law_X8_undo
set_option maxRecDepth 20000 in
theorem ggL_law_X7_ahead : GoodIn wsL_law wsX7_ahead := goodIn_r _ [501, 37, 502, 503, 504, 36, 505, 85, 84, 506, 507, 508, 23, 509, 58, 59, 60, 222, 223, 170, 2, 171, 130, 131, 510, 511, 512, 513, 514, 389, 390, 391, 61, 392, 255, 256, 19, 257, 209, 53, 52, 266, 236, 237, 238, 212, 315, 316, 317, 318, 323, 308, 309, 310, 324, 325, 326, 327, 328, 300, 301, 302, 51, 329, 292, 293, 294, 330, 296, 297, 298, 50, 331, 332, 176, 177, 515, 516, 517, 518, 903, 904, 905, 906, 907, 908, 909, 910, 911, 912, 913, 914, 966, 967, 968, 956, 957, 958, 959, 960, 961, 950, 951, 952, 953, 954, 955] (by decide +kernel) (by decide +kernel)
set_option maxRecDepth 20000 in
theorem gL_law_X7_ahead : GoodIn wsL_law (wsV RL 65 RX7 yX7_ahead wsX7_ahead) := goodIn_app (goodIn_of _ (by decide +kernel)) ggL_law_X7_ahead
set_option maxRecDepth 20000 in
theorem ggL_law_X8_ahead : GoodIn wsL_law wsX8_ahead := goodIn_r _ [522, 136, 523, 107, 139, 140, 5, 141, 524, 525, 526, 527, 337, 106, 528, 529, 530, 531, 401, 402, 403, 404, 244, 349, 350, 351, 352, 353, 354, 355, 103, 356, 357, 358, 359, 102, 360, 361, 362, 278, 279, 280, 281, 243, 100, 101, 532, 533, 534, 535, 915, 916, 917, 918, 919, 920, 921, 922, 923, 924, 925, 926, 927, 928, 929, 930, 931, 932, 933, 934, 935, 936, 937, 938, 939, 940, 941, 942, 943, 944, 945, 946, 947] (by decide +kernel) (by decide +kernel)
set_option maxRecDepth 20000 in
theorem gL_law_X8_ahead : GoodIn wsL_law (wsV RL 68 RX8 yX8_ahead wsX8_ahead) := goodIn_app (goodIn_of _ (by decide +kernel)) ggL_law_X8_ahead
set_option maxRecDepth 20000 in
theorem ggL_law_X7_drops : GoodIn wsL_law wsX7_drops := goodIn_r _ [539, 20, 37, 290, 225, 226, 19, 227, 212, 540, 541, 542, 36, 543, 85, 84, 506, 507, 508, 23, 509, 58, 59, 60, 222, 223, 170, 2, 171, 130, 131, 544, 308, 309, 310, 514, 389, 390, 391, 61, 392, 255, 256, 257, 209, 53, 52, 266, 236, 237, 238, 315, 316, 317, 318, 323, 324, 325, 326, 327, 328, 300, 301, 302, 51, 329, 292, 293, 294, 330, 296, 297, 298, 50, 331, 332, 176, 177, 903, 904, 905, 906, 907, 908, 909, 910, 911, 912, 913, 914, 950, 951, 952, 953, 954, 955, 966, 967, 968, 956, 957, 958, 959, 960, 961] (by decide +kernel) (by decide +kernel)
set_option maxRecDepth 20000 in
theorem gL_law_X7_drops : GoodIn wsL_law (wsV RL 69 RX7 yX7_drops wsX7_drops) := goodIn_app (goodIn_of _ (by decide +kernel)) ggL_law_X7_drops
set_option maxRecDepth 20000 in
theorem ggL_law_X8_drops : GoodIn wsL_law wsX8_drops := goodIn_r _ [548, 136, 107, 338, 339, 340, 5, 341, 244, 139, 140, 141, 524, 525, 526, 527, 337, 106, 349, 350, 351, 401, 402, 403, 404, 352, 353, 354, 355, 103, 356, 357, 358, 359, 102, 360, 361, 362, 278, 279, 280, 281, 243, 100, 101, 915, 916, 917, 918, 919, 920, 921, 922, 923, 924, 925, 926, 927, 928, 929, 930, 931, 932, 933, 934, 935, 936, 937, 938, 939, 940, 941, 942, 943, 944, 945, 946, 947] (by decide +kernel) (by decide +kernel)
set_option maxRecDepth 20000 in
theorem gL_law_X8_drops : GoodIn wsL_law (wsV RL 72 RX8 yX8_drops wsX8_drops) := goodIn_app (goodIn_of _ (by decide +kernel)) ggL_law_X8_drops
set_option maxRecDepth 20000 in
theorem ggL_law_X7_lines : GoodIn wsL_law wsX7_lines := goodIn_r _ [552, 37, 553, 554, 555, 36, 556, 83, 85, 84, 557, 236, 237, 19, 238, 212, 170, 2, 171, 506, 507, 508, 23, 509, 58, 59, 60, 222, 223, 130, 131, 558, 559, 560, 561, 61, 562, 71, 68, 72, 266, 563, 564, 565, 510, 511, 512, 513, 514, 389, 390, 391, 392, 255, 256, 257, 209, 53, 52, 315, 316, 317, 318, 323, 308, 309, 310, 324, 325, 326, 327, 328, 300, 301, 302, 51, 329, 292, 293, 294, 330, 296, 297, 298, 50, 331, 332, 176, 177, 566, 567, 568, 569, 570, 516, 517, 518, 571, 465, 466, 467, 468, 469, 470, 572, 573, 574, 575, 903, 904, 905, 906, 907, 908, 909, 910, 911, 912, 913, 914, 966, 967, 968, 950, 951, 952, 953, 954, 955, 956, 957, 958, 959, 960, 961] (by decide +kernel) (by decide +kernel)
set_option maxRecDepth 20000 in
theorem gL_law_X7_lines : GoodIn wsL_law (wsV RL 73 RX7 yX7_lines wsX7_lines) := goodIn_app (goodIn_of _ (by decide +kernel)) ggL_law_X7_lines
set_option maxRecDepth 20000 in
theorem ggL_law_X8_lines : GoodIn wsL_law wsX8_lines := goodIn_r _ [579, 136, 580, 581, 582, 583, 584, 5, 585, 244, 114, 107, 524, 525, 526, 527, 337, 106, 528, 529, 530, 531, 401, 402, 403, 404, 349, 350, 351, 352, 353, 354, 355, 103, 356, 357, 358, 359, 102, 360, 361, 362, 278, 279, 280, 281, 243, 100, 101, 532, 533, 534, 535, 479, 480, 481, 586, 587, 588, 589, 915, 916, 917, 918, 919, 920, 921, 922, 923, 924, 925, 926, 927, 928, 929, 930, 931, 932, 933, 934, 935, 936, 937, 938, 939, 940, 941, 942, 943, 944, 945, 946, 947] (by decide +kernel) (by decide +kernel)
set_option maxRecDepth 20000 in
theorem gL_law_X8_lines : GoodIn wsL_law (wsV RL 77 RX8 yX8_lines wsX8_lines) := goodIn_app (goodIn_of _ (by decide +kernel)) ggL_law_X8_lines
set_option maxRecDepth 20000 in
theorem ggL_law_X7_drills : GoodIn wsL_law wsX7_drills := goodIn_r _ [593, 37, 594, 595, 596, 36, 597, 84, 598, 599, 68, 600, 601, 67, 69, 602, 603, 604, 23, 605, 61, 266, 236, 237, 19, 238, 212, 315, 316, 317, 318, 58, 170, 2, 171, 323, 308, 309, 310, 222, 606, 607, 608, 609, 176, 177, 610, 292, 293, 294, 59, 611, 612, 613, 614, 83, 615, 251, 252, 253, 223, 616, 617, 618, 619, 328, 300, 301, 302, 51, 329, 330, 296, 297, 298, 50, 331, 332, 620, 255, 256, 257, 209, 53, 52, 621, 622, 623, 624, 557, 544, 625, 626, 627, 628, 629, 630, 631, 632, 633, 903, 904, 905, 906, 907, 908, 909, 910, 911, 912, 913, 914, 966, 967, 968, 956, 957, 958, 959, 960, 961, 950, 951, 952, 953, 954, 955] (by decide +kernel) (by decide +kernel)
set_option maxRecDepth 20000 in
theorem gL_law_X7_drills : GoodIn wsL_law (wsV RL 78 RX7 yX7_drills wsX7_drills) := goodIn_app (goodIn_of _ (by decide +kernel)) ggL_law_X7_drills
set_option maxRecDepth 20000 in
theorem ggL_law_X8_drills : GoodIn wsL_law wsX8_drills := goodIn_r _ [637, 136, 244, 638, 639, 5, 640, 641, 642, 643, 644, 107, 450, 106, 524, 525, 526, 527, 337, 139, 140, 141, 349, 350, 351, 528, 529, 530, 531, 401, 402, 403, 404, 352, 353, 354, 355, 103, 356, 357, 358, 359, 102, 360, 361, 362, 278, 279, 280, 281, 243, 100, 101, 915, 916, 917, 918, 919, 920, 921, 922, 923, 924, 925, 926, 927, 928, 929, 930, 931, 932, 933, 934, 935, 936, 937, 938, 939, 940, 941, 942, 943, 944, 945, 946, 947] (by decide +kernel) (by decide +kernel)
set_option maxRecDepth 20000 in
theorem gL_law_X8_drills : GoodIn wsL_law (wsV RL 81 RX8 yX8_drills wsX8_drills) := goodIn_app (goodIn_of _ (by decide +kernel)) ggL_law_X8_drills
set_option maxRecDepth 20000 in
theorem ggL_law_X7_fallsIn : GoodIn wsL_law wsX7_fallsIn := goodIn_r _ [648, 20, 37, 290, 225, 226, 19, 227, 212, 649, 650, 651, 36, 652, 630, 631, 632, 633, 84, 615, 251, 252, 23, 253, 223, 616, 617, 618, 619, 61, 328, 300, 301, 302, 51, 170, 2, 171, 329, 292, 293, 294, 59, 330, 296, 297, 298, 50, 331, 332, 903, 904, 905, 906, 907, 908, 909, 910, 911, 912, 913, 914, 950, 951, 952, 953, 954, 955, 966, 967, 968, 956, 957, 958, 959, 960, 961] (by decide +kernel) (by decide +kernel)
set_option maxRecDepth 20000 in
theorem gL_law_X7_fallsIn : GoodIn wsL_law (wsV RL 82 RX7 yX7_fallsIn wsX7_fallsIn) := goodIn_app (goodIn_of _ (by decide +kernel)) ggL_law_X7_fallsIn
set_option maxRecDepth 20000 in
theorem ggL_law_X8_fallsIn : GoodIn wsL_law wsX8_fallsIn := goodIn_r _ [656, 136, 106, 338, 339, 340, 5, 341, 244, 139, 140, 141, 356, 357, 358, 359, 103, 102, 360, 361, 362, 915, 916, 917, 918, 919, 920, 921, 922, 923, 924, 925, 926, 927, 928, 929, 930, 931, 932, 933, 934, 935, 936, 937, 938, 939, 940, 941, 942, 943, 944, 945, 946, 947] (by decide +kernel) (by decide +kernel)
set_option maxRecDepth 20000 in
theorem gL_law_X8_fallsIn : GoodIn wsL_law (wsV RL 85 RX8 yX8_fallsIn wsX8_fallsIn) := goodIn_app (goodIn_of _ (by decide +kernel)) ggL_law_X8_fallsIn
