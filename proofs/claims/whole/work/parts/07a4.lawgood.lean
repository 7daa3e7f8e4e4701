set_option maxRecDepth 20000 in
theorem ggL_law_X7_likes : GoodIn wsL_law wsX7_likes := goodIn_r _ [660, 37, 661, 662, 663, 36, 664, 83, 84, 601, 67, 68, 69, 615, 251, 252, 23, 253, 223, 620, 255, 256, 19, 257, 209, 53, 52, 903, 904, 905, 906, 907, 908, 909, 910, 911, 912, 913, 914, 966, 967, 968, 956, 957, 958, 959, 960, 961, 950, 951, 952, 953, 954, 955] (by decide +kernel) (by decide +kernel)
set_option maxRecDepth 20000 in
theorem gL_law_X7_likes : GoodIn wsL_law (wsV RL 86 RX7 yX7_likes wsX7_likes) := goodIn_app (goodIn_of _ (by decide +kernel)) ggL_law_X7_likes
set_option maxRecDepth 20000 in
theorem ggL_law_X8_likes : GoodIn wsL_law wsX8_likes := goodIn_r _ [668, 136, 106, 278, 279, 280, 5, 281, 243, 100, 101, 915, 916, 917, 918, 919, 920, 921, 922, 923, 924, 925, 926, 927, 928, 929, 930, 931, 932, 933, 934, 935, 936, 937, 938, 939, 940, 941, 942, 943, 944, 945, 946, 947] (by decide +kernel) (by decide +kernel)
set_option maxRecDepth 20000 in
theorem gL_law_X8_likes : GoodIn wsL_law (wsV RL 89 RX8 yX8_likes wsX8_likes) := goodIn_app (goodIn_of _ (by decide +kernel)) ggL_law_X8_likes
set_option maxRecDepth 20000 in
theorem ggL_law_X7_judge : GoodIn wsL_law wsX7_judge := goodIn_r _ [672, 673, 37, 674, 675, 676, 36, 677, 85, 84, 678, 506, 507, 508, 23, 509, 58, 59, 60, 222, 223, 170, 2, 171, 130, 131, 679, 680, 681, 682, 83, 514, 389, 390, 391, 61, 392, 255, 256, 19, 257, 209, 53, 52, 266, 236, 237, 238, 212, 315, 316, 317, 318, 323, 308, 309, 310, 324, 325, 326, 327, 328, 300, 301, 302, 51, 329, 292, 293, 294, 330, 296, 297, 298, 50, 331, 332, 176, 177, 683, 414, 415, 416, 417, 410, 411, 412, 684, 435, 436, 437, 438, 430, 431, 432, 224, 225, 226, 227, 433, 304, 305, 306, 439, 440, 441, 442, 685, 459, 460, 461, 462, 312, 313, 314, 463, 686, 544, 903, 904, 905, 906, 907, 908, 909, 910, 911, 912, 913, 914, 966, 967, 968, 956, 957, 958, 959, 960, 961, 950, 951, 952, 953, 954, 955] (by decide +kernel) (by decide +kernel)
set_option maxRecDepth 20000 in
theorem gL_law_X7_judge : GoodIn wsL_law (wsV RL 92 RX7 yX7_judge wsX7_judge) := goodIn_app (goodIn_of _ (by decide +kernel)) ggL_law_X7_judge
set_option maxRecDepth 20000 in
theorem ggL_law_X8_judge : GoodIn wsL_law wsX8_judge := goodIn_r _ [690, 136, 691, 692, 139, 140, 5, 141, 693, 694, 695, 524, 525, 526, 527, 337, 107, 106, 696, 697, 698, 699, 244, 401, 402, 403, 404, 349, 350, 351, 352, 353, 354, 355, 103, 356, 357, 358, 359, 102, 360, 361, 362, 278, 279, 280, 281, 243, 100, 101, 422, 423, 424, 338, 339, 340, 341, 447, 448, 449, 450, 451, 452, 453, 475, 476, 477, 478, 342, 343, 344, 915, 916, 917, 918, 919, 920, 921, 922, 923, 924, 925, 926, 927, 928, 929, 930, 931, 932, 933, 934, 935, 936, 937, 938, 939, 940, 941, 942, 943, 944, 945, 946, 947] (by decide +kernel) (by decide +kernel)
set_option maxRecDepth 20000 in
theorem gL_law_X8_judge : GoodIn wsL_law (wsV RL 96 RX8 yX8_judge wsX8_judge) := goodIn_app (goodIn_of _ (by decide +kernel)) ggL_law_X8_judge
set_option maxRecDepth 20000 in
theorem ggL_law_X7_share : GoodIn wsL_law wsX7_share := goodIn_r _ [703, 20, 37, 704, 290, 225, 226, 19, 227, 212, 705, 706, 707, 36, 708, 83, 557, 236, 237, 238, 709, 465, 466, 467, 468, 469, 470, 170, 2, 171, 710, 711, 712, 713, 85, 84, 506, 507, 508, 23, 509, 58, 59, 60, 222, 223, 130, 131, 714, 715, 716, 717, 510, 511, 512, 513, 514, 389, 390, 391, 61, 392, 255, 256, 257, 209, 53, 52, 266, 315, 316, 317, 318, 323, 308, 309, 310, 324, 325, 326, 327, 328, 300, 301, 302, 51, 329, 292, 293, 294, 330, 296, 297, 298, 50, 331, 332, 176, 177, 566, 567, 568, 569, 570, 516, 517, 518, 571, 235, 718, 719, 720, 721, 722, 599, 68, 600, 723, 724, 725, 903, 904, 905, 906, 907, 908, 909, 910, 911, 912, 913, 914, 950, 951, 952, 953, 954, 955, 966, 967, 968, 956, 957, 958, 959, 960, 961] (by decide +kernel) (by decide +kernel)
set_option maxRecDepth 20000 in
theorem gL_law_X7_share : GoodIn wsL_law (wsV RL 97 RX7 yX7_share wsX7_share) := goodIn_app (goodIn_of _ (by decide +kernel)) ggL_law_X7_share
set_option maxRecDepth 20000 in
theorem ggL_law_X8_share : GoodIn wsL_law wsX8_share := goodIn_r _ [729, 136, 244, 107, 116, 338, 339, 340, 5, 341, 139, 140, 141, 524, 525, 526, 527, 337, 106, 528, 529, 530, 531, 401, 402, 403, 404, 349, 350, 351, 352, 353, 354, 355, 103, 356, 357, 358, 359, 102, 360, 361, 362, 278, 279, 280, 281, 243, 100, 101, 532, 533, 534, 535, 479, 480, 481, 730, 731, 732, 733, 734, 735, 736, 737, 738, 915, 916, 917, 918, 919, 920, 921, 922, 923, 924, 925, 926, 927, 928, 929, 930, 931, 932, 933, 934, 935, 936, 937, 938, 939, 940, 941, 942, 943, 944, 945, 946, 947] (by decide +kernel) (by decide +kernel)
set_option maxRecDepth 20000 in
theorem gL_law_X8_share : GoodIn wsL_law (wsV RL 100 RX8 yX8_share wsX8_share) := goodIn_app (goodIn_of _ (by decide +kernel)) ggL_law_X8_share
set_option maxRecDepth 20000 in
theorem ggL_law_X7_mark : GoodIn wsL_law wsX7_mark := goodIn_r _ [742, 33, 743, 744, 745, 32, 746, 271, 747, 748, 749, 750, 77, 78, 130, 2, 131, 903, 904, 905, 906, 907, 908, 909, 910, 911, 912, 913, 914, 963, 964, 965] (by decide +kernel) (by decide +kernel)
set_option maxRecDepth 20000 in
theorem gL_law_X7_mark : GoodIn wsL_law (wsV RL 101 RX7 yX7_mark wsX7_mark) := goodIn_app (goodIn_of _ (by decide +kernel)) ggL_law_X7_mark
set_option maxRecDepth 20000 in
theorem ggL_law_X8_mark : GoodIn wsL_law wsX8_mark := goodIn_r _ [754, 136, 523, 755, 277, 112, 113, 139, 140, 5, 141, 915, 916, 917, 918, 919, 920, 921, 922, 923, 924, 925, 926, 927, 928, 929, 930, 931, 932, 933, 934, 935, 936, 937, 938, 939, 940, 941, 942, 943, 944, 945, 946, 947] (by decide +kernel) (by decide +kernel)
set_option maxRecDepth 20000 in
theorem gL_law_X8_mark : GoodIn wsL_law (wsV RL 104 RX8 yX8_mark wsX8_mark) := goodIn_app (goodIn_of _ (by decide +kernel)) ggL_law_X8_mark
set_option maxRecDepth 20000 in
theorem ggL_law_X7_snowed : GoodIn wsL_law wsX7_snowed := goodIn_r _ [759, 33, 760, 761, 762, 32, 763, 271, 903, 904, 905, 906, 907, 908, 909, 910, 911, 912, 913, 914, 963, 964, 965] (by decide +kernel) (by decide +kernel)
set_option maxRecDepth 20000 in
theorem gL_law_X7_snowed : GoodIn wsL_law (wsV RL 105 RX7 yX7_snowed wsX7_snowed) := goodIn_app (goodIn_of _ (by decide +kernel)) ggL_law_X7_snowed
set_option maxRecDepth 20000 in
theorem ggL_law_X8_snowed : GoodIn wsL_law wsX8_snowed := goodIn_r _ [767, 136, 277, 915, 916, 917, 918, 919, 920, 921, 922, 923, 924, 925, 926, 927, 928, 929, 930, 931, 932, 933, 934, 935, 936, 937, 938, 939, 940, 941, 942, 943, 944, 945, 946, 947] (by decide +kernel) (by decide +kernel)
set_option maxRecDepth 20000 in
theorem gL_law_X8_snowed : GoodIn wsL_law (wsV RL 108 RX8 yX8_snowed wsX8_snowed) := goodIn_app (goodIn_of _ (by decide +kernel)) ggL_law_X8_snowed
set_option maxRecDepth 20000 in
theorem ggL_law_X7_whose : GoodIn wsL_law wsX7_whose := goodIn_r _ [771, 33, 772, 773, 774, 32, 775, 776, 777, 778, 176, 2, 177, 779, 780, 781, 782, 271, 77, 78, 170, 171, 331, 332, 783, 784, 785, 786, 903, 904, 905, 906, 907, 908, 909, 910, 911, 912, 913, 914, 963, 964, 965] (by decide +kernel) (by decide +kernel)
set_option maxRecDepth 20000 in
theorem gL_law_X7_whose : GoodIn wsL_law (wsV RL 109 RX7 yX7_whose wsX7_whose) := goodIn_app (goodIn_of _ (by decide +kernel)) ggL_law_X7_whose
set_option maxRecDepth 20000 in
theorem ggL_law_X8_whose : GoodIn wsL_law wsX8_whose := goodIn_r _ [790, 136, 791, 792, 139, 140, 5, 141, 793, 794, 795, 796, 277, 112, 113, 360, 361, 362, 915, 916, 917, 918, 919, 920, 921, 922, 923, 924, 925, 926, 927, 928, 929, 930, 931, 932, 933, 934, 935, 936, 937, 938, 939, 940, 941, 942, 943, 944, 945, 946, 947] (by decide +kernel) (by decide +kernel)
set_option maxRecDepth 20000 in
theorem gL_law_X8_whose : GoodIn wsL_law (wsV RL 112 RX8 yX8_whose wsX8_whose) := goodIn_app (goodIn_of _ (by decide +kernel)) ggL_law_X8_whose
