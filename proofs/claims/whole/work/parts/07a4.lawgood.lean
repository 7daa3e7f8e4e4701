set_option maxRecDepth 20000 in
theorem ggL_law_X7_likes : GoodIn wsL_law wsX7_likes := goodIn_r _ [663, 37, 664, 665, 666, 36, 667, 80, 81, 607, 208, 68, 209, 621, 250, 251, 23, 252, 222, 623, 254, 255, 19, 256, 206, 53, 52, 910, 911, 912, 913, 914, 915, 916, 917, 918, 919, 920, 921, 973, 974, 975, 963, 964, 965, 966, 967, 968, 957, 958, 959, 960, 961, 962] (by decide +kernel) (by decide +kernel)
set_option maxRecDepth 20000 in
theorem gL_law_X7_likes : GoodIn wsL_law (wsV RL 86 RX7 yX7_likes wsX7_likes) := goodIn_app (goodIn_of _ (by decide +kernel)) ggL_law_X7_likes
set_option maxRecDepth 20000 in
theorem ggL_law_X8_likes : GoodIn wsL_law wsX8_likes := goodIn_r _ [671, 133, 103, 277, 278, 279, 5, 280, 242, 97, 98, 922, 923, 924, 925, 926, 927, 928, 929, 930, 931, 932, 933, 934, 935, 936, 937, 938, 939, 940, 941, 942, 943, 944, 945, 946, 947, 948, 949, 950, 951, 952, 953, 954] (by decide +kernel) (by decide +kernel)
set_option maxRecDepth 20000 in
theorem gL_law_X8_likes : GoodIn wsL_law (wsV RL 89 RX8 yX8_likes wsX8_likes) := goodIn_app (goodIn_of _ (by decide +kernel)) ggL_law_X8_likes
set_option maxRecDepth 20000 in
theorem ggL_law_X7_judge : GoodIn wsL_law wsX7_judge := goodIn_r _ [675, 676, 37, 677, 678, 679, 36, 680, 82, 81, 681, 512, 513, 514, 23, 515, 58, 59, 60, 221, 222, 167, 2, 168, 127, 128, 682, 683, 684, 685, 686, 441, 442, 443, 444, 436, 437, 438, 61, 223, 224, 225, 19, 226, 211, 322, 307, 308, 309, 439, 303, 304, 305, 332, 291, 292, 293, 173, 174, 445, 446, 447, 448, 687, 688, 689, 690, 80, 520, 395, 396, 397, 398, 254, 255, 256, 206, 53, 52, 265, 235, 236, 237, 314, 315, 316, 317, 323, 324, 325, 326, 327, 299, 300, 301, 51, 328, 329, 330, 331, 333, 295, 296, 297, 50, 334, 335, 336, 337, 338, 691, 420, 421, 422, 423, 416, 417, 418, 692, 465, 466, 467, 468, 311, 312, 313, 469, 693, 550, 910, 911, 912, 913, 914, 915, 916, 917, 918, 919, 920, 921, 973, 974, 975, 963, 964, 965, 966, 967, 968, 957, 958, 959, 960, 961, 962] (by decide +kernel) (by decide +kernel)
set_option maxRecDepth 20000 in
theorem gL_law_X7_judge : GoodIn wsL_law (wsV RL 92 RX7 yX7_judge wsX7_judge) := goodIn_app (goodIn_of _ (by decide +kernel)) ggL_law_X7_judge
set_option maxRecDepth 20000 in
theorem ggL_law_X8_judge : GoodIn wsL_law wsX8_judge := goodIn_r _ [697, 133, 698, 699, 136, 137, 5, 138, 700, 701, 702, 530, 531, 532, 533, 343, 104, 103, 703, 704, 705, 706, 243, 407, 408, 409, 410, 355, 356, 357, 358, 359, 360, 361, 100, 362, 363, 364, 365, 99, 366, 367, 368, 277, 278, 279, 280, 242, 97, 98, 428, 429, 430, 344, 345, 346, 347, 453, 454, 455, 456, 457, 458, 459, 481, 482, 483, 484, 348, 349, 350, 922, 923, 924, 925, 926, 927, 928, 929, 930, 931, 932, 933, 934, 935, 936, 937, 938, 939, 940, 941, 942, 943, 944, 945, 946, 947, 948, 949, 950, 951, 952, 953, 954] (by decide +kernel) (by decide +kernel)
set_option maxRecDepth 20000 in
theorem gL_law_X8_judge : GoodIn wsL_law (wsV RL 96 RX8 yX8_judge wsX8_judge) := goodIn_app (goodIn_of _ (by decide +kernel)) ggL_law_X8_judge
set_option maxRecDepth 20000 in
theorem ggL_law_X7_share : GoodIn wsL_law wsX7_share := goodIn_r _ [710, 20, 37, 711, 289, 224, 225, 19, 226, 211, 712, 713, 714, 36, 715, 80, 563, 235, 236, 237, 716, 471, 472, 473, 474, 475, 476, 167, 2, 168, 717, 718, 719, 720, 82, 81, 512, 513, 514, 23, 515, 58, 59, 60, 221, 222, 127, 128, 721, 722, 723, 724, 516, 517, 518, 519, 520, 395, 396, 397, 61, 398, 254, 255, 256, 206, 53, 52, 265, 314, 315, 316, 317, 322, 307, 308, 309, 323, 324, 325, 326, 327, 299, 300, 301, 51, 328, 329, 330, 331, 332, 291, 292, 293, 333, 295, 296, 297, 50, 334, 335, 336, 337, 338, 173, 174, 572, 573, 574, 575, 576, 522, 523, 524, 577, 234, 725, 726, 727, 728, 729, 605, 68, 606, 730, 731, 732, 910, 911, 912, 913, 914, 915, 916, 917, 918, 919, 920, 921, 957, 958, 959, 960, 961, 962, 973, 974, 975, 963, 964, 965, 966, 967, 968] (by decide +kernel) (by decide +kernel)
set_option maxRecDepth 20000 in
theorem gL_law_X7_share : GoodIn wsL_law (wsV RL 97 RX7 yX7_share wsX7_share) := goodIn_app (goodIn_of _ (by decide +kernel)) ggL_law_X7_share
set_option maxRecDepth 20000 in
theorem ggL_law_X8_share : GoodIn wsL_law wsX8_share := goodIn_r _ [736, 133, 243, 104, 113, 344, 345, 346, 5, 347, 136, 137, 138, 530, 531, 532, 533, 343, 103, 534, 535, 536, 537, 407, 408, 409, 410, 355, 356, 357, 358, 359, 360, 361, 100, 362, 363, 364, 365, 99, 366, 367, 368, 277, 278, 279, 280, 242, 97, 98, 538, 539, 540, 541, 485, 486, 487, 737, 738, 739, 740, 741, 742, 743, 744, 745, 922, 923, 924, 925, 926, 927, 928, 929, 930, 931, 932, 933, 934, 935, 936, 937, 938, 939, 940, 941, 942, 943, 944, 945, 946, 947, 948, 949, 950, 951, 952, 953, 954] (by decide +kernel) (by decide +kernel)
set_option maxRecDepth 20000 in
theorem gL_law_X8_share : GoodIn wsL_law (wsV RL 100 RX8 yX8_share wsX8_share) := goodIn_app (goodIn_of _ (by decide +kernel)) ggL_law_X8_share
set_option maxRecDepth 20000 in
theorem ggL_law_X7_mark : GoodIn wsL_law wsX7_mark := goodIn_r _ [749, 33, 750, 751, 752, 32, 753, 270, 754, 755, 756, 757, 74, 75, 127, 2, 128, 910, 911, 912, 913, 914, 915, 916, 917, 918, 919, 920, 921, 970, 971, 972] (by decide +kernel) (by decide +kernel)
set_option maxRecDepth 20000 in
theorem gL_law_X7_mark : GoodIn wsL_law (wsV RL 101 RX7 yX7_mark wsX7_mark) := goodIn_app (goodIn_of _ (by decide +kernel)) ggL_law_X7_mark
set_option maxRecDepth 20000 in
theorem ggL_law_X8_mark : GoodIn wsL_law wsX8_mark := goodIn_r _ [761, 133, 529, 762, 276, 109, 110, 136, 137, 5, 138, 922, 923, 924, 925, 926, 927, 928, 929, 930, 931, 932, 933, 934, 935, 936, 937, 938, 939, 940, 941, 942, 943, 944, 945, 946, 947, 948, 949, 950, 951, 952, 953, 954] (by decide +kernel) (by decide +kernel)
set_option maxRecDepth 20000 in
theorem gL_law_X8_mark : GoodIn wsL_law (wsV RL 104 RX8 yX8_mark wsX8_mark) := goodIn_app (goodIn_of _ (by decide +kernel)) ggL_law_X8_mark
set_option maxRecDepth 20000 in
theorem ggL_law_X7_snowed : GoodIn wsL_law wsX7_snowed := goodIn_r _ [766, 33, 767, 768, 769, 32, 770, 270, 910, 911, 912, 913, 914, 915, 916, 917, 918, 919, 920, 921, 970, 971, 972] (by decide +kernel) (by decide +kernel)
set_option maxRecDepth 20000 in
theorem gL_law_X7_snowed : GoodIn wsL_law (wsV RL 105 RX7 yX7_snowed wsX7_snowed) := goodIn_app (goodIn_of _ (by decide +kernel)) ggL_law_X7_snowed
set_option maxRecDepth 20000 in
theorem ggL_law_X8_snowed : GoodIn wsL_law wsX8_snowed := goodIn_r _ [774, 133, 276, 922, 923, 924, 925, 926, 927, 928, 929, 930, 931, 932, 933, 934, 935, 936, 937, 938, 939, 940, 941, 942, 943, 944, 945, 946, 947, 948, 949, 950, 951, 952, 953, 954] (by decide +kernel) (by decide +kernel)
set_option maxRecDepth 20000 in
theorem gL_law_X8_snowed : GoodIn wsL_law (wsV RL 108 RX8 yX8_snowed wsX8_snowed) := goodIn_app (goodIn_of _ (by decide +kernel)) ggL_law_X8_snowed
set_option maxRecDepth 20000 in
theorem ggL_law_X7_whose : GoodIn wsL_law wsX7_whose := goodIn_r _ [778, 33, 779, 780, 781, 32, 782, 783, 784, 785, 173, 2, 174, 786, 787, 788, 789, 270, 74, 75, 167, 168, 334, 335, 336, 337, 338, 790, 791, 792, 793, 910, 911, 912, 913, 914, 915, 916, 917, 918, 919, 920, 921, 970, 971, 972] (by decide +kernel) (by decide +kernel)
set_option maxRecDepth 20000 in
theorem gL_law_X7_whose : GoodIn wsL_law (wsV RL 109 RX7 yX7_whose wsX7_whose) := goodIn_app (goodIn_of _ (by decide +kernel)) ggL_law_X7_whose
set_option maxRecDepth 20000 in
theorem ggL_law_X8_whose : GoodIn wsL_law wsX8_whose := goodIn_r _ [797, 133, 798, 799, 136, 137, 5, 138, 800, 801, 802, 803, 276, 109, 110, 366, 367, 368, 922, 923, 924, 925, 926, 927, 928, 929, 930, 931, 932, 933, 934, 935, 936, 937, 938, 939, 940, 941, 942, 943, 944, 945, 946, 947, 948, 949, 950, 951, 952, 953, 954] (by decide +kernel) (by decide +kernel)
set_option maxRecDepth 20000 in
theorem gL_law_X8_whose : GoodIn wsL_law (wsV RL 112 RX8 yX8_whose wsX8_whose) := goodIn_app (goodIn_of _ (by decide +kernel)) ggL_law_X8_whose
