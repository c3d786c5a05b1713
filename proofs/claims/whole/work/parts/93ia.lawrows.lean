set_option maxRecDepth 20000 in
theorem gg2L_law_X7_init : GoodIn ws2L_law wsX7_init := goodIn_r _ [9, 10, 11, 12, 13, 14, 15, 16, 17, 18, 19, 20, 21, 22, 23, 24, 25, 26, 27, 28, 29, 30, 31, 32, 33, 34, 35, 36, 37, 38, 39, 40, 41, 42, 43, 44, 45, 46, 47, 48, 49, 50, 51, 52, 53, 54, 55, 56, 57, 58, 59, 60, 61, 62, 63, 64, 65, 66, 67, 68, 69, 70, 71, 72, 73, 74, 75, 76, 77, 78, 79, 80, 81, 82, 83, 84, 85, 86, 87, 88, 89, 90, 91, 92, 93, 94, 95, 96, 97, 98, 99, 100, 101, 102, 103, 104, 105, 106, 107, 108, 109, 110, 111, 112, 113, 114, 115, 116, 117, 954, 955, 956, 957, 958, 959, 906, 907, 908, 909, 910, 911, 912, 913, 914, 915, 916, 917, 960, 961, 962, 963, 964, 965, 966, 967, 968, 969, 970, 971, 972, 973, 974, 975, 976, 977, 978, 979, 980, 981, 982, 983, 984, 985, 986, 987, 988, 989, 990, 991, 992, 993, 994, 995, 996, 997, 998] (by decide +kernel) (by decide +kernel)
set_option maxRecDepth 20000 in
theorem g2L_law_X7_init : GoodIn ws2L_law (wsX7_init) := gg2L_law_X7_init
set_option maxRecDepth 20000 in
theorem gg2L_law_X8_init : GoodIn ws2L_law wsX8_init := goodIn_r _ [120, 121, 11, 12, 17, 122, 123, 124, 125, 126, 127, 128, 129, 130, 131, 132, 133, 134, 135, 136, 137, 138, 139, 140, 141, 918, 919, 920, 921, 922, 923, 924, 925, 926, 927, 928, 929, 930, 931, 932, 933, 934, 935, 936, 937, 938, 939, 940, 941, 942, 943, 944, 945, 946, 947, 948, 949, 950, 951, 952, 953] (by decide +kernel) (by decide +kernel)
set_option maxRecDepth 20000 in
theorem g2L_law_X8_init : GoodIn ws2L_law (wsX8_init) := gg2L_law_X8_init
set_option maxRecDepth 20000 in
theorem gg2L_law_X7_guest : GoodIn ws2L_law wsX7_guest := goodIn_r _ [145, 16, 146, 18, 46, 147, 148, 15, 149, 150, 151, 152, 153, 50, 51, 52, 53, 54, 55, 906, 907, 908, 909, 910, 911, 912, 913, 914, 915, 916, 917, 954, 955, 956, 957, 958, 959] (by decide +kernel) (by decide +kernel)
set_option maxRecDepth 20000 in
theorem g2L_law_X7_guest : GoodIn ws2L_law (wsV RL 51 RX7 yX7_guest wsX7_guest) := goodIn_app (goodIn_of _ (by decide +kernel)) gg2L_law_X7_guest
set_option maxRecDepth 20000 in
theorem gg2L_law_X8_guest : GoodIn ws2L_law wsX8_guest := goodIn_r _ [157, 158, 159, 122, 123, 160, 161, 162, 5, 163, 918, 919, 920, 921, 922, 923, 924, 925, 926, 927, 928, 929, 930, 931, 932, 933, 934, 935, 936, 937, 938, 939, 940, 941, 942, 943, 944, 945, 946, 947, 948, 949, 950, 951, 952, 953] (by decide +kernel) (by decide +kernel)
set_option maxRecDepth 20000 in
theorem g2L_law_X8_guest : GoodIn ws2L_law (wsV RL 55 RX8 yX8_guest wsX8_guest) := goodIn_app (goodIn_of _ (by decide +kernel)) gg2L_law_X8_guest
set_option maxRecDepth 20000 in
theorem gg2L_law_L_of : GoodIn ws2L_law wsL_of := goodIn_ca (goodIn_r _ [167, 168, 169, 170, 171, 2, 172, 16, 173, 174, 175, 176, 177, 178, 179, 180, 181, 182, 183, 184, 185, 186, 15, 187, 50, 906, 907, 908, 909, 910, 911, 912, 913, 914, 915, 916, 917, 954, 955, 956, 957, 958, 959] (by decide +kernel) (by decide +kernel)) (goodIn_sub (fun _ h => List.mem_append_left _ (List.mem_append_right _ h)) (by decide +kernel))
set_option maxRecDepth 20000 in
theorem g2L_law_L_of : GoodIn ws2L_law (va_wsS RL 56 yL_of wsL_of) := goodIn_app (goodIn_of _ (by decide +kernel)) gg2L_law_L_of
set_option maxRecDepth 20000 in
theorem gg2L_law_X8_of : GoodIn ws2L_law wsX8_of := goodIn_r _ [191, 192, 193, 194, 5, 195, 159, 161, 162, 163, 196, 197, 198, 199, 158, 200, 201, 202, 203, 122, 918, 919, 920, 921, 922, 923, 924, 925, 926, 927, 928, 929, 930, 931, 932, 933, 934, 935, 936, 937, 938, 939, 940, 941, 942, 943, 944, 945, 946, 947, 948, 949, 950, 951, 952, 953] (by decide +kernel) (by decide +kernel)
set_option maxRecDepth 20000 in
theorem g2L_law_X8_of : GoodIn ws2L_law (wsV RL 61 RX8 yX8_of wsX8_of) := goodIn_app (goodIn_of _ (by decide +kernel)) gg2L_law_X8_of
set_option maxRecDepth 20000 in
theorem gg2L_law_X8_thrown : GoodIn ws2L_law wsX8_thrown := goodIn_r _ [207, 158, 918, 919, 920, 921, 922, 923, 924, 925, 926, 927, 928, 929, 930, 931, 932, 933, 934, 935, 936, 937, 938, 939, 940, 941, 942, 943, 944, 945, 946, 947, 948, 949, 950, 951, 952, 953] (by decide +kernel) (by decide +kernel)
set_option maxRecDepth 20000 in
theorem g2L_law_X8_thrown : GoodIn ws2L_law (wsV RL 62 RX8 yX8_thrown wsX8_thrown) := goodIn_app (goodIn_of _ (by decide +kernel)) gg2L_law_X8_thrown
set_option maxRecDepth 20000 in
theorem gg2L_law_X7_feed : GoodIn ws2L_law wsX7_feed := goodIn_r _ [211, 23, 212, 213, 214, 215, 22, 216, 62, 61, 906, 907, 908, 909, 910, 911, 912, 913, 914, 915, 916, 917, 960, 961, 962, 963, 964, 965, 966, 967, 968] (by decide +kernel) (by decide +kernel)
set_option maxRecDepth 20000 in
theorem g2L_law_X7_feed : GoodIn ws2L_law (wsV RL 65 RX7 yX7_feed wsX7_feed) := goodIn_app (goodIn_of _ (by decide +kernel)) gg2L_law_X7_feed
set_option maxRecDepth 20000 in
theorem gg2L_law_X8_feed : GoodIn ws2L_law wsX8_feed := goodIn_r _ [220, 158, 221, 126, 918, 919, 920, 921, 922, 923, 924, 925, 926, 927, 928, 929, 930, 931, 932, 933, 934, 935, 936, 937, 938, 939, 940, 941, 942, 943, 944, 945, 946, 947, 948, 949, 950, 951, 952, 953] (by decide +kernel) (by decide +kernel)
set_option maxRecDepth 20000 in
theorem g2L_law_X8_feed : GoodIn ws2L_law (wsV RL 68 RX8 yX8_feed wsX8_feed) := goodIn_app (goodIn_of _ (by decide +kernel)) gg2L_law_X8_feed
set_option maxRecDepth 20000 in
theorem gg2L_law_X7_end : GoodIn ws2L_law wsX7_end := goodIn_r _ [225, 23, 212, 906, 907, 908, 909, 910, 911, 912, 913, 914, 915, 916, 917, 960, 961, 962, 963, 964, 965, 966, 967, 968] (by decide +kernel) (by decide +kernel)
set_option maxRecDepth 20000 in
theorem g2L_law_X7_end : GoodIn ws2L_law (wsV RL 69 RX7 yX7_end wsX7_end) := goodIn_app (goodIn_of _ (by decide +kernel)) gg2L_law_X7_end
set_option maxRecDepth 20000 in
theorem gg2L_law_X8_end : GoodIn ws2L_law wsX8_end := goodIn_r _ [229, 158, 221, 161, 162, 5, 163, 918, 919, 920, 921, 922, 923, 924, 925, 926, 927, 928, 929, 930, 931, 932, 933, 934, 935, 936, 937, 938, 939, 940, 941, 942, 943, 944, 945, 946, 947, 948, 949, 950, 951, 952, 953] (by decide +kernel) (by decide +kernel)
set_option maxRecDepth 20000 in
theorem g2L_law_X8_end : GoodIn ws2L_law (wsV RL 72 RX8 yX8_end wsX8_end) := goodIn_app (goodIn_of _ (by decide +kernel)) gg2L_law_X8_end
set_option maxRecDepth 20000 in
theorem gg2L_law_X7_load : GoodIn ws2L_law wsX7_load := goodIn_r _ [233, 28, 234, 23, 212, 235, 27, 236, 237, 238, 22, 239, 63, 64, 67, 240, 241, 242, 243, 62, 61, 66, 65, 244, 245, 246, 247, 248, 249, 250, 251, 252, 253, 254, 255, 256, 257, 258, 259, 260, 261, 262, 263, 264, 265, 266, 267, 268, 269, 270, 271, 272, 273, 274, 275, 276, 277, 278, 279, 280, 281, 282, 283, 284, 285, 286, 287, 288, 289, 290, 291, 292, 293, 294, 295, 296, 297, 298, 299, 300, 301, 302, 303, 304, 305, 306, 307, 308, 309, 310, 311, 312, 313, 314, 315, 316, 68, 317, 318, 319, 320, 321, 322, 323, 324, 325, 326, 327, 328, 329, 330, 331, 332, 333, 69, 334, 335, 336, 337, 338, 339, 340, 341, 342, 343, 344, 345, 26, 346, 74, 75, 76, 77, 78, 906, 907, 908, 909, 910, 911, 912, 913, 914, 915, 916, 917, 969, 970, 971, 972, 973, 974, 960, 961, 962, 963, 964, 965, 966, 967, 968, 954, 955, 956, 957, 958, 959] (by decide +kernel) (by decide +kernel)
set_option maxRecDepth 20000 in
theorem g2L_law_X7_load : GoodIn ws2L_law (wsV RL 73 RX7 yX7_load wsX7_load) := goodIn_app (goodIn_of _ (by decide +kernel)) gg2L_law_X7_load
set_option maxRecDepth 20000 in
theorem gg2L_law_X8_load : GoodIn ws2L_law wsX8_load := goodIn_r _ [350, 158, 351, 352, 353, 354, 355, 127, 221, 356, 124, 125, 357, 358, 359, 5, 360, 361, 362, 363, 364, 365, 366, 126, 367, 368, 369, 161, 162, 163, 370, 371, 372, 373, 374, 375, 376, 377, 378, 379, 380, 381, 382, 383, 384, 385, 386, 387, 388, 389, 390, 391, 392, 393, 394, 395, 159, 918, 919, 920, 921, 922, 923, 924, 925, 926, 927, 928, 929, 930, 931, 932, 933, 934, 935, 936, 937, 938, 939, 940, 941, 942, 943, 944, 945, 946, 947, 948, 949, 950, 951, 952, 953] (by decide +kernel) (by decide +kernel)
set_option maxRecDepth 20000 in
theorem g2L_law_X8_load : GoodIn ws2L_law (wsV RL 76 RX8 yX8_load wsX8_load) := goodIn_app (goodIn_of _ (by decide +kernel)) gg2L_law_X8_load
