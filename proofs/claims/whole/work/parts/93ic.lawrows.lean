set_option maxRecDepth 20000 in
theorem gg2L_law_X8_rank : GoodIn ws2L_law wsX8_rank := goodIn_r _ [545, 158, 487, 488, 489, 5, 490, 159, 128, 491, 492, 493, 494, 352, 124, 495, 496, 497, 498, 499, 500, 200, 201, 202, 203, 122, 501, 502, 503, 504, 505, 506, 507, 508, 546, 547, 548, 549, 123, 509, 510, 511, 512, 915, 916, 917, 918, 919, 920, 921, 922, 923, 924, 925, 926, 927, 928, 929, 930, 931, 932, 933, 934, 935, 936, 937, 938, 939, 940, 941, 942, 943, 944, 945, 946, 947, 948, 949, 950] (by decide +kernel) (by decide +kernel)
set_option maxRecDepth 20000 in
theorem g2L_law_X8_rank : GoodIn ws2L_law (wsV RL 104 RX8 yX8_rank wsX8_rank) := goodIn_app (goodIn_of _ (by decide +kernel)) gg2L_law_X8_rank
set_option maxRecDepth 20000 in
theorem gg2L_law_X7_best : GoodIn ws2L_law wsX7_best := goodIn_r _ [553, 32, 27, 431, 16, 517, 19, 522, 523, 524, 525, 432, 433, 434, 31, 435, 87, 88, 91, 436, 86, 89, 85, 90, 437, 438, 439, 26, 440, 74, 75, 76, 441, 442, 443, 444, 79, 445, 446, 447, 448, 449, 450, 451, 452, 453, 454, 455, 456, 457, 458, 459, 460, 461, 78, 77, 462, 463, 464, 465, 15, 466, 51, 53, 55, 467, 468, 469, 470, 84, 471, 472, 473, 474, 475, 476, 477, 478, 479, 480, 481, 482, 554, 555, 556, 557, 50, 518, 519, 520, 2, 521, 18, 46, 903, 904, 905, 906, 907, 908, 909, 910, 911, 912, 913, 914, 972, 973, 974, 975, 976, 977, 978, 979, 951, 952, 953, 954, 955, 956, 966, 967, 968, 969, 970, 971] (by decide +kernel) (by decide +kernel)
set_option maxRecDepth 20000 in
theorem g2L_law_X7_best : GoodIn ws2L_law (wsV RL 105 RX7 yX7_best wsX7_best) := goodIn_app (goodIn_of _ (by decide +kernel)) gg2L_law_X7_best
set_option maxRecDepth 20000 in
theorem gg2L_law_X8_best : GoodIn ws2L_law wsX8_best := goodIn_r _ [561, 158, 159, 129, 128, 487, 488, 489, 5, 490, 562, 563, 564, 565, 200, 201, 202, 203, 122, 491, 492, 493, 494, 352, 124, 495, 496, 497, 498, 499, 500, 501, 502, 503, 504, 505, 506, 507, 508, 509, 510, 511, 512, 530, 531, 532, 533, 123, 160, 915, 916, 917, 918, 919, 920, 921, 922, 923, 924, 925, 926, 927, 928, 929, 930, 931, 932, 933, 934, 935, 936, 937, 938, 939, 940, 941, 942, 943, 944, 945, 946, 947, 948, 949, 950] (by decide +kernel) (by decide +kernel)
set_option maxRecDepth 20000 in
theorem g2L_law_X8_best : GoodIn ws2L_law (wsV RL 108 RX8 yX8_best wsX8_best) := goodIn_app (goodIn_of _ (by decide +kernel)) gg2L_law_X8_best
set_option maxRecDepth 20000 in
theorem gg2L_law_X7_noise : GoodIn ws2L_law wsX7_noise := goodIn_r _ [569, 16, 18, 554, 555, 556, 15, 557, 50, 53, 903, 904, 905, 906, 907, 908, 909, 910, 911, 912, 913, 914, 951, 952, 953, 954, 955, 956] (by decide +kernel) (by decide +kernel)
set_option maxRecDepth 20000 in
theorem g2L_law_X7_noise : GoodIn ws2L_law (wsV RL 109 RX7 yX7_noise wsX7_noise) := goodIn_app (goodIn_of _ (by decide +kernel)) gg2L_law_X7_noise
set_option maxRecDepth 20000 in
theorem gg2L_law_X8_noise : GoodIn ws2L_law wsX8_noise := goodIn_r _ [573, 158, 574, 575, 576, 5, 577, 159, 128, 123, 562, 563, 564, 565, 200, 201, 202, 203, 122, 915, 916, 917, 918, 919, 920, 921, 922, 923, 924, 925, 926, 927, 928, 929, 930, 931, 932, 933, 934, 935, 936, 937, 938, 939, 940, 941, 942, 943, 944, 945, 946, 947, 948, 949, 950] (by decide +kernel) (by decide +kernel)
set_option maxRecDepth 20000 in
theorem g2L_law_X8_noise : GoodIn ws2L_law (wsV RL 112 RX8 yX8_noise wsX8_noise) := goodIn_app (goodIn_of _ (by decide +kernel)) gg2L_law_X8_noise
set_option maxRecDepth 20000 in
theorem gg2L_law_X7_why : GoodIn ws2L_law wsX7_why := goodIn_r _ [581, 36, 27, 16, 18, 582, 583, 584, 585, 586, 587, 35, 588, 589, 95, 590, 591, 592, 593, 594, 595, 96, 97, 596, 455, 456, 26, 457, 74, 597, 598, 599, 600, 601, 602, 442, 443, 444, 79, 445, 603, 604, 605, 606, 607, 459, 460, 461, 75, 78, 76, 77, 462, 441, 463, 464, 465, 15, 466, 51, 53, 55, 903, 904, 905, 906, 907, 908, 909, 910, 911, 912, 913, 914, 980, 981, 982, 966, 967, 968, 969, 970, 971, 951, 952, 953, 954, 955, 956] (by decide +kernel) (by decide +kernel)
set_option maxRecDepth 20000 in
theorem g2L_law_X7_why : GoodIn ws2L_law (wsV RL 113 RX7 yX7_why wsX7_why) := goodIn_app (goodIn_of _ (by decide +kernel)) gg2L_law_X7_why
set_option maxRecDepth 20000 in
theorem gg2L_law_X8_why : GoodIn ws2L_law wsX8_why := goodIn_r _ [611, 158, 495, 496, 574, 575, 576, 5, 577, 159, 128, 123, 491, 492, 493, 494, 352, 124, 497, 498, 499, 500, 200, 201, 202, 203, 122, 501, 502, 503, 504, 505, 506, 507, 508, 161, 162, 163, 915, 916, 917, 918, 919, 920, 921, 922, 923, 924, 925, 926, 927, 928, 929, 930, 931, 932, 933, 934, 935, 936, 937, 938, 939, 940, 941, 942, 943, 944, 945, 946, 947, 948, 949, 950] (by decide +kernel) (by decide +kernel)
set_option maxRecDepth 20000 in
theorem g2L_law_X8_why : GoodIn ws2L_law (wsV RL 116 RX8 yX8_why wsX8_why) := goodIn_app (goodIn_of _ (by decide +kernel)) gg2L_law_X8_why
set_option maxRecDepth 20000 in
theorem gg2L_law_X7_road : GoodIn ws2L_law wsX7_road := goodIn_r _ [615, 40, 46, 616, 617, 618, 39, 619, 101, 102, 103, 104, 903, 904, 905, 906, 907, 908, 909, 910, 911, 912, 913, 914, 983, 984, 985, 986] (by decide +kernel) (by decide +kernel)
set_option maxRecDepth 20000 in
theorem g2L_law_X7_road : GoodIn ws2L_law (wsV RL 117 RX7 yX7_road wsX7_road) := goodIn_app (goodIn_of _ (by decide +kernel)) gg2L_law_X7_road
set_option maxRecDepth 20000 in
theorem gg2L_law_X8_road : GoodIn ws2L_law wsX8_road := goodIn_r _ [623, 158, 130, 131, 132, 133, 160, 161, 162, 5, 163, 915, 916, 917, 918, 919, 920, 921, 922, 923, 924, 925, 926, 927, 928, 929, 930, 931, 932, 933, 934, 935, 936, 937, 938, 939, 940, 941, 942, 943, 944, 945, 946, 947, 948, 949, 950] (by decide +kernel) (by decide +kernel)
set_option maxRecDepth 20000 in
theorem g2L_law_X8_road : GoodIn ws2L_law (wsV RL 121 RX8 yX8_road wsX8_road) := goodIn_app (goodIn_of _ (by decide +kernel)) gg2L_law_X8_road
set_option maxRecDepth 20000 in
theorem gg2L_law_X7_wire : GoodIn ws2L_law wsX7_wire := goodIn_r _ [627, 40, 628, 46, 629, 630, 631, 39, 632, 101, 903, 904, 905, 906, 907, 908, 909, 910, 911, 912, 913, 914, 983, 984, 985, 986] (by decide +kernel) (by decide +kernel)
set_option maxRecDepth 20000 in
theorem g2L_law_X7_wire : GoodIn ws2L_law (wsV RL 122 RX7 yX7_wire wsX7_wire) := goodIn_app (goodIn_of _ (by decide +kernel)) gg2L_law_X7_wire
set_option maxRecDepth 20000 in
theorem gg2L_law_X8_wire : GoodIn ws2L_law wsX8_wire := goodIn_r _ [636, 158, 132, 160, 637, 638, 639, 5, 640, 130, 161, 162, 163, 915, 916, 917, 918, 919, 920, 921, 922, 923, 924, 925, 926, 927, 928, 929, 930, 931, 932, 933, 934, 935, 936, 937, 938, 939, 940, 941, 942, 943, 944, 945, 946, 947, 948, 949, 950] (by decide +kernel) (by decide +kernel)
set_option maxRecDepth 20000 in
theorem g2L_law_X8_wire : GoodIn ws2L_law (wsV RL 125 RX8 yX8_wire wsX8_wire) := goodIn_app (goodIn_of _ (by decide +kernel)) gg2L_law_X8_wire
set_option maxRecDepth 20000 in
theorem gg2L_law_X7_stand : GoodIn ws2L_law wsX7_stand := goodIn_r _ [644, 40, 645, 46, 629, 630, 631, 39, 632, 101, 903, 904, 905, 906, 907, 908, 909, 910, 911, 912, 913, 914, 983, 984, 985, 986] (by decide +kernel) (by decide +kernel)
set_option maxRecDepth 20000 in
theorem g2L_law_X7_stand : GoodIn ws2L_law (wsV RL 126 RX7 yX7_stand wsX7_stand) := goodIn_app (goodIn_of _ (by decide +kernel)) gg2L_law_X7_stand
set_option maxRecDepth 20000 in
theorem gg2L_law_X8_stand : GoodIn ws2L_law wsX8_stand := goodIn_r _ [649, 158, 133, 160, 637, 638, 639, 5, 640, 130, 161, 162, 163, 915, 916, 917, 918, 919, 920, 921, 922, 923, 924, 925, 926, 927, 928, 929, 930, 931, 932, 933, 934, 935, 936, 937, 938, 939, 940, 941, 942, 943, 944, 945, 946, 947, 948, 949, 950] (by decide +kernel) (by decide +kernel)
set_option maxRecDepth 20000 in
theorem g2L_law_X8_stand : GoodIn ws2L_law (wsV RL 129 RX8 yX8_stand wsX8_stand) := goodIn_app (goodIn_of _ (by decide +kernel)) gg2L_law_X8_stand
