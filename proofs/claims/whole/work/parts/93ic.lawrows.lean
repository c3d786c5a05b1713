set_option maxRecDepth 20000 in
theorem gg2L_law_X8_rank : GoodIn ws2L_law wsX8_rank := goodIn_r _ [549, 158, 491, 492, 493, 5, 494, 159, 128, 495, 496, 497, 498, 356, 124, 499, 500, 501, 502, 503, 504, 200, 201, 202, 203, 122, 505, 506, 507, 508, 509, 510, 511, 512, 550, 551, 552, 553, 123, 513, 514, 515, 516, 918, 919, 920, 921, 922, 923, 924, 925, 926, 927, 928, 929, 930, 931, 932, 933, 934, 935, 936, 937, 938, 939, 940, 941, 942, 943, 944, 945, 946, 947, 948, 949, 950, 951, 952, 953] (by decide +kernel) (by decide +kernel)
set_option maxRecDepth 20000 in
theorem g2L_law_X8_rank : GoodIn ws2L_law (wsV RL 104 RX8 yX8_rank wsX8_rank) := goodIn_app (goodIn_of _ (by decide +kernel)) gg2L_law_X8_rank
set_option maxRecDepth 20000 in
theorem gg2L_law_X7_best : GoodIn ws2L_law wsX7_best := goodIn_r _ [557, 32, 27, 435, 16, 521, 19, 526, 527, 528, 529, 436, 437, 438, 31, 439, 87, 88, 91, 440, 86, 89, 85, 90, 441, 442, 443, 26, 444, 74, 75, 76, 445, 446, 447, 448, 79, 449, 450, 451, 452, 453, 454, 455, 456, 457, 458, 459, 460, 461, 462, 463, 464, 465, 78, 77, 466, 467, 468, 469, 15, 470, 51, 53, 55, 471, 472, 473, 474, 84, 475, 476, 477, 478, 479, 480, 481, 482, 483, 484, 485, 486, 558, 559, 560, 561, 50, 522, 523, 524, 2, 525, 18, 46, 906, 907, 908, 909, 910, 911, 912, 913, 914, 915, 916, 917, 975, 976, 977, 978, 979, 980, 981, 982, 954, 955, 956, 957, 958, 959, 969, 970, 971, 972, 973, 974] (by decide +kernel) (by decide +kernel)
set_option maxRecDepth 20000 in
theorem g2L_law_X7_best : GoodIn ws2L_law (wsV RL 105 RX7 yX7_best wsX7_best) := goodIn_app (goodIn_of _ (by decide +kernel)) gg2L_law_X7_best
set_option maxRecDepth 20000 in
theorem gg2L_law_X8_best : GoodIn ws2L_law wsX8_best := goodIn_r _ [565, 158, 159, 129, 128, 491, 492, 493, 5, 494, 566, 567, 568, 569, 200, 201, 202, 203, 122, 495, 496, 497, 498, 356, 124, 499, 500, 501, 502, 503, 504, 505, 506, 507, 508, 509, 510, 511, 512, 513, 514, 515, 516, 534, 535, 536, 537, 123, 160, 918, 919, 920, 921, 922, 923, 924, 925, 926, 927, 928, 929, 930, 931, 932, 933, 934, 935, 936, 937, 938, 939, 940, 941, 942, 943, 944, 945, 946, 947, 948, 949, 950, 951, 952, 953] (by decide +kernel) (by decide +kernel)
set_option maxRecDepth 20000 in
theorem g2L_law_X8_best : GoodIn ws2L_law (wsV RL 108 RX8 yX8_best wsX8_best) := goodIn_app (goodIn_of _ (by decide +kernel)) gg2L_law_X8_best
set_option maxRecDepth 20000 in
theorem gg2L_law_X7_noise : GoodIn ws2L_law wsX7_noise := goodIn_r _ [573, 16, 18, 558, 559, 560, 15, 561, 50, 53, 906, 907, 908, 909, 910, 911, 912, 913, 914, 915, 916, 917, 954, 955, 956, 957, 958, 959] (by decide +kernel) (by decide +kernel)
set_option maxRecDepth 20000 in
theorem g2L_law_X7_noise : GoodIn ws2L_law (wsV RL 109 RX7 yX7_noise wsX7_noise) := goodIn_app (goodIn_of _ (by decide +kernel)) gg2L_law_X7_noise
set_option maxRecDepth 20000 in
theorem gg2L_law_X8_noise : GoodIn ws2L_law wsX8_noise := goodIn_r _ [577, 158, 578, 579, 580, 5, 581, 159, 128, 123, 566, 567, 568, 569, 200, 201, 202, 203, 122, 918, 919, 920, 921, 922, 923, 924, 925, 926, 927, 928, 929, 930, 931, 932, 933, 934, 935, 936, 937, 938, 939, 940, 941, 942, 943, 944, 945, 946, 947, 948, 949, 950, 951, 952, 953] (by decide +kernel) (by decide +kernel)
set_option maxRecDepth 20000 in
theorem g2L_law_X8_noise : GoodIn ws2L_law (wsV RL 112 RX8 yX8_noise wsX8_noise) := goodIn_app (goodIn_of _ (by decide +kernel)) gg2L_law_X8_noise
set_option maxRecDepth 20000 in
theorem gg2L_law_X7_why : GoodIn ws2L_law wsX7_why := goodIn_r _ [585, 36, 27, 16, 18, 586, 587, 588, 589, 590, 591, 35, 592, 593, 95, 594, 595, 596, 597, 598, 599, 96, 97, 600, 459, 460, 26, 461, 74, 601, 602, 603, 604, 605, 606, 446, 447, 448, 79, 449, 607, 608, 609, 610, 611, 463, 464, 465, 75, 78, 76, 77, 466, 445, 467, 468, 469, 15, 470, 51, 53, 55, 906, 907, 908, 909, 910, 911, 912, 913, 914, 915, 916, 917, 983, 984, 985, 969, 970, 971, 972, 973, 974, 954, 955, 956, 957, 958, 959] (by decide +kernel) (by decide +kernel)
set_option maxRecDepth 20000 in
theorem g2L_law_X7_why : GoodIn ws2L_law (wsV RL 113 RX7 yX7_why wsX7_why) := goodIn_app (goodIn_of _ (by decide +kernel)) gg2L_law_X7_why
set_option maxRecDepth 20000 in
theorem gg2L_law_X8_why : GoodIn ws2L_law wsX8_why := goodIn_r _ [615, 158, 499, 500, 578, 579, 580, 5, 581, 159, 128, 123, 495, 496, 497, 498, 356, 124, 501, 502, 503, 504, 200, 201, 202, 203, 122, 505, 506, 507, 508, 509, 510, 511, 512, 161, 162, 163, 918, 919, 920, 921, 922, 923, 924, 925, 926, 927, 928, 929, 930, 931, 932, 933, 934, 935, 936, 937, 938, 939, 940, 941, 942, 943, 944, 945, 946, 947, 948, 949, 950, 951, 952, 953] (by decide +kernel) (by decide +kernel)
set_option maxRecDepth 20000 in
theorem g2L_law_X8_why : GoodIn ws2L_law (wsV RL 116 RX8 yX8_why wsX8_why) := goodIn_app (goodIn_of _ (by decide +kernel)) gg2L_law_X8_why
set_option maxRecDepth 20000 in
theorem gg2L_law_X7_road : GoodIn ws2L_law wsX7_road := goodIn_r _ [619, 40, 46, 620, 621, 622, 39, 623, 101, 102, 103, 104, 906, 907, 908, 909, 910, 911, 912, 913, 914, 915, 916, 917, 986, 987, 988, 989] (by decide +kernel) (by decide +kernel)
set_option maxRecDepth 20000 in
theorem g2L_law_X7_road : GoodIn ws2L_law (wsV RL 117 RX7 yX7_road wsX7_road) := goodIn_app (goodIn_of _ (by decide +kernel)) gg2L_law_X7_road
set_option maxRecDepth 20000 in
theorem gg2L_law_X8_road : GoodIn ws2L_law wsX8_road := goodIn_r _ [627, 158, 130, 131, 132, 133, 160, 161, 162, 5, 163, 918, 919, 920, 921, 922, 923, 924, 925, 926, 927, 928, 929, 930, 931, 932, 933, 934, 935, 936, 937, 938, 939, 940, 941, 942, 943, 944, 945, 946, 947, 948, 949, 950, 951, 952, 953] (by decide +kernel) (by decide +kernel)
set_option maxRecDepth 20000 in
theorem g2L_law_X8_road : GoodIn ws2L_law (wsV RL 121 RX8 yX8_road wsX8_road) := goodIn_app (goodIn_of _ (by decide +kernel)) gg2L_law_X8_road
set_option maxRecDepth 20000 in
theorem gg2L_law_X7_wire : GoodIn ws2L_law wsX7_wire := goodIn_r _ [631, 40, 632, 46, 633, 634, 635, 39, 636, 101, 906, 907, 908, 909, 910, 911, 912, 913, 914, 915, 916, 917, 986, 987, 988, 989] (by decide +kernel) (by decide +kernel)
set_option maxRecDepth 20000 in
theorem g2L_law_X7_wire : GoodIn ws2L_law (wsV RL 122 RX7 yX7_wire wsX7_wire) := goodIn_app (goodIn_of _ (by decide +kernel)) gg2L_law_X7_wire
set_option maxRecDepth 20000 in
theorem gg2L_law_X8_wire : GoodIn ws2L_law wsX8_wire := goodIn_r _ [640, 158, 132, 160, 641, 642, 643, 5, 644, 130, 161, 162, 163, 918, 919, 920, 921, 922, 923, 924, 925, 926, 927, 928, 929, 930, 931, 932, 933, 934, 935, 936, 937, 938, 939, 940, 941, 942, 943, 944, 945, 946, 947, 948, 949, 950, 951, 952, 953] (by decide +kernel) (by decide +kernel)
set_option maxRecDepth 20000 in
theorem g2L_law_X8_wire : GoodIn ws2L_law (wsV RL 125 RX8 yX8_wire wsX8_wire) := goodIn_app (goodIn_of _ (by decide +kernel)) gg2L_law_X8_wire
set_option maxRecDepth 20000 in
theorem gg2L_law_X7_stand : GoodIn ws2L_law wsX7_stand := goodIn_r _ [648, 40, 649, 46, 633, 634, 635, 39, 636, 101, 906, 907, 908, 909, 910, 911, 912, 913, 914, 915, 916, 917, 986, 987, 988, 989] (by decide +kernel) (by decide +kernel)
set_option maxRecDepth 20000 in
theorem g2L_law_X7_stand : GoodIn ws2L_law (wsV RL 126 RX7 yX7_stand wsX7_stand) := goodIn_app (goodIn_of _ (by decide +kernel)) gg2L_law_X7_stand
set_option maxRecDepth 20000 in
theorem gg2L_law_X8_stand : GoodIn ws2L_law wsX8_stand := goodIn_r _ [653, 158, 133, 160, 641, 642, 643, 5, 644, 130, 161, 162, 163, 918, 919, 920, 921, 922, 923, 924, 925, 926, 927, 928, 929, 930, 931, 932, 933, 934, 935, 936, 937, 938, 939, 940, 941, 942, 943, 944, 945, 946, 947, 948, 949, 950, 951, 952, 953] (by decide +kernel) (by decide +kernel)
set_option maxRecDepth 20000 in
theorem g2L_law_X8_stand : GoodIn ws2L_law (wsV RL 129 RX8 yX8_stand wsX8_stand) := goodIn_app (goodIn_of _ (by decide +kernel)) gg2L_law_X8_stand
