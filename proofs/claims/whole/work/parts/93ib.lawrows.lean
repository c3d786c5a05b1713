set_option maxRecDepth 20000 in
theorem gg2L_law_X7_fault : GoodIn ws2L_law wsX7_fault := goodIn_r _ [399, 23, 235, 400, 906, 907, 908, 909, 910, 911, 912, 913, 914, 915, 916, 917, 960, 961, 962, 963, 964, 965, 966, 967, 968] (by decide +kernel) (by decide +kernel)
set_option maxRecDepth 20000 in
theorem g2L_law_X7_fault : GoodIn ws2L_law (wsV RL 77 RX7 yX7_fault wsX7_fault) := goodIn_app (goodIn_of _ (by decide +kernel)) gg2L_law_X7_fault
set_option maxRecDepth 20000 in
theorem gg2L_law_X8_fault : GoodIn ws2L_law wsX8_fault := goodIn_r _ [404, 158, 354, 127, 918, 919, 920, 921, 922, 923, 924, 925, 926, 927, 928, 929, 930, 931, 932, 933, 934, 935, 936, 937, 938, 939, 940, 941, 942, 943, 944, 945, 946, 947, 948, 949, 950, 951, 952, 953] (by decide +kernel) (by decide +kernel)
set_option maxRecDepth 20000 in
theorem g2L_law_X8_fault : GoodIn ws2L_law (wsV RL 80 RX8 yX8_fault wsX8_fault) := goodIn_app (goodIn_of _ (by decide +kernel)) gg2L_law_X8_fault
set_option maxRecDepth 20000 in
theorem gg2L_law_X7_look : GoodIn ws2L_law wsX7_look := goodIn_r _ [408, 16, 146, 27, 234, 40, 409, 410, 46, 906, 907, 908, 909, 910, 911, 912, 913, 914, 915, 916, 917, 954, 955, 956, 957, 958, 959, 969, 970, 971, 972, 973, 974, 986, 987, 988, 989] (by decide +kernel) (by decide +kernel)
set_option maxRecDepth 20000 in
theorem g2L_law_X7_look : GoodIn ws2L_law (wsV RL 81 RX7 yX7_look wsX7_look) := goodIn_app (goodIn_of _ (by decide +kernel)) gg2L_law_X7_look
set_option maxRecDepth 20000 in
theorem gg2L_law_X8_look : GoodIn ws2L_law wsX8_look := goodIn_r _ [414, 158, 159, 356, 130, 131, 160, 918, 919, 920, 921, 922, 923, 924, 925, 926, 927, 928, 929, 930, 931, 932, 933, 934, 935, 936, 937, 938, 939, 940, 941, 942, 943, 944, 945, 946, 947, 948, 949, 950, 951, 952, 953] (by decide +kernel) (by decide +kernel)
set_option maxRecDepth 20000 in
theorem g2L_law_X8_look : GoodIn ws2L_law (wsV RL 84 RX8 yX8_look wsX8_look) := goodIn_app (goodIn_of _ (by decide +kernel)) gg2L_law_X8_look
set_option maxRecDepth 20000 in
theorem gg2L_law_X7_lay : GoodIn ws2L_law wsX7_lay := goodIn_r _ [418, 16, 146, 18, 46, 906, 907, 908, 909, 910, 911, 912, 913, 914, 915, 916, 917, 954, 955, 956, 957, 958, 959] (by decide +kernel) (by decide +kernel)
set_option maxRecDepth 20000 in
theorem g2L_law_X7_lay : GoodIn ws2L_law (wsV RL 85 RX7 yX7_lay wsX7_lay) := goodIn_app (goodIn_of _ (by decide +kernel)) gg2L_law_X7_lay
set_option maxRecDepth 20000 in
theorem gg2L_law_X8_lay : GoodIn ws2L_law wsX8_lay := goodIn_r _ [422, 158, 159, 123, 160, 918, 919, 920, 921, 922, 923, 924, 925, 926, 927, 928, 929, 930, 931, 932, 933, 934, 935, 936, 937, 938, 939, 940, 941, 942, 943, 944, 945, 946, 947, 948, 949, 950, 951, 952, 953] (by decide +kernel) (by decide +kernel)
set_option maxRecDepth 20000 in
theorem g2L_law_X8_lay : GoodIn ws2L_law (wsV RL 88 RX8 yX8_lay wsX8_lay) := goodIn_app (goodIn_of _ (by decide +kernel)) gg2L_law_X8_lay
set_option maxRecDepth 20000 in
theorem gg2L_law_X7_place : GoodIn ws2L_law wsX7_place := goodIn_r _ [426, 16, 18, 184, 185, 186, 15, 187, 50, 906, 907, 908, 909, 910, 911, 912, 913, 914, 915, 916, 917, 954, 955, 956, 957, 958, 959] (by decide +kernel) (by decide +kernel)
set_option maxRecDepth 20000 in
theorem g2L_law_X7_place : GoodIn ws2L_law (wsV RL 89 RX7 yX7_place wsX7_place) := goodIn_app (goodIn_of _ (by decide +kernel)) gg2L_law_X7_place
set_option maxRecDepth 20000 in
theorem gg2L_law_X8_place : GoodIn ws2L_law wsX8_place := goodIn_r _ [430, 158, 159, 123, 161, 162, 5, 163, 918, 919, 920, 921, 922, 923, 924, 925, 926, 927, 928, 929, 930, 931, 932, 933, 934, 935, 936, 937, 938, 939, 940, 941, 942, 943, 944, 945, 946, 947, 948, 949, 950, 951, 952, 953] (by decide +kernel) (by decide +kernel)
set_option maxRecDepth 20000 in
theorem g2L_law_X8_place : GoodIn ws2L_law (wsV RL 92 RX8 yX8_place wsX8_place) := goodIn_app (goodIn_of _ (by decide +kernel)) gg2L_law_X8_place
set_option maxRecDepth 20000 in
theorem gg2L_law_X7_orders : GoodIn ws2L_law wsX7_orders := goodIn_r _ [434, 32, 27, 435, 436, 437, 438, 31, 439, 87, 88, 91, 440, 86, 89, 85, 90, 441, 442, 443, 26, 444, 74, 75, 76, 445, 446, 447, 448, 79, 449, 450, 451, 452, 453, 454, 455, 456, 457, 458, 459, 460, 461, 462, 463, 464, 465, 78, 77, 466, 467, 468, 469, 15, 470, 51, 53, 55, 471, 472, 473, 474, 84, 475, 476, 477, 478, 479, 480, 481, 482, 483, 484, 485, 486, 906, 907, 908, 909, 910, 911, 912, 913, 914, 915, 916, 917, 975, 976, 977, 978, 979, 980, 981, 982, 954, 955, 956, 957, 958, 959, 969, 970, 971, 972, 973, 974] (by decide +kernel) (by decide +kernel)
set_option maxRecDepth 20000 in
theorem g2L_law_X7_orders : GoodIn ws2L_law (wsV RL 93 RX7 yX7_orders wsX7_orders) := goodIn_app (goodIn_of _ (by decide +kernel)) gg2L_law_X7_orders
set_option maxRecDepth 20000 in
theorem gg2L_law_X8_orders : GoodIn ws2L_law wsX8_orders := goodIn_r _ [490, 158, 491, 492, 493, 5, 494, 159, 128, 495, 496, 497, 498, 356, 124, 499, 500, 501, 502, 503, 504, 200, 201, 202, 203, 122, 505, 506, 507, 508, 509, 510, 511, 512, 513, 514, 515, 516, 918, 919, 920, 921, 922, 923, 924, 925, 926, 927, 928, 929, 930, 931, 932, 933, 934, 935, 936, 937, 938, 939, 940, 941, 942, 943, 944, 945, 946, 947, 948, 949, 950, 951, 952, 953] (by decide +kernel) (by decide +kernel)
set_option maxRecDepth 20000 in
theorem g2L_law_X8_orders : GoodIn ws2L_law (wsV RL 96 RX8 yX8_orders wsX8_orders) := goodIn_app (goodIn_of _ (by decide +kernel)) gg2L_law_X8_orders
set_option maxRecDepth 20000 in
theorem gg2L_law_X7_pick : GoodIn ws2L_law wsX7_pick := goodIn_r _ [520, 435, 32, 27, 521, 436, 437, 438, 31, 439, 87, 88, 91, 440, 86, 89, 85, 90, 441, 442, 443, 26, 444, 74, 75, 76, 445, 446, 447, 448, 79, 449, 450, 451, 452, 453, 454, 455, 456, 457, 458, 459, 460, 461, 462, 463, 464, 465, 78, 77, 466, 467, 468, 469, 15, 470, 51, 53, 55, 471, 472, 473, 474, 84, 475, 476, 477, 478, 479, 480, 481, 482, 483, 484, 485, 486, 522, 523, 524, 2, 525, 18, 526, 527, 528, 529, 46, 906, 907, 908, 909, 910, 911, 912, 913, 914, 915, 916, 917, 975, 976, 977, 978, 979, 980, 981, 982, 954, 955, 956, 957, 958, 959, 969, 970, 971, 972, 973, 974] (by decide +kernel) (by decide +kernel)
set_option maxRecDepth 20000 in
theorem g2L_law_X7_pick : GoodIn ws2L_law (wsV RL 97 RX7 yX7_pick wsX7_pick) := goodIn_app (goodIn_of _ (by decide +kernel)) gg2L_law_X7_pick
set_option maxRecDepth 20000 in
theorem gg2L_law_X8_pick : GoodIn ws2L_law wsX8_pick := goodIn_r _ [533, 158, 491, 492, 493, 5, 494, 159, 128, 495, 496, 497, 498, 356, 124, 499, 500, 501, 502, 503, 504, 200, 201, 202, 203, 122, 505, 506, 507, 508, 509, 510, 511, 512, 534, 535, 536, 537, 123, 160, 513, 514, 515, 516, 918, 919, 920, 921, 922, 923, 924, 925, 926, 927, 928, 929, 930, 931, 932, 933, 934, 935, 936, 937, 938, 939, 940, 941, 942, 943, 944, 945, 946, 947, 948, 949, 950, 951, 952, 953] (by decide +kernel) (by decide +kernel)
set_option maxRecDepth 20000 in
theorem g2L_law_X8_pick : GoodIn ws2L_law (wsV RL 100 RX8 yX8_pick wsX8_pick) := goodIn_app (goodIn_of _ (by decide +kernel)) gg2L_law_X8_pick
set_option maxRecDepth 20000 in
theorem gg2L_law_X7_rank : GoodIn ws2L_law wsX7_rank := goodIn_r _ [541, 32, 27, 435, 521, 436, 437, 438, 31, 439, 87, 88, 91, 440, 86, 89, 85, 90, 441, 442, 443, 26, 444, 74, 75, 76, 445, 446, 447, 448, 79, 449, 450, 451, 452, 453, 454, 455, 456, 457, 458, 459, 460, 461, 462, 463, 464, 465, 78, 77, 466, 467, 468, 469, 15, 470, 51, 53, 55, 471, 472, 473, 474, 84, 475, 476, 477, 478, 479, 480, 481, 482, 483, 484, 485, 486, 542, 543, 544, 2, 545, 16, 146, 18, 906, 907, 908, 909, 910, 911, 912, 913, 914, 915, 916, 917, 975, 976, 977, 978, 979, 980, 981, 982, 954, 955, 956, 957, 958, 959, 969, 970, 971, 972, 973, 974] (by decide +kernel) (by decide +kernel)
set_option maxRecDepth 20000 in
theorem g2L_law_X7_rank : GoodIn ws2L_law (wsV RL 101 RX7 yX7_rank wsX7_rank) := goodIn_app (goodIn_of _ (by decide +kernel)) gg2L_law_X7_rank
