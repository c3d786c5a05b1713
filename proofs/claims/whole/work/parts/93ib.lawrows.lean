set_option maxRecDepth 20000 in
theorem gg2L_law_X7_fault : GoodIn ws2L_law wsX7_fault := goodIn_r _ [395, 23, 234, 396, 903, 904, 905, 906, 907, 908, 909, 910, 911, 912, 913, 914, 957, 958, 959, 960, 961, 962, 963, 964, 965] (by decide +kernel) (by decide +kernel)
set_option maxRecDepth 20000 in
theorem g2L_law_X7_fault : GoodIn ws2L_law (wsV RL 77 RX7 yX7_fault wsX7_fault) := goodIn_app (goodIn_of _ (by decide +kernel)) gg2L_law_X7_fault
set_option maxRecDepth 20000 in
theorem gg2L_law_X8_fault : GoodIn ws2L_law wsX8_fault := goodIn_r _ [400, 158, 350, 127, 915, 916, 917, 918, 919, 920, 921, 922, 923, 924, 925, 926, 927, 928, 929, 930, 931, 932, 933, 934, 935, 936, 937, 938, 939, 940, 941, 942, 943, 944, 945, 946, 947, 948, 949, 950] (by decide +kernel) (by decide +kernel)
set_option maxRecDepth 20000 in
theorem g2L_law_X8_fault : GoodIn ws2L_law (wsV RL 80 RX8 yX8_fault wsX8_fault) := goodIn_app (goodIn_of _ (by decide +kernel)) gg2L_law_X8_fault
set_option maxRecDepth 20000 in
theorem gg2L_law_X7_look : GoodIn ws2L_law wsX7_look := goodIn_r _ [404, 16, 146, 27, 235, 40, 405, 406, 46, 903, 904, 905, 906, 907, 908, 909, 910, 911, 912, 913, 914, 951, 952, 953, 954, 955, 956, 966, 967, 968, 969, 970, 971, 983, 984, 985, 986] (by decide +kernel) (by decide +kernel)
set_option maxRecDepth 20000 in
theorem g2L_law_X7_look : GoodIn ws2L_law (wsV RL 81 RX7 yX7_look wsX7_look) := goodIn_app (goodIn_of _ (by decide +kernel)) gg2L_law_X7_look
set_option maxRecDepth 20000 in
theorem gg2L_law_X8_look : GoodIn ws2L_law wsX8_look := goodIn_r _ [410, 158, 159, 352, 130, 131, 160, 915, 916, 917, 918, 919, 920, 921, 922, 923, 924, 925, 926, 927, 928, 929, 930, 931, 932, 933, 934, 935, 936, 937, 938, 939, 940, 941, 942, 943, 944, 945, 946, 947, 948, 949, 950] (by decide +kernel) (by decide +kernel)
set_option maxRecDepth 20000 in
theorem g2L_law_X8_look : GoodIn ws2L_law (wsV RL 84 RX8 yX8_look wsX8_look) := goodIn_app (goodIn_of _ (by decide +kernel)) gg2L_law_X8_look
set_option maxRecDepth 20000 in
theorem gg2L_law_X7_lay : GoodIn ws2L_law wsX7_lay := goodIn_r _ [414, 16, 146, 18, 46, 903, 904, 905, 906, 907, 908, 909, 910, 911, 912, 913, 914, 951, 952, 953, 954, 955, 956] (by decide +kernel) (by decide +kernel)
set_option maxRecDepth 20000 in
theorem g2L_law_X7_lay : GoodIn ws2L_law (wsV RL 85 RX7 yX7_lay wsX7_lay) := goodIn_app (goodIn_of _ (by decide +kernel)) gg2L_law_X7_lay
set_option maxRecDepth 20000 in
theorem gg2L_law_X8_lay : GoodIn ws2L_law wsX8_lay := goodIn_r _ [418, 158, 159, 123, 160, 915, 916, 917, 918, 919, 920, 921, 922, 923, 924, 925, 926, 927, 928, 929, 930, 931, 932, 933, 934, 935, 936, 937, 938, 939, 940, 941, 942, 943, 944, 945, 946, 947, 948, 949, 950] (by decide +kernel) (by decide +kernel)
set_option maxRecDepth 20000 in
theorem g2L_law_X8_lay : GoodIn ws2L_law (wsV RL 88 RX8 yX8_lay wsX8_lay) := goodIn_app (goodIn_of _ (by decide +kernel)) gg2L_law_X8_lay
set_option maxRecDepth 20000 in
theorem gg2L_law_X7_place : GoodIn ws2L_law wsX7_place := goodIn_r _ [422, 16, 18, 184, 185, 186, 15, 187, 50, 903, 904, 905, 906, 907, 908, 909, 910, 911, 912, 913, 914, 951, 952, 953, 954, 955, 956] (by decide +kernel) (by decide +kernel)
set_option maxRecDepth 20000 in
theorem g2L_law_X7_place : GoodIn ws2L_law (wsV RL 89 RX7 yX7_place wsX7_place) := goodIn_app (goodIn_of _ (by decide +kernel)) gg2L_law_X7_place
set_option maxRecDepth 20000 in
theorem gg2L_law_X8_place : GoodIn ws2L_law wsX8_place := goodIn_r _ [426, 158, 159, 123, 161, 162, 5, 163, 915, 916, 917, 918, 919, 920, 921, 922, 923, 924, 925, 926, 927, 928, 929, 930, 931, 932, 933, 934, 935, 936, 937, 938, 939, 940, 941, 942, 943, 944, 945, 946, 947, 948, 949, 950] (by decide +kernel) (by decide +kernel)
set_option maxRecDepth 20000 in
theorem g2L_law_X8_place : GoodIn ws2L_law (wsV RL 92 RX8 yX8_place wsX8_place) := goodIn_app (goodIn_of _ (by decide +kernel)) gg2L_law_X8_place
set_option maxRecDepth 20000 in
theorem gg2L_law_X7_orders : GoodIn ws2L_law wsX7_orders := goodIn_r _ [430, 32, 27, 431, 432, 433, 434, 31, 435, 87, 88, 91, 436, 86, 89, 85, 90, 437, 438, 439, 26, 440, 74, 75, 76, 441, 442, 443, 444, 79, 445, 446, 447, 448, 449, 450, 451, 452, 453, 454, 455, 456, 457, 458, 459, 460, 461, 78, 77, 462, 463, 464, 465, 15, 466, 51, 53, 55, 467, 468, 469, 470, 84, 471, 472, 473, 474, 475, 476, 477, 478, 479, 480, 481, 482, 903, 904, 905, 906, 907, 908, 909, 910, 911, 912, 913, 914, 972, 973, 974, 975, 976, 977, 978, 979, 951, 952, 953, 954, 955, 956, 966, 967, 968, 969, 970, 971] (by decide +kernel) (by decide +kernel)
set_option maxRecDepth 20000 in
theorem g2L_law_X7_orders : GoodIn ws2L_law (wsV RL 93 RX7 yX7_orders wsX7_orders) := goodIn_app (goodIn_of _ (by decide +kernel)) gg2L_law_X7_orders
set_option maxRecDepth 20000 in
theorem gg2L_law_X8_orders : GoodIn ws2L_law wsX8_orders := goodIn_r _ [486, 158, 487, 488, 489, 5, 490, 159, 128, 491, 492, 493, 494, 352, 124, 495, 496, 497, 498, 499, 500, 200, 201, 202, 203, 122, 501, 502, 503, 504, 505, 506, 507, 508, 509, 510, 511, 512, 915, 916, 917, 918, 919, 920, 921, 922, 923, 924, 925, 926, 927, 928, 929, 930, 931, 932, 933, 934, 935, 936, 937, 938, 939, 940, 941, 942, 943, 944, 945, 946, 947, 948, 949, 950] (by decide +kernel) (by decide +kernel)
set_option maxRecDepth 20000 in
theorem g2L_law_X8_orders : GoodIn ws2L_law (wsV RL 96 RX8 yX8_orders wsX8_orders) := goodIn_app (goodIn_of _ (by decide +kernel)) gg2L_law_X8_orders
set_option maxRecDepth 20000 in
theorem gg2L_law_X7_pick : GoodIn ws2L_law wsX7_pick := goodIn_r _ [516, 431, 32, 27, 517, 432, 433, 434, 31, 435, 87, 88, 91, 436, 86, 89, 85, 90, 437, 438, 439, 26, 440, 74, 75, 76, 441, 442, 443, 444, 79, 445, 446, 447, 448, 449, 450, 451, 452, 453, 454, 455, 456, 457, 458, 459, 460, 461, 78, 77, 462, 463, 464, 465, 15, 466, 51, 53, 55, 467, 468, 469, 470, 84, 471, 472, 473, 474, 475, 476, 477, 478, 479, 480, 481, 482, 518, 519, 520, 2, 521, 18, 522, 523, 524, 525, 46, 903, 904, 905, 906, 907, 908, 909, 910, 911, 912, 913, 914, 972, 973, 974, 975, 976, 977, 978, 979, 951, 952, 953, 954, 955, 956, 966, 967, 968, 969, 970, 971] (by decide +kernel) (by decide +kernel)
set_option maxRecDepth 20000 in
theorem g2L_law_X7_pick : GoodIn ws2L_law (wsV RL 97 RX7 yX7_pick wsX7_pick) := goodIn_app (goodIn_of _ (by decide +kernel)) gg2L_law_X7_pick
set_option maxRecDepth 20000 in
theorem gg2L_law_X8_pick : GoodIn ws2L_law wsX8_pick := goodIn_r _ [529, 158, 487, 488, 489, 5, 490, 159, 128, 491, 492, 493, 494, 352, 124, 495, 496, 497, 498, 499, 500, 200, 201, 202, 203, 122, 501, 502, 503, 504, 505, 506, 507, 508, 530, 531, 532, 533, 123, 160, 509, 510, 511, 512, 915, 916, 917, 918, 919, 920, 921, 922, 923, 924, 925, 926, 927, 928, 929, 930, 931, 932, 933, 934, 935, 936, 937, 938, 939, 940, 941, 942, 943, 944, 945, 946, 947, 948, 949, 950] (by decide +kernel) (by decide +kernel)
set_option maxRecDepth 20000 in
theorem g2L_law_X8_pick : GoodIn ws2L_law (wsV RL 100 RX8 yX8_pick wsX8_pick) := goodIn_app (goodIn_of _ (by decide +kernel)) gg2L_law_X8_pick
set_option maxRecDepth 20000 in
theorem gg2L_law_X7_rank : GoodIn ws2L_law wsX7_rank := goodIn_r _ [537, 32, 27, 431, 517, 432, 433, 434, 31, 435, 87, 88, 91, 436, 86, 89, 85, 90, 437, 438, 439, 26, 440, 74, 75, 76, 441, 442, 443, 444, 79, 445, 446, 447, 448, 449, 450, 451, 452, 453, 454, 455, 456, 457, 458, 459, 460, 461, 78, 77, 462, 463, 464, 465, 15, 466, 51, 53, 55, 467, 468, 469, 470, 84, 471, 472, 473, 474, 475, 476, 477, 478, 479, 480, 481, 482, 538, 539, 540, 2, 541, 16, 146, 18, 903, 904, 905, 906, 907, 908, 909, 910, 911, 912, 913, 914, 972, 973, 974, 975, 976, 977, 978, 979, 951, 952, 953, 954, 955, 956, 966, 967, 968, 969, 970, 971] (by decide +kernel) (by decide +kernel)
set_option maxRecDepth 20000 in
theorem g2L_law_X7_rank : GoodIn ws2L_law (wsV RL 101 RX7 yX7_rank wsX7_rank) := goodIn_app (goodIn_of _ (by decide +kernel)) gg2L_law_X7_rank
