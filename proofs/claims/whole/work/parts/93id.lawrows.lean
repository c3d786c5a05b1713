set_option maxRecDepth 20000 in
theorem gg2L_law_L_passes : GoodIn ws2L_law wsL_passes := goodIn_ca (goodIn_r _ [656, 168, 657, 658, 659, 2, 660, 40, 16, 176, 178, 179, 180, 181, 182, 183, 184, 185, 186, 15, 187, 50, 661, 662, 663, 39, 664, 101, 103, 906, 907, 908, 909, 910, 911, 912, 913, 914, 915, 916, 917, 954, 955, 956, 957, 958, 959, 986, 987, 988, 989] (by decide +kernel) (by decide +kernel)) (goodIn_sub (fun _ h => List.mem_append_left _ (List.mem_append_right _ h)) (by decide +kernel))
set_option maxRecDepth 20000 in
theorem g2L_law_L_passes : GoodIn ws2L_law (va_wsS RL 130 yL_passes wsL_passes) := goodIn_app (goodIn_of _ (by decide +kernel)) gg2L_law_L_passes
set_option maxRecDepth 20000 in
theorem gg2L_law_X8_passes : GoodIn ws2L_law wsX8_passes := goodIn_r _ [668, 192, 193, 194, 5, 195, 159, 161, 162, 163, 196, 197, 198, 199, 158, 669, 670, 671, 672, 130, 132, 200, 201, 202, 203, 122, 918, 919, 920, 921, 922, 923, 924, 925, 926, 927, 928, 929, 930, 931, 932, 933, 934, 935, 936, 937, 938, 939, 940, 941, 942, 943, 944, 945, 946, 947, 948, 949, 950, 951, 952, 953] (by decide +kernel) (by decide +kernel)
set_option maxRecDepth 20000 in
theorem g2L_law_X8_passes : GoodIn ws2L_law (wsV RL 133 RX8 yX8_passes wsX8_passes) := goodIn_app (goodIn_of _ (by decide +kernel)) gg2L_law_X8_passes
set_option maxRecDepth 20000 in
theorem gg2L_law_X7_begin : GoodIn ws2L_law wsX7_begin := goodIn_r _ [676, 16, 146, 40, 176, 44, 18, 46, 661, 662, 663, 39, 664, 101, 103, 677, 678, 679, 43, 680, 109, 681, 527, 528, 529, 116, 682, 110, 683, 684, 685, 686, 111, 112, 113, 114, 115, 906, 907, 908, 909, 910, 911, 912, 913, 914, 915, 916, 917, 954, 955, 956, 957, 958, 959, 986, 987, 988, 989, 990, 991, 992, 993, 994, 995, 996, 997, 998] (by decide +kernel) (by decide +kernel)
set_option maxRecDepth 20000 in
theorem g2L_law_X7_begin : GoodIn ws2L_law (wsV RL 134 RX7 yX7_begin wsX7_begin) := goodIn_app (goodIn_of _ (by decide +kernel)) gg2L_law_X7_begin
set_option maxRecDepth 20000 in
theorem gg2L_law_X8_begin : GoodIn ws2L_law wsX8_begin := goodIn_r _ [690, 158, 159, 160, 691, 692, 140, 141, 669, 670, 671, 5, 672, 130, 132, 200, 201, 202, 203, 122, 693, 694, 695, 696, 134, 135, 136, 137, 139, 918, 919, 920, 921, 922, 923, 924, 925, 926, 927, 928, 929, 930, 931, 932, 933, 934, 935, 936, 937, 938, 939, 940, 941, 942, 943, 944, 945, 946, 947, 948, 949, 950, 951, 952, 953] (by decide +kernel) (by decide +kernel)
set_option maxRecDepth 20000 in
theorem g2L_law_X8_begin : GoodIn ws2L_law (wsV RL 138 RX8 yX8_begin wsX8_begin) := goodIn_app (goodIn_of _ (by decide +kernel)) gg2L_law_X8_begin
set_option maxRecDepth 20000 in
theorem gg2L_law_L_run : GoodIn ws2L_law ws2L_run := goodIn_ca (goodIn_r _ [699, 700, 701, 702, 703, 2, 704, 44, 705, 706, 707, 708, 709, 710, 46, 711, 712, 713, 43, 714, 110, 109, 715, 716, 717, 718, 115, 719, 720, 721, 722, 111, 723, 724, 725, 726, 113, 116, 727, 112, 728, 729, 730, 731, 732, 733, 734, 735, 117, 736, 737, 738, 739, 740, 741, 742, 743, 744, 745, 114, 746, 747, 748, 749, 39, 750, 101, 104, 906, 907, 908, 909, 910, 911, 912, 913, 914, 915, 916, 917, 990, 991, 992, 993, 994, 995, 996, 997, 998, 954, 955, 956, 957, 958, 959, 986, 987, 988, 989] (by decide +kernel) (by decide +kernel)) (goodIn_sub (fun _ h => List.mem_append_right _ h) (by decide +kernel))
set_option maxRecDepth 20000 in
theorem g2L_law_L_run : GoodIn ws2L_law (va_wsS RL 139 yL_run ws2L_run) := goodIn_app (goodIn_of _ (by decide +kernel)) gg2L_law_L_run
set_option maxRecDepth 20000 in
theorem gg2L_law_X8_run : GoodIn ws2L_law wsX8_run := goodIn_r _ [754, 160, 691, 159, 123, 134, 140, 139, 141, 692, 196, 197, 198, 5, 199, 158, 161, 162, 163, 755, 756, 757, 758, 759, 760, 761, 762, 135, 136, 131, 137, 133, 130, 200, 201, 202, 203, 122, 763, 764, 765, 766, 641, 642, 643, 644, 918, 919, 920, 921, 922, 923, 924, 925, 926, 927, 928, 929, 930, 931, 932, 933, 934, 935, 936, 937, 938, 939, 940, 941, 942, 943, 944, 945, 946, 947, 948, 949, 950, 951, 952, 953] (by decide +kernel) (by decide +kernel)
set_option maxRecDepth 20000 in
theorem g2L_law_X8_run : GoodIn ws2L_law (wsV RL 141 RX8 yX8_run wsX8_run) := goodIn_app (goodIn_of _ (by decide +kernel)) gg2L_law_X8_run
set_option maxRecDepth 20000 in
theorem gg2L_law_L_minute : GoodIn ws2L_law ws2L_minute := goodIn_ca (goodIn_r _ [769, 700, 770, 771, 772, 2, 773, 44, 774, 705, 706, 707, 708, 709, 710, 46, 906, 907, 908, 909, 910, 911, 912, 913, 914, 915, 916, 917, 990, 991, 992, 993, 994, 995, 996, 997, 998] (by decide +kernel) (by decide +kernel)) (goodIn_sub (fun _ h => List.mem_append_right _ h) (by decide +kernel))
set_option maxRecDepth 20000 in
theorem g2L_law_L_minute : GoodIn ws2L_law (va_wsS RL 142 yL_minute ws2L_minute) := goodIn_app (goodIn_of _ (by decide +kernel)) gg2L_law_L_minute
set_option maxRecDepth 20000 in
theorem gg2L_law_X8_minute : GoodIn ws2L_law wsX8_minute := goodIn_r _ [778, 160, 691, 196, 197, 198, 5, 199, 158, 918, 919, 920, 921, 922, 923, 924, 925, 926, 927, 928, 929, 930, 931, 932, 933, 934, 935, 936, 937, 938, 939, 940, 941, 942, 943, 944, 945, 946, 947, 948, 949, 950, 951, 952, 953] (by decide +kernel) (by decide +kernel)
set_option maxRecDepth 20000 in
theorem g2L_law_X8_minute : GoodIn ws2L_law (wsV RL 145 RX8 yX8_minute wsX8_minute) := goodIn_app (goodIn_of _ (by decide +kernel)) gg2L_law_X8_minute
set_option maxRecDepth 20000 in
theorem gg2L_law_L_at : GoodIn ws2L_law ws2L_at := goodIn_ca (goodIn_ca (goodIn_r _ [781, 168, 700, 782, 783, 784, 2, 785, 44, 786, 787, 788, 178, 179, 180, 181, 182, 183, 16, 184, 185, 186, 15, 187, 50, 705, 706, 707, 708, 709, 710, 46, 789, 738, 739, 43, 740, 112, 116, 741, 790, 791, 792, 793, 113, 715, 716, 717, 718, 115, 906, 907, 908, 909, 910, 911, 912, 913, 914, 915, 916, 917, 990, 991, 992, 993, 994, 995, 996, 997, 998, 954, 955, 956, 957, 958, 959] (by decide +kernel) (by decide +kernel)) (goodIn_sub (fun _ h => List.mem_append_left _ (List.mem_append_right _ h)) (by decide +kernel))) (goodIn_sub (fun _ h => List.mem_append_right _ h) (by decide +kernel))
set_option maxRecDepth 20000 in
theorem g2L_law_L_at : GoodIn ws2L_law (va_wsS RL 146 yL_at ws2L_at) := goodIn_app (goodIn_of _ (by decide +kernel)) gg2L_law_L_at
set_option maxRecDepth 20000 in
theorem gg2L_law_X8_at : GoodIn ws2L_law wsX8_at := goodIn_r _ [797, 160, 134, 139, 135, 136, 140, 141, 192, 193, 194, 5, 195, 159, 161, 162, 163, 196, 197, 198, 199, 158, 763, 764, 765, 766, 200, 201, 202, 203, 122, 918, 919, 920, 921, 922, 923, 924, 925, 926, 927, 928, 929, 930, 931, 932, 933, 934, 935, 936, 937, 938, 939, 940, 941, 942, 943, 944, 945, 946, 947, 948, 949, 950, 951, 952, 953] (by decide +kernel) (by decide +kernel)
set_option maxRecDepth 20000 in
theorem g2L_law_X8_at : GoodIn ws2L_law (wsV RL 148 RX8 yX8_at wsX8_at) := goodIn_app (goodIn_of _ (by decide +kernel)) gg2L_law_X8_at
set_option maxRecDepth 20000 in
theorem gg2L_law_L_who : GoodIn ws2L_law ws2L_who := goodIn_ca (goodIn_r _ [800, 700, 801, 802, 803, 2, 804, 40, 44, 705, 706, 707, 708, 709, 710, 46, 633, 634, 635, 39, 636, 101, 805, 806, 807, 43, 808, 110, 109, 112, 809, 810, 811, 812, 715, 716, 717, 718, 115, 737, 738, 739, 740, 116, 741, 906, 907, 908, 909, 910, 911, 912, 913, 914, 915, 916, 917, 986, 987, 988, 989, 990, 991, 992, 993, 994, 995, 996, 997, 998, 954, 955, 956, 957, 958, 959] (by decide +kernel) (by decide +kernel)) (goodIn_sub (fun _ h => List.mem_append_right _ h) (by decide +kernel))
set_option maxRecDepth 20000 in
theorem g2L_law_L_who : GoodIn ws2L_law (va_wsS RL 149 yL_who ws2L_who) := goodIn_app (goodIn_of _ (by decide +kernel)) gg2L_law_L_who
set_option maxRecDepth 20000 in
theorem gg2L_law_X8_who : GoodIn ws2L_law wsX8_who := goodIn_r _ [816, 160, 159, 134, 196, 197, 198, 5, 199, 158, 641, 642, 643, 644, 130, 161, 162, 163, 817, 818, 819, 820, 139, 763, 764, 765, 766, 200, 201, 202, 203, 122, 918, 919, 920, 921, 922, 923, 924, 925, 926, 927, 928, 929, 930, 931, 932, 933, 934, 935, 936, 937, 938, 939, 940, 941, 942, 943, 944, 945, 946, 947, 948, 949, 950, 951, 952, 953] (by decide +kernel) (by decide +kernel)
set_option maxRecDepth 20000 in
theorem g2L_law_X8_who : GoodIn ws2L_law (wsV RL 151 RX8 yX8_who wsX8_who) := goodIn_app (goodIn_of _ (by decide +kernel)) gg2L_law_X8_who
set_option maxRecDepth 20000 in
theorem gg2L_law_L_hole : GoodIn ws2L_law ws2L_hole := goodIn_ca (goodIn_r _ [823, 700, 824, 825, 826, 2, 827, 44, 705, 706, 707, 708, 709, 710, 46, 828, 829, 830, 43, 831, 110, 109, 112, 832, 833, 834, 835, 809, 810, 811, 812, 715, 716, 717, 718, 115, 737, 738, 739, 740, 116, 741, 906, 907, 908, 909, 910, 911, 912, 913, 914, 915, 916, 917, 990, 991, 992, 993, 994, 995, 996, 997, 998, 954, 955, 956, 957, 958, 959] (by decide +kernel) (by decide +kernel)) (goodIn_sub (fun _ h => List.mem_append_right _ h) (by decide +kernel))
set_option maxRecDepth 20000 in
theorem g2L_law_L_hole : GoodIn ws2L_law (va_wsS RL 152 yL_hole ws2L_hole) := goodIn_app (goodIn_of _ (by decide +kernel)) gg2L_law_L_hole
