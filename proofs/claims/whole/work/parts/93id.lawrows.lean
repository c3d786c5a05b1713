set_option maxRecDepth 20000 in
theorem gg2L_law_L_passes : GoodIn ws2L_law wsL_passes := goodIn_ca (goodIn_r _ [652, 168, 653, 654, 655, 2, 656, 40, 16, 176, 178, 179, 180, 181, 182, 183, 184, 185, 186, 15, 187, 50, 657, 658, 659, 39, 660, 101, 103, 903, 904, 905, 906, 907, 908, 909, 910, 911, 912, 913, 914, 951, 952, 953, 954, 955, 956, 983, 984, 985, 986] (by decide +kernel) (by decide +kernel)) (goodIn_sub (fun _ h => List.mem_append_left _ (List.mem_append_right _ h)) (by decide +kernel))
set_option maxRecDepth 20000 in
theorem g2L_law_L_passes : GoodIn ws2L_law (va_wsS RL 130 yL_passes wsL_passes) := goodIn_app (goodIn_of _ (by decide +kernel)) gg2L_law_L_passes
set_option maxRecDepth 20000 in
theorem gg2L_law_X8_passes : GoodIn ws2L_law wsX8_passes := goodIn_r _ [664, 192, 193, 194, 5, 195, 159, 161, 162, 163, 196, 197, 198, 199, 158, 665, 666, 667, 668, 130, 132, 200, 201, 202, 203, 122, 915, 916, 917, 918, 919, 920, 921, 922, 923, 924, 925, 926, 927, 928, 929, 930, 931, 932, 933, 934, 935, 936, 937, 938, 939, 940, 941, 942, 943, 944, 945, 946, 947, 948, 949, 950] (by decide +kernel) (by decide +kernel)
set_option maxRecDepth 20000 in
theorem g2L_law_X8_passes : GoodIn ws2L_law (wsV RL 133 RX8 yX8_passes wsX8_passes) := goodIn_app (goodIn_of _ (by decide +kernel)) gg2L_law_X8_passes
set_option maxRecDepth 20000 in
theorem gg2L_law_X7_begin : GoodIn ws2L_law wsX7_begin := goodIn_r _ [672, 16, 146, 40, 176, 44, 18, 46, 657, 658, 659, 39, 660, 101, 103, 673, 674, 675, 43, 676, 109, 677, 523, 524, 525, 116, 678, 110, 679, 680, 681, 682, 111, 112, 113, 114, 115, 903, 904, 905, 906, 907, 908, 909, 910, 911, 912, 913, 914, 951, 952, 953, 954, 955, 956, 983, 984, 985, 986, 987, 988, 989, 990, 991, 992, 993, 994, 995] (by decide +kernel) (by decide +kernel)
set_option maxRecDepth 20000 in
theorem g2L_law_X7_begin : GoodIn ws2L_law (wsV RL 134 RX7 yX7_begin wsX7_begin) := goodIn_app (goodIn_of _ (by decide +kernel)) gg2L_law_X7_begin
set_option maxRecDepth 20000 in
theorem gg2L_law_X8_begin : GoodIn ws2L_law wsX8_begin := goodIn_r _ [686, 158, 159, 160, 687, 688, 140, 141, 665, 666, 667, 5, 668, 130, 132, 200, 201, 202, 203, 122, 689, 690, 691, 692, 134, 135, 136, 137, 139, 915, 916, 917, 918, 919, 920, 921, 922, 923, 924, 925, 926, 927, 928, 929, 930, 931, 932, 933, 934, 935, 936, 937, 938, 939, 940, 941, 942, 943, 944, 945, 946, 947, 948, 949, 950] (by decide +kernel) (by decide +kernel)
set_option maxRecDepth 20000 in
theorem g2L_law_X8_begin : GoodIn ws2L_law (wsV RL 138 RX8 yX8_begin wsX8_begin) := goodIn_app (goodIn_of _ (by decide +kernel)) gg2L_law_X8_begin
set_option maxRecDepth 20000 in
theorem gg2L_law_L_run : GoodIn ws2L_law ws2L_run := goodIn_ca (goodIn_r _ [695, 696, 697, 698, 699, 2, 700, 44, 701, 702, 703, 704, 705, 706, 46, 707, 708, 709, 43, 710, 110, 109, 711, 712, 713, 714, 115, 715, 716, 717, 718, 111, 719, 720, 721, 722, 113, 116, 723, 112, 724, 725, 726, 727, 728, 729, 730, 731, 117, 732, 733, 734, 735, 736, 737, 738, 739, 740, 741, 114, 742, 743, 744, 745, 39, 746, 104, 747, 630, 631, 632, 101, 903, 904, 905, 906, 907, 908, 909, 910, 911, 912, 913, 914, 987, 988, 989, 990, 991, 992, 993, 994, 995, 951, 952, 953, 954, 955, 956, 983, 984, 985, 986] (by decide +kernel) (by decide +kernel)) (goodIn_sub (fun _ h => List.mem_append_right _ h) (by decide +kernel))
set_option maxRecDepth 20000 in
theorem g2L_law_L_run : GoodIn ws2L_law (va_wsS RL 139 yL_run ws2L_run) := goodIn_app (goodIn_of _ (by decide +kernel)) gg2L_law_L_run
set_option maxRecDepth 20000 in
theorem gg2L_law_X8_run : GoodIn ws2L_law wsX8_run := goodIn_r _ [751, 160, 687, 159, 123, 134, 140, 139, 141, 688, 196, 197, 198, 5, 199, 158, 161, 162, 163, 752, 753, 754, 755, 756, 757, 758, 759, 135, 136, 131, 137, 133, 130, 200, 201, 202, 203, 122, 760, 761, 762, 763, 637, 638, 639, 640, 915, 916, 917, 918, 919, 920, 921, 922, 923, 924, 925, 926, 927, 928, 929, 930, 931, 932, 933, 934, 935, 936, 937, 938, 939, 940, 941, 942, 943, 944, 945, 946, 947, 948, 949, 950] (by decide +kernel) (by decide +kernel)
set_option maxRecDepth 20000 in
theorem g2L_law_X8_run : GoodIn ws2L_law (wsV RL 141 RX8 yX8_run wsX8_run) := goodIn_app (goodIn_of _ (by decide +kernel)) gg2L_law_X8_run
set_option maxRecDepth 20000 in
theorem gg2L_law_L_minute : GoodIn ws2L_law ws2L_minute := goodIn_ca (goodIn_r _ [766, 696, 767, 768, 769, 2, 770, 44, 771, 701, 702, 703, 704, 705, 706, 46, 903, 904, 905, 906, 907, 908, 909, 910, 911, 912, 913, 914, 987, 988, 989, 990, 991, 992, 993, 994, 995] (by decide +kernel) (by decide +kernel)) (goodIn_sub (fun _ h => List.mem_append_right _ h) (by decide +kernel))
set_option maxRecDepth 20000 in
theorem g2L_law_L_minute : GoodIn ws2L_law (va_wsS RL 142 yL_minute ws2L_minute) := goodIn_app (goodIn_of _ (by decide +kernel)) gg2L_law_L_minute
set_option maxRecDepth 20000 in
theorem gg2L_law_X8_minute : GoodIn ws2L_law wsX8_minute := goodIn_r _ [775, 160, 687, 196, 197, 198, 5, 199, 158, 915, 916, 917, 918, 919, 920, 921, 922, 923, 924, 925, 926, 927, 928, 929, 930, 931, 932, 933, 934, 935, 936, 937, 938, 939, 940, 941, 942, 943, 944, 945, 946, 947, 948, 949, 950] (by decide +kernel) (by decide +kernel)
set_option maxRecDepth 20000 in
theorem g2L_law_X8_minute : GoodIn ws2L_law (wsV RL 145 RX8 yX8_minute wsX8_minute) := goodIn_app (goodIn_of _ (by decide +kernel)) gg2L_law_X8_minute
set_option maxRecDepth 20000 in
theorem gg2L_law_L_at : GoodIn ws2L_law ws2L_at := goodIn_ca (goodIn_ca (goodIn_r _ [778, 168, 696, 779, 780, 781, 2, 782, 44, 783, 784, 785, 178, 179, 180, 181, 182, 183, 16, 184, 185, 186, 15, 187, 50, 701, 702, 703, 704, 705, 706, 46, 786, 734, 735, 43, 736, 112, 116, 737, 787, 788, 789, 790, 113, 711, 712, 713, 714, 115, 903, 904, 905, 906, 907, 908, 909, 910, 911, 912, 913, 914, 987, 988, 989, 990, 991, 992, 993, 994, 995, 951, 952, 953, 954, 955, 956] (by decide +kernel) (by decide +kernel)) (goodIn_sub (fun _ h => List.mem_append_left _ (List.mem_append_right _ h)) (by decide +kernel))) (goodIn_sub (fun _ h => List.mem_append_right _ h) (by decide +kernel))
set_option maxRecDepth 20000 in
theorem g2L_law_L_at : GoodIn ws2L_law (va_wsS RL 146 yL_at ws2L_at) := goodIn_app (goodIn_of _ (by decide +kernel)) gg2L_law_L_at
set_option maxRecDepth 20000 in
theorem gg2L_law_X8_at : GoodIn ws2L_law wsX8_at := goodIn_r _ [794, 160, 134, 139, 135, 136, 140, 141, 192, 193, 194, 5, 195, 159, 161, 162, 163, 196, 197, 198, 199, 158, 760, 761, 762, 763, 200, 201, 202, 203, 122, 915, 916, 917, 918, 919, 920, 921, 922, 923, 924, 925, 926, 927, 928, 929, 930, 931, 932, 933, 934, 935, 936, 937, 938, 939, 940, 941, 942, 943, 944, 945, 946, 947, 948, 949, 950] (by decide +kernel) (by decide +kernel)
set_option maxRecDepth 20000 in
theorem g2L_law_X8_at : GoodIn ws2L_law (wsV RL 148 RX8 yX8_at wsX8_at) := goodIn_app (goodIn_of _ (by decide +kernel)) gg2L_law_X8_at
set_option maxRecDepth 20000 in
theorem gg2L_law_L_who : GoodIn ws2L_law ws2L_who := goodIn_ca (goodIn_r _ [797, 696, 798, 799, 800, 2, 801, 40, 44, 701, 702, 703, 704, 705, 706, 46, 629, 630, 631, 39, 632, 101, 802, 803, 804, 43, 805, 110, 109, 112, 806, 807, 808, 809, 711, 712, 713, 714, 115, 733, 734, 735, 736, 116, 737, 903, 904, 905, 906, 907, 908, 909, 910, 911, 912, 913, 914, 983, 984, 985, 986, 987, 988, 989, 990, 991, 992, 993, 994, 995, 951, 952, 953, 954, 955, 956] (by decide +kernel) (by decide +kernel)) (goodIn_sub (fun _ h => List.mem_append_right _ h) (by decide +kernel))
set_option maxRecDepth 20000 in
theorem g2L_law_L_who : GoodIn ws2L_law (va_wsS RL 149 yL_who ws2L_who) := goodIn_app (goodIn_of _ (by decide +kernel)) gg2L_law_L_who
set_option maxRecDepth 20000 in
theorem gg2L_law_X8_who : GoodIn ws2L_law wsX8_who := goodIn_r _ [813, 160, 159, 134, 196, 197, 198, 5, 199, 158, 637, 638, 639, 640, 130, 161, 162, 163, 814, 815, 816, 817, 139, 760, 761, 762, 763, 200, 201, 202, 203, 122, 915, 916, 917, 918, 919, 920, 921, 922, 923, 924, 925, 926, 927, 928, 929, 930, 931, 932, 933, 934, 935, 936, 937, 938, 939, 940, 941, 942, 943, 944, 945, 946, 947, 948, 949, 950] (by decide +kernel) (by decide +kernel)
set_option maxRecDepth 20000 in
theorem g2L_law_X8_who : GoodIn ws2L_law (wsV RL 151 RX8 yX8_who wsX8_who) := goodIn_app (goodIn_of _ (by decide +kernel)) gg2L_law_X8_who
set_option maxRecDepth 20000 in
theorem gg2L_law_L_hole : GoodIn ws2L_law ws2L_hole := goodIn_ca (goodIn_r _ [820, 696, 821, 822, 823, 2, 824, 44, 701, 702, 703, 704, 705, 706, 46, 825, 826, 827, 43, 828, 110, 109, 112, 829, 830, 831, 832, 806, 807, 808, 809, 711, 712, 713, 714, 115, 733, 734, 735, 736, 116, 737, 903, 904, 905, 906, 907, 908, 909, 910, 911, 912, 913, 914, 987, 988, 989, 990, 991, 992, 993, 994, 995, 951, 952, 953, 954, 955, 956] (by decide +kernel) (by decide +kernel)) (goodIn_sub (fun _ h => List.mem_append_right _ h) (by decide +kernel))
set_option maxRecDepth 20000 in
theorem g2L_law_L_hole : GoodIn ws2L_law (va_wsS RL 152 yL_hole ws2L_hole) := goodIn_app (goodIn_of _ (by decide +kernel)) gg2L_law_L_hole
