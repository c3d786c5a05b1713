set_option maxRecDepth 20000 in
theorem gg2L_law_X8_hole : GoodIn ws2L_law wsX8_hole := goodIn_r _ [839, 160, 159, 123, 134, 840, 833, 834, 835, 196, 197, 198, 5, 199, 158, 817, 818, 819, 820, 139, 763, 764, 765, 766, 200, 201, 202, 203, 122, 918, 919, 920, 921, 922, 923, 924, 925, 926, 927, 928, 929, 930, 931, 932, 933, 934, 935, 936, 937, 938, 939, 940, 941, 942, 943, 944, 945, 946, 947, 948, 949, 950, 951, 952, 953] (by decide +kernel) (by decide +kernel)
set_option maxRecDepth 20000 in
theorem g2L_law_X8_hole : GoodIn ws2L_law (wsV RL 154 RX8 yX8_hole wsX8_hole) := goodIn_app (goodIn_of _ (by decide +kernel)) gg2L_law_X8_hole
set_option maxRecDepth 20000 in
theorem gg2L_law_L_rowLong : GoodIn ws2L_law ws2L_rowLong := goodIn_ca (goodIn_r _ [843, 700, 844, 845, 846, 2, 847, 44, 705, 706, 707, 708, 709, 710, 46, 848, 849, 850, 43, 851, 110, 109, 112, 117, 746, 852, 853, 834, 854, 832, 833, 835, 809, 810, 811, 812, 715, 716, 717, 718, 115, 737, 738, 739, 740, 116, 741, 906, 907, 908, 909, 910, 911, 912, 913, 914, 915, 916, 917, 990, 991, 992, 993, 994, 995, 996, 997, 998, 986, 987, 988, 989, 954, 955, 956, 957, 958, 959] (by decide +kernel) (by decide +kernel)) (goodIn_sub (fun _ h => List.mem_append_right _ h) (by decide +kernel))
set_option maxRecDepth 20000 in
theorem g2L_law_L_rowLong : GoodIn ws2L_law (va_wsS RL 155 yL_rowLong ws2L_rowLong) := goodIn_app (goodIn_of _ (by decide +kernel)) gg2L_law_L_rowLong
set_option maxRecDepth 20000 in
theorem gg2L_law_X8_rowLong : GoodIn ws2L_law wsX8_rowLong := goodIn_r _ [858, 160, 159, 123, 134, 130, 196, 197, 198, 5, 199, 158, 817, 818, 819, 820, 139, 763, 764, 765, 766, 200, 201, 202, 203, 122, 918, 919, 920, 921, 922, 923, 924, 925, 926, 927, 928, 929, 930, 931, 932, 933, 934, 935, 936, 937, 938, 939, 940, 941, 942, 943, 944, 945, 946, 947, 948, 949, 950, 951, 952, 953] (by decide +kernel) (by decide +kernel)
set_option maxRecDepth 20000 in
theorem g2L_law_X8_rowLong : GoodIn ws2L_law (wsV RL 157 RX8 yX8_rowLong wsX8_rowLong) := goodIn_app (goodIn_of _ (by decide +kernel)) gg2L_law_X8_rowLong
set_option maxRecDepth 20000 in
theorem gg2L_law_L_ends : GoodIn ws2L_law ws2L_ends := goodIn_ca (goodIn_r _ [861, 700, 862, 863, 864, 2, 865, 45, 44, 774, 705, 706, 707, 708, 709, 710, 46, 866, 867, 868, 43, 869, 109, 681, 527, 528, 529, 112, 113, 114, 115, 110, 111, 870, 871, 872, 873, 874, 875, 712, 713, 714, 715, 716, 717, 718, 876, 720, 721, 722, 723, 724, 725, 726, 116, 727, 728, 729, 730, 731, 732, 733, 734, 735, 117, 736, 737, 738, 739, 740, 741, 742, 743, 744, 745, 746, 747, 748, 749, 39, 750, 101, 104, 877, 878, 879, 880, 16, 146, 881, 833, 834, 835, 882, 883, 884, 885, 683, 684, 685, 686, 906, 907, 908, 909, 910, 911, 912, 913, 914, 915, 916, 917, 990, 991, 992, 993, 994, 995, 996, 997, 998, 954, 955, 956, 957, 958, 959, 986, 987, 988, 989] (by decide +kernel) (by decide +kernel)) (goodIn_sub (fun _ h => List.mem_append_right _ h) (by decide +kernel))
set_option maxRecDepth 20000 in
theorem g2L_law_L_ends : GoodIn ws2L_law (va_wsS RL 158 yL_ends ws2L_ends) := goodIn_app (goodIn_of _ (by decide +kernel)) gg2L_law_L_ends
set_option maxRecDepth 20000 in
theorem gg2L_law_X8_ends : GoodIn ws2L_law wsX8_ends := goodIn_r _ [889, 160, 159, 134, 135, 136, 137, 139, 692, 691, 196, 197, 198, 5, 199, 158, 161, 162, 163, 890, 891, 892, 893, 123, 693, 694, 695, 696, 759, 760, 761, 762, 131, 133, 130, 200, 201, 202, 203, 122, 763, 764, 765, 766, 641, 642, 643, 644, 755, 756, 757, 758, 918, 919, 920, 921, 922, 923, 924, 925, 926, 927, 928, 929, 930, 931, 932, 933, 934, 935, 936, 937, 938, 939, 940, 941, 942, 943, 944, 945, 946, 947, 948, 949, 950, 951, 952, 953] (by decide +kernel) (by decide +kernel)
set_option maxRecDepth 20000 in
theorem g2L_law_X8_ends : GoodIn ws2L_law (wsV RL 160 RX8 yX8_ends wsX8_ends) := goodIn_app (goodIn_of _ (by decide +kernel)) gg2L_law_X8_ends
set_option maxRecDepth 20000 in
theorem gg2L_law_L_ill : GoodIn ws2L_law ws2L_ill := goodIn_ca (goodIn_ca (goodIn_r _ [896, 168, 700, 897, 898, 899, 2, 900, 44, 788, 774, 178, 179, 180, 181, 182, 183, 16, 184, 185, 186, 15, 187, 50, 705, 706, 707, 708, 709, 710, 46, 901, 716, 717, 43, 718, 115, 906, 907, 908, 909, 910, 911, 912, 913, 914, 915, 916, 917, 990, 991, 992, 993, 994, 995, 996, 997, 998, 954, 955, 956, 957, 958, 959] (by decide +kernel) (by decide +kernel)) (goodIn_sub (fun _ h => List.mem_append_left _ (List.mem_append_right _ h)) (by decide +kernel))) (goodIn_sub (fun _ h => List.mem_append_right _ h) (by decide +kernel))
set_option maxRecDepth 20000 in
theorem g2L_law_L_ill : GoodIn ws2L_law (va_wsS RL 161 yL_ill ws2L_ill) := goodIn_app (goodIn_of _ (by decide +kernel)) gg2L_law_L_ill
set_option maxRecDepth 20000 in
theorem gg2L_law_X8_ill : GoodIn ws2L_law wsX8_ill := goodIn_r _ [905, 160, 139, 141, 691, 692, 192, 193, 194, 5, 195, 159, 161, 162, 163, 196, 197, 198, 199, 158, 918, 919, 920, 921, 922, 923, 924, 925, 926, 927, 928, 929, 930, 931, 932, 933, 934, 935, 936, 937, 938, 939, 940, 941, 942, 943, 944, 945, 946, 947, 948, 949, 950, 951, 952, 953] (by decide +kernel) (by decide +kernel)
set_option maxRecDepth 20000 in
theorem g2L_law_X8_ill : GoodIn ws2L_law (wsV RL 163 RX8 yX8_ill wsX8_ill) := goodIn_app (goodIn_of _ (by decide +kernel)) gg2L_law_X8_ill
