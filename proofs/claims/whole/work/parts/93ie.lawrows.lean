set_option maxRecDepth 20000 in
theorem gg2L_law_X8_hole : GoodIn ws2L_law wsX8_hole := goodIn_r _ [836, 160, 159, 123, 134, 837, 830, 831, 832, 196, 197, 198, 5, 199, 158, 814, 815, 816, 817, 139, 760, 761, 762, 763, 200, 201, 202, 203, 122, 915, 916, 917, 918, 919, 920, 921, 922, 923, 924, 925, 926, 927, 928, 929, 930, 931, 932, 933, 934, 935, 936, 937, 938, 939, 940, 941, 942, 943, 944, 945, 946, 947, 948, 949, 950] (by decide +kernel) (by decide +kernel)
set_option maxRecDepth 20000 in
theorem g2L_law_X8_hole : GoodIn ws2L_law (wsV RL 154 RX8 yX8_hole wsX8_hole) := goodIn_app (goodIn_of _ (by decide +kernel)) gg2L_law_X8_hole
set_option maxRecDepth 20000 in
theorem gg2L_law_L_rowLong : GoodIn ws2L_law ws2L_rowLong := goodIn_ca (goodIn_r _ [840, 696, 841, 842, 843, 2, 844, 44, 701, 702, 703, 704, 705, 706, 46, 845, 846, 847, 43, 848, 110, 109, 112, 117, 742, 849, 850, 831, 851, 829, 830, 832, 806, 807, 808, 809, 711, 712, 713, 714, 115, 733, 734, 735, 736, 116, 737, 903, 904, 905, 906, 907, 908, 909, 910, 911, 912, 913, 914, 987, 988, 989, 990, 991, 992, 993, 994, 995, 983, 984, 985, 986, 951, 952, 953, 954, 955, 956] (by decide +kernel) (by decide +kernel)) (goodIn_sub (fun _ h => List.mem_append_right _ h) (by decide +kernel))
set_option maxRecDepth 20000 in
theorem g2L_law_L_rowLong : GoodIn ws2L_law (va_wsS RL 155 yL_rowLong ws2L_rowLong) := goodIn_app (goodIn_of _ (by decide +kernel)) gg2L_law_L_rowLong
set_option maxRecDepth 20000 in
theorem gg2L_law_X8_rowLong : GoodIn ws2L_law wsX8_rowLong := goodIn_r _ [855, 160, 159, 123, 134, 130, 196, 197, 198, 5, 199, 158, 814, 815, 816, 817, 139, 760, 761, 762, 763, 200, 201, 202, 203, 122, 915, 916, 917, 918, 919, 920, 921, 922, 923, 924, 925, 926, 927, 928, 929, 930, 931, 932, 933, 934, 935, 936, 937, 938, 939, 940, 941, 942, 943, 944, 945, 946, 947, 948, 949, 950] (by decide +kernel) (by decide +kernel)
set_option maxRecDepth 20000 in
theorem g2L_law_X8_rowLong : GoodIn ws2L_law (wsV RL 157 RX8 yX8_rowLong wsX8_rowLong) := goodIn_app (goodIn_of _ (by decide +kernel)) gg2L_law_X8_rowLong
set_option maxRecDepth 20000 in
theorem gg2L_law_L_ends : GoodIn ws2L_law ws2L_ends := goodIn_ca (goodIn_r _ [858, 696, 859, 860, 861, 2, 862, 45, 44, 771, 701, 702, 703, 704, 705, 706, 46, 863, 864, 865, 43, 866, 109, 677, 523, 524, 525, 112, 113, 114, 115, 110, 111, 867, 868, 869, 870, 871, 872, 708, 709, 710, 711, 712, 713, 714, 873, 716, 717, 718, 719, 720, 721, 722, 116, 723, 724, 725, 726, 727, 728, 729, 730, 731, 117, 732, 733, 734, 735, 736, 737, 738, 739, 740, 741, 742, 743, 744, 745, 39, 746, 104, 747, 630, 631, 632, 101, 874, 875, 876, 877, 16, 146, 878, 830, 831, 832, 879, 880, 881, 882, 679, 680, 681, 682, 903, 904, 905, 906, 907, 908, 909, 910, 911, 912, 913, 914, 987, 988, 989, 990, 991, 992, 993, 994, 995, 951, 952, 953, 954, 955, 956, 983, 984, 985, 986] (by decide +kernel) (by decide +kernel)) (goodIn_sub (fun _ h => List.mem_append_right _ h) (by decide +kernel))
set_option maxRecDepth 20000 in
theorem g2L_law_L_ends : GoodIn ws2L_law (va_wsS RL 158 yL_ends ws2L_ends) := goodIn_app (goodIn_of _ (by decide +kernel)) gg2L_law_L_ends
set_option maxRecDepth 20000 in
theorem gg2L_law_X8_ends : GoodIn ws2L_law wsX8_ends := goodIn_r _ [886, 160, 159, 134, 135, 136, 137, 139, 688, 687, 196, 197, 198, 5, 199, 158, 161, 162, 163, 887, 888, 889, 890, 123, 689, 690, 691, 692, 756, 757, 758, 759, 131, 133, 130, 200, 201, 202, 203, 122, 760, 761, 762, 763, 637, 638, 639, 640, 752, 753, 754, 755, 915, 916, 917, 918, 919, 920, 921, 922, 923, 924, 925, 926, 927, 928, 929, 930, 931, 932, 933, 934, 935, 936, 937, 938, 939, 940, 941, 942, 943, 944, 945, 946, 947, 948, 949, 950] (by decide +kernel) (by decide +kernel)
set_option maxRecDepth 20000 in
theorem g2L_law_X8_ends : GoodIn ws2L_law (wsV RL 160 RX8 yX8_ends wsX8_ends) := goodIn_app (goodIn_of _ (by decide +kernel)) gg2L_law_X8_ends
set_option maxRecDepth 20000 in
theorem gg2L_law_L_ill : GoodIn ws2L_law ws2L_ill := goodIn_ca (goodIn_ca (goodIn_r _ [893, 168, 696, 894, 895, 896, 2, 897, 44, 785, 771, 178, 179, 180, 181, 182, 183, 16, 184, 185, 186, 15, 187, 50, 701, 702, 703, 704, 705, 706, 46, 898, 712, 713, 43, 714, 115, 903, 904, 905, 906, 907, 908, 909, 910, 911, 912, 913, 914, 987, 988, 989, 990, 991, 992, 993, 994, 995, 951, 952, 953, 954, 955, 956] (by decide +kernel) (by decide +kernel)) (goodIn_sub (fun _ h => List.mem_append_left _ (List.mem_append_right _ h)) (by decide +kernel))) (goodIn_sub (fun _ h => List.mem_append_right _ h) (by decide +kernel))
set_option maxRecDepth 20000 in
theorem g2L_law_L_ill : GoodIn ws2L_law (va_wsS RL 161 yL_ill ws2L_ill) := goodIn_app (goodIn_of _ (by decide +kernel)) gg2L_law_L_ill
set_option maxRecDepth 20000 in
theorem gg2L_law_X8_ill : GoodIn ws2L_law wsX8_ill := goodIn_r _ [902, 160, 139, 141, 687, 688, 192, 193, 194, 5, 195, 159, 161, 162, 163, 196, 197, 198, 199, 158, 915, 916, 917, 918, 919, 920, 921, 922, 923, 924, 925, 926, 927, 928, 929, 930, 931, 932, 933, 934, 935, 936, 937, 938, 939, 940, 941, 942, 943, 944, 945, 946, 947, 948, 949, 950] (by decide +kernel) (by decide +kernel)
set_option maxRecDepth 20000 in
theorem g2L_law_X8_ill : GoodIn ws2L_law (wsV RL 163 RX8 yX8_ill wsX8_ill) := goodIn_app (goodIn_of _ (by decide +kernel)) gg2L_law_X8_ill
