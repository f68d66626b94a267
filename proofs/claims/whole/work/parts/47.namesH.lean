set_option maxRecDepth 20000 in
theorem ggL_law_X6_common : GoodIn wsL_law wsX6_common := goodIn_r _ [637, 290, 291, 2, 292, 638, 639, 640, 641, 27, 402, 642, 643, 644, 645, 37, 646, 647, 648, 649, 650, 651, 652, 653, 654, 403, 535, 536, 537, 983, 984, 985, 986, 987, 988, 989, 990, 991, 992, 1033, 1034, 1035, 1036, 1037, 1038, 1039, 1040, 1041, 1042, 1043] (by decide +kernel) (by decide +kernel)
set_option maxRecDepth 20000 in
theorem gL_law_X6_common : GoodIn wsL_law (wsV RL 93 RX6 yX6_common wsX6_common) := goodIn_app (goodIn_of _ (by decide +kernel)) ggL_law_X6_common
set_option maxRecDepth 20000 in
theorem ggL_law_X7_common : GoodIn wsL_law wsX7_common := goodIn_r _ [658, 297, 298, 5, 299, 206, 207, 208, 659, 660, 661, 662, 304, 167, 163, 166, 300, 301, 302, 303, 164, 165, 202, 158, 162, 155, 156, 157, 305, 306, 307, 308, 270, 159, 160, 161, 309, 310, 311, 312, 663, 664, 665, 666, 546, 547, 548, 993, 994, 995, 996, 997, 998, 999, 1000, 1001, 1002, 1003, 1004, 1005, 1006, 1007, 1008, 1009, 1010, 1011, 1012, 1013, 1014, 1015, 1016, 1017, 1018, 1019, 1020] (by decide +kernel) (by decide +kernel)
set_option maxRecDepth 20000 in
theorem gL_law_X7_common : GoodIn wsL_law (wsV RL 96 RX7 yX7_common wsX7_common) := goodIn_app (goodIn_of _ (by decide +kernel)) ggL_law_X7_common
set_option maxRecDepth 20000 in
theorem ggL_law_X6_filled : GoodIn wsL_law wsX6_filled := goodIn_r _ [670, 37, 23, 113, 176, 123, 2, 124, 671, 672, 673, 674, 27, 402, 403, 642, 643, 644, 645, 646, 675, 676, 677, 678, 983, 984, 985, 986, 987, 988, 989, 990, 991, 992, 1031, 1032, 1033, 1034, 1035, 1036, 1037, 1038, 1039, 1040, 1041, 1042, 1043] (by decide +kernel) (by decide +kernel)
set_option maxRecDepth 20000 in
theorem gL_law_X6_filled : GoodIn wsL_law (wsV RL 97 RX6 yX6_filled wsX6_filled) := goodIn_app (goodIn_of _ (by decide +kernel)) ggL_law_X6_filled
set_option maxRecDepth 20000 in
theorem ggL_law_X7_filled : GoodIn wsL_law wsX7_filled := goodIn_r _ [682, 338, 209, 210, 5, 211, 212, 206, 207, 208, 683, 684, 685, 686, 164, 163, 304, 166, 167, 300, 301, 302, 303, 165, 202, 158, 162, 155, 156, 157, 305, 306, 307, 308, 270, 159, 160, 161, 309, 310, 311, 312, 663, 664, 665, 666, 993, 994, 995, 996, 997, 998, 999, 1000, 1001, 1002, 1003, 1004, 1005, 1006, 1007, 1008, 1009, 1010, 1011, 1012, 1013, 1014, 1015, 1016, 1017, 1018, 1019, 1020] (by decide +kernel) (by decide +kernel)
set_option maxRecDepth 20000 in
theorem gL_law_X7_filled : GoodIn wsL_law (wsV RL 100 RX7 yX7_filled wsX7_filled) := goodIn_app (goodIn_of _ (by decide +kernel)) ggL_law_X7_filled
set_option maxRecDepth 20000 in
theorem ggL_law_X6_type : GoodIn wsL_law wsX6_type := goodIn_r _ [690, 41, 691, 692, 693, 694, 40, 695, 94, 696, 697, 698, 699, 91, 700, 983, 984, 985, 986, 987, 988, 989, 990, 991, 992, 1044, 1045, 1046, 1047, 1048, 1049] (by decide +kernel) (by decide +kernel)
set_option maxRecDepth 20000 in
theorem gL_law_X6_type : GoodIn wsL_law (wsV RL 101 RX6 yX6_type wsX6_type) := goodIn_app (goodIn_of _ (by decide +kernel)) ggL_law_X6_type
set_option maxRecDepth 20000 in
theorem ggL_law_X7_type : GoodIn wsL_law wsX7_type := goodIn_r _ [704, 705, 706, 169, 206, 207, 5, 208, 993, 994, 995, 996, 997, 998, 999, 1000, 1001, 1002, 1003, 1004, 1005, 1006, 1007, 1008, 1009, 1010, 1011, 1012, 1013, 1014, 1015, 1016, 1017, 1018, 1019, 1020] (by decide +kernel) (by decide +kernel)
set_option maxRecDepth 20000 in
theorem gL_law_X7_type : GoodIn wsL_law (wsV RL 104 RX7 yX7_type wsX7_type) := goodIn_app (goodIn_of _ (by decide +kernel)) ggL_law_X7_type
set_option maxRecDepth 20000 in
theorem ggL_law_X6_wipe : GoodIn wsL_law wsX6_wipe := goodIn_r _ [710, 41, 691, 983, 984, 985, 986, 987, 988, 989, 990, 991, 992, 1044, 1045, 1046, 1047, 1048, 1049] (by decide +kernel) (by decide +kernel)
set_option maxRecDepth 20000 in
theorem gL_law_X6_wipe : GoodIn wsL_law (wsV RL 105 RX6 yX6_wipe wsX6_wipe) := goodIn_app (goodIn_of _ (by decide +kernel)) ggL_law_X6_wipe
set_option maxRecDepth 20000 in
theorem ggL_law_X7_wipe : GoodIn wsL_law wsX7_wipe := goodIn_r _ [714, 706, 993, 994, 995, 996, 997, 998, 999, 1000, 1001, 1002, 1003, 1004, 1005, 1006, 1007, 1008, 1009, 1010, 1011, 1012, 1013, 1014, 1015, 1016, 1017, 1018, 1019, 1020] (by decide +kernel) (by decide +kernel)
set_option maxRecDepth 20000 in
theorem gL_law_X7_wipe : GoodIn wsL_law (wsV RL 108 RX7 yX7_wipe wsX7_wipe) := goodIn_app (goodIn_of _ (by decide +kernel)) ggL_law_X7_wipe
set_option maxRecDepth 20000 in
theorem ggL_law_X6_fault : GoodIn wsL_law wsX6_fault := goodIn_r _ [718, 41, 719, 720, 721, 40, 722, 96, 95, 94, 723, 724, 725, 726, 91, 727, 728, 729, 730, 92, 93, 731, 732, 733, 734, 735, 144, 145, 146, 736, 737, 738, 739, 983, 984, 985, 986, 987, 988, 989, 990, 991, 992, 1044, 1045, 1046, 1047, 1048, 1049] (by decide +kernel) (by decide +kernel)
set_option maxRecDepth 20000 in
theorem gL_law_X6_fault : GoodIn wsL_law (wsV RL 109 RX6 yX6_fault wsX6_fault) := goodIn_app (goodIn_of _ (by decide +kernel)) ggL_law_X6_fault
set_option maxRecDepth 20000 in
theorem ggL_law_X7_fault : GoodIn wsL_law wsX7_fault := goodIn_r _ [743, 744, 745, 746, 5, 747, 748, 749, 706, 750, 751, 752, 753, 170, 171, 754, 755, 756, 757, 758, 759, 760, 761, 762, 763, 169, 206, 207, 208, 993, 994, 995, 996, 997, 998, 999, 1000, 1001, 1002, 1003, 1004, 1005, 1006, 1007, 1008, 1009, 1010, 1011, 1012, 1013, 1014, 1015, 1016, 1017, 1018, 1019, 1020] (by decide +kernel) (by decide +kernel)
set_option maxRecDepth 20000 in
theorem gL_law_X7_fault : GoodIn wsL_law (wsV RL 112 RX7 yX7_fault wsX7_fault) := goodIn_app (goodIn_of _ (by decide +kernel)) ggL_law_X7_fault
set_option maxRecDepth 20000 in
theorem ggL_law_X6_flow : GoodIn wsL_law wsX6_flow := goodIn_r _ [767, 41, 180, 181, 2, 182, 290, 291, 292, 359, 360, 361, 362, 719, 720, 721, 40, 722, 96, 95, 94, 723, 724, 725, 726, 91, 727, 728, 729, 730, 92, 93, 731, 732, 733, 734, 735, 144, 145, 146, 736, 737, 738, 739, 768, 769, 770, 771, 772, 773, 774, 775, 776, 777, 778, 779, 780, 781, 782, 783, 367, 368, 369, 370, 371, 372, 373, 374, 375, 983, 984, 985, 986, 987, 988, 989, 990, 991, 992, 1044, 1045, 1046, 1047, 1048, 1049] (by decide +kernel) (by decide +kernel)
set_option maxRecDepth 20000 in
theorem gL_law_X6_flow : GoodIn wsL_law (wsV RL 113 RX6 yX6_flow wsX6_flow) := goodIn_app (goodIn_of _ (by decide +kernel)) ggL_law_X6_flow
set_option maxRecDepth 20000 in
theorem ggL_law_X7_flow : GoodIn wsL_law wsX7_flow := goodIn_r _ [787, 749, 170, 171, 203, 204, 5, 205, 201, 206, 207, 208, 297, 298, 299, 394, 395, 396, 397, 744, 745, 746, 747, 748, 706, 750, 751, 752, 753, 754, 755, 756, 757, 758, 759, 760, 761, 762, 763, 169, 388, 389, 390, 391, 392, 393, 993, 994, 995, 996, 997, 998, 999, 1000, 1001, 1002, 1003, 1004, 1005, 1006, 1007, 1008, 1009, 1010, 1011, 1012, 1013, 1014, 1015, 1016, 1017, 1018, 1019, 1020] (by decide +kernel) (by decide +kernel)
set_option maxRecDepth 20000 in
theorem gL_law_X7_flow : GoodIn wsL_law (wsV RL 116 RX7 yX7_flow wsX7_flow) := goodIn_app (goodIn_of _ (by decide +kernel)) ggL_law_X7_flow
set_option maxRecDepth 20000 in
theorem ggL_law_X6_dyke : GoodIn wsL_law wsX6_dyke := goodIn_r _ [791, 27, 180, 181, 2, 182, 290, 291, 292, 359, 360, 361, 362, 792, 793, 794, 795, 35, 363, 364, 365, 26, 366, 76, 326, 327, 328, 329, 77, 75, 317, 318, 319, 320, 74, 367, 368, 369, 370, 371, 145, 372, 373, 374, 375, 983, 984, 985, 986, 987, 988, 989, 990, 991, 992, 1033, 1034, 1035, 1036, 1037, 1038, 1039, 1040, 1041, 1042, 1043] (by decide +kernel) (by decide +kernel)
set_option maxRecDepth 20000 in
theorem gL_law_X6_dyke : GoodIn wsL_law (wsV RL 117 RX6 yX6_dyke wsX6_dyke) := goodIn_app (goodIn_of _ (by decide +kernel)) ggL_law_X6_dyke
set_option maxRecDepth 20000 in
theorem ggL_law_X7_dyke : GoodIn wsL_law wsX7_dyke := goodIn_r _ [799, 203, 204, 5, 205, 201, 206, 207, 208, 297, 298, 299, 394, 395, 396, 397, 300, 301, 302, 303, 164, 165, 202, 158, 162, 155, 156, 157, 304, 166, 167, 305, 306, 307, 308, 270, 159, 160, 161, 309, 310, 311, 312, 800, 801, 802, 803, 343, 344, 345, 346, 347, 348, 349, 350, 388, 389, 390, 391, 392, 393, 993, 994, 995, 996, 997, 998, 999, 1000, 1001, 1002, 1003, 1004, 1005, 1006, 1007, 1008, 1009, 1010, 1011, 1012, 1013, 1014, 1015, 1016, 1017, 1018, 1019, 1020] (by decide +kernel) (by decide +kernel)
set_option maxRecDepth 20000 in
theorem gL_law_X7_dyke : GoodIn wsL_law (wsV RL 120 RX7 yX7_dyke wsX7_dyke) := goodIn_app (goodIn_of _ (by decide +kernel)) ggL_law_X7_dyke
set_option maxRecDepth 20000 in
theorem ggL_law_X6_best : GoodIn wsL_law wsX6_best := goodIn_r _ [807, 27, 808, 809, 810, 26, 811, 76, 77, 812, 813, 814, 815, 74, 75, 816, 817, 818, 819, 2, 820, 792, 793, 794, 795, 35, 363, 364, 365, 366, 326, 327, 328, 329, 317, 318, 319, 320, 983, 984, 985, 986, 987, 988, 989, 990, 991, 992, 1033, 1034, 1035, 1036, 1037, 1038, 1039, 1040, 1041, 1042, 1043] (by decide +kernel) (by decide +kernel)
set_option maxRecDepth 20000 in
theorem gL_law_X6_best : GoodIn wsL_law (wsV RL 121 RX6 yX6_best wsX6_best) := goodIn_app (goodIn_of _ (by decide +kernel)) ggL_law_X6_best
set_option maxRecDepth 20000 in
theorem ggL_law_X7_best : GoodIn wsL_law wsX7_best := goodIn_r _ [824, 825, 826, 827, 5, 828, 300, 301, 302, 303, 164, 165, 202, 158, 162, 155, 156, 157, 304, 166, 167, 305, 306, 307, 308, 270, 159, 160, 161, 206, 207, 208, 309, 310, 311, 312, 800, 801, 802, 803, 343, 344, 345, 346, 347, 348, 349, 350, 993, 994, 995, 996, 997, 998, 999, 1000, 1001, 1002, 1003, 1004, 1005, 1006, 1007, 1008, 1009, 1010, 1011, 1012, 1013, 1014, 1015, 1016, 1017, 1018, 1019, 1020] (by decide +kernel) (by decide +kernel)
set_option maxRecDepth 20000 in
theorem gL_law_X7_best : GoodIn wsL_law (wsV RL 124 RX7 yX7_best wsX7_best) := goodIn_app (goodIn_of _ (by decide +kernel)) ggL_law_X7_best
set_option maxRecDepth 20000 in
theorem ggL_law_X6_sure : GoodIn wsL_law wsX6_sure := goodIn_r _ [832, 27, 404, 405, 2, 406, 833, 834, 835, 836, 317, 318, 319, 26, 320, 76, 74, 330, 331, 332, 333, 78, 77, 326, 327, 328, 329, 75, 376, 377, 378, 379, 808, 809, 810, 811, 812, 813, 814, 815, 816, 983, 984, 985, 986, 987, 988, 989, 990, 991, 992, 1033, 1034, 1035, 1036, 1037, 1038, 1039, 1040, 1041, 1042, 1043] (by decide +kernel) (by decide +kernel)
set_option maxRecDepth 20000 in
theorem gL_law_X6_sure : GoodIn wsL_law (wsV RL 125 RX6 yX6_sure wsX6_sure) := goodIn_app (goodIn_of _ (by decide +kernel)) ggL_law_X6_sure
set_option maxRecDepth 20000 in
theorem ggL_law_X7_sure : GoodIn wsL_law wsX7_sure := goodIn_r _ [840, 411, 412, 5, 413, 414, 206, 207, 208, 841, 842, 843, 844, 300, 301, 302, 303, 164, 165, 202, 158, 162, 155, 156, 157, 304, 166, 167, 305, 306, 307, 308, 270, 159, 160, 161, 309, 310, 311, 312, 351, 352, 353, 354, 347, 348, 349, 350, 993, 994, 995, 996, 997, 998, 999, 1000, 1001, 1002, 1003, 1004, 1005, 1006, 1007, 1008, 1009, 1010, 1011, 1012, 1013, 1014, 1015, 1016, 1017, 1018, 1019, 1020] (by decide +kernel) (by decide +kernel)
set_option maxRecDepth 20000 in
theorem gL_law_X7_sure : GoodIn wsL_law (wsV RL 128 RX7 yX7_sure wsX7_sure) := goodIn_app (goodIn_of _ (by decide +kernel)) ggL_law_X7_sure
set_option maxRecDepth 20000 in
theorem ggL_law_X6_sheet : GoodIn wsL_law wsX6_sheet := goodIn_r _ [848, 43, 223, 224, 2, 225, 849, 850, 851, 226, 227, 228, 229, 48, 852, 853, 854, 45, 855, 100, 101, 102, 103, 856, 85, 86, 87, 983, 984, 985, 986, 987, 988, 989, 990, 991, 992, 1050, 1051, 1052, 1053] (by decide +kernel) (by decide +kernel)
set_option maxRecDepth 20000 in
theorem gL_law_X6_sheet : GoodIn wsL_law (wsV RL 129 RX6 yX6_sheet wsX6_sheet) := goodIn_app (goodIn_of _ (by decide +kernel)) ggL_law_X6_sheet
set_option maxRecDepth 20000 in
theorem ggL_law_X7_sheet : GoodIn wsL_law wsX7_sheet := goodIn_r _ [860, 338, 151, 152, 153, 242, 243, 5, 244, 245, 206, 207, 208, 246, 247, 248, 249, 250, 993, 994, 995, 996, 997, 998, 999, 1000, 1001, 1002, 1003, 1004, 1005, 1006, 1007, 1008, 1009, 1010, 1011, 1012, 1013, 1014, 1015, 1016, 1017, 1018, 1019, 1020] (by decide +kernel) (by decide +kernel)
set_option maxRecDepth 20000 in
theorem gL_law_X7_sheet : GoodIn wsL_law (wsV RL 132 RX7 yX7_sheet wsX7_sheet) := goodIn_app (goodIn_of _ (by decide +kernel)) ggL_law_X7_sheet
set_option maxRecDepth 20000 in
theorem ggL_law_X6_lose : GoodIn wsL_law wsX6_lose := goodIn_r _ [864, 43, 221, 222, 223, 224, 2, 225, 226, 227, 228, 229, 48, 983, 984, 985, 986, 987, 988, 989, 990, 991, 992, 1050, 1051, 1052, 1053] (by decide +kernel) (by decide +kernel)
set_option maxRecDepth 20000 in
theorem gL_law_X6_lose : GoodIn wsL_law (wsV RL 133 RX6 yX6_lose wsX6_lose) := goodIn_app (goodIn_of _ (by decide +kernel)) ggL_law_X6_lose
set_option maxRecDepth 20000 in
theorem ggL_law_X7_lose : GoodIn wsL_law wsX7_lose := goodIn_r _ [868, 151, 152, 242, 243, 5, 244, 245, 206, 207, 208, 246, 247, 248, 249, 250, 993, 994, 995, 996, 997, 998, 999, 1000, 1001, 1002, 1003, 1004, 1005, 1006, 1007, 1008, 1009, 1010, 1011, 1012, 1013, 1014, 1015, 1016, 1017, 1018, 1019, 1020] (by decide +kernel) (by decide +kernel)
set_option maxRecDepth 20000 in
theorem gL_law_X7_lose : GoodIn wsL_law (wsV RL 136 RX7 yX7_lose wsX7_lose) := goodIn_app (goodIn_of _ (by decide +kernel)) ggL_law_X7_lose
set_option maxRecDepth 20000 in
theorem ggL_law_X6_lay : GoodIn wsL_law wsX6_lay := goodIn_r _ [872, 43, 223, 224, 2, 225, 849, 850, 851, 873, 874, 875, 221, 876, 877, 235, 236, 45, 237, 103, 226, 227, 228, 229, 48, 878, 879, 880, 881, 100, 234, 882, 883, 884, 885, 102, 983, 984, 985, 986, 987, 988, 989, 990, 991, 992, 1050, 1051, 1052, 1053] (by decide +kernel) (by decide +kernel)
set_option maxRecDepth 20000 in
theorem gL_law_X6_lay : GoodIn wsL_law (wsV RL 137 RX6 yX6_lay wsX6_lay) := goodIn_app (goodIn_of _ (by decide +kernel)) ggL_law_X6_lay
set_option maxRecDepth 20000 in
theorem ggL_law_X7_lay : GoodIn wsL_law wsX7_lay := goodIn_r _ [889, 338, 153, 242, 243, 5, 244, 245, 206, 207, 208, 890, 891, 892, 893, 151, 152, 246, 247, 248, 249, 250, 894, 895, 896, 993, 994, 995, 996, 997, 998, 999, 1000, 1001, 1002, 1003, 1004, 1005, 1006, 1007, 1008, 1009, 1010, 1011, 1012, 1013, 1014, 1015, 1016, 1017, 1018, 1019, 1020] (by decide +kernel) (by decide +kernel)
set_option maxRecDepth 20000 in
theorem gL_law_X7_lay : GoodIn wsL_law (wsV RL 140 RX7 yX7_lay wsX7_lay) := goodIn_app (goodIn_of _ (by decide +kernel)) ggL_law_X7_lay
set_option maxRecDepth 20000 in
theorem ggL_law_X6_get : GoodIn wsL_law wsX6_get := goodIn_r _ [900, 901, 43, 223, 224, 2, 225, 849, 850, 851, 873, 874, 875, 221, 876, 877, 235, 236, 45, 237, 103, 226, 227, 228, 229, 48, 230, 231, 232, 233, 100, 234, 983, 984, 985, 986, 987, 988, 989, 990, 991, 992, 1050, 1051, 1052, 1053] (by decide +kernel) (by decide +kernel)
set_option maxRecDepth 20000 in
theorem gL_law_X6_get : GoodIn wsL_law (wsV RL 141 RX6 yX6_get wsX6_get) := goodIn_app (goodIn_of _ (by decide +kernel)) ggL_law_X6_get
set_option maxRecDepth 20000 in
theorem ggL_law_X7_get : GoodIn wsL_law wsX7_get := goodIn_r _ [905, 338, 906, 153, 242, 243, 5, 244, 245, 206, 207, 208, 890, 891, 892, 893, 151, 152, 246, 247, 248, 249, 250, 993, 994, 995, 996, 997, 998, 999, 1000, 1001, 1002, 1003, 1004, 1005, 1006, 1007, 1008, 1009, 1010, 1011, 1012, 1013, 1014, 1015, 1016, 1017, 1018, 1019, 1020] (by decide +kernel) (by decide +kernel)
set_option maxRecDepth 20000 in
theorem gL_law_X7_get : GoodIn wsL_law (wsV RL 144 RX7 yX7_get wsX7_get) := goodIn_app (goodIn_of _ (by decide +kernel)) ggL_law_X7_get
set_option maxRecDepth 20000 in
theorem ggL_law_X6_copy : GoodIn wsL_law wsX6_copy := goodIn_r _ [910, 43, 221, 876, 911, 912, 913, 914, 915, 223, 224, 2, 225, 226, 227, 228, 229, 48, 877, 235, 236, 45, 237, 103, 983, 984, 985, 986, 987, 988, 989, 990, 991, 992, 1050, 1051, 1052, 1053] (by decide +kernel) (by decide +kernel)
set_option maxRecDepth 20000 in
theorem gL_law_X6_copy : GoodIn wsL_law (wsV RL 145 RX6 yX6_copy wsX6_copy) := goodIn_app (goodIn_of _ (by decide +kernel)) ggL_law_X6_copy
set_option maxRecDepth 20000 in
theorem ggL_law_X7_copy : GoodIn wsL_law wsX7_copy := goodIn_r _ [919, 151, 152, 154, 153, 242, 243, 5, 244, 245, 206, 207, 208, 246, 247, 248, 249, 250, 993, 994, 995, 996, 997, 998, 999, 1000, 1001, 1002, 1003, 1004, 1005, 1006, 1007, 1008, 1009, 1010, 1011, 1012, 1013, 1014, 1015, 1016, 1017, 1018, 1019, 1020] (by decide +kernel) (by decide +kernel)
set_option maxRecDepth 20000 in
theorem gL_law_X7_copy : GoodIn wsL_law (wsV RL 149 RX7 yX7_copy wsX7_copy) := goodIn_app (goodIn_of _ (by decide +kernel)) ggL_law_X7_copy
set_option maxRecDepth 20000 in
theorem ggL_law_X6_write : GoodIn wsL_law wsX6_write := goodIn_r _ [923, 43, 221, 222, 924, 925, 145, 926, 23, 113, 289, 176, 123, 2, 124, 223, 224, 225, 226, 227, 228, 229, 48, 878, 879, 880, 45, 881, 100, 234, 235, 236, 237, 103, 882, 883, 884, 885, 102, 983, 984, 985, 986, 987, 988, 989, 990, 991, 992, 1050, 1051, 1052, 1053, 1031, 1032] (by decide +kernel) (by decide +kernel)
set_option maxRecDepth 20000 in
theorem gL_law_X6_write : GoodIn wsL_law (wsV RL 150 RX6 yX6_write wsX6_write) := goodIn_app (goodIn_of _ (by decide +kernel)) ggL_law_X6_write
set_option maxRecDepth 20000 in
theorem ggL_law_X7_write : GoodIn wsL_law wsX7_write := goodIn_r _ [930, 151, 152, 153, 164, 165, 209, 210, 5, 211, 212, 206, 207, 208, 242, 243, 244, 245, 246, 247, 248, 249, 250, 300, 301, 302, 303, 202, 158, 162, 155, 156, 157, 304, 166, 167, 305, 306, 307, 308, 270, 159, 160, 161, 309, 310, 311, 312, 894, 895, 896, 993, 994, 995, 996, 997, 998, 999, 1000, 1001, 1002, 1003, 1004, 1005, 1006, 1007, 1008, 1009, 1010, 1011, 1012, 1013, 1014, 1015, 1016, 1017, 1018, 1019, 1020] (by decide +kernel) (by decide +kernel)
set_option maxRecDepth 20000 in
theorem gL_law_X7_write : GoodIn wsL_law (wsV RL 153 RX7 yX7_write wsX7_write) := goodIn_app (goodIn_of _ (by decide +kernel)) ggL_law_X7_write
set_option maxRecDepth 20000 in
theorem ggL_law_X6_count : GoodIn wsL_law wsX6_count := goodIn_r _ [934, 15, 108, 19, 256, 27, 402, 935, 936, 937, 41, 691, 48, 938, 939, 940, 2, 941, 37, 983, 984, 985, 986, 987, 988, 989, 990, 991, 992, 1021, 1022, 1023, 1024, 1025, 1026, 1027, 1028, 1029, 1030, 1033, 1034, 1035, 1036, 1037, 1038, 1039, 1040, 1041, 1042, 1043, 1044, 1045, 1046, 1047, 1048, 1049] (by decide +kernel) (by decide +kernel)
set_option maxRecDepth 20000 in
theorem gL_law_X6_count : GoodIn wsL_law (wsV RL 154 RX6 yX6_count wsX6_count) := goodIn_app (goodIn_of _ (by decide +kernel)) ggL_law_X6_count
set_option maxRecDepth 20000 in
theorem ggL_law_X7_count : GoodIn wsL_law wsX7_count := goodIn_r _ [945, 202, 270, 304, 163, 706, 250, 300, 301, 302, 5, 303, 164, 165, 158, 162, 155, 156, 157, 166, 167, 305, 306, 307, 308, 159, 160, 161, 206, 207, 208, 309, 310, 311, 312, 946, 947, 948, 949, 950, 951, 952, 953, 993, 994, 995, 996, 997, 998, 999, 1000, 1001, 1002, 1003, 1004, 1005, 1006, 1007, 1008, 1009, 1010, 1011, 1012, 1013, 1014, 1015, 1016, 1017, 1018, 1019, 1020] (by decide +kernel) (by decide +kernel)
set_option maxRecDepth 20000 in
theorem gL_law_X7_count : GoodIn wsL_law (wsV RL 157 RX7 yX7_count wsX7_count) := goodIn_app (goodIn_of _ (by decide +kernel)) ggL_law_X7_count
set_option maxRecDepth 20000 in
theorem ggL_law_X6_digest_q1 : GoodIn wsL_law (wsX6_digest_r1) := goodIn_r _ [958, 959, 932, 933, 2, 934, 15, 108, 19, 256, 27, 402, 935, 936, 937, 41, 691, 48, 938, 939, 940, 941, 37, 960] (by decide +kernel) (by decide +kernel)
set_option maxRecDepth 20000 in
theorem ggL_law_X6_digest_q2 : GoodIn wsL_law (wsX6_digest_r2) := goodIn_r _ [961, 962, 963, 964, 286, 287, 288, 23, 113, 289, 176, 123, 124, 290, 291, 292, 965, 668, 669, 670, 671, 672, 673, 674] (by decide +kernel) (by decide +kernel)
set_option maxRecDepth 20000 in
theorem ggL_law_X6_digest_q3 : GoodIn wsL_law (wsX6_digest_r3) := goodIn_r _ [403, 642, 643, 644, 645, 646, 675, 676, 677, 678, 966, 314, 315, 316, 180, 181, 182, 317, 318, 319, 26, 320, 76, 74] (by decide +kernel) (by decide +kernel)
set_option maxRecDepth 20000 in
theorem ggL_law_X6_digest_q4 : GoodIn wsL_law (wsX6_digest_r4) := goodIn_r _ [321, 322, 323, 324, 325, 326, 327, 328, 329, 77, 75, 330, 331, 332, 333, 78, 967, 356, 357, 358, 359, 360, 361, 362] (by decide +kernel) (by decide +kernel)
set_option maxRecDepth 20000 in
theorem ggL_law_X6_digest_q5 : GoodIn wsL_law (wsX6_digest_r5) := goodIn_r _ [363, 364, 365, 366, 367, 368, 369, 370, 371, 145, 372, 373, 374, 375, 376, 377, 378, 379, 968, 399, 400, 401, 404, 405] (by decide +kernel) (by decide +kernel)
set_option maxRecDepth 20000 in
theorem ggL_law_X6_digest_q6 : GoodIn wsL_law (wsX6_digest_r6) := goodIn_r _ [406, 969, 497, 498, 499, 500, 501, 502, 503, 504, 505, 506, 47, 507, 508, 509, 510, 511, 512, 513, 86, 514, 970, 532] (by decide +kernel) (by decide +kernel)
set_option maxRecDepth 20000 in
theorem ggL_law_X6_digest_q7 : GoodIn wsL_law (wsX6_digest_r7) := goodIn_r _ [533, 534, 535, 536, 537, 971, 590, 591, 592, 593, 594, 595, 596, 553, 554, 555, 556, 557, 558, 559, 560, 73, 561, 562] (by decide +kernel) (by decide +kernel)
set_option maxRecDepth 20000 in
theorem ggL_law_X6_digest_q8 : GoodIn wsL_law (wsX6_digest_r8) := goodIn_r _ [563, 564, 565, 566, 567, 568, 569, 570, 571, 572, 79, 597, 598, 599, 600, 601, 442, 443, 444, 602, 603, 604, 605, 972] (by decide +kernel) (by decide +kernel)
set_option maxRecDepth 20000 in
theorem ggL_law_X6_digest_q9 : GoodIn wsL_law (wsX6_digest_r9) := goodIn_r _ [635, 636, 637, 638, 639, 640, 641, 647, 648, 649, 650, 651, 652, 653, 654, 973, 716, 717, 718, 719, 720, 721, 40, 722] (by decide +kernel) (by decide +kernel)
set_option maxRecDepth 20000 in
theorem ggL_law_X6_digest_q10 : GoodIn wsL_law (wsX6_digest_r10) := goodIn_r _ [96, 95, 94, 723, 724, 725, 726, 91, 727, 728, 729, 730, 92, 93, 731, 732, 733, 734, 735, 144, 146, 736, 737, 738] (by decide +kernel) (by decide +kernel)
set_option maxRecDepth 20000 in
theorem ggL_law_X6_digest_q11 : GoodIn wsL_law (wsX6_digest_r11) := goodIn_r _ [739, 974, 805, 806, 807, 808, 809, 810, 811, 812, 813, 814, 815, 816, 817, 818, 819, 820, 792, 793, 794, 795, 35, 975] (by decide +kernel) (by decide +kernel)
set_option maxRecDepth 20000 in
theorem ggL_law_X6_digest_q12 : GoodIn wsL_law (wsX6_digest_r12) := goodIn_r _ [830, 831, 832, 833, 834, 835, 836] (by decide +kernel) (by decide +kernel)
set_option maxRecDepth 20000 in
theorem ggL_law_X6_digest_q13 : GoodIn wsL_law (wsX60) := goodIn_r _ [983, 984, 985, 986, 987, 988, 989, 990, 991, 992] (by decide +kernel) (by decide +kernel)
set_option maxRecDepth 20000 in
theorem ggL_law_X6_digest_q14 : GoodIn wsL_law (wsX40) := goodIn_r _ [1021, 1022, 1023, 1024, 1025, 1026] (by decide +kernel) (by decide +kernel)
set_option maxRecDepth 20000 in
theorem ggL_law_X6_digest_q15 : GoodIn wsL_law (wsX50) := goodIn_r _ [1027, 1028, 1029, 1030] (by decide +kernel) (by decide +kernel)
set_option maxRecDepth 20000 in
theorem ggL_law_X6_digest_q16 : GoodIn wsL_law (wsX00) := goodIn_r _ [1033, 1034, 1035, 1036, 1037, 1038, 1039, 1040, 1041, 1042, 1043] (by decide +kernel) (by decide +kernel)
set_option maxRecDepth 20000 in
theorem ggL_law_X6_digest_q17 : GoodIn wsL_law (wsX10) := goodIn_r _ [1044, 1045, 1046, 1047, 1048, 1049] (by decide +kernel) (by decide +kernel)
set_option maxRecDepth 20000 in
theorem ggL_law_X6_digest_q18 : GoodIn wsL_law (wsX20) := goodIn_r _ [1031, 1032] (by decide +kernel) (by decide +kernel)
set_option maxRecDepth 20000 in
theorem ggL_law_X6_digest_q0 : GoodIn wsL_law [.code yX6_digest cX6_digest 5 (some .long)] := goodIn_r _ [957] (by decide +kernel) (by decide +kernel)
theorem ggL_law_X6_digest : GoodIn wsL_law wsX6_digest := fun w h => (List.mem_cons.mp h).elim (fun e => ggL_law_X6_digest_q0 w (List.mem_singleton.mpr e)) (fun h => (goodIn_app (goodIn_app (goodIn_app (goodIn_app (goodIn_app (goodIn_app (goodIn_app (ggL_law_X6_digest_q1) (goodIn_app (ggL_law_X6_digest_q2) (goodIn_app (ggL_law_X6_digest_q3) (goodIn_app (ggL_law_X6_digest_q4) (goodIn_app (ggL_law_X6_digest_q5) (goodIn_app (ggL_law_X6_digest_q6) (goodIn_app (ggL_law_X6_digest_q7) (goodIn_app (ggL_law_X6_digest_q8) (goodIn_app (ggL_law_X6_digest_q9) (goodIn_app (ggL_law_X6_digest_q10) (goodIn_app (ggL_law_X6_digest_q11) (ggL_law_X6_digest_q12)))))))))))) (ggL_law_X6_digest_q13)) (ggL_law_X6_digest_q14)) (ggL_law_X6_digest_q15)) (ggL_law_X6_digest_q16)) (ggL_law_X6_digest_q17)) (ggL_law_X6_digest_q18)) w h)
set_option maxRecDepth 20000 in
theorem gL_law_X6_digest : GoodIn wsL_law (wsV RL 158 RX6 yX6_digest wsX6_digest) := goodIn_app (goodIn_of _ (by decide +kernel)) ggL_law_X6_digest
set_option maxRecDepth 20000 in
theorem ggL_law_X7_digest_q1 : GoodIn wsL_law (wsX7_digest_r1) := goodIn_r _ [980, 981, 164, 165, 982, 943, 944, 5, 945, 202, 270, 304, 163, 706, 250, 300, 301, 302, 303, 158, 162, 155, 156, 157] (by decide +kernel) (by decide +kernel)
set_option maxRecDepth 20000 in
theorem ggL_law_X7_digest_q2 : GoodIn wsL_law (wsX7_digest_r2) := goodIn_r _ [166, 167, 305, 306, 307, 308, 159, 160, 161, 206, 207, 208, 309, 310, 311, 312, 946, 947, 948, 949, 950, 951, 952, 953] (by decide +kernel) (by decide +kernel)
set_option maxRecDepth 20000 in
theorem ggL_law_X7_digest_q3 : GoodIn wsL_law (wsX7_digest_r3) := goodIn_r _ [683, 684, 685, 686, 663, 664, 665, 666, 339, 340, 341, 342, 343, 344, 345, 346, 347, 348, 349, 350, 351, 352, 353, 354] (by decide +kernel) (by decide +kernel)
set_option maxRecDepth 20000 in
theorem ggL_law_X7_digest_q4 : GoodIn wsL_law (wsX7_digest_r4) := goodIn_r _ [384, 385, 386, 387, 388, 389, 390, 391, 392, 393, 394, 395, 396, 397, 415, 416, 417, 418, 519, 520, 521, 522, 523, 524] (by decide +kernel) (by decide +kernel)
set_option maxRecDepth 20000 in
theorem ggL_law_X7_digest_q5 : GoodIn wsL_law (wsX7_digest_r5) := goodIn_r _ [525, 526, 168, 527, 528, 529, 530, 542, 543, 544, 545, 546, 547, 548, 610, 611, 612, 613, 614, 615, 616, 617, 577, 578] (by decide +kernel) (by decide +kernel)
set_option maxRecDepth 20000 in
theorem ggL_law_X7_digest_q6 : GoodIn wsL_law (wsX7_digest_r6) := goodIn_r _ [579, 580, 581, 582, 583, 584, 585, 586, 587, 588, 618, 619, 620, 621, 622, 623, 624, 659, 660, 661, 662, 744, 745, 746] (by decide +kernel) (by decide +kernel)
set_option maxRecDepth 20000 in
theorem ggL_law_X7_digest_q7 : GoodIn wsL_law (wsX7_digest_r7) := goodIn_r _ [747, 748, 749, 750, 751, 752, 753, 170, 171, 754, 755, 756, 757, 758, 759, 760, 761, 762, 763, 169, 825, 826, 827, 828] (by decide +kernel) (by decide +kernel)
set_option maxRecDepth 20000 in
theorem ggL_law_X7_digest_q8 : GoodIn wsL_law (wsX7_digest_r8) := goodIn_r _ [800, 801, 802, 803, 841, 842, 843, 844] (by decide +kernel) (by decide +kernel)
set_option maxRecDepth 20000 in
theorem ggL_law_X7_digest_q9 : GoodIn wsL_law (wsX70) := goodIn_r _ [993, 994, 995, 996, 997, 998, 999, 1000, 1001, 1002, 1003, 1004, 1005, 1006, 1007, 1008, 1009, 1010, 1011, 1012, 1013, 1014, 1015, 1016, 1017, 1018, 1019, 1020] (by decide +kernel) (by decide +kernel)
set_option maxRecDepth 20000 in
theorem ggL_law_X7_digest_q0 : GoodIn wsL_law [.code yX7_digest cX7_digest 5 (some .long)] := goodIn_r _ [979] (by decide +kernel) (by decide +kernel)
theorem ggL_law_X7_digest : GoodIn wsL_law wsX7_digest := fun w h => (List.mem_cons.mp h).elim (fun e => ggL_law_X7_digest_q0 w (List.mem_singleton.mpr e)) (fun h => (goodIn_app (goodIn_app (ggL_law_X7_digest_q1) (goodIn_app (ggL_law_X7_digest_q2) (goodIn_app (ggL_law_X7_digest_q3) (goodIn_app (ggL_law_X7_digest_q4) (goodIn_app (ggL_law_X7_digest_q5) (goodIn_app (ggL_law_X7_digest_q6) (goodIn_app (ggL_law_X7_digest_q7) (ggL_law_X7_digest_q8)))))))) (ggL_law_X7_digest_q9)) w h)
set_option maxRecDepth 20000 in
theorem gL_law_X7_digest : GoodIn wsL_law (wsV RL 162 RX7 yX7_digest wsX7_digest) := goodIn_app (goodIn_of _ (by decide +kernel)) ggL_law_X7_digest
