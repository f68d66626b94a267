set_option maxRecDepth 20000 in
theorem ggL_law_X6_init : GoodIn wsL_law wsX6_init := goodIn_r _ [8, 9, 10, 11, 12, 13, 14, 15, 16, 17, 18, 19, 20, 21, 22, 23, 24, 25, 26, 27, 28, 29, 30, 31, 32, 33, 34, 35, 36, 37, 38, 39, 40, 41, 42, 43, 44, 45, 46, 47, 48, 49, 50, 51, 52, 53, 54, 55, 56, 57, 58, 59, 60, 61, 62, 63, 64, 65, 66, 67, 68, 69, 70, 71, 72, 73, 74, 75, 76, 77, 78, 79, 80, 81, 82, 83, 84, 85, 86, 87, 88, 89, 90, 91, 92, 93, 94, 95, 96, 97, 98, 99, 100, 101, 102, 103, 104, 105, 106, 2, 107, 108, 109, 110, 111, 112, 113, 114, 115, 116, 117, 118, 119, 120, 121, 122, 123, 124, 125, 126, 127, 128, 129, 130, 131, 132, 133, 134, 135, 136, 137, 138, 139, 140, 141, 142, 143, 144, 145, 146, 1021, 1022, 1023, 1024, 1025, 1026, 983, 984, 985, 986, 987, 988, 989, 990, 991, 992, 1027, 1028, 1029, 1030, 1031, 1032, 1033, 1034, 1035, 1036, 1037, 1038, 1039, 1040, 1041, 1042, 1043, 1044, 1045, 1046, 1047, 1048, 1049, 1050, 1051, 1052, 1053] (by decide +kernel) (by decide +kernel)
set_option maxRecDepth 20000 in
theorem gL_law_X6_init : GoodIn wsL_law (wsX6_init) := ggL_law_X6_init
set_option maxRecDepth 20000 in
theorem ggL_law_X7_init : GoodIn wsL_law wsX7_init := goodIn_r _ [149, 150, 10, 11, 36, 151, 152, 153, 154, 155, 156, 157, 158, 159, 160, 161, 162, 163, 164, 165, 166, 167, 46, 168, 169, 170, 171, 993, 994, 995, 996, 997, 998, 999, 1000, 1001, 1002, 1003, 1004, 1005, 1006, 1007, 1008, 1009, 1010, 1011, 1012, 1013, 1014, 1015, 1016, 1017, 1018, 1019, 1020] (by decide +kernel) (by decide +kernel)
set_option maxRecDepth 20000 in
theorem gL_law_X7_init : GoodIn wsL_law (wsX7_init) := ggL_law_X7_init
set_option maxRecDepth 20000 in
theorem ggL_law_X6_tell : GoodIn wsL_law wsX6_tell := goodIn_r _ [175, 15, 108, 176, 123, 2, 124, 177, 178, 179, 180, 181, 182, 183, 184, 185, 186, 187, 188, 189, 190, 14, 191, 56, 192, 193, 194, 195, 52, 53, 54, 55, 57, 196, 104, 105, 106, 107, 23, 109, 35, 110, 111, 112, 19, 113, 27, 114, 115, 116, 22, 117, 68, 69, 118, 85, 86, 87, 119, 120, 121, 122, 125, 126, 127, 18, 128, 64, 61, 62, 63, 129, 130, 131, 26, 132, 76, 77, 78, 79, 80, 81, 82, 83, 133, 134, 135, 136, 137, 138, 73, 74, 75, 139, 140, 141, 142, 143, 144, 145, 146, 983, 984, 985, 986, 987, 988, 989, 990, 991, 992, 1021, 1022, 1023, 1024, 1025, 1026, 1031, 1032, 1027, 1028, 1029, 1030, 1033, 1034, 1035, 1036, 1037, 1038, 1039, 1040, 1041, 1042, 1043] (by decide +kernel) (by decide +kernel)
set_option maxRecDepth 20000 in
theorem gL_law_X6_tell : GoodIn wsL_law (wsV RL 13 RX6 yX6_tell wsX6_tell) := goodIn_app (goodIn_of _ (by decide +kernel)) ggL_law_X6_tell
set_option maxRecDepth 20000 in
theorem ggL_law_X7_tell : GoodIn wsL_law wsX7_tell := goodIn_r _ [200, 201, 202, 155, 156, 157, 158, 203, 204, 5, 205, 206, 207, 208, 209, 210, 211, 212, 213, 214, 215, 216, 993, 994, 995, 996, 997, 998, 999, 1000, 1001, 1002, 1003, 1004, 1005, 1006, 1007, 1008, 1009, 1010, 1011, 1012, 1013, 1014, 1015, 1016, 1017, 1018, 1019, 1020] (by decide +kernel) (by decide +kernel)
set_option maxRecDepth 20000 in
theorem gL_law_X7_tell : GoodIn wsL_law (wsV RL 17 RX7 yX7_tell wsX7_tell) := goodIn_app (goodIn_of _ (by decide +kernel)) ggL_law_X7_tell
set_option maxRecDepth 20000 in
theorem ggL_law_X6_read : GoodIn wsL_law wsX6_read := goodIn_r _ [220, 43, 221, 222, 15, 223, 224, 2, 225, 176, 123, 124, 183, 184, 185, 186, 187, 226, 227, 228, 229, 48, 188, 189, 190, 14, 191, 56, 230, 231, 232, 45, 233, 100, 234, 235, 236, 237, 103, 180, 181, 182, 192, 193, 194, 195, 52, 53, 54, 55, 57, 196, 104, 105, 106, 107, 23, 108, 109, 35, 110, 111, 112, 19, 113, 27, 114, 115, 116, 22, 117, 68, 69, 118, 85, 86, 87, 119, 120, 121, 122, 125, 126, 127, 18, 128, 64, 61, 62, 63, 129, 130, 131, 26, 132, 76, 77, 78, 79, 80, 81, 82, 83, 133, 134, 135, 136, 137, 138, 73, 74, 75, 139, 140, 141, 142, 143, 144, 145, 146, 983, 984, 985, 986, 987, 988, 989, 990, 991, 992, 1050, 1051, 1052, 1053, 1021, 1022, 1023, 1024, 1025, 1026, 1031, 1032, 1027, 1028, 1029, 1030, 1033, 1034, 1035, 1036, 1037, 1038, 1039, 1040, 1041, 1042, 1043] (by decide +kernel) (by decide +kernel)
set_option maxRecDepth 20000 in
theorem gL_law_X6_read : GoodIn wsL_law (wsV RL 18 RX6 yX6_read wsX6_read) := goodIn_app (goodIn_of _ (by decide +kernel)) ggL_law_X6_read
set_option maxRecDepth 20000 in
theorem ggL_law_X7_read : GoodIn wsL_law wsX7_read := goodIn_r _ [241, 151, 152, 153, 242, 243, 5, 244, 245, 206, 207, 208, 209, 210, 211, 212, 203, 204, 205, 201, 213, 214, 215, 216, 202, 158, 246, 247, 248, 249, 250, 251, 198, 199, 200, 155, 156, 157, 993, 994, 995, 996, 997, 998, 999, 1000, 1001, 1002, 1003, 1004, 1005, 1006, 1007, 1008, 1009, 1010, 1011, 1012, 1013, 1014, 1015, 1016, 1017, 1018, 1019, 1020] (by decide +kernel) (by decide +kernel)
set_option maxRecDepth 20000 in
theorem gL_law_X7_read : GoodIn wsL_law (wsV RL 22 RX7 yX7_read wsX7_read) := goodIn_app (goodIn_of _ (by decide +kernel)) ggL_law_X7_read
set_option maxRecDepth 20000 in
theorem ggL_law_X6_watch : GoodIn wsL_law wsX6_watch := goodIn_r _ [255, 19, 256, 176, 123, 2, 124, 180, 181, 182, 257, 258, 259, 18, 260, 64, 261, 262, 263, 264, 61, 62, 63, 265, 104, 105, 106, 107, 23, 15, 108, 109, 35, 110, 111, 112, 113, 27, 114, 115, 116, 22, 117, 68, 69, 118, 85, 86, 87, 119, 120, 121, 122, 125, 126, 127, 128, 129, 130, 131, 26, 132, 76, 77, 78, 79, 80, 81, 82, 83, 133, 134, 135, 136, 137, 138, 73, 74, 75, 139, 140, 141, 142, 143, 144, 145, 146, 983, 984, 985, 986, 987, 988, 989, 990, 991, 992, 1027, 1028, 1029, 1030, 1021, 1022, 1023, 1024, 1025, 1026, 1031, 1032, 1033, 1034, 1035, 1036, 1037, 1038, 1039, 1040, 1041, 1042, 1043] (by decide +kernel) (by decide +kernel)
set_option maxRecDepth 20000 in
theorem gL_law_X6_watch : GoodIn wsL_law (wsV RL 23 RX6 yX6_watch wsX6_watch) := goodIn_app (goodIn_of _ (by decide +kernel)) ggL_law_X6_watch
set_option maxRecDepth 20000 in
theorem ggL_law_X7_watch : GoodIn wsL_law wsX7_watch := goodIn_r _ [269, 201, 270, 159, 160, 161, 209, 210, 5, 211, 212, 206, 207, 208, 993, 994, 995, 996, 997, 998, 999, 1000, 1001, 1002, 1003, 1004, 1005, 1006, 1007, 1008, 1009, 1010, 1011, 1012, 1013, 1014, 1015, 1016, 1017, 1018, 1019, 1020] (by decide +kernel) (by decide +kernel)
set_option maxRecDepth 20000 in
theorem gL_law_X7_watch : GoodIn wsL_law (wsV RL 26 RX7 yX7_watch wsX7_watch) := goodIn_app (goodIn_of _ (by decide +kernel)) ggL_law_X7_watch
set_option maxRecDepth 20000 in
theorem ggL_law_X6_set : GoodIn wsL_law wsX6_set := goodIn_r _ [274, 275, 276, 35, 104, 105, 106, 2, 107, 23, 15, 108, 109, 110, 111, 112, 19, 113, 27, 114, 115, 116, 22, 117, 68, 69, 118, 85, 86, 87, 119, 120, 121, 122, 123, 124, 125, 126, 127, 18, 128, 64, 61, 62, 63, 129, 130, 131, 26, 132, 76, 77, 78, 79, 80, 81, 82, 83, 133, 134, 135, 136, 137, 138, 73, 74, 75, 139, 140, 141, 142, 143, 144, 145, 146, 983, 984, 985, 986, 987, 988, 989, 990, 991, 992, 1021, 1022, 1023, 1024, 1025, 1026, 1031, 1032, 1027, 1028, 1029, 1030, 1033, 1034, 1035, 1036, 1037, 1038, 1039, 1040, 1041, 1042, 1043] (by decide +kernel) (by decide +kernel)
set_option maxRecDepth 20000 in
theorem gL_law_X6_set : GoodIn wsL_law (wsV RL 27 RX6 yX6_set wsX6_set) := goodIn_app (goodIn_of _ (by decide +kernel)) ggL_law_X6_set
set_option maxRecDepth 20000 in
theorem ggL_law_X7_set : GoodIn wsL_law wsX7_set := goodIn_r _ [280, 281, 162, 206, 207, 5, 208, 282, 283, 284, 993, 994, 995, 996, 997, 998, 999, 1000, 1001, 1002, 1003, 1004, 1005, 1006, 1007, 1008, 1009, 1010, 1011, 1012, 1013, 1014, 1015, 1016, 1017, 1018, 1019, 1020] (by decide +kernel) (by decide +kernel)
set_option maxRecDepth 20000 in
theorem gL_law_X7_set : GoodIn wsL_law (wsV RL 31 RX7 yX7_set wsX7_set) := goodIn_app (goodIn_of _ (by decide +kernel)) ggL_law_X7_set
set_option maxRecDepth 20000 in
theorem ggL_law_X6_known : GoodIn wsL_law wsX6_known := goodIn_r _ [288, 23, 113, 289, 176, 123, 2, 124, 290, 291, 292, 983, 984, 985, 986, 987, 988, 989, 990, 991, 992, 1031, 1032] (by decide +kernel) (by decide +kernel)
set_option maxRecDepth 20000 in
theorem gL_law_X6_known : GoodIn wsL_law (wsV RL 32 RX6 yX6_known wsX6_known) := goodIn_app (goodIn_of _ (by decide +kernel)) ggL_law_X6_known
set_option maxRecDepth 20000 in
theorem ggL_law_X7_known : GoodIn wsL_law wsX7_known := goodIn_r _ [296, 164, 165, 209, 210, 5, 211, 212, 206, 207, 208, 297, 298, 299, 300, 301, 302, 303, 202, 158, 162, 155, 156, 157, 304, 166, 167, 305, 306, 307, 308, 270, 159, 160, 161, 309, 310, 311, 312, 993, 994, 995, 996, 997, 998, 999, 1000, 1001, 1002, 1003, 1004, 1005, 1006, 1007, 1008, 1009, 1010, 1011, 1012, 1013, 1014, 1015, 1016, 1017, 1018, 1019, 1020] (by decide +kernel) (by decide +kernel)
set_option maxRecDepth 20000 in
theorem gL_law_X7_known : GoodIn wsL_law (wsV RL 35 RX7 yX7_known wsX7_known) := goodIn_app (goodIn_of _ (by decide +kernel)) ggL_law_X7_known
set_option maxRecDepth 20000 in
theorem ggL_law_X6_over : GoodIn wsL_law wsX6_over := goodIn_r _ [316, 27, 180, 181, 2, 182, 317, 318, 319, 26, 320, 76, 74, 321, 322, 323, 324, 325, 326, 327, 328, 329, 77, 75, 330, 331, 332, 333, 78, 983, 984, 985, 986, 987, 988, 989, 990, 991, 992, 1033, 1034, 1035, 1036, 1037, 1038, 1039, 1040, 1041, 1042, 1043] (by decide +kernel) (by decide +kernel)
set_option maxRecDepth 20000 in
theorem gL_law_X6_over : GoodIn wsL_law (wsV RL 36 RX6 yX6_over wsX6_over) := goodIn_app (goodIn_of _ (by decide +kernel)) ggL_law_X6_over
set_option maxRecDepth 20000 in
theorem ggL_law_X7_over : GoodIn wsL_law wsX7_over := goodIn_r _ [337, 338, 203, 204, 5, 205, 201, 206, 207, 208, 339, 340, 341, 342, 300, 301, 302, 303, 164, 165, 202, 158, 162, 155, 156, 157, 304, 166, 167, 305, 306, 307, 308, 270, 159, 160, 161, 309, 310, 311, 312, 343, 344, 345, 346, 347, 348, 349, 350, 351, 352, 353, 354, 993, 994, 995, 996, 997, 998, 999, 1000, 1001, 1002, 1003, 1004, 1005, 1006, 1007, 1008, 1009, 1010, 1011, 1012, 1013, 1014, 1015, 1016, 1017, 1018, 1019, 1020] (by decide +kernel) (by decide +kernel)
set_option maxRecDepth 20000 in
theorem gL_law_X7_over : GoodIn wsL_law (wsV RL 39 RX7 yX7_over wsX7_over) := goodIn_app (goodIn_of _ (by decide +kernel)) ggL_law_X7_over
set_option maxRecDepth 20000 in
theorem ggL_law_X6_rare : GoodIn wsL_law wsX6_rare := goodIn_r _ [358, 27, 180, 181, 2, 182, 290, 291, 292, 359, 360, 361, 362, 317, 318, 319, 26, 320, 76, 74, 363, 364, 365, 366, 326, 327, 328, 329, 77, 75, 367, 368, 369, 370, 371, 145, 372, 373, 374, 375, 376, 377, 378, 379, 78, 330, 331, 332, 333, 983, 984, 985, 986, 987, 988, 989, 990, 991, 992, 1033, 1034, 1035, 1036, 1037, 1038, 1039, 1040, 1041, 1042, 1043] (by decide +kernel) (by decide +kernel)
set_option maxRecDepth 20000 in
theorem gL_law_X6_rare : GoodIn wsL_law (wsV RL 40 RX6 yX6_rare wsX6_rare) := goodIn_app (goodIn_of _ (by decide +kernel)) ggL_law_X6_rare
set_option maxRecDepth 20000 in
theorem ggL_law_X7_rare : GoodIn wsL_law wsX7_rare := goodIn_r _ [383, 245, 203, 204, 5, 205, 201, 206, 207, 208, 297, 298, 299, 384, 385, 386, 387, 300, 301, 302, 303, 164, 165, 202, 158, 162, 155, 156, 157, 304, 166, 167, 305, 306, 307, 308, 270, 159, 160, 161, 309, 310, 311, 312, 343, 344, 345, 346, 347, 348, 349, 350, 351, 352, 353, 354, 388, 389, 390, 391, 392, 393, 394, 395, 396, 397, 993, 994, 995, 996, 997, 998, 999, 1000, 1001, 1002, 1003, 1004, 1005, 1006, 1007, 1008, 1009, 1010, 1011, 1012, 1013, 1014, 1015, 1016, 1017, 1018, 1019, 1020] (by decide +kernel) (by decide +kernel)
set_option maxRecDepth 20000 in
theorem gL_law_X7_rare : GoodIn wsL_law (wsV RL 44 RX7 yX7_rare wsX7_rare) := goodIn_app (goodIn_of _ (by decide +kernel)) ggL_law_X7_rare
set_option maxRecDepth 20000 in
theorem ggL_law_X6_soRare : GoodIn wsL_law wsX6_soRare := goodIn_r _ [401, 27, 402, 403, 404, 405, 2, 406, 317, 318, 319, 26, 320, 76, 74, 363, 364, 365, 366, 326, 327, 328, 329, 77, 75, 983, 984, 985, 986, 987, 988, 989, 990, 991, 992, 1033, 1034, 1035, 1036, 1037, 1038, 1039, 1040, 1041, 1042, 1043] (by decide +kernel) (by decide +kernel)
set_option maxRecDepth 20000 in
theorem gL_law_X6_soRare : GoodIn wsL_law (wsV RL 45 RX6 yX6_soRare wsX6_soRare) := goodIn_app (goodIn_of _ (by decide +kernel)) ggL_law_X6_soRare
set_option maxRecDepth 20000 in
theorem ggL_law_X7_soRare : GoodIn wsL_law wsX7_soRare := goodIn_r _ [410, 411, 412, 5, 413, 414, 206, 207, 208, 415, 416, 417, 418, 304, 167, 300, 301, 302, 303, 164, 165, 202, 158, 162, 155, 156, 157, 166, 305, 306, 307, 308, 270, 159, 160, 161, 309, 310, 311, 312, 343, 344, 345, 346, 347, 348, 349, 350, 993, 994, 995, 996, 997, 998, 999, 1000, 1001, 1002, 1003, 1004, 1005, 1006, 1007, 1008, 1009, 1010, 1011, 1012, 1013, 1014, 1015, 1016, 1017, 1018, 1019, 1020] (by decide +kernel) (by decide +kernel)
set_option maxRecDepth 20000 in
theorem gL_law_X7_soRare : GoodIn wsL_law (wsV RL 49 RX7 yX7_soRare wsX7_soRare) := goodIn_app (goodIn_of _ (by decide +kernel)) ggL_law_X7_soRare
set_option maxRecDepth 20000 in
theorem ggL_law_X6_rank : GoodIn wsL_law wsX6_rank := goodIn_r _ [422, 23, 113, 27, 289, 176, 123, 2, 124, 423, 424, 425, 426, 35, 317, 318, 319, 26, 320, 76, 74, 983, 984, 985, 986, 987, 988, 989, 990, 991, 992, 1031, 1032, 1033, 1034, 1035, 1036, 1037, 1038, 1039, 1040, 1041, 1042, 1043] (by decide +kernel) (by decide +kernel)
set_option maxRecDepth 20000 in
theorem gL_law_X6_rank : GoodIn wsL_law (wsV RL 50 RX6 yX6_rank wsX6_rank) := goodIn_app (goodIn_of _ (by decide +kernel)) ggL_law_X6_rank
set_option maxRecDepth 20000 in
theorem ggL_law_X7_rank : GoodIn wsL_law wsX7_rank := goodIn_r _ [430, 164, 304, 167, 165, 209, 210, 5, 211, 212, 206, 207, 208, 300, 301, 302, 303, 202, 158, 162, 155, 156, 157, 166, 305, 306, 307, 308, 270, 159, 160, 161, 309, 310, 311, 312, 993, 994, 995, 996, 997, 998, 999, 1000, 1001, 1002, 1003, 1004, 1005, 1006, 1007, 1008, 1009, 1010, 1011, 1012, 1013, 1014, 1015, 1016, 1017, 1018, 1019, 1020] (by decide +kernel) (by decide +kernel)
set_option maxRecDepth 20000 in
theorem gL_law_X7_rank : GoodIn wsL_law (wsV RL 53 RX7 yX7_rank wsX7_rank) := goodIn_app (goodIn_of _ (by decide +kernel)) ggL_law_X7_rank
set_option maxRecDepth 20000 in
theorem ggL_law_X6_again : GoodIn wsL_law wsX6_again := goodIn_r _ [434, 435, 436, 437, 2, 438, 290, 291, 292, 359, 360, 361, 362, 439, 440, 441, 442, 443, 444, 445, 446, 447, 367, 368, 369, 370, 371, 145, 372, 373, 374, 375] (by decide +kernel) (by decide +kernel)
set_option maxRecDepth 20000 in
theorem gL_law_X6_again : GoodIn wsL_law (wsV RL 54 RX6 yX6_again wsX6_again) := goodIn_app (goodIn_of _ (by decide +kernel)) ggL_law_X6_again
set_option maxRecDepth 20000 in
theorem ggL_law_X7_again : GoodIn wsL_law wsX7_again := goodIn_r _ [451, 452, 206, 207, 5, 208, 453, 454, 455, 456, 297, 298, 299, 394, 395, 396, 397, 457, 458, 459, 460, 461, 462, 463, 464, 465, 388, 389, 390, 391, 392, 393] (by decide +kernel) (by decide +kernel)
set_option maxRecDepth 20000 in
theorem gL_law_X7_again : GoodIn wsL_law (wsV RL 58 RX7 yX7_again wsX7_again) := goodIn_app (goodIn_of _ (by decide +kernel)) ggL_law_X7_again
set_option maxRecDepth 20000 in
theorem ggL_law_X6_lasts : GoodIn wsL_law wsX6_lasts := goodIn_r _ [469, 436, 437, 2, 438, 470, 471, 472, 435, 445, 446, 447] (by decide +kernel) (by decide +kernel)
set_option maxRecDepth 20000 in
theorem gL_law_X6_lasts : GoodIn wsL_law (wsV RL 59 RX6 yX6_lasts wsX6_lasts) := goodIn_app (goodIn_of _ (by decide +kernel)) ggL_law_X6_lasts
set_option maxRecDepth 20000 in
theorem ggL_law_X7_lasts : GoodIn wsL_law wsX7_lasts := goodIn_r _ [476, 477, 456, 453, 454, 5, 455, 206, 207, 208, 463, 464, 465] (by decide +kernel) (by decide +kernel)
set_option maxRecDepth 20000 in
theorem gL_law_X7_lasts : GoodIn wsL_law (wsV RL 62 RX7 yX7_lasts wsX7_lasts) := goodIn_app (goodIn_of _ (by decide +kernel)) ggL_law_X7_lasts
set_option maxRecDepth 20000 in
theorem ggL_law_X6_next : GoodIn wsL_law wsX6_next := goodIn_r _ [481, 27, 402, 290, 291, 2, 292, 359, 360, 361, 362, 442, 443, 444, 367, 368, 369, 370, 371, 145, 372, 373, 374, 375, 983, 984, 985, 986, 987, 988, 989, 990, 991, 992, 1033, 1034, 1035, 1036, 1037, 1038, 1039, 1040, 1041, 1042, 1043] (by decide +kernel) (by decide +kernel)
set_option maxRecDepth 20000 in
theorem gL_law_X6_next : GoodIn wsL_law (wsV RL 63 RX6 yX6_next wsX6_next) := goodIn_app (goodIn_of _ (by decide +kernel)) ggL_law_X6_next
set_option maxRecDepth 20000 in
theorem ggL_law_X7_next : GoodIn wsL_law wsX7_next := goodIn_r _ [485, 486, 487, 304, 206, 207, 5, 208, 297, 298, 299, 394, 395, 396, 397, 300, 301, 302, 303, 164, 165, 202, 158, 162, 155, 156, 157, 166, 167, 305, 306, 307, 308, 270, 159, 160, 161, 309, 310, 311, 312, 460, 461, 462, 388, 389, 390, 391, 392, 393, 993, 994, 995, 996, 997, 998, 999, 1000, 1001, 1002, 1003, 1004, 1005, 1006, 1007, 1008, 1009, 1010, 1011, 1012, 1013, 1014, 1015, 1016, 1017, 1018, 1019, 1020] (by decide +kernel) (by decide +kernel)
set_option maxRecDepth 20000 in
theorem gL_law_X7_next : GoodIn wsL_law (wsV RL 66 RX7 yX7_next wsX7_next) := goodIn_app (goodIn_of _ (by decide +kernel)) ggL_law_X7_next
set_option maxRecDepth 20000 in
theorem ggL_law_X6_between : GoodIn wsL_law wsX6_between := goodIn_r _ [491, 27, 402, 435, 436, 437, 2, 438, 290, 291, 292, 359, 360, 361, 362, 439, 440, 441, 442, 443, 444, 445, 446, 447, 367, 368, 369, 370, 371, 145, 372, 373, 374, 375, 983, 984, 985, 986, 987, 988, 989, 990, 991, 992, 1033, 1034, 1035, 1036, 1037, 1038, 1039, 1040, 1041, 1042, 1043] (by decide +kernel) (by decide +kernel)
set_option maxRecDepth 20000 in
theorem gL_law_X6_between : GoodIn wsL_law (wsV RL 67 RX6 yX6_between wsX6_between) := goodIn_app (goodIn_of _ (by decide +kernel)) ggL_law_X6_between
set_option maxRecDepth 20000 in
theorem ggL_law_X7_between : GoodIn wsL_law wsX7_between := goodIn_r _ [495, 304, 453, 454, 5, 455, 456, 206, 207, 208, 297, 298, 299, 394, 395, 396, 397, 300, 301, 302, 303, 164, 165, 202, 158, 162, 155, 156, 157, 166, 167, 305, 306, 307, 308, 270, 159, 160, 161, 309, 310, 311, 312, 457, 458, 459, 460, 461, 462, 463, 464, 465, 388, 389, 390, 391, 392, 393, 993, 994, 995, 996, 997, 998, 999, 1000, 1001, 1002, 1003, 1004, 1005, 1006, 1007, 1008, 1009, 1010, 1011, 1012, 1013, 1014, 1015, 1016, 1017, 1018, 1019, 1020] (by decide +kernel) (by decide +kernel)
set_option maxRecDepth 20000 in
theorem gL_law_X7_between : GoodIn wsL_law (wsV RL 70 RX7 yX7_between wsX7_between) := goodIn_app (goodIn_of _ (by decide +kernel)) ggL_law_X7_between
set_option maxRecDepth 20000 in
theorem ggL_law_X6_records : GoodIn wsL_law wsX6_records := goodIn_r _ [499, 27, 402, 500, 501, 502, 503, 504, 505, 2, 506, 47, 507, 508, 509, 510, 511, 512, 513, 86, 514, 983, 984, 985, 986, 987, 988, 989, 990, 991, 992, 1033, 1034, 1035, 1036, 1037, 1038, 1039, 1040, 1041, 1042, 1043] (by decide +kernel) (by decide +kernel)
set_option maxRecDepth 20000 in
theorem gL_law_X6_records : GoodIn wsL_law (wsV RL 71 RX6 yX6_records wsX6_records) := goodIn_app (goodIn_of _ (by decide +kernel)) ggL_law_X6_records
set_option maxRecDepth 20000 in
theorem ggL_law_X7_records : GoodIn wsL_law wsX7_records := goodIn_r _ [518, 245, 206, 207, 5, 208, 519, 520, 521, 522, 304, 167, 166, 300, 301, 302, 303, 164, 165, 202, 158, 162, 155, 156, 157, 305, 306, 307, 308, 270, 159, 160, 161, 309, 310, 311, 312, 523, 524, 525, 526, 168, 527, 528, 529, 530, 993, 994, 995, 996, 997, 998, 999, 1000, 1001, 1002, 1003, 1004, 1005, 1006, 1007, 1008, 1009, 1010, 1011, 1012, 1013, 1014, 1015, 1016, 1017, 1018, 1019, 1020] (by decide +kernel) (by decide +kernel)
set_option maxRecDepth 20000 in
theorem gL_law_X7_records : GoodIn wsL_law (wsV RL 74 RX7 yX7_records wsX7_records) := goodIn_app (goodIn_of _ (by decide +kernel)) ggL_law_X7_records
set_option maxRecDepth 20000 in
theorem ggL_law_X6_rises : GoodIn wsL_law wsX6_rises := goodIn_r _ [534, 27, 402, 403, 535, 536, 2, 537, 983, 984, 985, 986, 987, 988, 989, 990, 991, 992, 1033, 1034, 1035, 1036, 1037, 1038, 1039, 1040, 1041, 1042, 1043] (by decide +kernel) (by decide +kernel)
set_option maxRecDepth 20000 in
theorem gL_law_X6_rises : GoodIn wsL_law (wsV RL 75 RX6 yX6_rises wsX6_rises) := goodIn_app (goodIn_of _ (by decide +kernel)) ggL_law_X6_rises
set_option maxRecDepth 20000 in
theorem ggL_law_X7_rises : GoodIn wsL_law wsX7_rises := goodIn_r _ [541, 542, 543, 544, 5, 545, 304, 167, 300, 301, 302, 303, 164, 165, 202, 158, 162, 155, 156, 157, 166, 305, 306, 307, 308, 270, 159, 160, 161, 206, 207, 208, 309, 310, 311, 312, 546, 547, 548, 993, 994, 995, 996, 997, 998, 999, 1000, 1001, 1002, 1003, 1004, 1005, 1006, 1007, 1008, 1009, 1010, 1011, 1012, 1013, 1014, 1015, 1016, 1017, 1018, 1019, 1020] (by decide +kernel) (by decide +kernel)
set_option maxRecDepth 20000 in
theorem gL_law_X7_rises : GoodIn wsL_law (wsV RL 79 RX7 yX7_rises wsX7_rises) := goodIn_app (goodIn_of _ (by decide +kernel)) ggL_law_X7_rises
set_option maxRecDepth 20000 in
theorem ggL_law_X6_change : GoodIn wsL_law wsX6_change := goodIn_r _ [552, 27, 176, 123, 2, 124, 290, 291, 292, 359, 360, 361, 362, 553, 554, 555, 26, 556, 76, 557, 558, 559, 560, 73, 561, 562, 563, 564, 565, 566, 567, 568, 74, 569, 570, 571, 572, 79, 367, 368, 369, 370, 371, 145, 372, 373, 374, 375, 983, 984, 985, 986, 987, 988, 989, 990, 991, 992, 1033, 1034, 1035, 1036, 1037, 1038, 1039, 1040, 1041, 1042, 1043] (by decide +kernel) (by decide +kernel)
set_option maxRecDepth 20000 in
theorem gL_law_X6_change : GoodIn wsL_law (wsV RL 80 RX6 yX6_change wsX6_change) := goodIn_app (goodIn_of _ (by decide +kernel)) ggL_law_X6_change
set_option maxRecDepth 20000 in
theorem ggL_law_X7_change : GoodIn wsL_law wsX7_change := goodIn_r _ [576, 304, 209, 210, 5, 211, 212, 206, 207, 208, 297, 298, 299, 394, 395, 396, 397, 300, 301, 302, 303, 164, 165, 202, 158, 162, 155, 156, 157, 166, 167, 305, 306, 307, 308, 270, 159, 160, 161, 309, 310, 311, 312, 577, 578, 579, 580, 581, 582, 583, 584, 585, 586, 587, 588, 388, 389, 390, 391, 392, 393, 993, 994, 995, 996, 997, 998, 999, 1000, 1001, 1002, 1003, 1004, 1005, 1006, 1007, 1008, 1009, 1010, 1011, 1012, 1013, 1014, 1015, 1016, 1017, 1018, 1019, 1020] (by decide +kernel) (by decide +kernel)
set_option maxRecDepth 20000 in
theorem gL_law_X7_change : GoodIn wsL_law (wsV RL 84 RX7 yX7_change wsX7_change) := goodIn_app (goodIn_of _ (by decide +kernel)) ggL_law_X7_change
set_option maxRecDepth 20000 in
theorem ggL_law_X6_changed : GoodIn wsL_law wsX6_changed := goodIn_r _ [592, 27, 402, 290, 291, 2, 292, 593, 594, 595, 596, 370, 371, 145, 372, 553, 554, 555, 26, 556, 76, 557, 558, 559, 560, 73, 561, 562, 563, 564, 565, 566, 567, 568, 74, 569, 570, 571, 572, 79, 597, 598, 599, 600, 507, 601, 442, 443, 444, 602, 603, 604, 403, 605, 983, 984, 985, 986, 987, 988, 989, 990, 991, 992, 1033, 1034, 1035, 1036, 1037, 1038, 1039, 1040, 1041, 1042, 1043] (by decide +kernel) (by decide +kernel)
set_option maxRecDepth 20000 in
theorem gL_law_X6_changed : GoodIn wsL_law (wsV RL 85 RX6 yX6_changed wsX6_changed) := goodIn_app (goodIn_of _ (by decide +kernel)) ggL_law_X6_changed
set_option maxRecDepth 20000 in
theorem ggL_law_X7_changed : GoodIn wsL_law wsX7_changed := goodIn_r _ [609, 297, 298, 5, 299, 206, 207, 208, 610, 611, 612, 613, 614, 615, 616, 617, 304, 300, 301, 302, 303, 164, 165, 202, 158, 162, 155, 156, 157, 166, 167, 305, 306, 307, 308, 270, 159, 160, 161, 309, 310, 311, 312, 577, 578, 579, 580, 581, 582, 583, 584, 585, 586, 587, 588, 618, 619, 620, 621, 622, 623, 624, 527, 528, 529, 530, 993, 994, 995, 996, 997, 998, 999, 1000, 1001, 1002, 1003, 1004, 1005, 1006, 1007, 1008, 1009, 1010, 1011, 1012, 1013, 1014, 1015, 1016, 1017, 1018, 1019, 1020] (by decide +kernel) (by decide +kernel)
set_option maxRecDepth 20000 in
theorem gL_law_X7_changed : GoodIn wsL_law (wsV RL 88 RX7 yX7_changed wsX7_changed) := goodIn_app (goodIn_of _ (by decide +kernel)) ggL_law_X7_changed
set_option maxRecDepth 20000 in
theorem ggL_law_X6_sister : GoodIn wsL_law wsX6_sister := goodIn_r _ [628, 37, 176, 123, 2, 124, 180, 181, 182, 983, 984, 985, 986, 987, 988, 989, 990, 991, 992] (by decide +kernel) (by decide +kernel)
set_option maxRecDepth 20000 in
theorem gL_law_X6_sister : GoodIn wsL_law (wsV RL 89 RX6 yX6_sister wsX6_sister) := goodIn_app (goodIn_of _ (by decide +kernel)) ggL_law_X6_sister
set_option maxRecDepth 20000 in
theorem ggL_law_X7_sister : GoodIn wsL_law wsX7_sister := goodIn_r _ [632, 633, 201, 163, 209, 210, 5, 211, 212, 206, 207, 208, 993, 994, 995, 996, 997, 998, 999, 1000, 1001, 1002, 1003, 1004, 1005, 1006, 1007, 1008, 1009, 1010, 1011, 1012, 1013, 1014, 1015, 1016, 1017, 1018, 1019, 1020] (by decide +kernel) (by decide +kernel)
set_option maxRecDepth 20000 in
theorem gL_law_X7_sister : GoodIn wsL_law (wsV RL 92 RX7 yX7_sister wsX7_sister) := goodIn_app (goodIn_of _ (by decide +kernel)) ggL_law_X7_sister
