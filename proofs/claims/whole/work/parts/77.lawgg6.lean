set_option maxRecDepth 20000 in
theorem gL_law_X6_copy : GoodIn wsL_law (wsV RL 140 RX6 yX6_copy wsX6_copy) := goodIn_app (goodIn_of _ (by decide +kernel)) ggL_law_X6_copy
set_option maxRecDepth 20000 in
theorem ggL_law_X7_copy : GoodIn wsL_law wsX7_copy := goodIn_r _ [870, 90, 871, 872, 873, 5, 874, 108, 88, 853, 372, 89, 829, 830, 831, 109, 110, 111, 116, 117, 118, 119, 86, 975, 976, 977, 978, 979, 980, 981, 982, 983, 984, 985, 986, 987, 988, 989] (by decide +kernel) (by decide +kernel)
set_option maxRecDepth 20000 in
theorem gL_law_X7_copy : GoodIn wsL_law (wsV RL 144 RX7 yX7_copy wsX7_copy) := goodIn_app (goodIn_of _ (by decide +kernel)) ggL_law_X7_copy
set_option maxRecDepth 20000 in
theorem ggL_law_X6_lays : GoodIn wsL_law wsX6_lays := goodIn_r _ [878, 30, 813, 836, 879, 16, 880, 881, 882, 2, 883, 814, 815, 816, 96, 97, 98, 837, 838, 839, 35, 840, 77, 281, 282, 283, 284, 285, 99, 100, 101, 102, 32, 103, 329, 257, 258, 15, 259, 46, 966, 967, 968, 969, 970, 971, 972, 973, 974, 1004, 1005, 1006, 990, 991, 992, 993, 994, 995, 996, 997, 998, 999, 1000] (by decide +kernel) (by decide +kernel)
set_option maxRecDepth 20000 in
theorem gL_law_X6_lays : GoodIn wsL_law (wsV RL 145 RX6 yX6_lays wsX6_lays) := goodIn_app (goodIn_of _ (by decide +kernel)) ggL_law_X6_lays
set_option maxRecDepth 20000 in
theorem ggL_law_X7_lays : GoodIn wsL_law wsX7_lays := goodIn_r _ [887, 108, 89, 90, 849, 850, 851, 5, 852, 88, 853, 829, 830, 831, 109, 110, 111, 297, 298, 299, 300, 83, 116, 117, 118, 119, 86, 269, 270, 271, 272, 975, 976, 977, 978, 979, 980, 981, 982, 983, 984, 985, 986, 987, 988, 989] (by decide +kernel) (by decide +kernel)
set_option maxRecDepth 20000 in
theorem gL_law_X7_lays : GoodIn wsL_law (wsV RL 148 RX7 yX7_lays wsX7_lays) := goodIn_app (goodIn_of _ (by decide +kernel)) ggL_law_X7_lays
set_option maxRecDepth 20000 in
theorem ggL_law_X6_book : GoodIn wsL_law wsX6_book := goodIn_r _ [891, 30, 18, 16, 813, 278, 880, 881, 882, 2, 883, 814, 815, 816, 96, 97, 98, 837, 838, 839, 35, 840, 77, 281, 282, 283, 284, 285, 99, 100, 101, 102, 32, 103, 501, 502, 503, 15, 504, 39, 40, 41, 42, 505, 506, 507, 508, 43, 44, 45, 46, 47, 50, 841, 842, 843, 844, 76, 536, 453, 454, 455, 456, 457, 458, 459, 460, 288, 147, 289, 461, 462, 463, 464, 49, 465, 466, 467, 468, 21, 469, 54, 137, 138, 139, 140, 141, 142, 143, 144, 145, 146, 148, 470, 471, 472, 473, 55, 161, 162, 163, 164, 165, 166, 167, 474, 382, 383, 384, 385, 386, 387, 388, 389, 390, 391, 392, 393, 394, 395, 396, 291, 292, 966, 967, 968, 969, 970, 971, 972, 973, 974, 1004, 1005, 1006, 990, 991, 992, 993, 994, 995, 996, 997, 998, 999, 1000, 1001, 1002] (by decide +kernel) (by decide +kernel)
set_option maxRecDepth 20000 in
theorem gL_law_X6_book : GoodIn wsL_law (wsV RL 149 RX6 yX6_book wsX6_book) := goodIn_app (goodIn_of _ (by decide +kernel)) ggL_law_X6_book
set_option maxRecDepth 20000 in
theorem ggL_law_X7_book : GoodIn wsL_law wsX7_book := goodIn_r _ [895, 108, 89, 90, 88, 849, 850, 851, 5, 852, 853, 829, 830, 831, 109, 110, 111, 297, 298, 299, 300, 83, 116, 117, 118, 119, 86, 513, 514, 515, 516, 85, 517, 518, 519, 180, 181, 182, 183, 854, 855, 856, 485, 486, 487, 488, 489, 490, 491, 492, 301, 302, 303, 304, 493, 494, 495, 496, 192, 193, 194, 195, 196, 197, 198, 199, 200, 201, 202, 211, 212, 213, 214, 215, 216, 217, 218, 188, 189, 190, 191, 405, 406, 407, 408, 409, 410, 411, 412, 269, 270, 271, 272, 413, 414, 415, 305, 306, 307, 308, 520, 521, 522, 523, 975, 976, 977, 978, 979, 980, 981, 982, 983, 984, 985, 986, 987, 988, 989] (by decide +kernel) (by decide +kernel)
set_option maxRecDepth 20000 in
theorem gL_law_X7_book : GoodIn wsL_law (wsV RL 152 RX7 yX7_book wsX7_book) := goodIn_app (goodIn_of _ (by decide +kernel)) ggL_law_X7_book
set_option maxRecDepth 20000 in
theorem ggL_law_X6_read : GoodIn wsL_law wsX6_read := goodIn_r _ [899, 18, 16, 277, 30, 880, 881, 882, 2, 883, 814, 815, 816, 96, 97, 98, 837, 838, 839, 35, 840, 77, 281, 282, 283, 284, 285, 99, 100, 101, 102, 32, 103, 377, 378, 379, 380, 501, 502, 503, 15, 504, 39, 40, 41, 42, 505, 506, 507, 508, 43, 44, 45, 46, 47, 50, 900, 901, 902, 903, 904, 905, 452, 453, 454, 455, 456, 457, 458, 459, 460, 288, 147, 289, 461, 462, 463, 464, 49, 465, 466, 467, 468, 21, 469, 54, 137, 138, 139, 140, 141, 142, 143, 144, 145, 146, 148, 470, 471, 472, 473, 55, 161, 162, 163, 164, 165, 166, 167, 474, 382, 383, 384, 385, 386, 387, 388, 389, 390, 391, 392, 393, 394, 395, 396, 291, 292, 966, 967, 968, 969, 970, 971, 972, 973, 974, 990, 991, 992, 993, 994, 995, 996, 997, 998, 999, 1000, 1004, 1005, 1006, 1001, 1002] (by decide +kernel) (by decide +kernel)
set_option maxRecDepth 20000 in
theorem gL_law_X6_read : GoodIn wsL_law (wsV RL 153 RX6 yX6_read wsX6_read) := goodIn_app (goodIn_of _ (by decide +kernel)) ggL_law_X6_read
set_option maxRecDepth 20000 in
theorem ggL_law_X7_read : GoodIn wsL_law wsX7_read := goodIn_r _ [909, 108, 849, 850, 851, 5, 852, 88, 853, 829, 830, 831, 109, 110, 111, 401, 402, 403, 404, 297, 298, 299, 300, 83, 116, 117, 118, 119, 86, 513, 514, 515, 516, 85, 517, 518, 519, 269, 270, 271, 272, 910, 911, 912, 913, 89, 90, 180, 181, 182, 183, 485, 486, 487, 488, 489, 490, 491, 492, 301, 302, 303, 304, 493, 494, 495, 496, 192, 193, 194, 195, 196, 197, 198, 199, 200, 201, 202, 211, 212, 213, 214, 215, 216, 217, 218, 188, 189, 190, 191, 405, 406, 407, 408, 409, 410, 411, 412, 413, 414, 415, 305, 306, 307, 308, 520, 521, 522, 523, 975, 976, 977, 978, 979, 980, 981, 982, 983, 984, 985, 986, 987, 988, 989] (by decide +kernel) (by decide +kernel)
set_option maxRecDepth 20000 in
theorem gL_law_X7_read : GoodIn wsL_law (wsV RL 156 RX7 yX7_read wsX7_read) := goodIn_app (goodIn_of _ (by decide +kernel)) ggL_law_X7_read
set_option maxRecDepth 20000 in
theorem ggL_law_X6_image : GoodIn wsL_law wsX6_image := goodIn_r _ [917, 17, 16, 33, 501, 502, 503, 15, 504, 39, 40, 41, 42, 505, 506, 507, 508, 43, 44, 45, 46, 47, 50, 966, 967, 968, 969, 970, 971, 972, 973, 974, 990, 991, 992, 993, 994, 995, 996, 997, 998, 999, 1000] (by decide +kernel) (by decide +kernel)
set_option maxRecDepth 20000 in
theorem gL_law_X6_image : GoodIn wsL_law (wsV RL 157 RX6 yX6_image wsX6_image) := goodIn_app (goodIn_of _ (by decide +kernel)) ggL_law_X6_image
set_option maxRecDepth 20000 in
theorem ggL_law_X7_image : GoodIn wsL_law wsX7_image := goodIn_r _ [921, 83, 84, 922, 517, 518, 5, 519, 975, 976, 977, 978, 979, 980, 981, 982, 983, 984, 985, 986, 987, 988, 989] (by decide +kernel) (by decide +kernel)
set_option maxRecDepth 20000 in
theorem gL_law_X7_image : GoodIn wsL_law (wsV RL 160 RX7 yX7_image wsX7_image) := goodIn_app (goodIn_of _ (by decide +kernel)) ggL_law_X7_image
set_option maxRecDepth 20000 in
theorem ggL_law_X6_undo : GoodIn wsL_law wsX6_undo := goodIn_r _ [926, 33, 16, 17, 285, 99, 100, 101, 2, 102, 32, 103, 501, 502, 503, 15, 504, 39, 40, 41, 42, 505, 506, 507, 508, 43, 44, 45, 46, 47, 50, 966, 967, 968, 969, 970, 971, 972, 973, 974, 990, 991, 992, 993, 994, 995, 996, 997, 998, 999, 1000] (by decide +kernel) (by decide +kernel)
set_option maxRecDepth 20000 in
theorem gL_law_X6_undo : GoodIn wsL_law (wsV RL 161 RX6 yX6_undo wsX6_undo) := goodIn_app (goodIn_of _ (by decide +kernel)) ggL_law_X6_undo
