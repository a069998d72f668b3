set_option maxRecDepth 20000 in
theorem gL_law_X6_turn : GoodIn wsL_law (wsV RL 52 RX6 yX6_turn wsX6_turn) := goodIn_app (goodIn_of _ (by decide +kernel)) ggL_law_X6_turn
set_option maxRecDepth 20000 in
theorem ggL_law_X7_turn : GoodIn wsL_law wsX7_turn := goodIn_r _ [359, 108, 297, 298, 299, 5, 300, 83, 109, 110, 111, 112, 113, 114, 115, 116, 117, 118, 119, 86, 975, 976, 977, 978, 979, 980, 981, 982, 983, 984, 985, 986, 987, 988, 989] (by decide +kernel) (by decide +kernel)
set_option maxRecDepth 20000 in
theorem gL_law_X7_turn : GoodIn wsL_law (wsV RL 55 RX7 yX7_turn wsX7_turn) := goodIn_app (goodIn_of _ (by decide +kernel)) ggL_law_X7_turn
set_option maxRecDepth 20000 in
theorem ggL_law_X6_as : GoodIn wsL_law wsX6_as := goodIn_r _ [363, 16, 277, 280, 281, 282, 283, 2, 284, 285, 96, 97, 98, 245, 246, 147, 247, 99, 100, 101, 102, 32, 103, 364, 365, 366, 367, 966, 967, 968, 969, 970, 971, 972, 973, 974, 990, 991, 992, 993, 994, 995, 996, 997, 998, 999, 1000] (by decide +kernel) (by decide +kernel)
set_option maxRecDepth 20000 in
theorem gL_law_X6_as : GoodIn wsL_law (wsV RL 56 RX6 yX6_as wsX6_as) := goodIn_app (goodIn_of _ (by decide +kernel)) ggL_law_X6_as
set_option maxRecDepth 20000 in
theorem ggL_law_X7_as : GoodIn wsL_law wsX7_as := goodIn_r _ [371, 108, 372, 297, 298, 299, 5, 300, 83, 109, 110, 111, 116, 117, 118, 119, 86, 180, 181, 182, 183, 975, 976, 977, 978, 979, 980, 981, 982, 983, 984, 985, 986, 987, 988, 989] (by decide +kernel) (by decide +kernel)
set_option maxRecDepth 20000 in
theorem gL_law_X7_as : GoodIn wsL_law (wsV RL 59 RX7 yX7_as wsX7_as) := goodIn_app (goodIn_of _ (by decide +kernel)) ggL_law_X7_as
set_option maxRecDepth 20000 in
theorem ggL_law_X6_swap : GoodIn wsL_law wsX6_swap := goodIn_r _ [376, 16, 377, 378, 379, 2, 380, 281, 282, 283, 284, 285, 96, 97, 98, 99, 100, 101, 102, 32, 103, 381, 382, 383, 15, 384, 43, 385, 386, 387, 388, 44, 389, 390, 391, 392, 45, 42, 393, 394, 395, 396, 291, 147, 292, 286, 134, 135, 136, 137, 138, 139, 140, 47, 141, 142, 143, 144, 46, 145, 146, 148, 966, 967, 968, 969, 970, 971, 972, 973, 974, 990, 991, 992, 993, 994, 995, 996, 997, 998, 999, 1000] (by decide +kernel) (by decide +kernel)
set_option maxRecDepth 20000 in
theorem gL_law_X6_swap : GoodIn wsL_law (wsV RL 60 RX6 yX6_swap wsX6_swap) := goodIn_app (goodIn_of _ (by decide +kernel)) ggL_law_X6_swap
set_option maxRecDepth 20000 in
theorem ggL_law_X7_swap : GoodIn wsL_law wsX7_swap := goodIn_r _ [400, 108, 401, 402, 403, 5, 404, 297, 298, 299, 300, 83, 109, 110, 111, 116, 117, 118, 119, 86, 405, 406, 407, 408, 180, 181, 182, 183, 409, 410, 411, 412, 269, 270, 271, 272, 413, 414, 415, 305, 306, 307, 308, 188, 189, 190, 191, 192, 193, 194, 195, 196, 197, 198, 199, 200, 201, 202, 975, 976, 977, 978, 979, 980, 981, 982, 983, 984, 985, 986, 987, 988, 989] (by decide +kernel) (by decide +kernel)
set_option maxRecDepth 20000 in
theorem gL_law_X7_swap : GoodIn wsL_law (wsV RL 63 RX7 yX7_swap wsX7_swap) := goodIn_app (goodIn_of _ (by decide +kernel)) ggL_law_X7_swap
set_option maxRecDepth 20000 in
theorem ggL_law_X6_mates : GoodIn wsL_law wsX6_mates := goodIn_r _ [419, 16, 285, 281, 282, 283, 2, 284, 96, 97, 98, 99, 100, 101, 102, 32, 103, 420, 154, 155, 15, 156, 157, 158, 159, 160, 43, 161, 162, 163, 164, 42, 44, 40, 137, 138, 139, 140, 47, 141, 142, 143, 144, 46, 145, 146, 147, 148, 165, 166, 167, 966, 967, 968, 969, 970, 971, 972, 973, 974, 990, 991, 992, 993, 994, 995, 996, 997, 998, 999, 1000] (by decide +kernel) (by decide +kernel)
set_option maxRecDepth 20000 in
theorem gL_law_X6_mates : GoodIn wsL_law (wsV RL 64 RX6 yX6_mates wsX6_mates) := goodIn_app (goodIn_of _ (by decide +kernel)) ggL_law_X6_mates
set_option maxRecDepth 20000 in
theorem ggL_law_X7_mates : GoodIn wsL_law wsX7_mates := goodIn_r _ [424, 108, 297, 298, 299, 5, 300, 83, 109, 110, 111, 207, 208, 209, 210, 211, 212, 213, 214, 180, 181, 182, 183, 215, 216, 217, 218, 192, 193, 194, 195, 196, 197, 198, 199, 200, 201, 202, 188, 189, 190, 191, 116, 117, 118, 119, 86, 975, 976, 977, 978, 979, 980, 981, 982, 983, 984, 985, 986, 987, 988, 989] (by decide +kernel) (by decide +kernel)
set_option maxRecDepth 20000 in
theorem gL_law_X7_mates : GoodIn wsL_law (wsV RL 67 RX7 yX7_mates wsX7_mates) := goodIn_app (goodIn_of _ (by decide +kernel)) ggL_law_X7_mates
set_option maxRecDepth 20000 in
theorem ggL_law_X6_ring : GoodIn wsL_law wsX6_ring := goodIn_r _ [428, 16, 285, 429, 158, 159, 15, 160, 43, 161, 162, 163, 164, 42, 44, 40, 137, 138, 139, 140, 47, 141, 142, 143, 144, 46, 145, 146, 147, 148, 165, 166, 167, 430, 431, 432, 433, 41, 157, 99, 100, 101, 2, 102, 32, 103, 966, 967, 968, 969, 970, 971, 972, 973, 974, 990, 991, 992, 993, 994, 995, 996, 997, 998, 999, 1000] (by decide +kernel) (by decide +kernel)
set_option maxRecDepth 20000 in
theorem gL_law_X6_ring : GoodIn wsL_law (wsV RL 68 RX6 yX6_ring wsX6_ring) := goodIn_app (goodIn_of _ (by decide +kernel)) ggL_law_X6_ring
set_option maxRecDepth 20000 in
theorem ggL_law_X7_ring : GoodIn wsL_law wsX7_ring := goodIn_r _ [437, 83, 438, 439, 440, 441, 5, 442, 180, 181, 182, 183, 215, 216, 217, 218, 192, 193, 194, 195, 196, 197, 198, 199, 200, 201, 202, 188, 189, 190, 191, 116, 117, 118, 119, 86, 108, 975, 976, 977, 978, 979, 980, 981, 982, 983, 984, 985, 986, 987, 988, 989] (by decide +kernel) (by decide +kernel)
set_option maxRecDepth 20000 in
theorem gL_law_X7_ring : GoodIn wsL_law (wsV RL 72 RX7 yX7_ring wsX7_ring) := goodIn_app (goodIn_of _ (by decide +kernel)) ggL_law_X7_ring
set_option maxRecDepth 20000 in
theorem ggL_law_X6_rounds : GoodIn wsL_law wsX6_rounds := goodIn_r _ [446, 16, 124, 447, 96, 97, 2, 98, 99, 100, 101, 102, 32, 103, 448, 449, 450, 15, 451, 50, 452, 453, 454, 455, 41, 39, 456, 457, 458, 459, 42, 43, 460, 288, 147, 289, 461, 462, 463, 464, 49, 45, 465, 466, 467, 468, 21, 469, 54, 137, 138, 139, 140, 47, 141, 142, 143, 144, 46, 145, 146, 148, 470, 471, 472, 473, 55, 161, 162, 163, 164, 44, 40, 165, 166, 167, 474, 382, 383, 384, 385, 386, 387, 388, 389, 390, 391, 392, 393, 394, 395, 396, 291, 292, 168, 169, 170, 171, 966, 967, 968, 969, 970, 971, 972, 973, 974, 990, 991, 992, 993, 994, 995, 996, 997, 998, 999, 1000, 1001, 1002] (by decide +kernel) (by decide +kernel)
set_option maxRecDepth 20000 in
theorem gL_law_X6_rounds : GoodIn wsL_law (wsV RL 73 RX6 yX6_rounds wsX6_rounds) := goodIn_app (goodIn_of _ (by decide +kernel)) ggL_law_X6_rounds
