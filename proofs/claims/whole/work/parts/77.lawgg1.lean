set_option maxRecDepth 20000 in
theorem ggL_law_X6_of : GoodIn wsL_law wsX6_of := goodIn_r _ [276, 16, 277, 278, 279, 280, 124, 281, 282, 283, 2, 284, 285, 96, 97, 98, 99, 100, 101, 102, 32, 103, 286, 134, 135, 15, 136, 43, 137, 138, 139, 140, 42, 47, 141, 142, 143, 144, 46, 145, 146, 147, 148, 287, 288, 289, 290, 291, 292, 966, 967, 968, 969, 970, 971, 972, 973, 974, 990, 991, 992, 993, 994, 995, 996, 997, 998, 999, 1000] (by decide +kernel) (by decide +kernel)
set_option maxRecDepth 20000 in
theorem gL_law_X6_of : GoodIn wsL_law (wsV RL 31 RX6 yX6_of wsX6_of) := goodIn_app (goodIn_of _ (by decide +kernel)) ggL_law_X6_of
set_option maxRecDepth 20000 in
theorem ggL_law_X7_of : GoodIn wsL_law wsX7_of := goodIn_r _ [296, 108, 297, 298, 299, 5, 300, 83, 109, 110, 111, 116, 117, 118, 119, 86, 180, 181, 182, 183, 188, 189, 190, 191, 192, 193, 194, 195, 196, 197, 198, 199, 200, 201, 202, 301, 302, 303, 304, 305, 306, 307, 308, 975, 976, 977, 978, 979, 980, 981, 982, 983, 984, 985, 986, 987, 988, 989] (by decide +kernel) (by decide +kernel)
set_option maxRecDepth 20000 in
theorem gL_law_X7_of : GoodIn wsL_law (wsV RL 34 RX7 yX7_of wsX7_of) := goodIn_app (goodIn_of _ (by decide +kernel)) ggL_law_X7_of
set_option maxRecDepth 20000 in
theorem ggL_law_X6_set : GoodIn wsL_law wsX6_set := goodIn_r _ [312, 16, 278, 279, 280, 281, 282, 283, 2, 284, 285, 96, 97, 98, 313, 314, 315, 99, 100, 101, 102, 32, 103, 316, 317, 318, 15, 319, 47, 43, 966, 967, 968, 969, 970, 971, 972, 973, 974, 990, 991, 992, 993, 994, 995, 996, 997, 998, 999, 1000] (by decide +kernel) (by decide +kernel)
set_option maxRecDepth 20000 in
theorem gL_law_X6_set : GoodIn wsL_law (wsV RL 35 RX6 yX6_set wsX6_set) := goodIn_app (goodIn_of _ (by decide +kernel)) ggL_law_X6_set
set_option maxRecDepth 20000 in
theorem ggL_law_X7_set : GoodIn wsL_law wsX7_set := goodIn_r _ [323, 108, 297, 298, 299, 5, 300, 83, 109, 110, 111, 112, 113, 114, 115, 116, 117, 118, 119, 86, 975, 976, 977, 978, 979, 980, 981, 982, 983, 984, 985, 986, 987, 988, 989] (by decide +kernel) (by decide +kernel)
set_option maxRecDepth 20000 in
theorem gL_law_X7_set : GoodIn wsL_law (wsV RL 39 RX7 yX7_set wsX7_set) := goodIn_app (goodIn_of _ (by decide +kernel)) ggL_law_X7_set
set_option maxRecDepth 20000 in
theorem ggL_law_X6_likes : GoodIn wsL_law wsX6_likes := goodIn_r _ [327, 16, 281, 282, 283, 2, 284, 285, 96, 97, 98, 227, 228, 229, 99, 100, 101, 102, 32, 103, 328, 142, 143, 15, 144, 46, 329, 257, 258, 259, 966, 967, 968, 969, 970, 971, 972, 973, 974, 990, 991, 992, 993, 994, 995, 996, 997, 998, 999, 1000] (by decide +kernel) (by decide +kernel)
set_option maxRecDepth 20000 in
theorem gL_law_X6_likes : GoodIn wsL_law (wsV RL 40 RX6 yX6_likes wsX6_likes) := goodIn_app (goodIn_of _ (by decide +kernel)) ggL_law_X6_likes
set_option maxRecDepth 20000 in
theorem ggL_law_X7_likes : GoodIn wsL_law wsX7_likes := goodIn_r _ [333, 108, 297, 298, 299, 5, 300, 83, 109, 110, 111, 238, 239, 240, 112, 113, 114, 115, 116, 117, 118, 119, 86, 975, 976, 977, 978, 979, 980, 981, 982, 983, 984, 985, 986, 987, 988, 989] (by decide +kernel) (by decide +kernel)
set_option maxRecDepth 20000 in
theorem gL_law_X7_likes : GoodIn wsL_law (wsV RL 43 RX7 yX7_likes wsX7_likes) := goodIn_app (goodIn_of _ (by decide +kernel)) ggL_law_X7_likes
set_option maxRecDepth 20000 in
theorem ggL_law_X6_worth : GoodIn wsL_law wsX6_worth := goodIn_r _ [337, 16, 281, 282, 283, 2, 284, 285, 96, 97, 98, 227, 228, 229, 99, 100, 101, 102, 32, 103, 338, 138, 139, 15, 140, 42, 47, 141, 142, 143, 144, 46, 145, 146, 147, 148, 966, 967, 968, 969, 970, 971, 972, 973, 974, 990, 991, 992, 993, 994, 995, 996, 997, 998, 999, 1000] (by decide +kernel) (by decide +kernel)
set_option maxRecDepth 20000 in
theorem gL_law_X6_worth : GoodIn wsL_law (wsV RL 44 RX6 yX6_worth wsX6_worth) := goodIn_app (goodIn_of _ (by decide +kernel)) ggL_law_X6_worth
set_option maxRecDepth 20000 in
theorem ggL_law_X7_worth : GoodIn wsL_law wsX7_worth := goodIn_r _ [342, 108, 297, 298, 299, 5, 300, 83, 109, 110, 111, 238, 239, 240, 192, 193, 194, 195, 180, 181, 182, 183, 196, 197, 198, 199, 200, 201, 202, 116, 117, 118, 119, 86, 975, 976, 977, 978, 979, 980, 981, 982, 983, 984, 985, 986, 987, 988, 989] (by decide +kernel) (by decide +kernel)
set_option maxRecDepth 20000 in
theorem gL_law_X7_worth : GoodIn wsL_law (wsV RL 47 RX7 yX7_worth wsX7_worth) := goodIn_app (goodIn_of _ (by decide +kernel)) ggL_law_X7_worth
set_option maxRecDepth 20000 in
theorem ggL_law_X6_agrees : GoodIn wsL_law wsX6_agrees := goodIn_r _ [346, 16, 281, 282, 283, 2, 284, 285, 96, 97, 98, 227, 228, 229, 99, 100, 101, 102, 32, 103, 347, 162, 163, 15, 164, 43, 42, 44, 40, 137, 138, 139, 140, 47, 141, 142, 143, 144, 46, 145, 146, 147, 148, 165, 166, 167, 966, 967, 968, 969, 970, 971, 972, 973, 974, 990, 991, 992, 993, 994, 995, 996, 997, 998, 999, 1000] (by decide +kernel) (by decide +kernel)
set_option maxRecDepth 20000 in
theorem gL_law_X6_agrees : GoodIn wsL_law (wsV RL 48 RX6 yX6_agrees wsX6_agrees) := goodIn_app (goodIn_of _ (by decide +kernel)) ggL_law_X6_agrees
set_option maxRecDepth 20000 in
theorem ggL_law_X7_agrees : GoodIn wsL_law wsX7_agrees := goodIn_r _ [351, 108, 297, 298, 299, 5, 300, 83, 109, 110, 111, 238, 239, 240, 215, 216, 217, 218, 192, 193, 194, 195, 180, 181, 182, 183, 196, 197, 198, 199, 200, 201, 202, 188, 189, 190, 191, 116, 117, 118, 119, 86, 975, 976, 977, 978, 979, 980, 981, 982, 983, 984, 985, 986, 987, 988, 989] (by decide +kernel) (by decide +kernel)
set_option maxRecDepth 20000 in
theorem gL_law_X7_agrees : GoodIn wsL_law (wsV RL 51 RX7 yX7_agrees wsX7_agrees) := goodIn_app (goodIn_of _ (by decide +kernel)) ggL_law_X7_agrees
set_option maxRecDepth 20000 in
theorem ggL_law_X6_turn : GoodIn wsL_law wsX6_turn := goodIn_r _ [355, 16, 277, 281, 282, 283, 2, 284, 285, 96, 97, 98, 245, 246, 147, 247, 99, 100, 101, 102, 32, 103, 966, 967, 968, 969, 970, 971, 972, 973, 974, 990, 991, 992, 993, 994, 995, 996, 997, 998, 999, 1000] (by decide +kernel) (by decide +kernel)
