set_option maxRecDepth 20000 in
theorem ggL_law_X6_feed : GoodIn wsL_law wsX6_feed := goodIn_r _ [615, 28, 616, 96, 97, 2, 98, 99, 100, 101, 102, 32, 103, 617, 618, 619, 61, 620, 66, 67, 966, 967, 968, 969, 970, 971, 972, 973, 974, 1007, 1008, 1009, 1010, 1011, 1012] (by decide +kernel) (by decide +kernel)
set_option maxRecDepth 20000 in
theorem gL_law_X6_feed : GoodIn wsL_law (wsV RL 117 RX6 yX6_feed wsX6_feed) := goodIn_app (goodIn_of _ (by decide +kernel)) ggL_law_X6_feed
set_option maxRecDepth 20000 in
theorem ggL_law_X7_feed : GoodIn wsL_law wsX7_feed := goodIn_r _ [624, 108, 625, 264, 87, 109, 110, 5, 111, 116, 117, 118, 119, 86, 975, 976, 977, 978, 979, 980, 981, 982, 983, 984, 985, 986, 987, 988, 989] (by decide +kernel) (by decide +kernel)
set_option maxRecDepth 20000 in
theorem gL_law_X7_feed : GoodIn wsL_law (wsV RL 120 RX7 yX7_feed wsX7_feed) := goodIn_app (goodIn_of _ (by decide +kernel)) ggL_law_X7_feed
set_option maxRecDepth 20000 in
theorem ggL_law_X6_wipe : GoodIn wsL_law wsX6_wipe := goodIn_r _ [629, 28, 616, 966, 967, 968, 969, 970, 971, 972, 973, 974, 1007, 1008, 1009, 1010, 1011, 1012] (by decide +kernel) (by decide +kernel)
set_option maxRecDepth 20000 in
theorem gL_law_X6_wipe : GoodIn wsL_law (wsV RL 121 RX6 yX6_wipe wsX6_wipe) := goodIn_app (goodIn_of _ (by decide +kernel)) ggL_law_X6_wipe
set_option maxRecDepth 20000 in
theorem ggL_law_X7_wipe : GoodIn wsL_law wsX7_wipe := goodIn_r _ [633, 625, 975, 976, 977, 978, 979, 980, 981, 982, 983, 984, 985, 986, 987, 988, 989] (by decide +kernel) (by decide +kernel)
set_option maxRecDepth 20000 in
theorem gL_law_X7_wipe : GoodIn wsL_law (wsV RL 124 RX7 yX7_wipe wsX7_wipe) := goodIn_app (goodIn_of _ (by decide +kernel)) ggL_law_X7_wipe
set_option maxRecDepth 20000 in
theorem ggL_law_X6_yard : GoodIn wsL_law wsX6_yard := goodIn_r _ [637, 18, 16, 26, 28, 616, 501, 502, 503, 15, 504, 39, 40, 41, 42, 505, 506, 507, 508, 43, 44, 45, 46, 47, 50, 638, 639, 640, 25, 641, 62, 642, 643, 644, 645, 646, 61, 647, 70, 648, 649, 650, 651, 69, 67, 66, 68, 652, 653, 654, 655, 656, 657, 658, 659, 660, 661, 662, 663, 664, 665, 71, 666, 667, 668, 669, 670, 671, 672, 673, 674, 675, 676, 677, 678, 679, 680, 681, 682, 683, 684, 685, 686, 687, 688, 689, 690, 691, 692, 693, 694, 695, 696, 697, 698, 699, 700, 701, 702, 703, 704, 705, 706, 707, 708, 709, 710, 711, 712, 713, 714, 715, 716, 717, 718, 719, 720, 721, 722, 723, 724, 725, 726, 727, 728, 729, 730, 731, 732, 733, 734, 735, 382, 383, 384, 385, 386, 387, 388, 389, 390, 391, 392, 393, 394, 395, 396, 291, 147, 292, 736, 737, 738, 739, 740, 741, 742, 743, 249, 250, 251, 744, 745, 746, 747, 748, 253, 254, 255, 256, 257, 258, 259, 749, 750, 751, 752, 753, 754, 755, 756, 757, 758, 966, 967, 968, 969, 970, 971, 972, 973, 974, 1007, 1008, 1009, 1010, 1011, 1012, 990, 991, 992, 993, 994, 995, 996, 997, 998, 999, 1000, 1003] (by decide +kernel) (by decide +kernel)
set_option maxRecDepth 20000 in
theorem gL_law_X6_yard : GoodIn wsL_law (wsV RL 125 RX6 yX6_yard wsX6_yard) := goodIn_app (goodIn_of _ (by decide +kernel)) ggL_law_X6_yard
set_option maxRecDepth 20000 in
theorem ggL_law_X7_yard : GoodIn wsL_law wsX7_yard := goodIn_r _ [762, 763, 764, 765, 625, 766, 513, 514, 515, 5, 516, 83, 85, 517, 518, 519, 767, 768, 769, 770, 771, 87, 772, 773, 774, 775, 109, 110, 111, 776, 777, 778, 779, 780, 781, 782, 783, 784, 785, 786, 787, 788, 789, 790, 791, 792, 793, 794, 795, 796, 797, 798, 799, 800, 801, 802, 803, 804, 265, 266, 267, 268, 269, 270, 271, 272, 805, 806, 807, 808, 405, 406, 407, 408, 180, 181, 182, 183, 409, 410, 411, 412, 413, 414, 415, 305, 306, 307, 308, 520, 521, 522, 523, 975, 976, 977, 978, 979, 980, 981, 982, 983, 984, 985, 986, 987, 988, 989] (by decide +kernel) (by decide +kernel)
set_option maxRecDepth 20000 in
theorem gL_law_X7_yard : GoodIn wsL_law (wsV RL 128 RX7 yX7_yard wsX7_yard) := goodIn_app (goodIn_of _ (by decide +kernel)) ggL_law_X7_yard
set_option maxRecDepth 20000 in
theorem ggL_law_X6_sheet : GoodIn wsL_law wsX6_sheet := goodIn_r _ [812, 30, 813, 814, 815, 2, 816, 96, 97, 98, 817, 818, 35, 819, 99, 100, 101, 102, 32, 103, 820, 821, 822, 823, 77, 78, 76, 966, 967, 968, 969, 970, 971, 972, 973, 974, 1004, 1005, 1006] (by decide +kernel) (by decide +kernel)
set_option maxRecDepth 20000 in
theorem gL_law_X6_sheet : GoodIn wsL_law (wsV RL 129 RX6 yX6_sheet wsX6_sheet) := goodIn_app (goodIn_of _ (by decide +kernel)) ggL_law_X6_sheet
set_option maxRecDepth 20000 in
theorem ggL_law_X7_sheet : GoodIn wsL_law wsX7_sheet := goodIn_r _ [827, 108, 828, 88, 89, 90, 829, 830, 5, 831, 109, 110, 111, 116, 117, 118, 119, 86, 975, 976, 977, 978, 979, 980, 981, 982, 983, 984, 985, 986, 987, 988, 989] (by decide +kernel) (by decide +kernel)
set_option maxRecDepth 20000 in
theorem gL_law_X7_sheet : GoodIn wsL_law (wsV RL 132 RX7 yX7_sheet wsX7_sheet) := goodIn_app (goodIn_of _ (by decide +kernel)) ggL_law_X7_sheet
set_option maxRecDepth 20000 in
theorem ggL_law_X6_write : GoodIn wsL_law wsX6_write := goodIn_r _ [835, 30, 813, 836, 814, 815, 2, 816, 96, 97, 98, 99, 100, 101, 102, 32, 103, 837, 838, 839, 35, 840, 77, 841, 842, 843, 844, 76, 966, 967, 968, 969, 970, 971, 972, 973, 974, 1004, 1005, 1006] (by decide +kernel) (by decide +kernel)
set_option maxRecDepth 20000 in
theorem gL_law_X6_write : GoodIn wsL_law (wsV RL 135 RX6 yX6_write wsX6_write) := goodIn_app (goodIn_of _ (by decide +kernel)) ggL_law_X6_write
set_option maxRecDepth 20000 in
theorem ggL_law_X7_write : GoodIn wsL_law wsX7_write := goodIn_r _ [848, 89, 108, 90, 88, 849, 850, 851, 5, 852, 853, 829, 830, 831, 109, 110, 111, 116, 117, 118, 119, 86, 854, 855, 856, 975, 976, 977, 978, 979, 980, 981, 982, 983, 984, 985, 986, 987, 988, 989] (by decide +kernel) (by decide +kernel)
set_option maxRecDepth 20000 in
theorem gL_law_X7_write : GoodIn wsL_law (wsV RL 139 RX7 yX7_write wsX7_write) := goodIn_app (goodIn_of _ (by decide +kernel)) ggL_law_X7_write
set_option maxRecDepth 20000 in
theorem ggL_law_X6_copy : GoodIn wsL_law wsX6_copy := goodIn_r _ [860, 30, 861, 836, 862, 506, 507, 508, 814, 815, 2, 816, 96, 97, 98, 99, 100, 101, 102, 32, 103, 837, 838, 839, 35, 840, 77, 863, 864, 865, 866, 78, 966, 967, 968, 969, 970, 971, 972, 973, 974, 1004, 1005, 1006] (by decide +kernel) (by decide +kernel)
