/-! whose words the law has -/
set_option maxRecDepth 20000 in
theorem ggL_law_X9_hideOf : GoodIn wsL_law wsX9_hideOf := goodIn_r _ [805, 34, 521, 620, 806, 621, 622, 623, 2, 624, 335, 201, 202, 203, 204, 17, 845, 846, 847, 848, 849, 850, 851, 852, 853, 854, 855, 856, 857, 858, 859, 932, 933, 934, 935, 936, 937, 938] (by decide +kernel) (by decide +kernel)
set_option maxRecDepth 20000 in
theorem gL_law_X9_hideOf : GoodIn wsL_law (wsV RL 137 RX9 yX9_hideOf wsX9_hideOf) := goodIn_app (goodIn_of _ (by decide +kernel)) ggL_law_X9_hideOf
set_option maxRecDepth 20000 in
theorem ggL_law_X10_hideOf : GoodIn wsL_law wsX10_hideOf := goodIn_r _ [810, 344, 157, 154, 212, 213, 5, 214, 215, 216, 217, 218, 181, 606, 607, 608, 609, 557, 162, 163, 159, 860, 861, 862, 863, 864, 865, 866, 867, 868, 869, 870, 871, 872, 873, 874, 875, 876, 877, 878, 879, 880, 881, 882, 883, 884, 885, 886, 887, 888, 889, 890, 891, 892, 893, 894, 895, 896, 897, 898, 899, 900, 901, 902, 903, 904, 905, 906, 907, 908, 909, 910, 911, 912, 913] (by decide +kernel) (by decide +kernel)
set_option maxRecDepth 20000 in
theorem gL_law_X10_hideOf : GoodIn wsL_law (wsV RL 140 RX10 yX10_hideOf wsX10_hideOf) := goodIn_app (goodIn_of _ (by decide +kernel)) ggL_law_X10_hideOf
set_option maxRecDepth 20000 in
theorem ggL_law_X9_watched : GoodIn wsL_law wsX9_watched := goodIn_r _ [814, 26, 443, 198, 199, 2, 200, 201, 202, 203, 204, 17, 845, 846, 847, 848, 849, 850, 851, 852, 853, 854, 855, 856, 857, 858, 859, 916, 917, 918, 919, 920, 921, 922] (by decide +kernel) (by decide +kernel)
set_option maxRecDepth 20000 in
theorem gL_law_X9_watched : GoodIn wsL_law (wsV RL 141 RX9 yX9_watched wsX9_watched) := goodIn_app (goodIn_of _ (by decide +kernel)) ggL_law_X9_watched
set_option maxRecDepth 20000 in
theorem ggL_law_X10_watched : GoodIn wsL_law wsX10_watched := goodIn_r _ [818, 167, 209, 210, 5, 211, 212, 213, 214, 215, 216, 217, 218, 181, 860, 861, 862, 863, 864, 865, 866, 867, 868, 869, 870, 871, 872, 873, 874, 875, 876, 877, 878, 879, 880, 881, 882, 883, 884, 885, 886, 887, 888, 889, 890, 891, 892, 893, 894, 895, 896, 897, 898, 899, 900, 901, 902, 903, 904, 905, 906, 907, 908, 909, 910, 911, 912, 913] (by decide +kernel) (by decide +kernel)
set_option maxRecDepth 20000 in
theorem gL_law_X10_watched : GoodIn wsL_law (wsV RL 144 RX10 yX10_watched wsX10_watched) := goodIn_app (goodIn_of _ (by decide +kernel)) ggL_law_X10_watched
set_option maxRecDepth 20000 in
theorem ggL_law_X9_coins : GoodIn wsL_law wsX9_coins := goodIn_r _ [822, 18, 201, 202, 203, 2, 204, 17, 845, 846, 847, 848, 849, 850, 851, 852, 853, 854, 855, 856, 857, 858, 859] (by decide +kernel) (by decide +kernel)
set_option maxRecDepth 20000 in
theorem gL_law_X9_coins : GoodIn wsL_law (wsV RL 145 RX9 yX9_coins wsX9_coins) := goodIn_app (goodIn_of _ (by decide +kernel)) ggL_law_X9_coins
set_option maxRecDepth 20000 in
theorem ggL_law_X10_coins : GoodIn wsL_law wsX10_coins := goodIn_r _ [826, 180, 212, 213, 5, 214, 215, 216, 217, 218, 181, 860, 861, 862, 863, 864, 865, 866, 867, 868, 869, 870, 871, 872, 873, 874, 875, 876, 877, 878, 879, 880, 881, 882, 883, 884, 885, 886, 887, 888, 889, 890, 891, 892, 893, 894, 895, 896, 897, 898, 899, 900, 901, 902, 903, 904, 905, 906, 907, 908, 909, 910, 911, 912, 913] (by decide +kernel) (by decide +kernel)
set_option maxRecDepth 20000 in
theorem gL_law_X10_coins : GoodIn wsL_law (wsV RL 148 RX10 yX10_coins wsX10_coins) := goodIn_app (goodIn_of _ (by decide +kernel)) ggL_law_X10_coins
set_option maxRecDepth 20000 in
theorem ggL_law_X9_count : GoodIn wsL_law wsX9_count := goodIn_r _ [830, 12, 30, 307, 34, 335, 38, 434, 46, 409, 42, 394, 13, 831, 17, 832, 833, 834, 45, 835, 122, 836, 837, 838, 839, 123, 462, 463, 464, 2, 465, 845, 846, 847, 848, 849, 850, 851, 852, 853, 854, 855, 856, 857, 858, 859, 923, 924, 925, 926, 927, 928, 929, 930, 931, 932, 933, 934, 935, 936, 937, 938, 939, 940, 941, 942, 943, 944, 945, 950, 951, 952, 953, 954, 955, 946, 947, 948, 949] (by decide +kernel) (by decide +kernel)
set_option maxRecDepth 20000 in
theorem gL_law_X9_count : GoodIn wsL_law (wsV RL 149 RX9 yX9_count wsX9_count) := goodIn_app (goodIn_of _ (by decide +kernel)) ggL_law_X9_count
set_option maxRecDepth 20000 in
theorem ggL_law_X10_count : GoodIn wsL_law wsX10_count := goodIn_r _ [843, 403, 316, 344, 557, 429, 175, 176, 404, 140, 844, 181, 575, 576, 5, 577, 212, 213, 214, 860, 861, 862, 863, 864, 865, 866, 867, 868, 869, 870, 871, 872, 873, 874, 875, 876, 877, 878, 879, 880, 881, 882, 883, 884, 885, 886, 887, 888, 889, 890, 891, 892, 893, 894, 895, 896, 897, 898, 899, 900, 901, 902, 903, 904, 905, 906, 907, 908, 909, 910, 911, 912, 913] (by decide +kernel) (by decide +kernel)
set_option maxRecDepth 20000 in
theorem gL_law_X10_count : GoodIn wsL_law (wsV RL 152 RX10 yX10_count wsX10_count) := goodIn_app (goodIn_of _ (by decide +kernel)) ggL_law_X10_count
