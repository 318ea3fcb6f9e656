/-! whose words the law has -/
set_option maxRecDepth 20000 in
theorem ggL_law_X9_copy : GoodIn wsL_law wsX9_copy := goodIn_r _ [263, 22, 255, 264, 265, 266, 267, 223, 224, 2, 225, 201, 202, 203, 204, 17, 238, 239, 240, 21, 241, 61, 268, 269, 270, 271, 845, 846, 847, 848, 849, 850, 851, 852, 853, 854, 855, 856, 857, 858, 859, 914, 915] (by decide +kernel) (by decide +kernel)
set_option maxRecDepth 20000 in
theorem gL_law_X9_copy : GoodIn wsL_law (wsV RL 36 RX9 yX9_copy wsX9_copy) := goodIn_app (goodIn_of _ (by decide +kernel)) ggL_law_X9_copy
set_option maxRecDepth 20000 in
theorem ggL_law_X10_copy : GoodIn wsL_law wsX10_copy := goodIn_r _ [275, 143, 182, 144, 212, 213, 5, 214, 215, 216, 217, 218, 181, 860, 861, 862, 863, 864, 865, 866, 867, 868, 869, 870, 871, 872, 873, 874, 875, 876, 877, 878, 879, 880, 881, 882, 883, 884, 885, 886, 887, 888, 889, 890, 891, 892, 893, 894, 895, 896, 897, 898, 899, 900, 901, 902, 903, 904, 905, 906, 907, 908, 909, 910, 911, 912, 913] (by decide +kernel) (by decide +kernel)
set_option maxRecDepth 20000 in
theorem gL_law_X10_copy : GoodIn wsL_law (wsV RL 40 RX10 yX10_copy wsX10_copy) := goodIn_app (goodIn_of _ (by decide +kernel)) ggL_law_X10_copy
set_option maxRecDepth 20000 in
theorem ggL_law_X9_lead : GoodIn wsL_law wsX9_lead := goodIn_r _ [279, 280, 26, 281, 198, 199, 2, 200, 223, 224, 225, 201, 202, 203, 204, 17, 845, 846, 847, 848, 849, 850, 851, 852, 853, 854, 855, 856, 857, 858, 859, 916, 917, 918, 919, 920, 921, 922] (by decide +kernel) (by decide +kernel)
set_option maxRecDepth 20000 in
theorem gL_law_X9_lead : GoodIn wsL_law (wsV RL 41 RX9 yX9_lead wsX9_lead) := goodIn_app (goodIn_of _ (by decide +kernel)) ggL_law_X9_lead
set_option maxRecDepth 20000 in
theorem ggL_law_X10_lead : GoodIn wsL_law wsX10_lead := goodIn_r _ [285, 181, 286, 145, 209, 210, 5, 211, 212, 213, 214, 860, 861, 862, 863, 864, 865, 866, 867, 868, 869, 870, 871, 872, 873, 874, 875, 876, 877, 878, 879, 880, 881, 882, 883, 884, 885, 886, 887, 888, 889, 890, 891, 892, 893, 894, 895, 896, 897, 898, 899, 900, 901, 902, 903, 904, 905, 906, 907, 908, 909, 910, 911, 912, 913] (by decide +kernel) (by decide +kernel)
set_option maxRecDepth 20000 in
theorem gL_law_X10_lead : GoodIn wsL_law (wsV RL 44 RX10 yX10_lead wsX10_lead) := goodIn_app (goodIn_of _ (by decide +kernel)) ggL_law_X10_lead
set_option maxRecDepth 20000 in
theorem ggL_law_X9_tide : GoodIn wsL_law wsX9_tide := goodIn_r _ [290, 198, 199, 2, 200, 201, 202, 203, 204, 17, 291, 292, 293, 294, 26, 281, 22, 254, 255, 223, 224, 225, 845, 846, 847, 848, 849, 850, 851, 852, 853, 854, 855, 856, 857, 858, 859, 916, 917, 918, 919, 920, 921, 922, 914, 915] (by decide +kernel) (by decide +kernel)
set_option maxRecDepth 20000 in
theorem gL_law_X9_tide : GoodIn wsL_law (wsV RL 45 RX9 yX9_tide wsX9_tide) := goodIn_app (goodIn_of _ (by decide +kernel)) ggL_law_X9_tide
set_option maxRecDepth 20000 in
theorem ggL_law_X10_tide : GoodIn wsL_law wsX10_tide := goodIn_r _ [298, 209, 210, 5, 211, 212, 213, 214, 215, 216, 217, 218, 181, 299, 300, 301, 302, 145, 143, 144, 860, 861, 862, 863, 864, 865, 866, 867, 868, 869, 870, 871, 872, 873, 874, 875, 876, 877, 878, 879, 880, 881, 882, 883, 884, 885, 886, 887, 888, 889, 890, 891, 892, 893, 894, 895, 896, 897, 898, 899, 900, 901, 902, 903, 904, 905, 906, 907, 908, 909, 910, 911, 912, 913] (by decide +kernel) (by decide +kernel)
set_option maxRecDepth 20000 in
theorem gL_law_X10_tide : GoodIn wsL_law (wsV RL 48 RX10 yX10_tide wsX10_tide) := goodIn_app (goodIn_of _ (by decide +kernel)) ggL_law_X10_tide
set_option maxRecDepth 20000 in
theorem ggL_law_X9_boat : GoodIn wsL_law wsX9_boat := goodIn_r _ [306, 30, 307, 201, 202, 203, 2, 204, 17, 308, 309, 310, 29, 311, 77, 78, 79, 80, 81, 845, 846, 847, 848, 849, 850, 851, 852, 853, 854, 855, 856, 857, 858, 859, 923, 924, 925, 926, 927, 928, 929, 930, 931] (by decide +kernel) (by decide +kernel)
set_option maxRecDepth 20000 in
theorem gL_law_X9_boat : GoodIn wsL_law (wsV RL 49 RX9 yX9_boat wsX9_boat) := goodIn_app (goodIn_of _ (by decide +kernel)) ggL_law_X9_boat
set_option maxRecDepth 20000 in
theorem ggL_law_X10_boat : GoodIn wsL_law wsX10_boat := goodIn_r _ [315, 316, 146, 147, 148, 149, 215, 216, 217, 5, 218, 181, 860, 861, 862, 863, 864, 865, 866, 867, 868, 869, 870, 871, 872, 873, 874, 875, 876, 877, 878, 879, 880, 881, 882, 883, 884, 885, 886, 887, 888, 889, 890, 891, 892, 893, 894, 895, 896, 897, 898, 899, 900, 901, 902, 903, 904, 905, 906, 907, 908, 909, 910, 911, 912, 913] (by decide +kernel) (by decide +kernel)
set_option maxRecDepth 20000 in
theorem gL_law_X10_boat : GoodIn wsL_law (wsV RL 53 RX10 yX10_boat wsX10_boat) := goodIn_app (goodIn_of _ (by decide +kernel)) ggL_law_X10_boat
set_option maxRecDepth 20000 in
theorem ggL_law_X9_load : GoodIn wsL_law wsX9_load := goodIn_r _ [320, 30, 321, 322, 323, 324, 325, 2, 326, 307, 201, 202, 203, 204, 17, 845, 846, 847, 848, 849, 850, 851, 852, 853, 854, 855, 856, 857, 858, 859, 923, 924, 925, 926, 927, 928, 929, 930, 931] (by decide +kernel) (by decide +kernel)
set_option maxRecDepth 20000 in
theorem gL_law_X9_load : GoodIn wsL_law (wsV RL 54 RX9 yX9_load wsX9_load) := goodIn_app (goodIn_of _ (by decide +kernel)) ggL_law_X9_load
set_option maxRecDepth 20000 in
theorem ggL_law_X10_load : GoodIn wsL_law wsX10_load := goodIn_r _ [330, 316, 147, 150, 212, 213, 5, 214, 215, 216, 217, 218, 181, 860, 861, 862, 863, 864, 865, 866, 867, 868, 869, 870, 871, 872, 873, 874, 875, 876, 877, 878, 879, 880, 881, 882, 883, 884, 885, 886, 887, 888, 889, 890, 891, 892, 893, 894, 895, 896, 897, 898, 899, 900, 901, 902, 903, 904, 905, 906, 907, 908, 909, 910, 911, 912, 913] (by decide +kernel) (by decide +kernel)
set_option maxRecDepth 20000 in
theorem gL_law_X10_load : GoodIn wsL_law (wsV RL 57 RX10 yX10_load wsX10_load) := goodIn_app (goodIn_of _ (by decide +kernel)) ggL_law_X10_load
set_option maxRecDepth 20000 in
theorem ggL_law_X9_hide : GoodIn wsL_law wsX9_hide := goodIn_r _ [334, 34, 335, 198, 199, 2, 200, 201, 202, 203, 204, 17, 336, 337, 338, 33, 339, 90, 91, 92, 93, 845, 846, 847, 848, 849, 850, 851, 852, 853, 854, 855, 856, 857, 858, 859, 932, 933, 934, 935, 936, 937, 938] (by decide +kernel) (by decide +kernel)
set_option maxRecDepth 20000 in
theorem gL_law_X9_hide : GoodIn wsL_law (wsV RL 58 RX9 yX9_hide wsX9_hide) := goodIn_app (goodIn_of _ (by decide +kernel)) ggL_law_X9_hide
set_option maxRecDepth 20000 in
theorem ggL_law_X10_hide : GoodIn wsL_law wsX10_hide := goodIn_r _ [343, 344, 154, 155, 156, 209, 210, 5, 211, 212, 213, 214, 215, 216, 217, 218, 181, 860, 861, 862, 863, 864, 865, 866, 867, 868, 869, 870, 871, 872, 873, 874, 875, 876, 877, 878, 879, 880, 881, 882, 883, 884, 885, 886, 887, 888, 889, 890, 891, 892, 893, 894, 895, 896, 897, 898, 899, 900, 901, 902, 903, 904, 905, 906, 907, 908, 909, 910, 911, 912, 913] (by decide +kernel) (by decide +kernel)
set_option maxRecDepth 20000 in
theorem gL_law_X10_hide : GoodIn wsL_law (wsV RL 61 RX10 yX10_hide wsX10_hide) := goodIn_app (goodIn_of _ (by decide +kernel)) ggL_law_X10_hide
