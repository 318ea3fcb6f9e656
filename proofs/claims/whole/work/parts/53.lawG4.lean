/-! whose words the law has -/
set_option maxRecDepth 20000 in
theorem ggL_law_X9_value : GoodIn wsL_law wsX9_value := goodIn_r _ [701, 702, 54, 26, 197, 703, 704, 705, 706, 2, 707, 657, 658, 659, 201, 202, 203, 204, 17, 708, 709, 710, 53, 711, 133, 134, 135, 712, 713, 714, 715, 672, 673, 674, 675, 676, 677, 845, 846, 847, 848, 849, 850, 851, 852, 853, 854, 855, 856, 857, 858, 859, 916, 917, 918, 919, 920, 921, 922, 959, 960, 961] (by decide +kernel) (by decide +kernel)
set_option maxRecDepth 20000 in
theorem gL_law_X9_value : GoodIn wsL_law (wsV RL 112 RX9 yX9_value wsX9_value) := goodIn_app (goodIn_of _ (by decide +kernel)) ggL_law_X9_value
set_option maxRecDepth 20000 in
theorem ggL_law_X10_value : GoodIn wsL_law wsX10_value := goodIn_r _ [719, 720, 721, 722, 723, 724, 5, 725, 181, 726, 212, 213, 214, 727, 728, 729, 730, 183, 142, 682, 683, 684, 685, 686, 687, 860, 861, 862, 863, 864, 865, 866, 867, 868, 869, 870, 871, 872, 873, 874, 875, 876, 877, 878, 879, 880, 881, 882, 883, 884, 885, 886, 887, 888, 889, 890, 891, 892, 893, 894, 895, 896, 897, 898, 899, 900, 901, 902, 903, 904, 905, 906, 907, 908, 909, 910, 911, 912, 913] (by decide +kernel) (by decide +kernel)
set_option maxRecDepth 20000 in
theorem gL_law_X10_value : GoodIn wsL_law (wsV RL 115 RX10 yX10_value wsX10_value) := goodIn_app (goodIn_of _ (by decide +kernel)) ggL_law_X10_value
set_option maxRecDepth 20000 in
theorem ggL_law_X9_chance : GoodIn wsL_law wsX9_chance := goodIn_r _ [734, 702, 54, 26, 197, 704, 703, 198, 199, 2, 200, 705, 706, 707, 657, 658, 659, 201, 202, 203, 204, 17, 708, 709, 710, 53, 711, 133, 134, 135, 712, 713, 714, 715, 672, 673, 674, 675, 676, 677, 845, 846, 847, 848, 849, 850, 851, 852, 853, 854, 855, 856, 857, 858, 859, 916, 917, 918, 919, 920, 921, 922, 959, 960, 961] (by decide +kernel) (by decide +kernel)
set_option maxRecDepth 20000 in
theorem gL_law_X9_chance : GoodIn wsL_law (wsV RL 116 RX9 yX9_chance wsX9_chance) := goodIn_app (goodIn_of _ (by decide +kernel)) ggL_law_X9_chance
set_option maxRecDepth 20000 in
theorem ggL_law_X10_chance : GoodIn wsL_law wsX10_chance := goodIn_r _ [738, 142, 721, 720, 209, 210, 5, 211, 212, 213, 214, 722, 723, 724, 725, 181, 726, 727, 728, 729, 730, 183, 682, 683, 684, 685, 686, 687, 860, 861, 862, 863, 864, 865, 866, 867, 868, 869, 870, 871, 872, 873, 874, 875, 876, 877, 878, 879, 880, 881, 882, 883, 884, 885, 886, 887, 888, 889, 890, 891, 892, 893, 894, 895, 896, 897, 898, 899, 900, 901, 902, 903, 904, 905, 906, 907, 908, 909, 910, 911, 912, 913] (by decide +kernel) (by decide +kernel)
set_option maxRecDepth 20000 in
theorem gL_law_X10_chance : GoodIn wsL_law (wsV RL 120 RX10 yX10_chance wsX10_chance) := goodIn_app (goodIn_of _ (by decide +kernel)) ggL_law_X10_chance
set_option maxRecDepth 20000 in
theorem ggL_law_X9_used : GoodIn wsL_law wsX9_used := goodIn_r _ [742, 743, 50, 744, 745, 746, 747, 748, 2, 749, 201, 202, 203, 204, 17, 845, 846, 847, 848, 849, 850, 851, 852, 853, 854, 855, 856, 857, 858, 859, 956, 957, 958] (by decide +kernel) (by decide +kernel)
set_option maxRecDepth 20000 in
theorem gL_law_X9_used : GoodIn wsL_law (wsV RL 121 RX9 yX9_used wsX9_used) := goodIn_app (goodIn_of _ (by decide +kernel)) ggL_law_X9_used
set_option maxRecDepth 20000 in
theorem ggL_law_X10_used : GoodIn wsL_law wsX10_used := goodIn_r _ [753, 754, 177, 178, 179, 212, 213, 5, 214, 215, 216, 217, 218, 181, 860, 861, 862, 863, 864, 865, 866, 867, 868, 869, 870, 871, 872, 873, 874, 875, 876, 877, 878, 879, 880, 881, 882, 883, 884, 885, 886, 887, 888, 889, 890, 891, 892, 893, 894, 895, 896, 897, 898, 899, 900, 901, 902, 903, 904, 905, 906, 907, 908, 909, 910, 911, 912, 913] (by decide +kernel) (by decide +kernel)
set_option maxRecDepth 20000 in
theorem gL_law_X10_used : GoodIn wsL_law (wsV RL 124 RX10 yX10_used wsX10_used) := goodIn_app (goodIn_of _ (by decide +kernel)) ggL_law_X10_used
set_option maxRecDepth 20000 in
theorem ggL_law_X9_landed : GoodIn wsL_law wsX9_landed := goodIn_r _ [758, 50, 744, 38, 745, 747, 748, 2, 749, 201, 202, 203, 204, 17, 759, 760, 761, 37, 762, 101, 104, 106, 103, 763, 764, 765, 49, 766, 129, 767, 768, 514, 769, 770, 771, 772, 773, 845, 846, 847, 848, 849, 850, 851, 852, 853, 854, 855, 856, 857, 858, 859, 956, 957, 958, 939, 940, 941, 942, 943, 944, 945] (by decide +kernel) (by decide +kernel)
set_option maxRecDepth 20000 in
theorem gL_law_X9_landed : GoodIn wsL_law (wsV RL 125 RX9 yX9_landed wsX9_landed) := goodIn_app (goodIn_of _ (by decide +kernel)) ggL_law_X9_landed
set_option maxRecDepth 20000 in
theorem ggL_law_X10_landed : GoodIn wsL_law wsX10_landed := goodIn_r _ [777, 177, 178, 179, 212, 213, 5, 214, 215, 216, 217, 218, 181, 778, 779, 780, 781, 557, 160, 162, 159, 860, 861, 862, 863, 864, 865, 866, 867, 868, 869, 870, 871, 872, 873, 874, 875, 876, 877, 878, 879, 880, 881, 882, 883, 884, 885, 886, 887, 888, 889, 890, 891, 892, 893, 894, 895, 896, 897, 898, 899, 900, 901, 902, 903, 904, 905, 906, 907, 908, 909, 910, 911, 912, 913] (by decide +kernel) (by decide +kernel)
set_option maxRecDepth 20000 in
theorem gL_law_X10_landed : GoodIn wsL_law (wsV RL 128 RX10 yX10_landed wsX10_landed) := goodIn_app (goodIn_of _ (by decide +kernel)) ggL_law_X10_landed
set_option maxRecDepth 20000 in
theorem ggL_law_X9_lotOf : GoodIn wsL_law wsX9_lotOf := goodIn_r _ [785, 38, 434, 786, 619, 787, 788, 618, 789, 201, 202, 203, 2, 204, 17, 845, 846, 847, 848, 849, 850, 851, 852, 853, 854, 855, 856, 857, 858, 859, 939, 940, 941, 942, 943, 944, 945] (by decide +kernel) (by decide +kernel)
set_option maxRecDepth 20000 in
theorem gL_law_X9_lotOf : GoodIn wsL_law (wsV RL 129 RX9 yX9_lotOf wsX9_lotOf) := goodIn_app (goodIn_of _ (by decide +kernel)) ggL_law_X9_lotOf
set_option maxRecDepth 20000 in
theorem ggL_law_X10_lotOf : GoodIn wsL_law wsX10_lotOf := goodIn_r _ [793, 557, 158, 159, 160, 161, 162, 163, 212, 213, 5, 214, 215, 216, 217, 218, 181, 860, 861, 862, 863, 864, 865, 866, 867, 868, 869, 870, 871, 872, 873, 874, 875, 876, 877, 878, 879, 880, 881, 882, 883, 884, 885, 886, 887, 888, 889, 890, 891, 892, 893, 894, 895, 896, 897, 898, 899, 900, 901, 902, 903, 904, 905, 906, 907, 908, 909, 910, 911, 912, 913] (by decide +kernel) (by decide +kernel)
set_option maxRecDepth 20000 in
theorem gL_law_X10_lotOf : GoodIn wsL_law (wsV RL 132 RX10 yX10_lotOf wsX10_lotOf) := goodIn_app (goodIn_of _ (by decide +kernel)) ggL_law_X10_lotOf
set_option maxRecDepth 20000 in
theorem ggL_law_X9_boatOf : GoodIn wsL_law wsX9_boatOf := goodIn_r _ [797, 30, 479, 322, 489, 520, 323, 324, 325, 2, 326, 307, 201, 202, 203, 204, 17, 845, 846, 847, 848, 849, 850, 851, 852, 853, 854, 855, 856, 857, 858, 859, 923, 924, 925, 926, 927, 928, 929, 930, 931] (by decide +kernel) (by decide +kernel)
set_option maxRecDepth 20000 in
theorem gL_law_X9_boatOf : GoodIn wsL_law (wsV RL 133 RX9 yX9_boatOf wsX9_boatOf) := goodIn_app (goodIn_of _ (by decide +kernel)) ggL_law_X9_boatOf
set_option maxRecDepth 20000 in
theorem ggL_law_X10_boatOf : GoodIn wsL_law wsX10_boatOf := goodIn_r _ [801, 316, 150, 151, 152, 153, 212, 213, 5, 214, 215, 216, 217, 218, 181, 860, 861, 862, 863, 864, 865, 866, 867, 868, 869, 870, 871, 872, 873, 874, 875, 876, 877, 878, 879, 880, 881, 882, 883, 884, 885, 886, 887, 888, 889, 890, 891, 892, 893, 894, 895, 896, 897, 898, 899, 900, 901, 902, 903, 904, 905, 906, 907, 908, 909, 910, 911, 912, 913] (by decide +kernel) (by decide +kernel)
set_option maxRecDepth 20000 in
theorem gL_law_X10_boatOf : GoodIn wsL_law (wsV RL 136 RX10 yX10_boatOf wsX10_boatOf) := goodIn_app (goodIn_of _ (by decide +kernel)) ggL_law_X10_boatOf
