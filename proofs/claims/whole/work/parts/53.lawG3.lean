/-! whose words the law has -/
set_option maxRecDepth 20000 in
theorem ggL_law_X9_word : GoodIn wsL_law wsX9_word := goodIn_r _ [408, 12, 46, 409, 410, 411, 2, 412, 198, 199, 200, 201, 202, 203, 204, 17, 413, 414, 415, 45, 416, 118, 119, 417, 418, 419, 420, 120, 121, 421, 422, 423, 424, 845, 846, 847, 848, 849, 850, 851, 852, 853, 854, 855, 856, 857, 858, 859, 950, 951, 952, 953, 954, 955] (by decide +kernel) (by decide +kernel)
set_option maxRecDepth 20000 in
theorem gL_law_X9_word : GoodIn wsL_law (wsV RL 87 RX9 yX9_word wsX9_word) := goodIn_app (goodIn_of _ (by decide +kernel)) ggL_law_X9_word
set_option maxRecDepth 20000 in
theorem ggL_law_X10_word : GoodIn wsL_law wsX10_word := goodIn_r _ [428, 403, 429, 172, 173, 174, 212, 213, 5, 214, 209, 210, 211, 215, 216, 217, 218, 181, 860, 861, 862, 863, 864, 865, 866, 867, 868, 869, 870, 871, 872, 873, 874, 875, 876, 877, 878, 879, 880, 881, 882, 883, 884, 885, 886, 887, 888, 889, 890, 891, 892, 893, 894, 895, 896, 897, 898, 899, 900, 901, 902, 903, 904, 905, 906, 907, 908, 909, 910, 911, 912, 913] (by decide +kernel) (by decide +kernel)
set_option maxRecDepth 20000 in
theorem gL_law_X10_word : GoodIn wsL_law (wsV RL 90 RX10 yX10_word wsX10_word) := goodIn_app (goodIn_of _ (by decide +kernel)) ggL_law_X10_word
set_option maxRecDepth 20000 in
theorem ggL_law_X9_nights : GoodIn wsL_law wsX9_nights := goodIn_r _ [433, 12, 38, 434, 201, 202, 203, 2, 204, 17, 435, 436, 437, 438, 30, 307, 439, 440, 441, 442, 26, 443, 349, 14, 444, 445, 446, 25, 447, 70, 448, 449, 450, 451, 13, 452, 453, 454, 455, 456, 457, 458, 459, 460, 322, 461, 462, 463, 464, 465, 466, 467, 468, 469, 470, 471, 472, 473, 196, 474, 291, 292, 293, 294, 281, 22, 254, 255, 223, 224, 225, 475, 476, 477, 478, 479, 197, 480, 481, 482, 483, 72, 73, 484, 485, 486, 487, 488, 46, 489, 490, 491, 492, 37, 493, 101, 102, 103, 104, 105, 106, 107, 494, 495, 496, 45, 497, 118, 119, 417, 418, 419, 420, 120, 121, 498, 499, 500, 501, 15, 42, 502, 503, 18, 504, 505, 506, 41, 507, 111, 114, 410, 411, 412, 508, 509, 510, 29, 511, 86, 512, 513, 514, 515, 516, 517, 518, 519, 34, 520, 521, 522, 523, 524, 33, 525, 90, 91, 92, 95, 526, 527, 528, 529, 198, 199, 200, 530, 531, 532, 533, 77, 534, 535, 536, 537, 409, 538, 539, 540, 541, 542, 543, 544, 545, 546, 547, 122, 123, 548, 549, 550, 551, 94, 552, 845, 846, 847, 848, 849, 850, 851, 852, 853, 854, 855, 856, 857, 858, 859, 939, 940, 941, 942, 943, 944, 945, 923, 924, 925, 926, 927, 928, 929, 930, 931, 916, 917, 918, 919, 920, 921, 922, 914, 915, 950, 951, 952, 953, 954, 955, 946, 947, 948, 949, 932, 933, 934, 935, 936, 937, 938] (by decide +kernel) (by decide +kernel)
set_option maxRecDepth 20000 in
theorem gL_law_X9_nights : GoodIn wsL_law (wsV RL 91 RX9 yX9_nights wsX9_nights) := goodIn_app (goodIn_of _ (by decide +kernel)) ggL_law_X9_nights
set_option maxRecDepth 20000 in
theorem ggL_law_X10_nights : GoodIn wsL_law wsX10_nights := goodIn_r _ [556, 403, 557, 215, 216, 217, 5, 218, 181, 558, 559, 560, 561, 168, 316, 150, 153, 562, 563, 564, 565, 167, 164, 165, 380, 566, 567, 568, 569, 140, 570, 571, 572, 573, 574, 149, 141, 146, 142, 575, 576, 577, 299, 300, 301, 302, 145, 143, 144, 578, 579, 580, 581, 148, 151, 152, 582, 583, 584, 585, 166, 586, 587, 588, 589, 429, 173, 174, 172, 590, 591, 592, 593, 404, 171, 389, 169, 170, 180, 594, 595, 596, 597, 158, 159, 160, 161, 162, 163, 598, 599, 600, 601, 602, 603, 604, 605, 344, 154, 155, 606, 607, 608, 609, 610, 611, 612, 613, 175, 176, 157, 860, 861, 862, 863, 864, 865, 866, 867, 868, 869, 870, 871, 872, 873, 874, 875, 876, 877, 878, 879, 880, 881, 882, 883, 884, 885, 886, 887, 888, 889, 890, 891, 892, 893, 894, 895, 896, 897, 898, 899, 900, 901, 902, 903, 904, 905, 906, 907, 908, 909, 910, 911, 912, 913] (by decide +kernel) (by decide +kernel)
set_option maxRecDepth 20000 in
theorem gL_law_X10_nights : GoodIn wsL_law (wsV RL 94 RX10 yX10_nights wsX10_nights) := goodIn_app (goodIn_of _ (by decide +kernel)) ggL_law_X10_nights
set_option maxRecDepth 20000 in
theorem ggL_law_X9_search : GoodIn wsL_law wsX9_search := goodIn_r _ [617, 38, 434, 618, 619, 34, 521, 620, 621, 622, 623, 2, 624, 335, 201, 202, 203, 204, 17, 625, 626, 627, 37, 628, 106, 107, 498, 499, 500, 501, 15, 42, 12, 502, 503, 18, 504, 505, 506, 41, 507, 111, 114, 410, 411, 412, 845, 846, 847, 848, 849, 850, 851, 852, 853, 854, 855, 856, 857, 858, 859, 939, 940, 941, 942, 943, 944, 945, 932, 933, 934, 935, 936, 937, 938, 946, 947, 948, 949] (by decide +kernel) (by decide +kernel)
set_option maxRecDepth 20000 in
theorem gL_law_X9_search : GoodIn wsL_law (wsV RL 95 RX9 yX9_search wsX9_search) := goodIn_app (goodIn_of _ (by decide +kernel)) ggL_law_X9_search
set_option maxRecDepth 20000 in
theorem ggL_law_X10_search : GoodIn wsL_law wsX10_search := goodIn_r _ [632, 344, 557, 162, 163, 159, 157, 212, 213, 5, 214, 215, 216, 217, 218, 181, 590, 591, 592, 593, 404, 171, 403, 389, 169, 170, 180, 860, 861, 862, 863, 864, 865, 866, 867, 868, 869, 870, 871, 872, 873, 874, 875, 876, 877, 878, 879, 880, 881, 882, 883, 884, 885, 886, 887, 888, 889, 890, 891, 892, 893, 894, 895, 896, 897, 898, 899, 900, 901, 902, 903, 904, 905, 906, 907, 908, 909, 910, 911, 912, 913] (by decide +kernel) (by decide +kernel)
set_option maxRecDepth 20000 in
theorem gL_law_X10_search : GoodIn wsL_law (wsV RL 98 RX10 yX10_search wsX10_search) := goodIn_app (goodIn_of _ (by decide +kernel)) ggL_law_X10_search
set_option maxRecDepth 20000 in
theorem ggL_law_X9_best : GoodIn wsL_law wsX9_best := goodIn_r _ [636, 34, 201, 202, 203, 2, 204, 17, 637, 638, 639, 33, 640, 552, 513, 514, 515, 97, 90, 94, 641, 93, 642, 643, 644, 645, 845, 846, 847, 848, 849, 850, 851, 852, 853, 854, 855, 856, 857, 858, 859, 932, 933, 934, 935, 936, 937, 938] (by decide +kernel) (by decide +kernel)
set_option maxRecDepth 20000 in
theorem gL_law_X9_best : GoodIn wsL_law (wsV RL 99 RX9 yX9_best wsX9_best) := goodIn_app (goodIn_of _ (by decide +kernel)) ggL_law_X9_best
set_option maxRecDepth 20000 in
theorem ggL_law_X10_best : GoodIn wsL_law wsX10_best := goodIn_r _ [649, 344, 156, 157, 215, 216, 217, 5, 218, 181, 650, 651, 652, 860, 861, 862, 863, 864, 865, 866, 867, 868, 869, 870, 871, 872, 873, 874, 875, 876, 877, 878, 879, 880, 881, 882, 883, 884, 885, 886, 887, 888, 889, 890, 891, 892, 893, 894, 895, 896, 897, 898, 899, 900, 901, 902, 903, 904, 905, 906, 907, 908, 909, 910, 911, 912, 913] (by decide +kernel) (by decide +kernel)
set_option maxRecDepth 20000 in
theorem gL_law_X10_best : GoodIn wsL_law (wsV RL 102 RX10 yX10_best wsX10_best) := goodIn_app (goodIn_of _ (by decide +kernel)) ggL_law_X10_best
set_option maxRecDepth 20000 in
theorem ggL_law_X9_belief : GoodIn wsL_law wsX9_belief := goodIn_r _ [656, 46, 198, 199, 2, 200, 201, 202, 203, 204, 17, 657, 658, 659, 660, 661, 662, 45, 663, 118, 123, 119, 417, 418, 419, 420, 120, 121, 664, 665, 666, 667, 668, 669, 670, 671, 122, 672, 673, 674, 675, 676, 677, 845, 846, 847, 848, 849, 850, 851, 852, 853, 854, 855, 856, 857, 858, 859, 950, 951, 952, 953, 954, 955] (by decide +kernel) (by decide +kernel)
set_option maxRecDepth 20000 in
theorem gL_law_X9_belief : GoodIn wsL_law (wsV RL 103 RX9 yX9_belief wsX9_belief) := goodIn_app (goodIn_of _ (by decide +kernel)) ggL_law_X9_belief
set_option maxRecDepth 20000 in
theorem ggL_law_X10_belief : GoodIn wsL_law wsX10_belief := goodIn_r _ [681, 429, 172, 173, 174, 176, 175, 209, 210, 5, 211, 212, 213, 214, 215, 216, 217, 218, 181, 682, 683, 684, 685, 686, 687, 860, 861, 862, 863, 864, 865, 866, 867, 868, 869, 870, 871, 872, 873, 874, 875, 876, 877, 878, 879, 880, 881, 882, 883, 884, 885, 886, 887, 888, 889, 890, 891, 892, 893, 894, 895, 896, 897, 898, 899, 900, 901, 902, 903, 904, 905, 906, 907, 908, 909, 910, 911, 912, 913] (by decide +kernel) (by decide +kernel)
set_option maxRecDepth 20000 in
theorem gL_law_X10_belief : GoodIn wsL_law (wsV RL 107 RX10 yX10_belief wsX10_belief) := goodIn_app (goodIn_of _ (by decide +kernel)) ggL_law_X10_belief
set_option maxRecDepth 20000 in
theorem ggL_law_X9_weight : GoodIn wsL_law wsX9_weight := goodIn_r _ [691, 46, 692, 410, 411, 2, 412, 201, 202, 203, 204, 17, 657, 658, 659, 693, 669, 670, 45, 671, 122, 123, 672, 673, 674, 675, 676, 677, 845, 846, 847, 848, 849, 850, 851, 852, 853, 854, 855, 856, 857, 858, 859, 950, 951, 952, 953, 954, 955] (by decide +kernel) (by decide +kernel)
set_option maxRecDepth 20000 in
theorem gL_law_X9_weight : GoodIn wsL_law (wsV RL 108 RX9 yX9_weight wsX9_weight) := goodIn_app (goodIn_of _ (by decide +kernel)) ggL_law_X9_weight
set_option maxRecDepth 20000 in
theorem ggL_law_X10_weight : GoodIn wsL_law wsX10_weight := goodIn_r _ [697, 175, 176, 212, 213, 5, 214, 215, 216, 217, 218, 181, 682, 683, 684, 685, 686, 687, 860, 861, 862, 863, 864, 865, 866, 867, 868, 869, 870, 871, 872, 873, 874, 875, 876, 877, 878, 879, 880, 881, 882, 883, 884, 885, 886, 887, 888, 889, 890, 891, 892, 893, 894, 895, 896, 897, 898, 899, 900, 901, 902, 903, 904, 905, 906, 907, 908, 909, 910, 911, 912, 913] (by decide +kernel) (by decide +kernel)
set_option maxRecDepth 20000 in
theorem gL_law_X10_weight : GoodIn wsL_law (wsV RL 111 RX10 yX10_weight wsX10_weight) := goodIn_app (goodIn_of _ (by decide +kernel)) ggL_law_X10_weight
