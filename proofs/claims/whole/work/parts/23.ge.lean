set_option maxRecDepth 20000 in
theorem ggL_law_X3_ranked : GoodIn wsL_law wsX3_ranked := goodIn_r _ [750, 438, 484, 282, 2, 283, 263, 244, 245, 440, 441, 442, 69, 70, 71, 72, 28, 96, 97, 98, 99, 16, 15, 100, 101, 102, 14, 103, 38, 104, 105, 106, 107, 39, 40, 41, 42, 43, 44, 108, 109, 45, 110, 666, 667, 668, 669, 542, 525, 526, 527, 528, 529, 530, 531, 532, 401, 402, 403, 533, 405, 406, 407, 408, 409, 410, 411, 534, 535, 536, 537, 268, 192, 193, 194, 543, 544, 545, 546, 547, 548, 549, 550, 551, 296, 297, 298, 694, 695, 696, 697, 698, 699, 700, 992, 993, 994, 995, 996, 997, 998, 999, 1000, 1001, 1002, 967, 968, 969, 970, 971, 972, 973, 974, 975, 976, 977, 978] (by decide +kernel) (by decide +kernel)
set_option maxRecDepth 20000 in
theorem gL_law_X3_ranked : GoodIn wsL_law (wsV RL 117 RX3 yX3_ranked wsX3_ranked) := goodIn_app (goodIn_of _ (by decide +kernel)) ggL_law_X3_ranked
set_option maxRecDepth 20000 in
theorem ggL_law_X4_ranked : GoodIn wsL_law wsX4_ranked := goodIn_r _ [754, 57, 58, 375, 376, 5, 377, 352, 353, 354, 88, 89, 90, 91, 63, 362, 363, 364, 648, 649, 650, 577, 578, 579, 580, 581, 582, 568, 569, 570, 571, 572, 573, 372, 373, 374, 417, 418, 419, 420, 421, 422, 574, 575, 576, 651, 652, 653, 979, 980, 981, 982, 983, 984, 985, 986, 987, 988, 989, 990, 991] (by decide +kernel) (by decide +kernel)
set_option maxRecDepth 20000 in
theorem gL_law_X4_ranked : GoodIn wsL_law (wsV RL 120 RX4 yX4_ranked wsX4_ranked) := goodIn_app (goodIn_of _ (by decide +kernel)) ggL_law_X4_ranked
set_option maxRecDepth 20000 in
theorem ggL_law_X3_window : GoodIn wsL_law wsX3_window := goodIn_r _ [758, 15, 759, 760, 761, 2, 762, 538, 539, 540, 14, 541, 542, 525, 526, 527, 108, 528, 529, 530, 531, 42, 532, 401, 402, 403, 109, 533, 405, 406, 407, 38, 408, 409, 410, 411, 40, 41, 110, 534, 535, 536, 537, 45, 39, 268, 192, 193, 194, 543, 544, 545, 546, 43, 547, 548, 549, 550, 44, 551, 296, 297, 298, 244, 245, 763, 764, 765, 766, 767, 768, 769, 770, 771, 772, 773, 774, 69, 70, 71, 72, 28, 967, 968, 969, 970, 971, 972, 973, 974, 975, 976, 977, 978, 992, 993, 994, 995, 996, 997, 998, 999, 1000, 1001, 1002] (by decide +kernel) (by decide +kernel)
set_option maxRecDepth 20000 in
theorem gL_law_X3_window : GoodIn wsL_law (wsV RL 121 RX3 yX3_window wsX3_window) := goodIn_app (goodIn_of _ (by decide +kernel)) ggL_law_X3_window
set_option maxRecDepth 20000 in
theorem ggL_law_X4_window : GoodIn wsL_law wsX4_window := goodIn_r _ [778, 352, 353, 5, 354, 88, 89, 90, 91, 63, 779, 780, 781, 782, 57, 577, 578, 579, 580, 581, 582, 568, 569, 570, 571, 572, 573, 372, 373, 374, 417, 418, 419, 420, 421, 422, 574, 575, 576, 783, 784, 785, 786, 787, 788, 789, 790, 791, 792, 793, 794, 979, 980, 981, 982, 983, 984, 985, 986, 987, 988, 989, 990, 991] (by decide +kernel) (by decide +kernel)
set_option maxRecDepth 20000 in
theorem gL_law_X4_window : GoodIn wsL_law (wsV RL 124 RX4 yX4_window wsX4_window) := goodIn_app (goodIn_of _ (by decide +kernel)) ggL_law_X4_window
set_option maxRecDepth 20000 in
theorem ggL_law_X3_two : GoodIn wsL_law wsX3_two := goodIn_r _ [798, 15, 33, 399, 296, 297, 14, 298, 108, 244, 2, 245, 69, 70, 71, 72, 28, 263, 799, 800, 801, 802, 96, 97, 98, 99, 16, 100, 101, 102, 103, 38, 104, 105, 106, 107, 39, 40, 41, 42, 43, 44, 109, 45, 110, 803, 324, 325, 326, 512, 313, 314, 315, 316, 317, 318, 319, 320, 321, 322, 323, 666, 667, 668, 669, 542, 525, 526, 527, 528, 529, 530, 531, 532, 401, 402, 403, 533, 405, 406, 407, 408, 409, 410, 411, 534, 535, 536, 537, 268, 192, 193, 194, 543, 544, 545, 546, 547, 548, 549, 550, 551, 694, 695, 696, 697, 698, 699, 700, 804, 805, 806, 807, 967, 968, 969, 970, 971, 972, 973, 974, 975, 976, 977, 978, 992, 993, 994, 995, 996, 997, 998, 999, 1000, 1001, 1002] (by decide +kernel) (by decide +kernel)
set_option maxRecDepth 20000 in
theorem gL_law_X3_two : GoodIn wsL_law (wsV RL 125 RX3 yX3_two wsX3_two) := goodIn_app (goodIn_of _ (by decide +kernel)) ggL_law_X3_two
set_option maxRecDepth 20000 in
theorem ggL_law_X4_two : GoodIn wsL_law wsX4_two := goodIn_r _ [811, 378, 379, 380, 5, 381, 57, 352, 353, 354, 456, 457, 458, 88, 89, 90, 91, 63, 812, 813, 814, 815, 58, 362, 363, 364, 372, 373, 374, 382, 383, 384, 385, 386, 387, 388, 389, 390, 648, 649, 650, 577, 578, 579, 580, 581, 582, 568, 569, 570, 571, 572, 573, 417, 418, 419, 420, 421, 422, 574, 575, 576, 651, 652, 653, 979, 980, 981, 982, 983, 984, 985, 986, 987, 988, 989, 990, 991] (by decide +kernel) (by decide +kernel)
set_option maxRecDepth 20000 in
theorem gL_law_X4_two : GoodIn wsL_law (wsV RL 128 RX4 yX4_two wsX4_two) := goodIn_app (goodIn_of _ (by decide +kernel)) ggL_law_X4_two
set_option maxRecDepth 20000 in
theorem ggL_law_X3_mist : GoodIn wsL_law wsX3_mist := goodIn_r _ [819, 15, 494, 820, 192, 193, 194, 31, 521, 522, 2, 523, 263, 244, 245, 821, 822, 823, 824, 825, 69, 70, 71, 72, 28, 484, 282, 283, 440, 441, 442, 826, 827, 828, 829, 595, 596, 597, 598, 96, 97, 98, 99, 16, 100, 101, 102, 14, 103, 38, 104, 105, 106, 107, 39, 40, 41, 42, 43, 44, 108, 109, 45, 110, 512, 313, 314, 315, 316, 317, 318, 319, 320, 321, 322, 323, 324, 325, 326, 538, 539, 540, 541, 542, 525, 526, 527, 528, 529, 530, 531, 532, 401, 402, 403, 533, 405, 406, 407, 408, 409, 410, 411, 534, 535, 536, 537, 268, 543, 544, 545, 546, 547, 548, 549, 550, 551, 296, 297, 298, 830, 831, 832, 833, 834, 835, 967, 968, 969, 970, 971, 972, 973, 974, 975, 976, 977, 978, 992, 993, 994, 995, 996, 997, 998, 999, 1000, 1001, 1002] (by decide +kernel) (by decide +kernel)
set_option maxRecDepth 20000 in
theorem gL_law_X3_mist : GoodIn wsL_law (wsV RL 129 RX3 yX3_mist wsX3_mist) := goodIn_app (goodIn_of _ (by decide +kernel)) ggL_law_X3_mist
set_option maxRecDepth 20000 in
theorem ggL_law_X4_mist : GoodIn wsL_law wsX4_mist := goodIn_r _ [839, 57, 58, 565, 566, 5, 567, 352, 353, 354, 840, 841, 842, 843, 844, 88, 89, 90, 91, 63, 375, 376, 377, 362, 363, 364, 571, 572, 573, 385, 386, 387, 372, 373, 374, 388, 389, 390, 577, 578, 579, 580, 581, 582, 568, 569, 570, 417, 418, 419, 420, 421, 422, 574, 575, 576, 845, 846, 847, 848, 849, 850, 979, 980, 981, 982, 983, 984, 985, 986, 987, 988, 989, 990, 991] (by decide +kernel) (by decide +kernel)
set_option maxRecDepth 20000 in
theorem gL_law_X4_mist : GoodIn wsL_law (wsV RL 133 RX4 yX4_mist wsX4_mist) := goodIn_app (goodIn_of _ (by decide +kernel)) ggL_law_X4_mist
set_option maxRecDepth 20000 in
theorem ggL_law_X3_mean : GoodIn wsL_law wsX3_mean := goodIn_r _ [854, 15, 427, 855, 440, 441, 2, 442, 263, 244, 245, 821, 822, 823, 824, 825, 69, 70, 71, 72, 28, 856, 857, 858, 830, 831, 832, 833, 834, 835, 967, 968, 969, 970, 971, 972, 973, 974, 975, 976, 977, 978, 992, 993, 994, 995, 996, 997, 998, 999, 1000, 1001, 1002] (by decide +kernel) (by decide +kernel)
set_option maxRecDepth 20000 in
theorem gL_law_X3_mean : GoodIn wsL_law (wsV RL 134 RX3 yX3_mean wsX3_mean) := goodIn_app (goodIn_of _ (by decide +kernel)) ggL_law_X3_mean
set_option maxRecDepth 20000 in
theorem ggL_law_X4_mean : GoodIn wsL_law wsX4_mean := goodIn_r _ [862, 863, 352, 353, 5, 354, 864, 865, 866, 867, 57, 845, 846, 847, 848, 849, 850, 840, 841, 842, 843, 844, 88, 89, 90, 91, 63, 979, 980, 981, 982, 983, 984, 985, 986, 987, 988, 989, 990, 991] (by decide +kernel) (by decide +kernel)
set_option maxRecDepth 20000 in
theorem gL_law_X4_mean : GoodIn wsL_law (wsV RL 138 RX4 yX4_mean wsX4_mean) := goodIn_app (goodIn_of _ (by decide +kernel)) ggL_law_X4_mean
set_option maxRecDepth 20000 in
theorem ggL_law_X3_whereWas : GoodIn wsL_law wsX3_whereWas := goodIn_r _ [871, 15, 397, 395, 399, 296, 297, 14, 298, 108, 244, 2, 245, 521, 522, 523, 263, 69, 70, 71, 72, 28, 440, 441, 442, 96, 97, 98, 99, 16, 100, 101, 102, 103, 38, 104, 105, 106, 107, 39, 40, 41, 42, 43, 44, 109, 45, 110, 872, 873, 874, 875, 876, 27, 538, 539, 540, 541, 542, 525, 526, 527, 528, 529, 530, 531, 532, 401, 402, 403, 533, 405, 406, 407, 408, 409, 410, 411, 534, 535, 536, 537, 268, 192, 193, 194, 543, 544, 545, 546, 547, 548, 549, 550, 551, 512, 313, 314, 315, 316, 317, 318, 319, 320, 321, 322, 323, 324, 325, 326, 967, 968, 969, 970, 971, 972, 973, 974, 975, 976, 977, 978, 992, 993, 994, 995, 996, 997, 998, 999, 1000, 1001, 1002] (by decide +kernel) (by decide +kernel)
set_option maxRecDepth 20000 in
theorem gL_law_X3_whereWas : GoodIn wsL_law (wsV RL 139 RX3 yX3_whereWas wsX3_whereWas) := goodIn_app (goodIn_of _ (by decide +kernel)) ggL_law_X3_whereWas
set_option maxRecDepth 20000 in
theorem ggL_law_X4_whereWas : GoodIn wsL_law wsX4_whereWas := goodIn_r _ [880, 57, 58, 881, 62, 378, 379, 380, 5, 381, 352, 353, 354, 565, 566, 567, 88, 89, 90, 91, 63, 362, 363, 364, 372, 373, 374, 577, 578, 579, 580, 581, 582, 568, 569, 570, 571, 572, 573, 417, 418, 419, 420, 421, 422, 574, 575, 576, 385, 386, 387, 388, 389, 390, 979, 980, 981, 982, 983, 984, 985, 986, 987, 988, 989, 990, 991] (by decide +kernel) (by decide +kernel)
set_option maxRecDepth 20000 in
theorem gL_law_X4_whereWas : GoodIn wsL_law (wsV RL 142 RX4 yX4_whereWas wsX4_whereWas) := goodIn_app (goodIn_of _ (by decide +kernel)) ggL_law_X4_whereWas
set_option maxRecDepth 20000 in
theorem ggL_law_X3_row : GoodIn wsL_law wsX3_row := goodIn_r _ [885, 876, 27, 69, 70, 71, 2, 72, 28, 967, 968, 969, 970, 971, 972, 973, 974, 975, 976, 977, 978] (by decide +kernel) (by decide +kernel)
set_option maxRecDepth 20000 in
theorem gL_law_X3_row : GoodIn wsL_law (wsV RL 143 RX3 yX3_row wsX3_row) := goodIn_app (goodIn_of _ (by decide +kernel)) ggL_law_X3_row
