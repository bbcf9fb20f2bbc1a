set_option maxRecDepth 20000 in
theorem ggL_law_X4_appeal : GoodIn wsL_law wsX4_appeal := goodIn_r _ [661, 57, 565, 566, 5, 567, 352, 353, 354, 88, 89, 90, 91, 63, 577, 578, 579, 580, 581, 582, 568, 569, 570, 571, 572, 573, 372, 373, 374, 417, 418, 419, 420, 421, 422, 574, 575, 576, 979, 980, 981, 982, 983, 984, 985, 986, 987, 988, 989, 990, 991] (by decide +kernel) (by decide +kernel)
set_option maxRecDepth 20000 in
theorem gL_law_X4_appeal : GoodIn wsL_law (wsV RL 92 RX4 yX4_appeal wsX4_appeal) := goodIn_app (goodIn_of _ (by decide +kernel)) ggL_law_X4_appeal
set_option maxRecDepth 20000 in
theorem ggL_law_X3_branches : GoodIn wsL_law wsX3_branches := goodIn_r _ [665, 15, 484, 282, 2, 283, 263, 244, 245, 69, 70, 71, 72, 28, 666, 667, 668, 14, 669, 542, 525, 526, 527, 108, 528, 529, 530, 531, 42, 532, 401, 402, 403, 109, 533, 405, 406, 407, 38, 408, 409, 410, 411, 40, 41, 110, 534, 535, 536, 537, 45, 39, 268, 192, 193, 194, 543, 544, 545, 546, 43, 547, 548, 549, 550, 44, 551, 296, 297, 298, 967, 968, 969, 970, 971, 972, 973, 974, 975, 976, 977, 978, 992, 993, 994, 995, 996, 997, 998, 999, 1000, 1001, 1002] (by decide +kernel) (by decide +kernel)
set_option maxRecDepth 20000 in
theorem gL_law_X3_branches : GoodIn wsL_law (wsV RL 93 RX3 yX3_branches wsX3_branches) := goodIn_app (goodIn_of _ (by decide +kernel)) ggL_law_X3_branches
set_option maxRecDepth 20000 in
theorem ggL_law_X4_branches : GoodIn wsL_law wsX4_branches := goodIn_r _ [673, 57, 375, 376, 5, 377, 352, 353, 354, 648, 649, 650, 577, 578, 579, 580, 581, 582, 568, 569, 570, 571, 572, 573, 372, 373, 374, 417, 418, 419, 420, 421, 422, 574, 575, 576, 88, 89, 90, 91, 63, 979, 980, 981, 982, 983, 984, 985, 986, 987, 988, 989, 990, 991] (by decide +kernel) (by decide +kernel)
set_option maxRecDepth 20000 in
theorem gL_law_X4_branches : GoodIn wsL_law (wsV RL 96 RX4 yX4_branches wsX4_branches) := goodIn_app (goodIn_of _ (by decide +kernel)) ggL_law_X4_branches
set_option maxRecDepth 20000 in
theorem ggL_law_X3_best : GoodIn wsL_law wsX3_best := goodIn_r _ [677, 484, 282, 2, 283, 263, 244, 245, 440, 441, 442, 69, 70, 71, 72, 28, 678, 679, 680, 681, 96, 97, 98, 99, 16, 15, 100, 101, 102, 14, 103, 38, 104, 105, 106, 107, 39, 40, 41, 42, 43, 44, 108, 109, 45, 110, 538, 539, 540, 541, 542, 525, 526, 527, 528, 529, 530, 531, 532, 401, 402, 403, 533, 405, 406, 407, 408, 409, 410, 411, 534, 535, 536, 537, 268, 192, 193, 194, 543, 544, 545, 546, 547, 548, 549, 550, 551, 296, 297, 298, 512, 313, 314, 315, 316, 317, 318, 319, 320, 321, 322, 323, 324, 325, 326, 967, 968, 969, 970, 971, 972, 973, 974, 975, 976, 977, 978, 992, 993, 994, 995, 996, 997, 998, 999, 1000, 1001, 1002] (by decide +kernel) (by decide +kernel)
set_option maxRecDepth 20000 in
theorem gL_law_X3_best : GoodIn wsL_law (wsV RL 97 RX3 yX3_best wsX3_best) := goodIn_app (goodIn_of _ (by decide +kernel)) ggL_law_X3_best
set_option maxRecDepth 20000 in
theorem ggL_law_X4_best : GoodIn wsL_law wsX4_best := goodIn_r _ [685, 375, 376, 5, 377, 352, 353, 354, 456, 457, 458, 88, 89, 90, 91, 63, 686, 687, 688, 689, 57, 58, 362, 363, 364, 577, 578, 579, 580, 581, 582, 568, 569, 570, 571, 572, 573, 372, 373, 374, 417, 418, 419, 420, 421, 422, 574, 575, 576, 385, 386, 387, 388, 389, 390, 979, 980, 981, 982, 983, 984, 985, 986, 987, 988, 989, 990, 991] (by decide +kernel) (by decide +kernel)
set_option maxRecDepth 20000 in
theorem gL_law_X4_best : GoodIn wsL_law (wsV RL 100 RX4 yX4_best wsX4_best) := goodIn_app (goodIn_of _ (by decide +kernel)) ggL_law_X4_best
set_option maxRecDepth 20000 in
theorem ggL_law_X3_drive : GoodIn wsL_law wsX3_drive := goodIn_r _ [693, 15, 397, 399, 296, 297, 14, 298, 108, 244, 2, 245, 69, 70, 71, 72, 28, 484, 282, 283, 263, 666, 667, 668, 669, 542, 525, 526, 527, 528, 529, 530, 531, 42, 532, 401, 402, 403, 109, 533, 405, 406, 407, 38, 408, 409, 410, 411, 40, 41, 110, 534, 535, 536, 537, 45, 39, 268, 192, 193, 194, 543, 544, 545, 546, 43, 547, 548, 549, 550, 44, 551, 694, 695, 696, 697, 698, 699, 700, 96, 97, 98, 99, 16, 100, 101, 102, 103, 104, 105, 106, 107, 967, 968, 969, 970, 971, 972, 973, 974, 975, 976, 977, 978, 992, 993, 994, 995, 996, 997, 998, 999, 1000, 1001, 1002] (by decide +kernel) (by decide +kernel)
set_option maxRecDepth 20000 in
theorem gL_law_X3_drive : GoodIn wsL_law (wsV RL 101 RX3 yX3_drive wsX3_drive) := goodIn_app (goodIn_of _ (by decide +kernel)) ggL_law_X3_drive
set_option maxRecDepth 20000 in
theorem ggL_law_X4_drive : GoodIn wsL_law wsX4_drive := goodIn_r _ [704, 57, 58, 378, 379, 380, 5, 381, 352, 353, 354, 375, 376, 377, 88, 89, 90, 91, 63, 648, 649, 650, 577, 578, 579, 580, 581, 582, 568, 569, 570, 571, 572, 573, 372, 373, 374, 417, 418, 419, 420, 421, 422, 574, 575, 576, 651, 652, 653, 362, 363, 364, 979, 980, 981, 982, 983, 984, 985, 986, 987, 988, 989, 990, 991] (by decide +kernel) (by decide +kernel)
set_option maxRecDepth 20000 in
theorem gL_law_X4_drive : GoodIn wsL_law (wsV RL 104 RX4 yX4_drive wsX4_drive) := goodIn_app (goodIn_of _ (by decide +kernel)) ggL_law_X4_drive
set_option maxRecDepth 20000 in
theorem ggL_law_X3_hill : GoodIn wsL_law wsX3_hill := goodIn_r _ [708, 521, 522, 2, 523, 263, 244, 245, 69, 70, 71, 72, 28, 440, 441, 442, 709, 710, 711, 712, 15, 524, 525, 526, 14, 527, 108, 528, 529, 530, 531, 42, 532, 401, 402, 403, 109, 533, 405, 406, 407, 38, 408, 409, 410, 411, 40, 41, 110, 534, 535, 536, 537, 45, 39, 268, 192, 193, 194, 694, 695, 696, 697, 698, 699, 700, 713, 714, 715, 716, 96, 97, 98, 99, 16, 100, 101, 102, 103, 104, 105, 106, 107, 43, 44, 451, 265, 266, 267, 717, 718, 719, 720, 967, 968, 969, 970, 971, 972, 973, 974, 975, 976, 977, 978, 992, 993, 994, 995, 996, 997, 998, 999, 1000, 1001, 1002] (by decide +kernel) (by decide +kernel)
set_option maxRecDepth 20000 in
theorem gL_law_X3_hill : GoodIn wsL_law (wsV RL 105 RX3 yX3_hill wsX3_hill) := goodIn_app (goodIn_of _ (by decide +kernel)) ggL_law_X3_hill
set_option maxRecDepth 20000 in
theorem ggL_law_X4_hill : GoodIn wsL_law wsX4_hill := goodIn_r _ [724, 57, 58, 565, 566, 5, 567, 352, 353, 354, 88, 89, 90, 91, 63, 568, 569, 570, 571, 572, 573, 372, 373, 374, 417, 418, 419, 420, 421, 422, 574, 575, 576, 651, 652, 653, 362, 363, 364, 979, 980, 981, 982, 983, 984, 985, 986, 987, 988, 989, 990, 991] (by decide +kernel) (by decide +kernel)
set_option maxRecDepth 20000 in
theorem gL_law_X4_hill : GoodIn wsL_law (wsV RL 108 RX4 yX4_hill wsX4_hill) := goodIn_app (goodIn_of _ (by decide +kernel)) ggL_law_X4_hill
set_option maxRecDepth 20000 in
theorem ggL_law_X3_hide : GoodIn wsL_law wsX3_hide := goodIn_r _ [728, 29, 15, 729, 484, 282, 2, 283, 263, 244, 245, 69, 70, 71, 72, 28, 524, 525, 526, 14, 527, 108, 528, 529, 530, 531, 42, 532, 401, 402, 403, 109, 533, 405, 406, 407, 38, 408, 409, 410, 411, 40, 41, 110, 534, 535, 536, 537, 45, 39, 268, 192, 193, 194, 694, 695, 696, 697, 698, 699, 700, 730, 731, 732, 733, 734, 544, 545, 546, 43, 547, 548, 549, 550, 44, 551, 296, 297, 298, 967, 968, 969, 970, 971, 972, 973, 974, 975, 976, 977, 978, 992, 993, 994, 995, 996, 997, 998, 999, 1000, 1001, 1002] (by decide +kernel) (by decide +kernel)
set_option maxRecDepth 20000 in
theorem gL_law_X3_hide : GoodIn wsL_law (wsV RL 109 RX3 yX3_hide wsX3_hide) := goodIn_app (goodIn_of _ (by decide +kernel)) ggL_law_X3_hide
set_option maxRecDepth 20000 in
theorem ggL_law_X4_hide : GoodIn wsL_law wsX4_hide := goodIn_r _ [738, 57, 58, 375, 376, 5, 377, 352, 353, 354, 88, 89, 90, 91, 63, 651, 652, 653, 362, 363, 364, 648, 649, 650, 577, 578, 579, 580, 581, 582, 568, 569, 570, 571, 572, 573, 372, 373, 374, 417, 418, 419, 420, 421, 422, 574, 575, 576, 979, 980, 981, 982, 983, 984, 985, 986, 987, 988, 989, 990, 991] (by decide +kernel) (by decide +kernel)
set_option maxRecDepth 20000 in
theorem gL_law_X4_hide : GoodIn wsL_law (wsV RL 112 RX4 yX4_hide wsX4_hide) := goodIn_app (goodIn_of _ (by decide +kernel)) ggL_law_X4_hide
set_option maxRecDepth 20000 in
theorem ggL_law_X3_eyesBest : GoodIn wsL_law wsX3_eyesBest := goodIn_r _ [742, 494, 521, 522, 2, 523, 263, 244, 245, 69, 70, 71, 72, 28, 484, 282, 283, 440, 441, 442, 96, 97, 98, 99, 16, 15, 100, 101, 102, 14, 103, 38, 104, 105, 106, 107, 39, 40, 41, 42, 43, 44, 108, 109, 45, 110, 538, 539, 540, 541, 542, 525, 526, 527, 528, 529, 530, 531, 532, 401, 402, 403, 533, 405, 406, 407, 408, 409, 410, 411, 534, 535, 536, 537, 268, 192, 193, 194, 543, 544, 545, 546, 547, 548, 549, 550, 551, 296, 297, 298, 992, 993, 994, 995, 996, 997, 998, 999, 1000, 1001, 1002, 967, 968, 969, 970, 971, 972, 973, 974, 975, 976, 977, 978] (by decide +kernel) (by decide +kernel)
set_option maxRecDepth 20000 in
theorem gL_law_X3_eyesBest : GoodIn wsL_law (wsV RL 113 RX3 yX3_eyesBest wsX3_eyesBest) := goodIn_app (goodIn_of _ (by decide +kernel)) ggL_law_X3_eyesBest
set_option maxRecDepth 20000 in
theorem ggL_law_X4_eyesBest : GoodIn wsL_law wsX4_eyesBest := goodIn_r _ [746, 57, 58, 565, 566, 5, 567, 352, 353, 354, 375, 376, 377, 88, 89, 90, 91, 63, 362, 363, 364, 577, 578, 579, 580, 581, 582, 568, 569, 570, 571, 572, 573, 372, 373, 374, 417, 418, 419, 420, 421, 422, 574, 575, 576, 979, 980, 981, 982, 983, 984, 985, 986, 987, 988, 989, 990, 991] (by decide +kernel) (by decide +kernel)
set_option maxRecDepth 20000 in
theorem gL_law_X4_eyesBest : GoodIn wsL_law (wsV RL 116 RX4 yX4_eyesBest wsX4_eyesBest) := goodIn_app (goodIn_of _ (by decide +kernel)) ggL_law_X4_eyesBest
