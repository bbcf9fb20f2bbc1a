set_option maxRecDepth 20000 in
theorem ggL_law_X3_seen : GoodIn wsL_law wsX3_seen := goodIn_r _ [520, 15, 521, 522, 2, 523, 263, 244, 245, 69, 70, 71, 72, 28, 524, 525, 526, 14, 527, 108, 528, 529, 530, 531, 42, 532, 401, 402, 403, 109, 533, 405, 406, 407, 38, 408, 409, 410, 411, 40, 41, 110, 534, 535, 536, 537, 45, 39, 268, 192, 193, 194, 538, 539, 540, 541, 542, 543, 544, 545, 546, 43, 547, 548, 549, 550, 44, 551, 296, 297, 298, 552, 553, 554, 555, 556, 557, 558, 559, 560, 967, 968, 969, 970, 971, 972, 973, 974, 975, 976, 977, 978, 992, 993, 994, 995, 996, 997, 998, 999, 1000, 1001, 1002] (by decide +kernel) (by decide +kernel)
set_option maxRecDepth 20000 in
theorem gL_law_X3_seen : GoodIn wsL_law (wsV RL 65 RX3 yX3_seen wsX3_seen) := goodIn_app (goodIn_of _ (by decide +kernel)) ggL_law_X3_seen
set_option maxRecDepth 20000 in
theorem ggL_law_X4_seen : GoodIn wsL_law wsX4_seen := goodIn_r _ [564, 57, 565, 566, 5, 567, 352, 353, 354, 88, 89, 90, 91, 63, 568, 569, 570, 571, 572, 573, 372, 373, 374, 417, 418, 419, 420, 421, 422, 574, 575, 576, 577, 578, 579, 580, 581, 582, 583, 584, 585, 586, 587, 588, 589, 590, 979, 980, 981, 982, 983, 984, 985, 986, 987, 988, 989, 990, 991] (by decide +kernel) (by decide +kernel)
set_option maxRecDepth 20000 in
theorem gL_law_X4_seen : GoodIn wsL_law (wsV RL 68 RX4 yX4_seen wsX4_seen) := goodIn_app (goodIn_of _ (by decide +kernel)) ggL_law_X4_seen
set_option maxRecDepth 20000 in
theorem ggL_law_X3_thingThen : GoodIn wsL_law wsX3_thingThen := goodIn_r _ [594, 15, 397, 399, 296, 297, 14, 298, 108, 244, 2, 245, 69, 70, 71, 72, 28, 263, 595, 596, 597, 598, 96, 97, 98, 99, 16, 100, 101, 102, 103, 38, 104, 105, 106, 107, 39, 40, 41, 42, 43, 44, 109, 45, 110, 512, 313, 314, 315, 316, 317, 318, 319, 320, 321, 322, 323, 324, 325, 326, 967, 968, 969, 970, 971, 972, 973, 974, 975, 976, 977, 978, 992, 993, 994, 995, 996, 997, 998, 999, 1000, 1001, 1002] (by decide +kernel) (by decide +kernel)
set_option maxRecDepth 20000 in
theorem gL_law_X3_thingThen : GoodIn wsL_law (wsV RL 69 RX3 yX3_thingThen wsX3_thingThen) := goodIn_app (goodIn_of _ (by decide +kernel)) ggL_law_X3_thingThen
set_option maxRecDepth 20000 in
theorem ggL_law_X4_thingThen : GoodIn wsL_law wsX4_thingThen := goodIn_r _ [602, 58, 378, 379, 380, 5, 381, 57, 352, 353, 354, 456, 457, 458, 88, 89, 90, 91, 63, 603, 604, 605, 606, 362, 363, 364, 382, 383, 384, 385, 386, 387, 372, 373, 374, 388, 389, 390, 979, 980, 981, 982, 983, 984, 985, 986, 987, 988, 989, 990, 991] (by decide +kernel) (by decide +kernel)
set_option maxRecDepth 20000 in
theorem gL_law_X4_thingThen : GoodIn wsL_law (wsV RL 72 RX4 yX4_thingThen wsX4_thingThen) := goodIn_app (goodIn_of _ (by decide +kernel)) ggL_law_X4_thingThen
set_option maxRecDepth 20000 in
theorem ggL_law_X3_seenThen : GoodIn wsL_law wsX3_seenThen := goodIn_r _ [610, 521, 522, 2, 523, 263, 244, 245, 69, 70, 71, 72, 28, 440, 441, 442, 595, 596, 597, 598, 96, 97, 98, 99, 16, 15, 100, 101, 102, 14, 103, 38, 104, 105, 106, 107, 39, 40, 41, 42, 43, 44, 108, 109, 45, 110, 512, 313, 314, 315, 316, 317, 318, 319, 320, 321, 322, 323, 324, 325, 326, 524, 525, 526, 527, 528, 529, 530, 531, 532, 401, 402, 403, 533, 405, 406, 407, 408, 409, 410, 411, 534, 535, 536, 537, 268, 192, 193, 194, 538, 539, 540, 541, 542, 543, 544, 545, 546, 547, 548, 549, 550, 551, 296, 297, 298, 967, 968, 969, 970, 971, 972, 973, 974, 975, 976, 977, 978, 992, 993, 994, 995, 996, 997, 998, 999, 1000, 1001, 1002] (by decide +kernel) (by decide +kernel)
set_option maxRecDepth 20000 in
theorem gL_law_X3_seenThen : GoodIn wsL_law (wsV RL 73 RX3 yX3_seenThen wsX3_seenThen) := goodIn_app (goodIn_of _ (by decide +kernel)) ggL_law_X3_seenThen
set_option maxRecDepth 20000 in
theorem ggL_law_X4_seenThen : GoodIn wsL_law wsX4_seenThen := goodIn_r _ [614, 58, 565, 566, 5, 567, 352, 353, 354, 456, 457, 458, 88, 89, 90, 91, 63, 603, 604, 605, 606, 57, 362, 363, 364, 382, 383, 384, 385, 386, 387, 372, 373, 374, 388, 389, 390, 568, 569, 570, 571, 572, 573, 417, 418, 419, 420, 421, 422, 574, 575, 576, 577, 578, 579, 580, 581, 582, 979, 980, 981, 982, 983, 984, 985, 986, 987, 988, 989, 990, 991] (by decide +kernel) (by decide +kernel)
set_option maxRecDepth 20000 in
theorem gL_law_X4_seenThen : GoodIn wsL_law (wsV RL 76 RX4 yX4_seenThen wsX4_seenThen) := goodIn_app (goodIn_of _ (by decide +kernel)) ggL_law_X4_seenThen
set_option maxRecDepth 20000 in
theorem ggL_law_X3_falls : GoodIn wsL_law wsX3_falls := goodIn_r _ [618, 521, 522, 2, 523, 263, 244, 245, 69, 70, 71, 72, 28, 484, 282, 283, 96, 97, 98, 99, 16, 15, 100, 101, 102, 14, 103, 38, 104, 105, 106, 107, 39, 40, 41, 42, 43, 44, 108, 109, 45, 110, 538, 539, 540, 541, 542, 525, 526, 527, 528, 529, 530, 531, 532, 401, 402, 403, 533, 405, 406, 407, 408, 409, 410, 411, 534, 535, 536, 537, 268, 192, 193, 194, 543, 544, 545, 546, 547, 548, 549, 550, 551, 296, 297, 298, 512, 313, 314, 315, 316, 317, 318, 319, 320, 321, 322, 323, 324, 325, 326, 967, 968, 969, 970, 971, 972, 973, 974, 975, 976, 977, 978, 992, 993, 994, 995, 996, 997, 998, 999, 1000, 1001, 1002] (by decide +kernel) (by decide +kernel)
set_option maxRecDepth 20000 in
theorem gL_law_X3_falls : GoodIn wsL_law (wsV RL 77 RX3 yX3_falls wsX3_falls) := goodIn_app (goodIn_of _ (by decide +kernel)) ggL_law_X3_falls
set_option maxRecDepth 20000 in
theorem ggL_law_X4_falls : GoodIn wsL_law wsX4_falls := goodIn_r _ [622, 57, 58, 565, 566, 5, 567, 352, 353, 354, 375, 376, 377, 88, 89, 90, 91, 63, 362, 363, 364, 577, 578, 579, 580, 581, 582, 568, 569, 570, 571, 572, 573, 372, 373, 374, 417, 418, 419, 420, 421, 422, 574, 575, 576, 385, 386, 387, 388, 389, 390, 979, 980, 981, 982, 983, 984, 985, 986, 987, 988, 989, 990, 991] (by decide +kernel) (by decide +kernel)
set_option maxRecDepth 20000 in
theorem gL_law_X4_falls : GoodIn wsL_law (wsV RL 80 RX4 yX4_falls wsX4_falls) := goodIn_app (goodIn_of _ (by decide +kernel)) ggL_law_X4_falls
set_option maxRecDepth 20000 in
theorem ggL_law_X3_sight : GoodIn wsL_law wsX3_sight := goodIn_r _ [626, 15, 521, 522, 2, 523, 263, 244, 245, 399, 296, 297, 14, 298, 108, 69, 70, 71, 72, 28, 440, 441, 442, 96, 97, 98, 99, 16, 100, 101, 102, 103, 38, 104, 105, 106, 107, 39, 40, 41, 42, 43, 44, 109, 45, 110, 627, 529, 530, 531, 532, 401, 402, 403, 533, 405, 406, 407, 408, 409, 410, 411, 534, 535, 536, 537, 268, 192, 193, 194, 512, 313, 314, 315, 316, 317, 318, 319, 320, 321, 322, 323, 324, 325, 326, 967, 968, 969, 970, 971, 972, 973, 974, 975, 976, 977, 978, 992, 993, 994, 995, 996, 997, 998, 999, 1000, 1001, 1002] (by decide +kernel) (by decide +kernel)
set_option maxRecDepth 20000 in
theorem gL_law_X3_sight : GoodIn wsL_law (wsV RL 81 RX3 yX3_sight wsX3_sight) := goodIn_app (goodIn_of _ (by decide +kernel)) ggL_law_X3_sight
set_option maxRecDepth 20000 in
theorem ggL_law_X4_sight : GoodIn wsL_law wsX4_sight := goodIn_r _ [631, 57, 58, 565, 566, 5, 567, 352, 353, 354, 378, 379, 380, 381, 88, 89, 90, 91, 63, 362, 363, 364, 568, 569, 570, 571, 572, 573, 372, 373, 374, 417, 418, 419, 420, 421, 422, 574, 575, 576, 385, 386, 387, 388, 389, 390, 979, 980, 981, 982, 983, 984, 985, 986, 987, 988, 989, 990, 991] (by decide +kernel) (by decide +kernel)
set_option maxRecDepth 20000 in
theorem gL_law_X4_sight : GoodIn wsL_law (wsV RL 84 RX4 yX4_sight wsX4_sight) := goodIn_app (goodIn_of _ (by decide +kernel)) ggL_law_X4_sight
set_option maxRecDepth 20000 in
theorem ggL_law_X3_agree : GoodIn wsL_law wsX3_agree := goodIn_r _ [635, 96, 97, 98, 2, 99, 16, 15, 100, 101, 102, 14, 103, 38, 104, 105, 106, 107, 39, 40, 41, 42, 43, 44, 108, 109, 45, 110, 636, 637, 638, 639, 640, 539, 540, 541, 542, 525, 526, 527, 528, 529, 530, 531, 532, 401, 402, 403, 533, 405, 406, 407, 408, 409, 410, 411, 534, 535, 536, 537, 268, 192, 193, 194, 543, 544, 545, 546, 547, 548, 549, 550, 551, 296, 297, 298, 244, 245, 512, 313, 314, 315, 316, 317, 318, 319, 320, 321, 322, 323, 324, 325, 326, 967, 968, 969, 970, 971, 972, 973, 974, 975, 976, 977, 978, 992, 993, 994, 995, 996, 997, 998, 999, 1000, 1001, 1002] (by decide +kernel) (by decide +kernel)
set_option maxRecDepth 20000 in
theorem gL_law_X3_agree : GoodIn wsL_law (wsV RL 85 RX3 yX3_agree wsX3_agree) := goodIn_app (goodIn_of _ (by decide +kernel)) ggL_law_X3_agree
set_option maxRecDepth 20000 in
theorem ggL_law_X4_agree : GoodIn wsL_law wsX4_agree := goodIn_r _ [644, 57, 58, 362, 363, 5, 364, 645, 646, 647, 577, 578, 579, 580, 581, 582, 568, 569, 570, 571, 572, 573, 372, 373, 374, 417, 418, 419, 420, 421, 422, 574, 575, 576, 648, 649, 650, 651, 652, 653, 385, 386, 387, 388, 389, 390, 979, 980, 981, 982, 983, 984, 985, 986, 987, 988, 989, 990, 991] (by decide +kernel) (by decide +kernel)
set_option maxRecDepth 20000 in
theorem gL_law_X4_agree : GoodIn wsL_law (wsV RL 88 RX4 yX4_agree wsX4_agree) := goodIn_app (goodIn_of _ (by decide +kernel)) ggL_law_X4_agree
set_option maxRecDepth 20000 in
theorem ggL_law_X3_appeal : GoodIn wsL_law wsX3_appeal := goodIn_r _ [657, 15, 521, 522, 2, 523, 263, 244, 245, 69, 70, 71, 72, 28, 636, 637, 638, 14, 639, 640, 539, 540, 541, 542, 525, 526, 527, 108, 528, 529, 530, 531, 42, 532, 401, 402, 403, 109, 533, 405, 406, 407, 38, 408, 409, 410, 411, 40, 41, 110, 534, 535, 536, 537, 45, 39, 268, 192, 193, 194, 543, 544, 545, 546, 43, 547, 548, 549, 550, 44, 551, 296, 297, 298, 967, 968, 969, 970, 971, 972, 973, 974, 975, 976, 977, 978, 992, 993, 994, 995, 996, 997, 998, 999, 1000, 1001, 1002] (by decide +kernel) (by decide +kernel)
set_option maxRecDepth 20000 in
theorem gL_law_X3_appeal : GoodIn wsL_law (wsV RL 89 RX3 yX3_appeal wsX3_appeal) := goodIn_app (goodIn_of _ (by decide +kernel)) ggL_law_X3_appeal
