set_option maxRecDepth 20000 in
theorem ggL_law_X4_heaps : GoodIn wsL_law wsX4_heaps := goodIn_r _ [455, 369, 370, 5, 371, 352, 353, 354, 456, 457, 458, 88, 89, 90, 91, 63, 459, 460, 461, 462, 57, 979, 980, 981, 982, 983, 984, 985, 986, 987, 988, 989, 990, 991] (by decide +kernel) (by decide +kernel)
set_option maxRecDepth 20000 in
theorem gL_law_X4_heaps : GoodIn wsL_law (wsV RL 39 RX4 yX4_heaps wsX4_heaps) := goodIn_app (goodIn_of _ (by decide +kernel)) ggL_law_X4_heaps
set_option maxRecDepth 20000 in
theorem ggL_law_X3_drives : GoodIn wsL_law wsX3_drives := goodIn_r _ [466, 15, 397, 399, 296, 297, 14, 298, 108, 244, 2, 245, 428, 261, 262, 263, 69, 70, 71, 72, 28, 967, 968, 969, 970, 971, 972, 973, 974, 975, 976, 977, 978, 992, 993, 994, 995, 996, 997, 998, 999, 1000, 1001, 1002] (by decide +kernel) (by decide +kernel)
set_option maxRecDepth 20000 in
theorem gL_law_X3_drives : GoodIn wsL_law (wsV RL 40 RX3 yX3_drives wsX3_drives) := goodIn_app (goodIn_of _ (by decide +kernel)) ggL_law_X3_drives
set_option maxRecDepth 20000 in
theorem ggL_law_X4_drives : GoodIn wsL_law wsX4_drives := goodIn_r _ [470, 378, 379, 380, 5, 381, 57, 352, 353, 354, 369, 370, 371, 372, 373, 374, 459, 460, 461, 462, 88, 89, 90, 91, 63, 979, 980, 981, 982, 983, 984, 985, 986, 987, 988, 989, 990, 991] (by decide +kernel) (by decide +kernel)
set_option maxRecDepth 20000 in
theorem gL_law_X4_drives : GoodIn wsL_law (wsV RL 43 RX4 yX4_drives wsX4_drives) := goodIn_app (goodIn_of _ (by decide +kernel)) ggL_law_X4_drives
set_option maxRecDepth 20000 in
theorem ggL_law_X3_hides : GoodIn wsL_law wsX3_hides := goodIn_r _ [474, 15, 399, 296, 297, 14, 298, 108, 244, 2, 245, 69, 70, 71, 72, 28, 475, 300, 301, 302, 109, 400, 401, 402, 403, 967, 968, 969, 970, 971, 972, 973, 974, 975, 976, 977, 978, 992, 993, 994, 995, 996, 997, 998, 999, 1000, 1001, 1002] (by decide +kernel) (by decide +kernel)
set_option maxRecDepth 20000 in
theorem gL_law_X3_hides : GoodIn wsL_law (wsV RL 44 RX3 yX3_hides wsX3_hides) := goodIn_app (goodIn_of _ (by decide +kernel)) ggL_law_X3_hides
set_option maxRecDepth 20000 in
theorem ggL_law_X4_hides : GoodIn wsL_law wsX4_hides := goodIn_r _ [479, 57, 378, 379, 380, 5, 381, 352, 353, 354, 88, 89, 90, 91, 63, 979, 980, 981, 982, 983, 984, 985, 986, 987, 988, 989, 990, 991] (by decide +kernel) (by decide +kernel)
set_option maxRecDepth 20000 in
theorem gL_law_X4_hides : GoodIn wsL_law (wsV RL 47 RX4 yX4_hides wsX4_hides) := goodIn_app (goodIn_of _ (by decide +kernel)) ggL_law_X4_hides
set_option maxRecDepth 20000 in
theorem ggL_law_X3_decrees : GoodIn wsL_law wsX3_decrees := goodIn_r _ [483, 15, 437, 438, 439, 273, 2, 274, 263, 244, 245, 484, 282, 283, 69, 70, 71, 72, 28, 485, 285, 286, 14, 287, 43, 44, 967, 968, 969, 970, 971, 972, 973, 974, 975, 976, 977, 978, 992, 993, 994, 995, 996, 997, 998, 999, 1000, 1001, 1002] (by decide +kernel) (by decide +kernel)
set_option maxRecDepth 20000 in
theorem gL_law_X3_decrees : GoodIn wsL_law (wsV RL 48 RX3 yX3_decrees wsX3_decrees) := goodIn_app (goodIn_of _ (by decide +kernel)) ggL_law_X3_decrees
set_option maxRecDepth 20000 in
theorem ggL_law_X4_decrees : GoodIn wsL_law wsX4_decrees := goodIn_r _ [489, 57, 352, 353, 5, 354, 375, 376, 377, 456, 457, 458, 88, 89, 90, 91, 63, 979, 980, 981, 982, 983, 984, 985, 986, 987, 988, 989, 990, 991] (by decide +kernel) (by decide +kernel)
set_option maxRecDepth 20000 in
theorem gL_law_X4_decrees : GoodIn wsL_law (wsV RL 52 RX4 yX4_decrees wsX4_decrees) := goodIn_app (goodIn_of _ (by decide +kernel)) ggL_law_X4_decrees
set_option maxRecDepth 20000 in
theorem ggL_law_X3_eyes : GoodIn wsL_law wsX3_eyes := goodIn_r _ [493, 15, 494, 263, 244, 2, 245, 69, 70, 71, 72, 28, 967, 968, 969, 970, 971, 972, 973, 974, 975, 976, 977, 978, 992, 993, 994, 995, 996, 997, 998, 999, 1000, 1001, 1002] (by decide +kernel) (by decide +kernel)
set_option maxRecDepth 20000 in
theorem gL_law_X3_eyes : GoodIn wsL_law (wsV RL 53 RX3 yX3_eyes wsX3_eyes) := goodIn_app (goodIn_of _ (by decide +kernel)) ggL_law_X3_eyes
set_option maxRecDepth 20000 in
theorem ggL_law_X4_eyes : GoodIn wsL_law wsX4_eyes := goodIn_r _ [498, 456, 457, 5, 458, 88, 89, 90, 91, 63, 459, 460, 461, 462, 57, 979, 980, 981, 982, 983, 984, 985, 986, 987, 988, 989, 990, 991] (by decide +kernel) (by decide +kernel)
set_option maxRecDepth 20000 in
theorem gL_law_X4_eyes : GoodIn wsL_law (wsV RL 56 RX4 yX4_eyes wsX4_eyes) := goodIn_app (goodIn_of _ (by decide +kernel)) ggL_law_X4_eyes
set_option maxRecDepth 20000 in
theorem ggL_law_X3_turn : GoodIn wsL_law wsX3_turn := goodIn_r _ [502, 15, 395, 396, 399, 296, 297, 14, 298, 108, 244, 2, 245, 69, 70, 71, 72, 28, 439, 273, 274, 263, 967, 968, 969, 970, 971, 972, 973, 974, 975, 976, 977, 978, 992, 993, 994, 995, 996, 997, 998, 999, 1000, 1001, 1002] (by decide +kernel) (by decide +kernel)
set_option maxRecDepth 20000 in
theorem gL_law_X3_turn : GoodIn wsL_law (wsV RL 57 RX3 yX3_turn wsX3_turn) := goodIn_app (goodIn_of _ (by decide +kernel)) ggL_law_X3_turn
set_option maxRecDepth 20000 in
theorem ggL_law_X4_turn : GoodIn wsL_law wsX4_turn := goodIn_r _ [506, 57, 378, 379, 380, 5, 381, 352, 353, 354, 456, 457, 458, 88, 89, 90, 91, 63, 372, 373, 374, 979, 980, 981, 982, 983, 984, 985, 986, 987, 988, 989, 990, 991] (by decide +kernel) (by decide +kernel)
set_option maxRecDepth 20000 in
theorem gL_law_X4_turn : GoodIn wsL_law (wsV RL 60 RX4 yX4_turn wsX4_turn) := goodIn_app (goodIn_of _ (by decide +kernel)) ggL_law_X4_turn
set_option maxRecDepth 20000 in
theorem ggL_law_X3_hours : GoodIn wsL_law wsX3_hours := goodIn_r _ [510, 15, 398, 511, 196, 193, 197, 263, 244, 2, 245, 69, 70, 71, 72, 28, 512, 313, 314, 14, 315, 110, 108, 316, 317, 318, 319, 40, 41, 320, 321, 322, 323, 324, 325, 326, 42, 967, 968, 969, 970, 971, 972, 973, 974, 975, 976, 977, 978, 992, 993, 994, 995, 996, 997, 998, 999, 1000, 1001, 1002] (by decide +kernel) (by decide +kernel)
set_option maxRecDepth 20000 in
theorem gL_law_X3_hours : GoodIn wsL_law (wsV RL 61 RX3 yX3_hours wsX3_hours) := goodIn_app (goodIn_of _ (by decide +kernel)) ggL_law_X3_hours
set_option maxRecDepth 20000 in
theorem ggL_law_X4_hours : GoodIn wsL_law wsX4_hours := goodIn_r _ [516, 57, 88, 89, 90, 5, 91, 63, 382, 383, 384, 385, 386, 387, 372, 373, 374, 388, 389, 390, 979, 980, 981, 982, 983, 984, 985, 986, 987, 988, 989, 990, 991] (by decide +kernel) (by decide +kernel)
set_option maxRecDepth 20000 in
theorem gL_law_X4_hours : GoodIn wsL_law (wsV RL 64 RX4 yX4_hours wsX4_hours) := goodIn_app (goodIn_of _ (by decide +kernel)) ggL_law_X4_hours
