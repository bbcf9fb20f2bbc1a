set_option maxRecDepth 20000 in
theorem ggL_law_X3_init : GoodIn wsL_law wsX3_init := goodIn_r _ [8, 9, 10, 11, 12, 13, 14, 15, 16, 17, 18, 19, 20, 21, 22, 23, 24, 25, 26, 27, 28, 29, 30, 31, 32, 33, 34, 35, 36, 37, 38, 39, 40, 41, 42, 43, 44, 45, 46, 47, 48, 49, 50, 51, 52, 992, 993, 994, 995, 996, 997, 998, 999, 1000, 1001, 1002, 967, 968, 969, 970, 971, 972, 973, 974, 975, 976, 977, 978, 1003, 1004, 1005] (by decide +kernel) (by decide +kernel)
set_option maxRecDepth 20000 in
theorem gL_law_X3_init : GoodIn wsL_law (wsX3_init) := ggL_law_X3_init
set_option maxRecDepth 20000 in
theorem ggL_law_X4_init : GoodIn wsL_law wsX4_init := goodIn_r _ [55, 56, 10, 11, 26, 57, 58, 59, 60, 61, 62, 63, 64, 979, 980, 981, 982, 983, 984, 985, 986, 987, 988, 989, 990, 991] (by decide +kernel) (by decide +kernel)
set_option maxRecDepth 20000 in
theorem gL_law_X4_init : GoodIn wsL_law (wsX4_init) := ggL_law_X4_init
set_option maxRecDepth 20000 in
theorem ggL_law_X3_letter : GoodIn wsL_law wsX3_letter := goodIn_r _ [68, 21, 69, 70, 71, 2, 72, 28, 73, 74, 75, 20, 76, 77, 78, 79, 80, 81, 49, 82, 967, 968, 969, 970, 971, 972, 973, 974, 975, 976, 977, 978, 1003, 1004] (by decide +kernel) (by decide +kernel)
set_option maxRecDepth 20000 in
theorem gL_law_X3_letter : GoodIn wsL_law (wsV RL 13 RX3 yX3_letter wsX3_letter) := goodIn_app (goodIn_of _ (by decide +kernel)) ggL_law_X3_letter
set_option maxRecDepth 20000 in
theorem ggL_law_X4_letter : GoodIn wsL_law wsX4_letter := goodIn_r _ [86, 87, 61, 88, 89, 90, 5, 91, 63, 979, 980, 981, 982, 983, 984, 985, 986, 987, 988, 989, 990, 991] (by decide +kernel) (by decide +kernel)
set_option maxRecDepth 20000 in
theorem gL_law_X4_letter : GoodIn wsL_law (wsV RL 17 RX4 yX4_letter wsX4_letter) := goodIn_app (goodIn_of _ (by decide +kernel)) ggL_law_X4_letter
set_option maxRecDepth 20000 in
theorem ggL_law_X3_land : GoodIn wsL_law wsX3_land := goodIn_r _ [95, 21, 15, 96, 97, 98, 2, 99, 16, 100, 101, 102, 14, 103, 38, 104, 105, 106, 107, 39, 40, 41, 42, 43, 44, 108, 109, 45, 110, 111, 112, 113, 20, 114, 77, 49, 115, 116, 117, 118, 119, 120, 121, 122, 123, 124, 125, 126, 127, 128, 129, 130, 131, 132, 133, 134, 135, 136, 137, 138, 139, 140, 141, 142, 143, 144, 145, 146, 147, 148, 149, 150, 151, 152, 153, 154, 155, 156, 157, 158, 159, 160, 161, 162, 163, 164, 165, 166, 167, 168, 169, 170, 171, 172, 173, 174, 175, 176, 177, 178, 179, 180, 181, 182, 183, 184, 185, 186, 187, 188, 189, 190, 191, 192, 193, 194, 195, 196, 197, 198, 199, 200, 201, 202, 203, 204, 205, 206, 207, 208, 209, 210, 211, 212, 213, 214, 215, 216, 217, 218, 219, 220, 221, 222, 223, 224, 225, 226, 227, 228, 229, 230, 231, 232, 233, 234, 235, 236, 237, 238, 239, 240, 241, 242, 243, 244, 245, 246, 247, 248, 249, 250, 251, 252, 253, 254, 255, 256, 257, 258, 259, 260, 261, 262, 263, 264, 265, 266, 267, 268, 269, 270, 271, 272, 273, 274, 275, 276, 277, 278, 279, 280, 281, 282, 283, 284, 285, 286, 287, 288, 289, 290, 291, 292, 293, 294, 295, 296, 297, 298, 299, 300, 301, 302, 303, 304, 305, 306, 307, 308, 309, 310, 311, 312, 313, 314, 315, 316, 317, 318, 319, 320, 321, 322, 323, 324, 325, 326, 327, 328, 329, 330, 331, 332, 333, 334, 967, 968, 969, 970, 971, 972, 973, 974, 975, 976, 977, 978, 992, 993, 994, 995, 996, 997, 998, 999, 1000, 1001, 1002, 1003, 1004] (by decide +kernel) (by decide +kernel)
set_option maxRecDepth 20000 in
theorem gL_law_X3_land : GoodIn wsL_law (wsV RL 18 RX3 yX3_land wsX3_land) := goodIn_app (goodIn_of _ (by decide +kernel)) ggL_law_X3_land
set_option maxRecDepth 20000 in
theorem ggL_law_X4_land : GoodIn wsL_law wsX4_land := goodIn_r _ [338, 339, 87, 57, 60, 340, 341, 342, 5, 343, 344, 345, 346, 347, 61, 348, 349, 350, 351, 64, 352, 353, 354, 355, 356, 357, 358, 359, 360, 361, 362, 363, 364, 365, 366, 367, 368, 369, 370, 371, 372, 373, 374, 375, 376, 377, 378, 379, 380, 381, 382, 383, 384, 385, 386, 387, 388, 389, 390, 979, 980, 981, 982, 983, 984, 985, 986, 987, 988, 989, 990, 991] (by decide +kernel) (by decide +kernel)
set_option maxRecDepth 20000 in
theorem gL_law_X4_land : GoodIn wsL_law (wsV RL 22 RX4 yX4_land wsX4_land) := goodIn_app (goodIn_of _ (by decide +kernel)) ggL_law_X4_land
set_option maxRecDepth 20000 in
theorem ggL_law_X3_thing : GoodIn wsL_law wsX3_thing := goodIn_r _ [394, 15, 395, 396, 397, 398, 399, 296, 297, 14, 298, 108, 244, 2, 245, 69, 70, 71, 72, 28, 400, 401, 402, 403, 109, 404, 405, 406, 407, 38, 42, 408, 409, 410, 411, 40, 41, 110, 412, 317, 318, 319, 320, 321, 322, 967, 968, 969, 970, 971, 972, 973, 974, 975, 976, 977, 978, 992, 993, 994, 995, 996, 997, 998, 999, 1000, 1001, 1002] (by decide +kernel) (by decide +kernel)
set_option maxRecDepth 20000 in
theorem gL_law_X3_thing : GoodIn wsL_law (wsV RL 23 RX3 yX3_thing wsX3_thing) := goodIn_app (goodIn_of _ (by decide +kernel)) ggL_law_X3_thing
set_option maxRecDepth 20000 in
theorem ggL_law_X4_thing : GoodIn wsL_law wsX4_thing := goodIn_r _ [416, 57, 378, 379, 380, 5, 381, 352, 353, 354, 88, 89, 90, 91, 63, 372, 373, 374, 417, 418, 419, 420, 421, 422, 388, 389, 390, 979, 980, 981, 982, 983, 984, 985, 986, 987, 988, 989, 990, 991] (by decide +kernel) (by decide +kernel)
set_option maxRecDepth 20000 in
theorem gL_law_X4_thing : GoodIn wsL_law (wsV RL 27 RX4 yX4_thing wsX4_thing) := goodIn_app (goodIn_of _ (by decide +kernel)) ggL_law_X4_thing
set_option maxRecDepth 20000 in
theorem ggL_law_X3_height : GoodIn wsL_law wsX3_height := goodIn_r _ [426, 15, 427, 428, 261, 2, 262, 263, 244, 245, 69, 70, 71, 72, 28, 967, 968, 969, 970, 971, 972, 973, 974, 975, 976, 977, 978, 992, 993, 994, 995, 996, 997, 998, 999, 1000, 1001, 1002] (by decide +kernel) (by decide +kernel)
set_option maxRecDepth 20000 in
theorem gL_law_X3_height : GoodIn wsL_law (wsV RL 28 RX3 yX3_height wsX3_height) := goodIn_app (goodIn_of _ (by decide +kernel)) ggL_law_X3_height
set_option maxRecDepth 20000 in
theorem ggL_law_X4_height : GoodIn wsL_law wsX4_height := goodIn_r _ [432, 57, 369, 370, 5, 371, 352, 353, 354, 88, 89, 90, 91, 63, 979, 980, 981, 982, 983, 984, 985, 986, 987, 988, 989, 990, 991] (by decide +kernel) (by decide +kernel)
set_option maxRecDepth 20000 in
theorem gL_law_X4_height : GoodIn wsL_law (wsV RL 31 RX4 yX4_height wsX4_height) := goodIn_app (goodIn_of _ (by decide +kernel)) ggL_law_X4_height
set_option maxRecDepth 20000 in
theorem ggL_law_X3_code : GoodIn wsL_law wsX3_code := goodIn_r _ [436, 15, 437, 438, 439, 273, 2, 274, 263, 244, 245, 440, 441, 442, 69, 70, 71, 72, 28, 967, 968, 969, 970, 971, 972, 973, 974, 975, 976, 977, 978, 992, 993, 994, 995, 996, 997, 998, 999, 1000, 1001, 1002] (by decide +kernel) (by decide +kernel)
set_option maxRecDepth 20000 in
theorem gL_law_X3_code : GoodIn wsL_law (wsV RL 32 RX3 yX3_code wsX3_code) := goodIn_app (goodIn_of _ (by decide +kernel)) ggL_law_X3_code
set_option maxRecDepth 20000 in
theorem ggL_law_X4_code : GoodIn wsL_law wsX4_code := goodIn_r _ [446, 57, 352, 353, 5, 354, 88, 89, 90, 91, 63, 979, 980, 981, 982, 983, 984, 985, 986, 987, 988, 989, 990, 991] (by decide +kernel) (by decide +kernel)
set_option maxRecDepth 20000 in
theorem gL_law_X4_code : GoodIn wsL_law (wsV RL 35 RX4 yX4_code wsX4_code) := goodIn_app (goodIn_of _ (by decide +kernel)) ggL_law_X4_code
set_option maxRecDepth 20000 in
theorem ggL_law_X3_heaps : GoodIn wsL_law wsX3_heaps := goodIn_r _ [450, 15, 427, 428, 261, 2, 262, 263, 244, 245, 69, 70, 71, 72, 28, 451, 265, 266, 14, 267, 38, 39, 268, 192, 193, 194, 967, 968, 969, 970, 971, 972, 973, 974, 975, 976, 977, 978, 992, 993, 994, 995, 996, 997, 998, 999, 1000, 1001, 1002] (by decide +kernel) (by decide +kernel)
set_option maxRecDepth 20000 in
theorem gL_law_X3_heaps : GoodIn wsL_law (wsV RL 36 RX3 yX3_heaps wsX3_heaps) := goodIn_app (goodIn_of _ (by decide +kernel)) ggL_law_X3_heaps
set_option maxRecDepth 20000 in
theorem ggL_law_X4_heaps : GoodIn wsL_law wsX4_heaps := goodIn_r _ [455, 369, 370, 5, 371, 352, 353, 354, 456, 457, 458, 88, 89, 90, 91, 63, 459, 460, 461, 462, 57, 979, 980, 981, 982, 983, 984, 985, 986, 987, 988, 989, 990, 991] (by decide +kernel) (by decide +kernel)
set_option maxRecDepth 20000 in
theorem gL_law_X4_heaps : GoodIn wsL_law (wsV RL 39 RX4 yX4_heaps wsX4_heaps) := goodIn_app (goodIn_of _ (by decide +kernel)) ggL_law_X4_heaps
set_option maxRecDepth 20000 in
theorem ggL_law_X3_drives : GoodIn wsL_law wsX3_drives := goodIn_r _ [466, 15, 397, 399, 296, 297, 14, 298, 108, 244, 2, 245, 428, 261, 262, 263, 69, 70, 71, 72, 28, 967, 968, 969, 970, 971, 972, 973, 974, 975, 976, 977, 978, 992, 993, 994, 995, 996, 997, 998, 999, 1000, 1001, 1002] (by decide +kernel) (by decide +kernel)
set_option maxRecDepth 20000 in
theorem gL_law_X3_drives : GoodIn wsL_law (wsV RL 40 RX3 yX3_drives wsX3_drives) := goodIn_app (goodIn_of _ (by decide +kernel)) ggL_law_X3_drives
set_option maxRecDepth 20000 in
theorem ggL_law_X4_drives : GoodIn wsL_law wsX4_drives := goodIn_r _ [470, 378, 379, 380, 5, 381, 57, 352, 353, 354, 369, 370, 371, 372, 373, 374, 459, 460, 461, 462, 88, 89, 90, 91, 63, 979, 980, 981, 982, 983, 984, 985, 986, 987, 988, 989, 990, 991] (by decide +kernel) (by decide +kernel)
set_option maxRecDepth 20000 in
theorem gL_law_X4_drives : GoodIn wsL_law (wsV RL 43 RX4 yX4_drives wsX4_drives) := goodIn_app (goodIn_of _ (by decide +kernel)) ggL_law_X4_drives
set_option maxRecDepth 20000 in
theorem ggL_law_X3_hides : GoodIn wsL_law wsX3_hides := goodIn_r _ [474, 15, 399, 296, 297, 14, 298, 108, 244, 2, 245, 69, 70, 71, 72, 28, 475, 300, 301, 302, 109, 400, 401, 402, 403, 967, 968, 969, 970, 971, 972, 973, 974, 975, 976, 977, 978, 992, 993, 994, 995, 996, 997, 998, 999, 1000, 1001, 1002] (by decide +kernel) (by decide +kernel)
set_option maxRecDepth 20000 in
theorem gL_law_X3_hides : GoodIn wsL_law (wsV RL 44 RX3 yX3_hides wsX3_hides) := goodIn_app (goodIn_of _ (by decide +kernel)) ggL_law_X3_hides
set_option maxRecDepth 20000 in
theorem ggL_law_X4_hides : GoodIn wsL_law wsX4_hides := goodIn_r _ [479, 57, 378, 379, 380, 5, 381, 352, 353, 354, 88, 89, 90, 91, 63, 979, 980, 981, 982, 983, 984, 985, 986, 987, 988, 989, 990, 991] (by decide +kernel) (by decide +kernel)
set_option maxRecDepth 20000 in
theorem gL_law_X4_hides : GoodIn wsL_law (wsV RL 47 RX4 yX4_hides wsX4_hides) := goodIn_app (goodIn_of _ (by decide +kernel)) ggL_law_X4_hides
set_option maxRecDepth 20000 in
theorem ggL_law_X3_decrees : GoodIn wsL_law wsX3_decrees := goodIn_r _ [483, 15, 437, 438, 439, 273, 2, 274, 263, 244, 245, 484, 282, 283, 69, 70, 71, 72, 28, 485, 285, 286, 14, 287, 43, 44, 967, 968, 969, 970, 971, 972, 973, 974, 975, 976, 977, 978, 992, 993, 994, 995, 996, 997, 998, 999, 1000, 1001, 1002] (by decide +kernel) (by decide +kernel)
set_option maxRecDepth 20000 in
theorem gL_law_X3_decrees : GoodIn wsL_law (wsV RL 48 RX3 yX3_decrees wsX3_decrees) := goodIn_app (goodIn_of _ (by decide +kernel)) ggL_law_X3_decrees
set_option maxRecDepth 20000 in
theorem ggL_law_X4_decrees : GoodIn wsL_law wsX4_decrees := goodIn_r _ [489, 57, 352, 353, 5, 354, 375, 376, 377, 456, 457, 458, 88, 89, 90, 91, 63, 979, 980, 981, 982, 983, 984, 985, 986, 987, 988, 989, 990, 991] (by decide +kernel) (by decide +kernel)
set_option maxRecDepth 20000 in
theorem gL_law_X4_decrees : GoodIn wsL_law (wsV RL 52 RX4 yX4_decrees wsX4_decrees) := goodIn_app (goodIn_of _ (by decide +kernel)) ggL_law_X4_decrees
set_option maxRecDepth 20000 in
theorem ggL_law_X3_eyes : GoodIn wsL_law wsX3_eyes := goodIn_r _ [493, 15, 494, 263, 244, 2, 245, 69, 70, 71, 72, 28, 967, 968, 969, 970, 971, 972, 973, 974, 975, 976, 977, 978, 992, 993, 994, 995, 996, 997, 998, 999, 1000, 1001, 1002] (by decide +kernel) (by decide +kernel)
set_option maxRecDepth 20000 in
theorem gL_law_X3_eyes : GoodIn wsL_law (wsV RL 53 RX3 yX3_eyes wsX3_eyes) := goodIn_app (goodIn_of _ (by decide +kernel)) ggL_law_X3_eyes
set_option maxRecDepth 20000 in
theorem ggL_law_X4_eyes : GoodIn wsL_law wsX4_eyes := goodIn_r _ [498, 456, 457, 5, 458, 88, 89, 90, 91, 63, 459, 460, 461, 462, 57, 979, 980, 981, 982, 983, 984, 985, 986, 987, 988, 989, 990, 991] (by decide +kernel) (by decide +kernel)
set_option maxRecDepth 20000 in
theorem gL_law_X4_eyes : GoodIn wsL_law (wsV RL 56 RX4 yX4_eyes wsX4_eyes) := goodIn_app (goodIn_of _ (by decide +kernel)) ggL_law_X4_eyes
set_option maxRecDepth 20000 in
theorem ggL_law_X3_turn : GoodIn wsL_law wsX3_turn := goodIn_r _ [502, 15, 395, 396, 399, 296, 297, 14, 298, 108, 244, 2, 245, 69, 70, 71, 72, 28, 439, 273, 274, 263, 967, 968, 969, 970, 971, 972, 973, 974, 975, 976, 977, 978, 992, 993, 994, 995, 996, 997, 998, 999, 1000, 1001, 1002] (by decide +kernel) (by decide +kernel)
set_option maxRecDepth 20000 in
theorem gL_law_X3_turn : GoodIn wsL_law (wsV RL 57 RX3 yX3_turn wsX3_turn) := goodIn_app (goodIn_of _ (by decide +kernel)) ggL_law_X3_turn
set_option maxRecDepth 20000 in
theorem ggL_law_X4_turn : GoodIn wsL_law wsX4_turn := goodIn_r _ [506, 57, 378, 379, 380, 5, 381, 352, 353, 354, 456, 457, 458, 88, 89, 90, 91, 63, 372, 373, 374, 979, 980, 981, 982, 983, 984, 985, 986, 987, 988, 989, 990, 991] (by decide +kernel) (by decide +kernel)
set_option maxRecDepth 20000 in
theorem gL_law_X4_turn : GoodIn wsL_law (wsV RL 60 RX4 yX4_turn wsX4_turn) := goodIn_app (goodIn_of _ (by decide +kernel)) ggL_law_X4_turn
set_option maxRecDepth 20000 in
theorem ggL_law_X3_hours : GoodIn wsL_law wsX3_hours := goodIn_r _ [510, 15, 398, 511, 196, 193, 197, 263, 244, 2, 245, 69, 70, 71, 72, 28, 512, 313, 314, 14, 315, 110, 108, 316, 317, 318, 319, 40, 41, 320, 321, 322, 323, 324, 325, 326, 42, 967, 968, 969, 970, 971, 972, 973, 974, 975, 976, 977, 978, 992, 993, 994, 995, 996, 997, 998, 999, 1000, 1001, 1002] (by decide +kernel) (by decide +kernel)
set_option maxRecDepth 20000 in
theorem gL_law_X3_hours : GoodIn wsL_law (wsV RL 61 RX3 yX3_hours wsX3_hours) := goodIn_app (goodIn_of _ (by decide +kernel)) ggL_law_X3_hours
set_option maxRecDepth 20000 in
theorem ggL_law_X4_hours : GoodIn wsL_law wsX4_hours := goodIn_r _ [516, 57, 88, 89, 90, 5, 91, 63, 382, 383, 384, 385, 386, 387, 372, 373, 374, 388, 389, 390, 979, 980, 981, 982, 983, 984, 985, 986, 987, 988, 989, 990, 991] (by decide +kernel) (by decide +kernel)
set_option maxRecDepth 20000 in
theorem gL_law_X4_hours : GoodIn wsL_law (wsV RL 64 RX4 yX4_hours wsX4_hours) := goodIn_app (goodIn_of _ (by decide +kernel)) ggL_law_X4_hours
set_option maxRecDepth 20000 in
theorem ggL_law_X3_seen : GoodIn wsL_law wsX3_seen := goodIn_r _ [520, 15, 521, 522, 2, 523, 263, 244, 245, 69, 70, 71, 72, 28, 524, 525, 526, 14, 527, 108, 528, 529, 530, 531, 42, 532, 401, 402, 403, 109, 533, 405, 406, 407, 38, 408, 409, 410, 411, 40, 41, 110, 534, 535, 536, 537, 45, 39, 268, 192, 193, 194, 538, 539, 540, 541, 542, 543, 544, 545, 546, 43, 547, 548, 549, 550, 44, 551, 296, 297, 298, 552, 553, 554, 555, 556, 557, 558, 559, 560, 967, 968, 969, 970, 971, 972, 973, 974, 975, 976, 977, 978, 992, 993, 994, 995, 996, 997, 998, 999, 1000, 1001, 1002] (by decide +kernel) (by decide +kernel)
set_option maxRecDepth 20000 in
theorem gL_law_X3_seen : GoodIn wsL_law (wsV RL 65 RX3 yX3_seen wsX3_seen) := goodIn_app (goodIn_of _ (by decide +kernel)) ggL_law_X3_seen
set_option maxRecDepth 20000 in
theorem ggL_law_X4_seen : GoodIn wsL_law wsX4_seen := goodIn_r _ [564, 57, 565, 566, 5, 567, 352, 353, 354, 88, 89, 90, 91, 63, 568, 569, 570, 571, 572, 573, 372, 373, 374, 417, 418, 419, 420, 421, 422, 574, 575, 576, 577, 578, 579, 580, 581, 582, 583, 584, 585, 586, 587, 588, 589, 590, 979, 980, 981, 982, 983, 984, 985, 986, 987, 988, 989, 990, 991] (by decide +kernel) (by decide +kernel)
set_option maxRecDepth 20000 in
theorem gL_law_X4_seen : GoodIn wsL_law (wsV RL 68 RX4 yX4_seen wsX4_seen) := goodIn_app (goodIn_of _ (by decide +kernel)) ggL_law_X4_seen
set_option maxRecDepth 20000 in
theorem ggL_law_X3_thingThen : GoodIn wsL_law wsX3_thingThen := goodIn_r _ [594, 15, 397, 399, 296, 297, 14, 298, 108, 244, 2, 245, 69, 70, 71, 72, 28, 263, 595, 596, 597, 598, 96, 97, 98, 99, 16, 100, 101, 102, 103, 38, 104, 105, 106, 107, 39, 40, 41, 42, 43, 44, 109, 45, 110, 512, 313, 314, 315, 316, 317, 318, 319, 320, 321, 322, 323, 324, 325, 326, 967, 968, 969, 970, 971, 972, 973, 974, 975, 976, 977, 978, 992, 993, 994, 995, 996, 997, 998, 999, 1000, 1001, 1002] (by decide +kernel) (by decide +kernel)
set_option maxRecDepth 20000 in
theorem gL_law_X3_thingThen : GoodIn wsL_law (wsV RL 69 RX3 yX3_thingThen wsX3_thingThen) := goodIn_app (goodIn_of _ (by decide +kernel)) ggL_law_X3_thingThen
set_option maxRecDepth 20000 in
theorem ggL_law_X4_thingThen : GoodIn wsL_law wsX4_thingThen := goodIn_r _ [602, 58, 378, 379, 380, 5, 381, 57, 352, 353, 354, 456, 457, 458, 88, 89, 90, 91, 63, 603, 604, 605, 606, 362, 363, 364, 382, 383, 384, 385, 386, 387, 372, 373, 374, 388, 389, 390, 979, 980, 981, 982, 983, 984, 985, 986, 987, 988, 989, 990, 991] (by decide +kernel) (by decide +kernel)
set_option maxRecDepth 20000 in
theorem gL_law_X4_thingThen : GoodIn wsL_law (wsV RL 72 RX4 yX4_thingThen wsX4_thingThen) := goodIn_app (goodIn_of _ (by decide +kernel)) ggL_law_X4_thingThen
set_option maxRecDepth 20000 in
theorem ggL_law_X3_seenThen : GoodIn wsL_law wsX3_seenThen := goodIn_r _ [610, 521, 522, 2, 523, 263, 244, 245, 69, 70, 71, 72, 28, 440, 441, 442, 595, 596, 597, 598, 96, 97, 98, 99, 16, 15, 100, 101, 102, 14, 103, 38, 104, 105, 106, 107, 39, 40, 41, 42, 43, 44, 108, 109, 45, 110, 512, 313, 314, 315, 316, 317, 318, 319, 320, 321, 322, 323, 324, 325, 326, 524, 525, 526, 527, 528, 529, 530, 531, 532, 401, 402, 403, 533, 405, 406, 407, 408, 409, 410, 411, 534, 535, 536, 537, 268, 192, 193, 194, 538, 539, 540, 541, 542, 543, 544, 545, 546, 547, 548, 549, 550, 551, 296, 297, 298, 967, 968, 969, 970, 971, 972, 973, 974, 975, 976, 977, 978, 992, 993, 994, 995, 996, 997, 998, 999, 1000, 1001, 1002] (by decide +kernel) (by decide +kernel)
set_option maxRecDepth 20000 in
theorem gL_law_X3_seenThen : GoodIn wsL_law (wsV RL 73 RX3 yX3_seenThen wsX3_seenThen) := goodIn_app (goodIn_of _ (by decide +kernel)) ggL_law_X3_seenThen
set_option maxRecDepth 20000 in
theorem ggL_law_X4_seenThen : GoodIn wsL_law wsX4_seenThen := goodIn_r _ [614, 58, 565, 566, 5, 567, 352, 353, 354, 456, 457, 458, 88, 89, 90, 91, 63, 603, 604, 605, 606, 57, 362, 363, 364, 382, 383, 384, 385, 386, 387, 372, 373, 374, 388, 389, 390, 568, 569, 570, 571, 572, 573, 417, 418, 419, 420, 421, 422, 574, 575, 576, 577, 578, 579, 580, 581, 582, 979, 980, 981, 982, 983, 984, 985, 986, 987, 988, 989, 990, 991] (by decide +kernel) (by decide +kernel)
set_option maxRecDepth 20000 in
theorem gL_law_X4_seenThen : GoodIn wsL_law (wsV RL 76 RX4 yX4_seenThen wsX4_seenThen) := goodIn_app (goodIn_of _ (by decide +kernel)) ggL_law_X4_seenThen
set_option maxRecDepth 20000 in
theorem ggL_law_X3_falls : GoodIn wsL_law wsX3_falls := goodIn_r _ [618, 521, 522, 2, 523, 263, 244, 245, 69, 70, 71, 72, 28, 484, 282, 283, 96, 97, 98, 99, 16, 15, 100, 101, 102, 14, 103, 38, 104, 105, 106, 107, 39, 40, 41, 42, 43, 44, 108, 109, 45, 110, 538, 539, 540, 541, 542, 525, 526, 527, 528, 529, 530, 531, 532, 401, 402, 403, 533, 405, 406, 407, 408, 409, 410, 411, 534, 535, 536, 537, 268, 192, 193, 194, 543, 544, 545, 546, 547, 548, 549, 550, 551, 296, 297, 298, 512, 313, 314, 315, 316, 317, 318, 319, 320, 321, 322, 323, 324, 325, 326, 967, 968, 969, 970, 971, 972, 973, 974, 975, 976, 977, 978, 992, 993, 994, 995, 996, 997, 998, 999, 1000, 1001, 1002] (by decide +kernel) (by decide +kernel)
set_option maxRecDepth 20000 in
theorem gL_law_X3_falls : GoodIn wsL_law (wsV RL 77 RX3 yX3_falls wsX3_falls) := goodIn_app (goodIn_of _ (by decide +kernel)) ggL_law_X3_falls
set_option maxRecDepth 20000 in
theorem ggL_law_X4_falls : GoodIn wsL_law wsX4_falls := goodIn_r _ [622, 57, 58, 565, 566, 5, 567, 352, 353, 354, 375, 376, 377, 88, 89, 90, 91, 63, 362, 363, 364, 577, 578, 579, 580, 581, 582, 568, 569, 570, 571, 572, 573, 372, 373, 374, 417, 418, 419, 420, 421, 422, 574, 575, 576, 385, 386, 387, 388, 389, 390, 979, 980, 981, 982, 983, 984, 985, 986, 987, 988, 989, 990, 991] (by decide +kernel) (by decide +kernel)
set_option maxRecDepth 20000 in
theorem gL_law_X4_falls : GoodIn wsL_law (wsV RL 80 RX4 yX4_falls wsX4_falls) := goodIn_app (goodIn_of _ (by decide +kernel)) ggL_law_X4_falls
set_option maxRecDepth 20000 in
theorem ggL_law_X3_sight : GoodIn wsL_law wsX3_sight := goodIn_r _ [626, 15, 521, 522, 2, 523, 263, 244, 245, 399, 296, 297, 14, 298, 108, 69, 70, 71, 72, 28, 440, 441, 442, 96, 97, 98, 99, 16, 100, 101, 102, 103, 38, 104, 105, 106, 107, 39, 40, 41, 42, 43, 44, 109, 45, 110, 627, 529, 530, 531, 532, 401, 402, 403, 533, 405, 406, 407, 408, 409, 410, 411, 534, 535, 536, 537, 268, 192, 193, 194, 512, 313, 314, 315, 316, 317, 318, 319, 320, 321, 322, 323, 324, 325, 326, 967, 968, 969, 970, 971, 972, 973, 974, 975, 976, 977, 978, 992, 993, 994, 995, 996, 997, 998, 999, 1000, 1001, 1002] (by decide +kernel) (by decide +kernel)
set_option maxRecDepth 20000 in
theorem gL_law_X3_sight : GoodIn wsL_law (wsV RL 81 RX3 yX3_sight wsX3_sight) := goodIn_app (goodIn_of _ (by decide +kernel)) ggL_law_X3_sight
set_option maxRecDepth 20000 in
theorem ggL_law_X4_sight : GoodIn wsL_law wsX4_sight := goodIn_r _ [631, 57, 58, 565, 566, 5, 567, 352, 353, 354, 378, 379, 380, 381, 88, 89, 90, 91, 63, 362, 363, 364, 568, 569, 570, 571, 572, 573, 372, 373, 374, 417, 418, 419, 420, 421, 422, 574, 575, 576, 385, 386, 387, 388, 389, 390, 979, 980, 981, 982, 983, 984, 985, 986, 987, 988, 989, 990, 991] (by decide +kernel) (by decide +kernel)
set_option maxRecDepth 20000 in
theorem gL_law_X4_sight : GoodIn wsL_law (wsV RL 84 RX4 yX4_sight wsX4_sight) := goodIn_app (goodIn_of _ (by decide +kernel)) ggL_law_X4_sight
set_option maxRecDepth 20000 in
theorem ggL_law_X3_agree : GoodIn wsL_law wsX3_agree := goodIn_r _ [635, 96, 97, 98, 2, 99, 16, 15, 100, 101, 102, 14, 103, 38, 104, 105, 106, 107, 39, 40, 41, 42, 43, 44, 108, 109, 45, 110, 636, 637, 638, 639, 640, 539, 540, 541, 542, 525, 526, 527, 528, 529, 530, 531, 532, 401, 402, 403, 533, 405, 406, 407, 408, 409, 410, 411, 534, 535, 536, 537, 268, 192, 193, 194, 543, 544, 545, 546, 547, 548, 549, 550, 551, 296, 297, 298, 244, 245, 512, 313, 314, 315, 316, 317, 318, 319, 320, 321, 322, 323, 324, 325, 326, 967, 968, 969, 970, 971, 972, 973, 974, 975, 976, 977, 978, 992, 993, 994, 995, 996, 997, 998, 999, 1000, 1001, 1002] (by decide +kernel) (by decide +kernel)
set_option maxRecDepth 20000 in
theorem gL_law_X3_agree : GoodIn wsL_law (wsV RL 85 RX3 yX3_agree wsX3_agree) := goodIn_app (goodIn_of _ (by decide +kernel)) ggL_law_X3_agree
set_option maxRecDepth 20000 in
theorem ggL_law_X4_agree : GoodIn wsL_law wsX4_agree := goodIn_r _ [644, 57, 58, 362, 363, 5, 364, 645, 646, 647, 577, 578, 579, 580, 581, 582, 568, 569, 570, 571, 572, 573, 372, 373, 374, 417, 418, 419, 420, 421, 422, 574, 575, 576, 648, 649, 650, 651, 652, 653, 385, 386, 387, 388, 389, 390, 979, 980, 981, 982, 983, 984, 985, 986, 987, 988, 989, 990, 991] (by decide +kernel) (by decide +kernel)
set_option maxRecDepth 20000 in
theorem gL_law_X4_agree : GoodIn wsL_law (wsV RL 88 RX4 yX4_agree wsX4_agree) := goodIn_app (goodIn_of _ (by decide +kernel)) ggL_law_X4_agree
set_option maxRecDepth 20000 in
theorem ggL_law_X3_appeal : GoodIn wsL_law wsX3_appeal := goodIn_r _ [657, 15, 521, 522, 2, 523, 263, 244, 245, 69, 70, 71, 72, 28, 636, 637, 638, 14, 639, 640, 539, 540, 541, 542, 525, 526, 527, 108, 528, 529, 530, 531, 42, 532, 401, 402, 403, 109, 533, 405, 406, 407, 38, 408, 409, 410, 411, 40, 41, 110, 534, 535, 536, 537, 45, 39, 268, 192, 193, 194, 543, 544, 545, 546, 43, 547, 548, 549, 550, 44, 551, 296, 297, 298, 967, 968, 969, 970, 971, 972, 973, 974, 975, 976, 977, 978, 992, 993, 994, 995, 996, 997, 998, 999, 1000, 1001, 1002] (by decide +kernel) (by decide +kernel)
set_option maxRecDepth 20000 in
theorem gL_law_X3_appeal : GoodIn wsL_law (wsV RL 89 RX3 yX3_appeal wsX3_appeal) := goodIn_app (goodIn_of _ (by decide +kernel)) ggL_law_X3_appeal
set_option maxRecDepth 20000 in
theorem ggL_law_X4_appeal : GoodIn wsL_law wsX4_appeal := goodIn_r _ [661, 57, 565, 566, 5, 567, 352, 353, 354, 88, 89, 90, 91, 63, 577, 578, 579, 580, 581, 582, 568, 569, 570, 571, 572, 573, 372, 373, 374, 417, 418, 419, 420, 421, 422, 574, 575, 576, 979, 980, 981, 982, 983, 984, 985, 986, 987, 988, 989, 990, 991] (by decide +kernel) (by decide +kernel)
set_option maxRecDepth 20000 in
theorem gL_law_X4_appeal : GoodIn wsL_law (wsV RL 92 RX4 yX4_appeal wsX4_appeal) := goodIn_app (goodIn_of _ (by decide +kernel)) ggL_law_X4_appeal
set_option maxRecDepth 20000 in
theorem ggL_law_X3_branches : GoodIn wsL_law wsX3_branches := goodIn_r _ [665, 15, 484, 282, 2, 283, 263, 244, 245, 69, 70, 71, 72, 28, 666, 667, 668, 14, 669, 542, 525, 526, 527, 108, 528, 529, 530, 531, 42, 532, 401, 402, 403, 109, 533, 405, 406, 407, 38, 408, 409, 410, 411, 40, 41, 110, 534, 535, 536, 537, 45, 39, 268, 192, 193, 194, 543, 544, 545, 546, 43, 547, 548, 549, 550, 44, 551, 296, 297, 298, 967, 968, 969, 970, 971, 972, 973, 974, 975, 976, 977, 978, 992, 993, 994, 995, 996, 997, 998, 999, 1000, 1001, 1002] (by decide +kernel) (by decide +kernel)
set_option maxRecDepth 20000 in
theorem gL_law_X3_branches : GoodIn wsL_law (wsV RL 93 RX3 yX3_branches wsX3_branches) := goodIn_app (goodIn_of _ (by decide +kernel)) ggL_law_X3_branches
set_option maxRecDepth 20000 in
theorem ggL_law_X4_branches : GoodIn wsL_law wsX4_branches := goodIn_r _ [673, 57, 375, 376, 5, 377, 352, 353, 354, 648, 649, 650, 577, 578, 579, 580, 581, 582, 568, 569, 570, 571, 572, 573, 372, 373, 374, 417, 418, 419, 420, 421, 422, 574, 575, 576, 88, 89, 90, 91, 63, 979, 980, 981, 982, 983, 984, 985, 986, 987, 988, 989, 990, 991] (by decide +kernel) (by decide +kernel)
set_option maxRecDepth 20000 in
theorem gL_law_X4_branches : GoodIn wsL_law (wsV RL 96 RX4 yX4_branches wsX4_branches) := goodIn_app (goodIn_of _ (by decide +kernel)) ggL_law_X4_branches
set_option maxRecDepth 20000 in
theorem ggL_law_X3_best : GoodIn wsL_law wsX3_best := goodIn_r _ [677, 484, 282, 2, 283, 263, 244, 245, 440, 441, 442, 69, 70, 71, 72, 28, 678, 679, 680, 681, 96, 97, 98, 99, 16, 15, 100, 101, 102, 14, 103, 38, 104, 105, 106, 107, 39, 40, 41, 42, 43, 44, 108, 109, 45, 110, 538, 539, 540, 541, 542, 525, 526, 527, 528, 529, 530, 531, 532, 401, 402, 403, 533, 405, 406, 407, 408, 409, 410, 411, 534, 535, 536, 537, 268, 192, 193, 194, 543, 544, 545, 546, 547, 548, 549, 550, 551, 296, 297, 298, 512, 313, 314, 315, 316, 317, 318, 319, 320, 321, 322, 323, 324, 325, 326, 967, 968, 969, 970, 971, 972, 973, 974, 975, 976, 977, 978, 992, 993, 994, 995, 996, 997, 998, 999, 1000, 1001, 1002] (by decide +kernel) (by decide +kernel)
set_option maxRecDepth 20000 in
theorem gL_law_X3_best : GoodIn wsL_law (wsV RL 97 RX3 yX3_best wsX3_best) := goodIn_app (goodIn_of _ (by decide +kernel)) ggL_law_X3_best
set_option maxRecDepth 20000 in
theorem ggL_law_X4_best : GoodIn wsL_law wsX4_best := goodIn_r _ [685, 375, 376, 5, 377, 352, 353, 354, 456, 457, 458, 88, 89, 90, 91, 63, 686, 687, 688, 689, 57, 58, 362, 363, 364, 577, 578, 579, 580, 581, 582, 568, 569, 570, 571, 572, 573, 372, 373, 374, 417, 418, 419, 420, 421, 422, 574, 575, 576, 385, 386, 387, 388, 389, 390, 979, 980, 981, 982, 983, 984, 985, 986, 987, 988, 989, 990, 991] (by decide +kernel) (by decide +kernel)
set_option maxRecDepth 20000 in
theorem gL_law_X4_best : GoodIn wsL_law (wsV RL 100 RX4 yX4_best wsX4_best) := goodIn_app (goodIn_of _ (by decide +kernel)) ggL_law_X4_best
set_option maxRecDepth 20000 in
theorem ggL_law_X3_drive : GoodIn wsL_law wsX3_drive := goodIn_r _ [693, 15, 397, 399, 296, 297, 14, 298, 108, 244, 2, 245, 69, 70, 71, 72, 28, 484, 282, 283, 263, 666, 667, 668, 669, 542, 525, 526, 527, 528, 529, 530, 531, 42, 532, 401, 402, 403, 109, 533, 405, 406, 407, 38, 408, 409, 410, 411, 40, 41, 110, 534, 535, 536, 537, 45, 39, 268, 192, 193, 194, 543, 544, 545, 546, 43, 547, 548, 549, 550, 44, 551, 694, 695, 696, 697, 698, 699, 700, 96, 97, 98, 99, 16, 100, 101, 102, 103, 104, 105, 106, 107, 967, 968, 969, 970, 971, 972, 973, 974, 975, 976, 977, 978, 992, 993, 994, 995, 996, 997, 998, 999, 1000, 1001, 1002] (by decide +kernel) (by decide +kernel)
set_option maxRecDepth 20000 in
theorem gL_law_X3_drive : GoodIn wsL_law (wsV RL 101 RX3 yX3_drive wsX3_drive) := goodIn_app (goodIn_of _ (by decide +kernel)) ggL_law_X3_drive
set_option maxRecDepth 20000 in
theorem ggL_law_X4_drive : GoodIn wsL_law wsX4_drive := goodIn_r _ [704, 57, 58, 378, 379, 380, 5, 381, 352, 353, 354, 375, 376, 377, 88, 89, 90, 91, 63, 648, 649, 650, 577, 578, 579, 580, 581, 582, 568, 569, 570, 571, 572, 573, 372, 373, 374, 417, 418, 419, 420, 421, 422, 574, 575, 576, 651, 652, 653, 362, 363, 364, 979, 980, 981, 982, 983, 984, 985, 986, 987, 988, 989, 990, 991] (by decide +kernel) (by decide +kernel)
set_option maxRecDepth 20000 in
theorem gL_law_X4_drive : GoodIn wsL_law (wsV RL 104 RX4 yX4_drive wsX4_drive) := goodIn_app (goodIn_of _ (by decide +kernel)) ggL_law_X4_drive
set_option maxRecDepth 20000 in
theorem ggL_law_X3_hill : GoodIn wsL_law wsX3_hill := goodIn_r _ [708, 521, 522, 2, 523, 263, 244, 245, 69, 70, 71, 72, 28, 440, 441, 442, 709, 710, 711, 712, 15, 524, 525, 526, 14, 527, 108, 528, 529, 530, 531, 42, 532, 401, 402, 403, 109, 533, 405, 406, 407, 38, 408, 409, 410, 411, 40, 41, 110, 534, 535, 536, 537, 45, 39, 268, 192, 193, 194, 694, 695, 696, 697, 698, 699, 700, 713, 714, 715, 716, 96, 97, 98, 99, 16, 100, 101, 102, 103, 104, 105, 106, 107, 43, 44, 451, 265, 266, 267, 717, 718, 719, 720, 967, 968, 969, 970, 971, 972, 973, 974, 975, 976, 977, 978, 992, 993, 994, 995, 996, 997, 998, 999, 1000, 1001, 1002] (by decide +kernel) (by decide +kernel)
set_option maxRecDepth 20000 in
theorem gL_law_X3_hill : GoodIn wsL_law (wsV RL 105 RX3 yX3_hill wsX3_hill) := goodIn_app (goodIn_of _ (by decide +kernel)) ggL_law_X3_hill
set_option maxRecDepth 20000 in
theorem ggL_law_X4_hill : GoodIn wsL_law wsX4_hill := goodIn_r _ [724, 57, 58, 565, 566, 5, 567, 352, 353, 354, 88, 89, 90, 91, 63, 568, 569, 570, 571, 572, 573, 372, 373, 374, 417, 418, 419, 420, 421, 422, 574, 575, 576, 651, 652, 653, 362, 363, 364, 979, 980, 981, 982, 983, 984, 985, 986, 987, 988, 989, 990, 991] (by decide +kernel) (by decide +kernel)
set_option maxRecDepth 20000 in
theorem gL_law_X4_hill : GoodIn wsL_law (wsV RL 108 RX4 yX4_hill wsX4_hill) := goodIn_app (goodIn_of _ (by decide +kernel)) ggL_law_X4_hill
set_option maxRecDepth 20000 in
theorem ggL_law_X3_hide : GoodIn wsL_law wsX3_hide := goodIn_r _ [728, 29, 15, 729, 484, 282, 2, 283, 263, 244, 245, 69, 70, 71, 72, 28, 524, 525, 526, 14, 527, 108, 528, 529, 530, 531, 42, 532, 401, 402, 403, 109, 533, 405, 406, 407, 38, 408, 409, 410, 411, 40, 41, 110, 534, 535, 536, 537, 45, 39, 268, 192, 193, 194, 694, 695, 696, 697, 698, 699, 700, 730, 731, 732, 733, 734, 544, 545, 546, 43, 547, 548, 549, 550, 44, 551, 296, 297, 298, 967, 968, 969, 970, 971, 972, 973, 974, 975, 976, 977, 978, 992, 993, 994, 995, 996, 997, 998, 999, 1000, 1001, 1002] (by decide +kernel) (by decide +kernel)
set_option maxRecDepth 20000 in
theorem gL_law_X3_hide : GoodIn wsL_law (wsV RL 109 RX3 yX3_hide wsX3_hide) := goodIn_app (goodIn_of _ (by decide +kernel)) ggL_law_X3_hide
set_option maxRecDepth 20000 in
theorem ggL_law_X4_hide : GoodIn wsL_law wsX4_hide := goodIn_r _ [738, 57, 58, 375, 376, 5, 377, 352, 353, 354, 88, 89, 90, 91, 63, 651, 652, 653, 362, 363, 364, 648, 649, 650, 577, 578, 579, 580, 581, 582, 568, 569, 570, 571, 572, 573, 372, 373, 374, 417, 418, 419, 420, 421, 422, 574, 575, 576, 979, 980, 981, 982, 983, 984, 985, 986, 987, 988, 989, 990, 991] (by decide +kernel) (by decide +kernel)
set_option maxRecDepth 20000 in
theorem gL_law_X4_hide : GoodIn wsL_law (wsV RL 112 RX4 yX4_hide wsX4_hide) := goodIn_app (goodIn_of _ (by decide +kernel)) ggL_law_X4_hide
set_option maxRecDepth 20000 in
theorem ggL_law_X3_eyesBest : GoodIn wsL_law wsX3_eyesBest := goodIn_r _ [742, 494, 521, 522, 2, 523, 263, 244, 245, 69, 70, 71, 72, 28, 484, 282, 283, 440, 441, 442, 96, 97, 98, 99, 16, 15, 100, 101, 102, 14, 103, 38, 104, 105, 106, 107, 39, 40, 41, 42, 43, 44, 108, 109, 45, 110, 538, 539, 540, 541, 542, 525, 526, 527, 528, 529, 530, 531, 532, 401, 402, 403, 533, 405, 406, 407, 408, 409, 410, 411, 534, 535, 536, 537, 268, 192, 193, 194, 543, 544, 545, 546, 547, 548, 549, 550, 551, 296, 297, 298, 992, 993, 994, 995, 996, 997, 998, 999, 1000, 1001, 1002, 967, 968, 969, 970, 971, 972, 973, 974, 975, 976, 977, 978] (by decide +kernel) (by decide +kernel)
set_option maxRecDepth 20000 in
theorem gL_law_X3_eyesBest : GoodIn wsL_law (wsV RL 113 RX3 yX3_eyesBest wsX3_eyesBest) := goodIn_app (goodIn_of _ (by decide +kernel)) ggL_law_X3_eyesBest
set_option maxRecDepth 20000 in
theorem ggL_law_X4_eyesBest : GoodIn wsL_law wsX4_eyesBest := goodIn_r _ [746, 57, 58, 565, 566, 5, 567, 352, 353, 354, 375, 376, 377, 88, 89, 90, 91, 63, 362, 363, 364, 577, 578, 579, 580, 581, 582, 568, 569, 570, 571, 572, 573, 372, 373, 374, 417, 418, 419, 420, 421, 422, 574, 575, 576, 979, 980, 981, 982, 983, 984, 985, 986, 987, 988, 989, 990, 991] (by decide +kernel) (by decide +kernel)
set_option maxRecDepth 20000 in
theorem gL_law_X4_eyesBest : GoodIn wsL_law (wsV RL 116 RX4 yX4_eyesBest wsX4_eyesBest) := goodIn_app (goodIn_of _ (by decide +kernel)) ggL_law_X4_eyesBest
set_option maxRecDepth 20000 in
theorem ggL_law_X3_ranked : GoodIn wsL_law wsX3_ranked := goodIn_r _ [750, 438, 484, 282, 2, 283, 263, 244, 245, 440, 441, 442, 69, 70, 71, 72, 28, 96, 97, 98, 99, 16, 15, 100, 101, 102, 14, 103, 38, 104, 105, 106, 107, 39, 40, 41, 42, 43, 44, 108, 109, 45, 110, 666, 667, 668, 669, 542, 525, 526, 527, 528, 529, 530, 531, 532, 401, 402, 403, 533, 405, 406, 407, 408, 409, 410, 411, 534, 535, 536, 537, 268, 192, 193, 194, 543, 544, 545, 546, 547, 548, 549, 550, 551, 296, 297, 298, 694, 695, 696, 697, 698, 699, 700, 992, 993, 994, 995, 996, 997, 998, 999, 1000, 1001, 1002, 967, 968, 969, 970, 971, 972, 973, 974, 975, 976, 977, 978] (by decide +kernel) (by decide +kernel)
set_option maxRecDepth 20000 in
theorem gL_law_X3_ranked : GoodIn wsL_law (wsV RL 117 RX3 yX3_ranked wsX3_ranked) := goodIn_app (goodIn_of _ (by decide +kernel)) ggL_law_X3_ranked
set_option maxRecDepth 20000 in
theorem ggL_law_X4_ranked : GoodIn wsL_law wsX4_ranked := goodIn_r _ [754, 57, 58, 375, 376, 5, 377, 352, 353, 354, 88, 89, 90, 91, 63, 362, 363, 364, 648, 649, 650, 577, 578, 579, 580, 581, 582, 568, 569, 570, 571, 572, 573, 372, 373, 374, 417, 418, 419, 420, 421, 422, 574, 575, 576, 651, 652, 653, 979, 980, 981, 982, 983, 984, 985, 986, 987, 988, 989, 990, 991] (by decide +kernel) (by decide +kernel)
set_option maxRecDepth 20000 in
theorem gL_law_X4_ranked : GoodIn wsL_law (wsV RL 120 RX4 yX4_ranked wsX4_ranked) := goodIn_app (goodIn_of _ (by decide +kernel)) ggL_law_X4_ranked
set_option maxRecDepth 20000 in
theorem ggL_law_X3_window : GoodIn wsL_law wsX3_window := goodIn_r _ [758, 15, 759, 760, 761, 2, 762, 538, 539, 540, 14, 541, 542, 525, 526, 527, 108, 528, 529, 530, 531, 42, 532, 401, 402, 403, 109, 533, 405, 406, 407, 38, 408, 409, 410, 411, 40, 41, 110, 534, 535, 536, 537, 45, 39, 268, 192, 193, 194, 543, 544, 545, 546, 43, 547, 548, 549, 550, 44, 551, 296, 297, 298, 244, 245, 763, 764, 765, 766, 767, 768, 769, 770, 771, 772, 773, 774, 69, 70, 71, 72, 28, 967, 968, 969, 970, 971, 972, 973, 974, 975, 976, 977, 978, 992, 993, 994, 995, 996, 997, 998, 999, 1000, 1001, 1002] (by decide +kernel) (by decide +kernel)
set_option maxRecDepth 20000 in
theorem gL_law_X3_window : GoodIn wsL_law (wsV RL 121 RX3 yX3_window wsX3_window) := goodIn_app (goodIn_of _ (by decide +kernel)) ggL_law_X3_window
set_option maxRecDepth 20000 in
theorem ggL_law_X4_window : GoodIn wsL_law wsX4_window := goodIn_r _ [778, 352, 353, 5, 354, 88, 89, 90, 91, 63, 779, 780, 781, 782, 57, 577, 578, 579, 580, 581, 582, 568, 569, 570, 571, 572, 573, 372, 373, 374, 417, 418, 419, 420, 421, 422, 574, 575, 576, 783, 784, 785, 786, 787, 788, 789, 790, 791, 792, 793, 794, 979, 980, 981, 982, 983, 984, 985, 986, 987, 988, 989, 990, 991] (by decide +kernel) (by decide +kernel)
set_option maxRecDepth 20000 in
theorem gL_law_X4_window : GoodIn wsL_law (wsV RL 124 RX4 yX4_window wsX4_window) := goodIn_app (goodIn_of _ (by decide +kernel)) ggL_law_X4_window
set_option maxRecDepth 20000 in
theorem ggL_law_X3_two : GoodIn wsL_law wsX3_two := goodIn_r _ [798, 15, 33, 399, 296, 297, 14, 298, 108, 244, 2, 245, 69, 70, 71, 72, 28, 263, 799, 800, 801, 802, 96, 97, 98, 99, 16, 100, 101, 102, 103, 38, 104, 105, 106, 107, 39, 40, 41, 42, 43, 44, 109, 45, 110, 803, 324, 325, 326, 512, 313, 314, 315, 316, 317, 318, 319, 320, 321, 322, 323, 666, 667, 668, 669, 542, 525, 526, 527, 528, 529, 530, 531, 532, 401, 402, 403, 533, 405, 406, 407, 408, 409, 410, 411, 534, 535, 536, 537, 268, 192, 193, 194, 543, 544, 545, 546, 547, 548, 549, 550, 551, 694, 695, 696, 697, 698, 699, 700, 804, 805, 806, 807, 967, 968, 969, 970, 971, 972, 973, 974, 975, 976, 977, 978, 992, 993, 994, 995, 996, 997, 998, 999, 1000, 1001, 1002] (by decide +kernel) (by decide +kernel)
set_option maxRecDepth 20000 in
theorem gL_law_X3_two : GoodIn wsL_law (wsV RL 125 RX3 yX3_two wsX3_two) := goodIn_app (goodIn_of _ (by decide +kernel)) ggL_law_X3_two
set_option maxRecDepth 20000 in
theorem ggL_law_X4_two : GoodIn wsL_law wsX4_two := goodIn_r _ [811, 378, 379, 380, 5, 381, 57, 352, 353, 354, 456, 457, 458, 88, 89, 90, 91, 63, 812, 813, 814, 815, 58, 362, 363, 364, 372, 373, 374, 382, 383, 384, 385, 386, 387, 388, 389, 390, 648, 649, 650, 577, 578, 579, 580, 581, 582, 568, 569, 570, 571, 572, 573, 417, 418, 419, 420, 421, 422, 574, 575, 576, 651, 652, 653, 979, 980, 981, 982, 983, 984, 985, 986, 987, 988, 989, 990, 991] (by decide +kernel) (by decide +kernel)
set_option maxRecDepth 20000 in
theorem gL_law_X4_two : GoodIn wsL_law (wsV RL 128 RX4 yX4_two wsX4_two) := goodIn_app (goodIn_of _ (by decide +kernel)) ggL_law_X4_two
set_option maxRecDepth 20000 in
theorem ggL_law_X3_mist : GoodIn wsL_law wsX3_mist := goodIn_r _ [819, 15, 494, 820, 192, 193, 194, 31, 521, 522, 2, 523, 263, 244, 245, 821, 822, 823, 824, 825, 69, 70, 71, 72, 28, 484, 282, 283, 440, 441, 442, 826, 827, 828, 829, 595, 596, 597, 598, 96, 97, 98, 99, 16, 100, 101, 102, 14, 103, 38, 104, 105, 106, 107, 39, 40, 41, 42, 43, 44, 108, 109, 45, 110, 512, 313, 314, 315, 316, 317, 318, 319, 320, 321, 322, 323, 324, 325, 326, 538, 539, 540, 541, 542, 525, 526, 527, 528, 529, 530, 531, 532, 401, 402, 403, 533, 405, 406, 407, 408, 409, 410, 411, 534, 535, 536, 537, 268, 543, 544, 545, 546, 547, 548, 549, 550, 551, 296, 297, 298, 830, 831, 832, 833, 834, 835, 967, 968, 969, 970, 971, 972, 973, 974, 975, 976, 977, 978, 992, 993, 994, 995, 996, 997, 998, 999, 1000, 1001, 1002] (by decide +kernel) (by decide +kernel)
set_option maxRecDepth 20000 in
theorem gL_law_X3_mist : GoodIn wsL_law (wsV RL 129 RX3 yX3_mist wsX3_mist) := goodIn_app (goodIn_of _ (by decide +kernel)) ggL_law_X3_mist
set_option maxRecDepth 20000 in
theorem ggL_law_X4_mist : GoodIn wsL_law wsX4_mist := goodIn_r _ [839, 57, 58, 565, 566, 5, 567, 352, 353, 354, 840, 841, 842, 843, 844, 88, 89, 90, 91, 63, 375, 376, 377, 362, 363, 364, 571, 572, 573, 385, 386, 387, 372, 373, 374, 388, 389, 390, 577, 578, 579, 580, 581, 582, 568, 569, 570, 417, 418, 419, 420, 421, 422, 574, 575, 576, 845, 846, 847, 848, 849, 850, 979, 980, 981, 982, 983, 984, 985, 986, 987, 988, 989, 990, 991] (by decide +kernel) (by decide +kernel)
set_option maxRecDepth 20000 in
theorem gL_law_X4_mist : GoodIn wsL_law (wsV RL 133 RX4 yX4_mist wsX4_mist) := goodIn_app (goodIn_of _ (by decide +kernel)) ggL_law_X4_mist
set_option maxRecDepth 20000 in
theorem ggL_law_X3_mean : GoodIn wsL_law wsX3_mean := goodIn_r _ [854, 15, 427, 855, 440, 441, 2, 442, 263, 244, 245, 821, 822, 823, 824, 825, 69, 70, 71, 72, 28, 856, 857, 858, 830, 831, 832, 833, 834, 835, 967, 968, 969, 970, 971, 972, 973, 974, 975, 976, 977, 978, 992, 993, 994, 995, 996, 997, 998, 999, 1000, 1001, 1002] (by decide +kernel) (by decide +kernel)
set_option maxRecDepth 20000 in
theorem gL_law_X3_mean : GoodIn wsL_law (wsV RL 134 RX3 yX3_mean wsX3_mean) := goodIn_app (goodIn_of _ (by decide +kernel)) ggL_law_X3_mean
set_option maxRecDepth 20000 in
theorem ggL_law_X4_mean : GoodIn wsL_law wsX4_mean := goodIn_r _ [862, 863, 352, 353, 5, 354, 864, 865, 866, 867, 57, 845, 846, 847, 848, 849, 850, 840, 841, 842, 843, 844, 88, 89, 90, 91, 63, 979, 980, 981, 982, 983, 984, 985, 986, 987, 988, 989, 990, 991] (by decide +kernel) (by decide +kernel)
set_option maxRecDepth 20000 in
theorem gL_law_X4_mean : GoodIn wsL_law (wsV RL 138 RX4 yX4_mean wsX4_mean) := goodIn_app (goodIn_of _ (by decide +kernel)) ggL_law_X4_mean
set_option maxRecDepth 20000 in
theorem ggL_law_X3_whereWas : GoodIn wsL_law wsX3_whereWas := goodIn_r _ [871, 15, 397, 395, 399, 296, 297, 14, 298, 108, 244, 2, 245, 521, 522, 523, 263, 69, 70, 71, 72, 28, 440, 441, 442, 96, 97, 98, 99, 16, 100, 101, 102, 103, 38, 104, 105, 106, 107, 39, 40, 41, 42, 43, 44, 109, 45, 110, 872, 873, 874, 875, 876, 27, 538, 539, 540, 541, 542, 525, 526, 527, 528, 529, 530, 531, 532, 401, 402, 403, 533, 405, 406, 407, 408, 409, 410, 411, 534, 535, 536, 537, 268, 192, 193, 194, 543, 544, 545, 546, 547, 548, 549, 550, 551, 512, 313, 314, 315, 316, 317, 318, 319, 320, 321, 322, 323, 324, 325, 326, 967, 968, 969, 970, 971, 972, 973, 974, 975, 976, 977, 978, 992, 993, 994, 995, 996, 997, 998, 999, 1000, 1001, 1002] (by decide +kernel) (by decide +kernel)
set_option maxRecDepth 20000 in
theorem gL_law_X3_whereWas : GoodIn wsL_law (wsV RL 139 RX3 yX3_whereWas wsX3_whereWas) := goodIn_app (goodIn_of _ (by decide +kernel)) ggL_law_X3_whereWas
set_option maxRecDepth 20000 in
theorem ggL_law_X4_whereWas : GoodIn wsL_law wsX4_whereWas := goodIn_r _ [880, 57, 58, 881, 62, 378, 379, 380, 5, 381, 352, 353, 354, 565, 566, 567, 88, 89, 90, 91, 63, 362, 363, 364, 372, 373, 374, 577, 578, 579, 580, 581, 582, 568, 569, 570, 571, 572, 573, 417, 418, 419, 420, 421, 422, 574, 575, 576, 385, 386, 387, 388, 389, 390, 979, 980, 981, 982, 983, 984, 985, 986, 987, 988, 989, 990, 991] (by decide +kernel) (by decide +kernel)
set_option maxRecDepth 20000 in
theorem gL_law_X4_whereWas : GoodIn wsL_law (wsV RL 142 RX4 yX4_whereWas wsX4_whereWas) := goodIn_app (goodIn_of _ (by decide +kernel)) ggL_law_X4_whereWas
set_option maxRecDepth 20000 in
theorem ggL_law_X3_row : GoodIn wsL_law wsX3_row := goodIn_r _ [885, 876, 27, 69, 70, 71, 2, 72, 28, 967, 968, 969, 970, 971, 972, 973, 974, 975, 976, 977, 978] (by decide +kernel) (by decide +kernel)
set_option maxRecDepth 20000 in
theorem gL_law_X3_row : GoodIn wsL_law (wsV RL 143 RX3 yX3_row wsX3_row) := goodIn_app (goodIn_of _ (by decide +kernel)) ggL_law_X3_row
set_option maxRecDepth 20000 in
theorem ggL_law_X4_row : GoodIn wsL_law wsX4_row := goodIn_r _ [889, 881, 62, 456, 457, 5, 458, 88, 89, 90, 91, 63, 979, 980, 981, 982, 983, 984, 985, 986, 987, 988, 989, 990, 991] (by decide +kernel) (by decide +kernel)
set_option maxRecDepth 20000 in
theorem gL_law_X4_row : GoodIn wsL_law (wsV RL 146 RX4 yX4_row wsX4_row) := goodIn_app (goodIn_of _ (by decide +kernel)) ggL_law_X4_row
set_option maxRecDepth 20000 in
theorem ggL_law_X3_judge : GoodIn wsL_law wsX3_judge := goodIn_r _ [893, 876, 894, 895, 896, 2, 897, 15, 427, 27, 428, 261, 262, 263, 244, 245, 967, 968, 969, 970, 971, 972, 973, 974, 975, 976, 977, 978, 992, 993, 994, 995, 996, 997, 998, 999, 1000, 1001, 1002] (by decide +kernel) (by decide +kernel)
set_option maxRecDepth 20000 in
theorem gL_law_X3_judge : GoodIn wsL_law (wsV RL 147 RX3 yX3_judge wsX3_judge) := goodIn_app (goodIn_of _ (by decide +kernel)) ggL_law_X3_judge
set_option maxRecDepth 20000 in
theorem ggL_law_X4_judge : GoodIn wsL_law wsX4_judge := goodIn_r _ [901, 881, 57, 62, 979, 980, 981, 982, 983, 984, 985, 986, 987, 988, 989, 990, 991] (by decide +kernel) (by decide +kernel)
set_option maxRecDepth 20000 in
theorem gL_law_X4_judge : GoodIn wsL_law (wsV RL 150 RX4 yX4_judge wsX4_judge) := goodIn_app (goodIn_of _ (by decide +kernel)) ggL_law_X4_judge
set_option maxRecDepth 20000 in
theorem ggL_law_X3_clear : GoodIn wsL_law wsX3_clear := goodIn_r _ [905, 876, 967, 968, 969, 970, 971, 972, 973, 974, 975, 976, 977, 978] (by decide +kernel) (by decide +kernel)
set_option maxRecDepth 20000 in
theorem gL_law_X3_clear : GoodIn wsL_law (wsV RL 151 RX3 yX3_clear wsX3_clear) := goodIn_app (goodIn_of _ (by decide +kernel)) ggL_law_X3_clear
set_option maxRecDepth 20000 in
theorem ggL_law_X4_clear : GoodIn wsL_law wsX4_clear := goodIn_r _ [909, 881, 979, 980, 981, 982, 983, 984, 985, 986, 987, 988, 989, 990, 991] (by decide +kernel) (by decide +kernel)
set_option maxRecDepth 20000 in
theorem gL_law_X4_clear : GoodIn wsL_law (wsV RL 154 RX4 yX4_clear wsX4_clear) := goodIn_app (goodIn_of _ (by decide +kernel)) ggL_law_X4_clear
set_option maxRecDepth 20000 in
theorem ggL_law_X3_lots : GoodIn wsL_law wsX3_lots := goodIn_r _ [913, 25, 914, 729, 397, 263, 244, 2, 245, 69, 70, 71, 72, 28, 440, 441, 442, 96, 97, 98, 99, 16, 15, 100, 101, 102, 14, 103, 38, 104, 105, 106, 107, 39, 40, 41, 42, 43, 44, 108, 109, 45, 110, 915, 916, 917, 24, 918, 919, 920, 921, 922, 524, 525, 526, 527, 528, 529, 530, 531, 532, 401, 402, 403, 533, 405, 406, 407, 408, 409, 410, 411, 534, 535, 536, 537, 268, 192, 193, 194, 734, 544, 545, 546, 547, 548, 549, 550, 551, 296, 297, 298, 694, 695, 696, 697, 698, 699, 700, 967, 968, 969, 970, 971, 972, 973, 974, 975, 976, 977, 978, 1005, 992, 993, 994, 995, 996, 997, 998, 999, 1000, 1001, 1002] (by decide +kernel) (by decide +kernel)
set_option maxRecDepth 20000 in
theorem gL_law_X3_lots : GoodIn wsL_law (wsV RL 155 RX3 yX3_lots wsX3_lots) := goodIn_app (goodIn_of _ (by decide +kernel)) ggL_law_X3_lots
set_option maxRecDepth 20000 in
theorem ggL_law_X4_lots : GoodIn wsL_law wsX4_lots := goodIn_r _ [926, 927, 57, 58, 88, 89, 90, 5, 91, 63, 352, 353, 354, 362, 363, 364, 372, 373, 374, 928, 929, 930, 931, 932, 933, 934, 568, 569, 570, 571, 572, 573, 417, 418, 419, 420, 421, 422, 574, 575, 576, 651, 652, 653, 577, 578, 579, 580, 581, 582, 979, 980, 981, 982, 983, 984, 985, 986, 987, 988, 989, 990, 991] (by decide +kernel) (by decide +kernel)
set_option maxRecDepth 20000 in
theorem gL_law_X4_lots : GoodIn wsL_law (wsV RL 158 RX4 yX4_lots wsX4_lots) := goodIn_app (goodIn_of _ (by decide +kernel)) ggL_law_X4_lots
set_option maxRecDepth 20000 in
theorem ggL_law_X3_image : GoodIn wsL_law wsX3_image := goodIn_r _ [938, 17, 15, 939, 398, 100, 101, 102, 14, 103, 38, 104, 105, 106, 107, 39, 40, 41, 42, 43, 44, 108, 109, 45, 110, 967, 968, 969, 970, 971, 972, 973, 974, 975, 976, 977, 978, 992, 993, 994, 995, 996, 997, 998, 999, 1000, 1001, 1002] (by decide +kernel) (by decide +kernel)
set_option maxRecDepth 20000 in
theorem gL_law_X3_image : GoodIn wsL_law (wsV RL 159 RX3 yX3_image wsX3_image) := goodIn_app (goodIn_of _ (by decide +kernel)) ggL_law_X3_image
set_option maxRecDepth 20000 in
theorem ggL_law_X4_image : GoodIn wsL_law wsX4_image := goodIn_r _ [943, 57, 59, 944, 362, 363, 5, 364, 979, 980, 981, 982, 983, 984, 985, 986, 987, 988, 989, 990, 991] (by decide +kernel) (by decide +kernel)
set_option maxRecDepth 20000 in
theorem gL_law_X4_image : GoodIn wsL_law (wsV RL 162 RX4 yX4_image wsX4_image) := goodIn_app (goodIn_of _ (by decide +kernel)) ggL_law_X4_image
set_option maxRecDepth 20000 in
theorem ggL_law_X3_on : GoodIn wsL_law wsX3_on := goodIn_r _ [948, 939, 15, 17, 398, 69, 70, 71, 2, 72, 28, 100, 101, 102, 14, 103, 38, 104, 105, 106, 107, 39, 40, 41, 42, 43, 44, 108, 109, 45, 110, 967, 968, 969, 970, 971, 972, 973, 974, 975, 976, 977, 978, 992, 993, 994, 995, 996, 997, 998, 999, 1000, 1001, 1002] (by decide +kernel) (by decide +kernel)
set_option maxRecDepth 20000 in
theorem gL_law_X3_on : GoodIn wsL_law (wsV RL 163 RX3 yX3_on wsX3_on) := goodIn_app (goodIn_of _ (by decide +kernel)) ggL_law_X3_on
set_option maxRecDepth 20000 in
theorem ggL_law_X4_on : GoodIn wsL_law wsX4_on := goodIn_r _ [952, 944, 59, 57, 88, 89, 90, 5, 91, 63, 362, 363, 364, 979, 980, 981, 982, 983, 984, 985, 986, 987, 988, 989, 990, 991] (by decide +kernel) (by decide +kernel)
set_option maxRecDepth 20000 in
theorem gL_law_X4_on : GoodIn wsL_law (wsV RL 166 RX4 yX4_on wsX4_on) := goodIn_app (goodIn_of _ (by decide +kernel)) ggL_law_X4_on
set_option maxRecDepth 20000 in
theorem ggL_law_X3_count : GoodIn wsL_law wsX3_count := goodIn_r _ [956, 15, 729, 398, 494, 957, 427, 438, 876, 21, 958, 856, 857, 2, 858, 959, 960, 961, 962, 28, 263, 244, 245, 967, 968, 969, 970, 971, 972, 973, 974, 975, 976, 977, 978, 992, 993, 994, 995, 996, 997, 998, 999, 1000, 1001, 1002, 1003, 1004] (by decide +kernel) (by decide +kernel)
set_option maxRecDepth 20000 in
theorem gL_law_X3_count : GoodIn wsL_law (wsV RL 167 RX3 yX3_count wsX3_count) := goodIn_app (goodIn_of _ (by decide +kernel)) ggL_law_X3_count
set_option maxRecDepth 20000 in
theorem ggL_law_X4_count : GoodIn wsL_law wsX4_count := goodIn_r _ [966, 63, 57, 881, 87, 352, 353, 5, 354, 864, 865, 866, 867, 979, 980, 981, 982, 983, 984, 985, 986, 987, 988, 989, 990, 991] (by decide +kernel) (by decide +kernel)
set_option maxRecDepth 20000 in
theorem gL_law_X4_count : GoodIn wsL_law (wsV RL 170 RX4 yX4_count wsX4_count) := goodIn_app (goodIn_of _ (by decide +kernel)) ggL_law_X4_count
theorem dL_law_0 : decode cL_law 0 = .ok (.new 7, 3) := by decide +kernel
theorem dL_law_3 : decode cL_law 3 = .ok (.dup, 1) := by decide +kernel
theorem dL_law_4 : decode cL_law 4 = .ok (.invokespecial 9, 3) := by decide +kernel
theorem dL_law_7 : decode cL_law 7 = .ok (.astore_n 1, 1) := by decide +kernel
theorem dL_law_8 : decode cL_law 8 = .ok (.new 10, 3) := by decide +kernel
theorem dL_law_11 : decode cL_law 11 = .ok (.dup, 1) := by decide +kernel
theorem dL_law_12 : decode cL_law 12 = .ok (.invokespecial 12, 3) := by decide +kernel
theorem dL_law_15 : decode cL_law 15 = .ok (.astore_n 2, 1) := by decide +kernel
theorem dL_law_16 : decode cL_law 16 = .ok (.iconst 0, 1) := by decide +kernel
theorem dL_law_17 : decode cL_law 17 = .ok (.istore_n 3, 1) := by decide +kernel
theorem dL_law_18 : decode cL_law 18 = .ok (.iload_n 3, 1) := by decide +kernel
theorem dL_law_19 : decode cL_law 19 = .ok (.aload_n 0, 1) := by decide +kernel
theorem dL_law_20 : decode cL_law 20 = .ok (.arraylength, 1) := by decide +kernel
theorem dL_law_21 : decode cL_law 21 = .ok (.bipush 6, 2) := by decide +kernel
theorem dL_law_23 : decode cL_law 23 = .ok (.isub, 1) := by decide +kernel
theorem dL_law_24 : decode cL_law 24 = .ok (.if_icmp .gt 1318, 3) := by decide +kernel
theorem dL_law_27 : decode cL_law 27 = .ok (.aload_n 0, 1) := by decide +kernel
theorem dL_law_28 : decode cL_law 28 = .ok (.iload_n 3, 1) := by decide +kernel
theorem dL_law_29 : decode cL_law 29 = .ok (.iaload, 1) := by decide +kernel
theorem dL_law_30 : decode cL_law 30 = .ok (.bipush 63, 2) := by decide +kernel
theorem dL_law_32 : decode cL_law 32 = .ok (.iand, 1) := by decide +kernel
theorem dL_law_33 : decode cL_law 33 = .ok (.tableswitch 1303 0 37 #[167, 190, 203, 236, 259, 292, 325, 358, 381, 424, 447, 490, 513, 546, 579, 622, 655, 698, 711, 734, 757, 800, 833, 866, 889, 932, 965, 988, 1031, 1095, 1119, 1162, 1185, 1198, 1211, 1254, 1267, 1280], 167) := by decide +kernel
theorem dL_law_200 : decode cL_law 200 = .ok (.aload_n 1, 1) := by decide +kernel
theorem dL_law_201 : decode cL_law 201 = .ok (.aload_n 0, 1) := by decide +kernel
theorem dL_law_202 : decode cL_law 202 = .ok (.iload_n 3, 1) := by decide +kernel
theorem dL_law_203 : decode cL_law 203 = .ok (.iconst 1, 1) := by decide +kernel
theorem dL_law_204 : decode cL_law 204 = .ok (.iadd, 1) := by decide +kernel
theorem dL_law_205 : decode cL_law 205 = .ok (.iaload, 1) := by decide +kernel
theorem dL_law_206 : decode cL_law 206 = .ok (.invokevirtual 13, 3) := by decide +kernel
theorem dL_law_209 : decode cL_law 209 = .ok (.aload_n 2, 1) := by decide +kernel
theorem dL_law_210 : decode cL_law 210 = .ok (.aload_n 0, 1) := by decide +kernel
theorem dL_law_211 : decode cL_law 211 = .ok (.iload_n 3, 1) := by decide +kernel
theorem dL_law_212 : decode cL_law 212 = .ok (.iconst 1, 1) := by decide +kernel
theorem dL_law_213 : decode cL_law 213 = .ok (.iadd, 1) := by decide +kernel
theorem dL_law_214 : decode cL_law 214 = .ok (.iaload, 1) := by decide +kernel
theorem dL_law_215 : decode cL_law 215 = .ok (.invokevirtual 17, 3) := by decide +kernel
theorem dL_law_218 : decode cL_law 218 = .ok (.if_icmp .eq 1118, 3) := by decide +kernel
theorem dL_law_221 : decode cL_law 221 = .ok (.iconst 0, 1) := by decide +kernel
theorem dL_law_222 : decode cL_law 222 = .ok (.ireturn, 1) := by decide +kernel
theorem dL_law_223 : decode cL_law 223 = .ok (.aload_n 1, 1) := by decide +kernel
theorem dL_law_224 : decode cL_law 224 = .ok (.invokevirtual 18, 3) := by decide +kernel
theorem dL_law_227 : decode cL_law 227 = .ok (.aload_n 2, 1) := by decide +kernel
theorem dL_law_228 : decode cL_law 228 = .ok (.invokevirtual 22, 3) := by decide +kernel
theorem dL_law_231 : decode cL_law 231 = .ok (.if_icmp .eq 1105, 3) := by decide +kernel
theorem dL_law_234 : decode cL_law 234 = .ok (.iconst 0, 1) := by decide +kernel
theorem dL_law_235 : decode cL_law 235 = .ok (.ireturn, 1) := by decide +kernel
theorem dL_law_236 : decode cL_law 236 = .ok (.aload_n 1, 1) := by decide +kernel
theorem dL_law_237 : decode cL_law 237 = .ok (.aload_n 0, 1) := by decide +kernel
theorem dL_law_238 : decode cL_law 238 = .ok (.iload_n 3, 1) := by decide +kernel
theorem dL_law_239 : decode cL_law 239 = .ok (.iconst 1, 1) := by decide +kernel
theorem dL_law_240 : decode cL_law 240 = .ok (.iadd, 1) := by decide +kernel
theorem dL_law_241 : decode cL_law 241 = .ok (.iaload, 1) := by decide +kernel
theorem dL_law_242 : decode cL_law 242 = .ok (.aload_n 0, 1) := by decide +kernel
theorem dL_law_243 : decode cL_law 243 = .ok (.iload_n 3, 1) := by decide +kernel
theorem dL_law_244 : decode cL_law 244 = .ok (.iconst 2, 1) := by decide +kernel
theorem dL_law_245 : decode cL_law 245 = .ok (.iadd, 1) := by decide +kernel
theorem dL_law_246 : decode cL_law 246 = .ok (.iaload, 1) := by decide +kernel
theorem dL_law_247 : decode cL_law 247 = .ok (.invokevirtual 23, 3) := by decide +kernel
theorem dL_law_250 : decode cL_law 250 = .ok (.aload_n 2, 1) := by decide +kernel
theorem dL_law_251 : decode cL_law 251 = .ok (.aload_n 0, 1) := by decide +kernel
theorem dL_law_252 : decode cL_law 252 = .ok (.iload_n 3, 1) := by decide +kernel
theorem dL_law_253 : decode cL_law 253 = .ok (.iconst 1, 1) := by decide +kernel
theorem dL_law_254 : decode cL_law 254 = .ok (.iadd, 1) := by decide +kernel
theorem dL_law_255 : decode cL_law 255 = .ok (.iaload, 1) := by decide +kernel
theorem dL_law_256 : decode cL_law 256 = .ok (.aload_n 0, 1) := by decide +kernel
theorem dL_law_257 : decode cL_law 257 = .ok (.iload_n 3, 1) := by decide +kernel
theorem dL_law_258 : decode cL_law 258 = .ok (.iconst 2, 1) := by decide +kernel
theorem dL_law_259 : decode cL_law 259 = .ok (.iadd, 1) := by decide +kernel
theorem dL_law_260 : decode cL_law 260 = .ok (.iaload, 1) := by decide +kernel
theorem dL_law_261 : decode cL_law 261 = .ok (.invokevirtual 27, 3) := by decide +kernel
theorem dL_law_264 : decode cL_law 264 = .ok (.if_icmp .eq 1072, 3) := by decide +kernel
theorem dL_law_267 : decode cL_law 267 = .ok (.iconst 0, 1) := by decide +kernel
theorem dL_law_268 : decode cL_law 268 = .ok (.ireturn, 1) := by decide +kernel
theorem dL_law_269 : decode cL_law 269 = .ok (.aload_n 1, 1) := by decide +kernel
theorem dL_law_270 : decode cL_law 270 = .ok (.aload_n 0, 1) := by decide +kernel
theorem dL_law_271 : decode cL_law 271 = .ok (.iload_n 3, 1) := by decide +kernel
theorem dL_law_272 : decode cL_law 272 = .ok (.iconst 1, 1) := by decide +kernel
theorem dL_law_273 : decode cL_law 273 = .ok (.iadd, 1) := by decide +kernel
theorem dL_law_274 : decode cL_law 274 = .ok (.iaload, 1) := by decide +kernel
theorem dL_law_275 : decode cL_law 275 = .ok (.invokevirtual 28, 3) := by decide +kernel
theorem dL_law_278 : decode cL_law 278 = .ok (.aload_n 2, 1) := by decide +kernel
theorem dL_law_279 : decode cL_law 279 = .ok (.aload_n 0, 1) := by decide +kernel
theorem dL_law_280 : decode cL_law 280 = .ok (.iload_n 3, 1) := by decide +kernel
theorem dL_law_281 : decode cL_law 281 = .ok (.iconst 1, 1) := by decide +kernel
theorem dL_law_282 : decode cL_law 282 = .ok (.iadd, 1) := by decide +kernel
theorem dL_law_283 : decode cL_law 283 = .ok (.iaload, 1) := by decide +kernel
theorem dL_law_284 : decode cL_law 284 = .ok (.invokevirtual 31, 3) := by decide +kernel
theorem dL_law_287 : decode cL_law 287 = .ok (.if_icmp .eq 1049, 3) := by decide +kernel
theorem dL_law_290 : decode cL_law 290 = .ok (.iconst 0, 1) := by decide +kernel
theorem dL_law_291 : decode cL_law 291 = .ok (.ireturn, 1) := by decide +kernel
theorem dL_law_292 : decode cL_law 292 = .ok (.aload_n 1, 1) := by decide +kernel
theorem dL_law_293 : decode cL_law 293 = .ok (.aload_n 0, 1) := by decide +kernel
theorem dL_law_294 : decode cL_law 294 = .ok (.iload_n 3, 1) := by decide +kernel
theorem dL_law_295 : decode cL_law 295 = .ok (.iconst 1, 1) := by decide +kernel
theorem dL_law_296 : decode cL_law 296 = .ok (.iadd, 1) := by decide +kernel
theorem dL_law_297 : decode cL_law 297 = .ok (.iaload, 1) := by decide +kernel
theorem dL_law_298 : decode cL_law 298 = .ok (.aload_n 0, 1) := by decide +kernel
theorem dL_law_299 : decode cL_law 299 = .ok (.iload_n 3, 1) := by decide +kernel
theorem dL_law_300 : decode cL_law 300 = .ok (.iconst 2, 1) := by decide +kernel
theorem dL_law_301 : decode cL_law 301 = .ok (.iadd, 1) := by decide +kernel
theorem dL_law_302 : decode cL_law 302 = .ok (.iaload, 1) := by decide +kernel
theorem dL_law_303 : decode cL_law 303 = .ok (.invokevirtual 32, 3) := by decide +kernel
theorem dL_law_306 : decode cL_law 306 = .ok (.aload_n 2, 1) := by decide +kernel
theorem dL_law_307 : decode cL_law 307 = .ok (.aload_n 0, 1) := by decide +kernel
theorem dL_law_308 : decode cL_law 308 = .ok (.iload_n 3, 1) := by decide +kernel
theorem dL_law_309 : decode cL_law 309 = .ok (.iconst 1, 1) := by decide +kernel
theorem dL_law_310 : decode cL_law 310 = .ok (.iadd, 1) := by decide +kernel
theorem dL_law_311 : decode cL_law 311 = .ok (.iaload, 1) := by decide +kernel
theorem dL_law_312 : decode cL_law 312 = .ok (.aload_n 0, 1) := by decide +kernel
theorem dL_law_313 : decode cL_law 313 = .ok (.iload_n 3, 1) := by decide +kernel
theorem dL_law_314 : decode cL_law 314 = .ok (.iconst 2, 1) := by decide +kernel
theorem dL_law_315 : decode cL_law 315 = .ok (.iadd, 1) := by decide +kernel
theorem dL_law_316 : decode cL_law 316 = .ok (.iaload, 1) := by decide +kernel
theorem dL_law_317 : decode cL_law 317 = .ok (.invokevirtual 35, 3) := by decide +kernel
theorem dL_law_320 : decode cL_law 320 = .ok (.if_icmp .eq 1016, 3) := by decide +kernel
theorem dL_law_323 : decode cL_law 323 = .ok (.iconst 0, 1) := by decide +kernel
theorem dL_law_324 : decode cL_law 324 = .ok (.ireturn, 1) := by decide +kernel
theorem dL_law_325 : decode cL_law 325 = .ok (.aload_n 1, 1) := by decide +kernel
theorem dL_law_326 : decode cL_law 326 = .ok (.aload_n 0, 1) := by decide +kernel
theorem dL_law_327 : decode cL_law 327 = .ok (.iload_n 3, 1) := by decide +kernel
theorem dL_law_328 : decode cL_law 328 = .ok (.iconst 1, 1) := by decide +kernel
theorem dL_law_329 : decode cL_law 329 = .ok (.iadd, 1) := by decide +kernel
theorem dL_law_330 : decode cL_law 330 = .ok (.iaload, 1) := by decide +kernel
theorem dL_law_331 : decode cL_law 331 = .ok (.aload_n 0, 1) := by decide +kernel
theorem dL_law_332 : decode cL_law 332 = .ok (.iload_n 3, 1) := by decide +kernel
theorem dL_law_333 : decode cL_law 333 = .ok (.iconst 2, 1) := by decide +kernel
theorem dL_law_334 : decode cL_law 334 = .ok (.iadd, 1) := by decide +kernel
theorem dL_law_335 : decode cL_law 335 = .ok (.iaload, 1) := by decide +kernel
theorem dL_law_336 : decode cL_law 336 = .ok (.invokevirtual 36, 3) := by decide +kernel
theorem dL_law_339 : decode cL_law 339 = .ok (.aload_n 2, 1) := by decide +kernel
theorem dL_law_340 : decode cL_law 340 = .ok (.aload_n 0, 1) := by decide +kernel
theorem dL_law_341 : decode cL_law 341 = .ok (.iload_n 3, 1) := by decide +kernel
theorem dL_law_342 : decode cL_law 342 = .ok (.iconst 1, 1) := by decide +kernel
theorem dL_law_343 : decode cL_law 343 = .ok (.iadd, 1) := by decide +kernel
theorem dL_law_344 : decode cL_law 344 = .ok (.iaload, 1) := by decide +kernel
theorem dL_law_345 : decode cL_law 345 = .ok (.aload_n 0, 1) := by decide +kernel
theorem dL_law_346 : decode cL_law 346 = .ok (.iload_n 3, 1) := by decide +kernel
theorem dL_law_347 : decode cL_law 347 = .ok (.iconst 2, 1) := by decide +kernel
theorem dL_law_348 : decode cL_law 348 = .ok (.iadd, 1) := by decide +kernel
theorem dL_law_349 : decode cL_law 349 = .ok (.iaload, 1) := by decide +kernel
theorem dL_law_350 : decode cL_law 350 = .ok (.invokevirtual 39, 3) := by decide +kernel
theorem dL_law_353 : decode cL_law 353 = .ok (.if_icmp .eq 983, 3) := by decide +kernel
theorem dL_law_356 : decode cL_law 356 = .ok (.iconst 0, 1) := by decide +kernel
theorem dL_law_357 : decode cL_law 357 = .ok (.ireturn, 1) := by decide +kernel
theorem dL_law_358 : decode cL_law 358 = .ok (.aload_n 1, 1) := by decide +kernel
theorem dL_law_359 : decode cL_law 359 = .ok (.aload_n 0, 1) := by decide +kernel
theorem dL_law_360 : decode cL_law 360 = .ok (.iload_n 3, 1) := by decide +kernel
theorem dL_law_361 : decode cL_law 361 = .ok (.iconst 1, 1) := by decide +kernel
theorem dL_law_362 : decode cL_law 362 = .ok (.iadd, 1) := by decide +kernel
theorem dL_law_363 : decode cL_law 363 = .ok (.iaload, 1) := by decide +kernel
theorem dL_law_364 : decode cL_law 364 = .ok (.aload_n 0, 1) := by decide +kernel
theorem dL_law_365 : decode cL_law 365 = .ok (.iload_n 3, 1) := by decide +kernel
theorem dL_law_366 : decode cL_law 366 = .ok (.iconst 2, 1) := by decide +kernel
theorem dL_law_367 : decode cL_law 367 = .ok (.iadd, 1) := by decide +kernel
theorem dL_law_368 : decode cL_law 368 = .ok (.iaload, 1) := by decide +kernel
theorem dL_law_369 : decode cL_law 369 = .ok (.invokevirtual 40, 3) := by decide +kernel
theorem dL_law_372 : decode cL_law 372 = .ok (.aload_n 2, 1) := by decide +kernel
theorem dL_law_373 : decode cL_law 373 = .ok (.aload_n 0, 1) := by decide +kernel
theorem dL_law_374 : decode cL_law 374 = .ok (.iload_n 3, 1) := by decide +kernel
theorem dL_law_375 : decode cL_law 375 = .ok (.iconst 1, 1) := by decide +kernel
theorem dL_law_376 : decode cL_law 376 = .ok (.iadd, 1) := by decide +kernel
theorem dL_law_377 : decode cL_law 377 = .ok (.iaload, 1) := by decide +kernel
theorem dL_law_378 : decode cL_law 378 = .ok (.aload_n 0, 1) := by decide +kernel
theorem dL_law_379 : decode cL_law 379 = .ok (.iload_n 3, 1) := by decide +kernel
theorem dL_law_380 : decode cL_law 380 = .ok (.iconst 2, 1) := by decide +kernel
theorem dL_law_381 : decode cL_law 381 = .ok (.iadd, 1) := by decide +kernel
theorem dL_law_382 : decode cL_law 382 = .ok (.iaload, 1) := by decide +kernel
theorem dL_law_383 : decode cL_law 383 = .ok (.invokevirtual 43, 3) := by decide +kernel
theorem dL_law_386 : decode cL_law 386 = .ok (.if_icmp .eq 950, 3) := by decide +kernel
theorem dL_law_389 : decode cL_law 389 = .ok (.iconst 0, 1) := by decide +kernel
theorem dL_law_390 : decode cL_law 390 = .ok (.ireturn, 1) := by decide +kernel
theorem dL_law_391 : decode cL_law 391 = .ok (.aload_n 1, 1) := by decide +kernel
theorem dL_law_392 : decode cL_law 392 = .ok (.aload_n 0, 1) := by decide +kernel
theorem dL_law_393 : decode cL_law 393 = .ok (.iload_n 3, 1) := by decide +kernel
theorem dL_law_394 : decode cL_law 394 = .ok (.iconst 1, 1) := by decide +kernel
theorem dL_law_395 : decode cL_law 395 = .ok (.iadd, 1) := by decide +kernel
theorem dL_law_396 : decode cL_law 396 = .ok (.iaload, 1) := by decide +kernel
theorem dL_law_397 : decode cL_law 397 = .ok (.invokevirtual 44, 3) := by decide +kernel
theorem dL_law_400 : decode cL_law 400 = .ok (.aload_n 2, 1) := by decide +kernel
theorem dL_law_401 : decode cL_law 401 = .ok (.aload_n 0, 1) := by decide +kernel
theorem dL_law_402 : decode cL_law 402 = .ok (.iload_n 3, 1) := by decide +kernel
theorem dL_law_403 : decode cL_law 403 = .ok (.iconst 1, 1) := by decide +kernel
theorem dL_law_404 : decode cL_law 404 = .ok (.iadd, 1) := by decide +kernel
theorem dL_law_405 : decode cL_law 405 = .ok (.iaload, 1) := by decide +kernel
theorem dL_law_406 : decode cL_law 406 = .ok (.invokevirtual 47, 3) := by decide +kernel
theorem dL_law_409 : decode cL_law 409 = .ok (.if_icmp .eq 927, 3) := by decide +kernel
theorem dL_law_412 : decode cL_law 412 = .ok (.iconst 0, 1) := by decide +kernel
theorem dL_law_413 : decode cL_law 413 = .ok (.ireturn, 1) := by decide +kernel
theorem dL_law_414 : decode cL_law 414 = .ok (.aload_n 1, 1) := by decide +kernel
theorem dL_law_415 : decode cL_law 415 = .ok (.aload_n 0, 1) := by decide +kernel
theorem dL_law_416 : decode cL_law 416 = .ok (.iload_n 3, 1) := by decide +kernel
theorem dL_law_417 : decode cL_law 417 = .ok (.iconst 1, 1) := by decide +kernel
theorem dL_law_418 : decode cL_law 418 = .ok (.iadd, 1) := by decide +kernel
theorem dL_law_419 : decode cL_law 419 = .ok (.iaload, 1) := by decide +kernel
theorem dL_law_420 : decode cL_law 420 = .ok (.aload_n 0, 1) := by decide +kernel
theorem dL_law_421 : decode cL_law 421 = .ok (.iload_n 3, 1) := by decide +kernel
theorem dL_law_422 : decode cL_law 422 = .ok (.iconst 2, 1) := by decide +kernel
theorem dL_law_423 : decode cL_law 423 = .ok (.iadd, 1) := by decide +kernel
theorem dL_law_424 : decode cL_law 424 = .ok (.iaload, 1) := by decide +kernel
theorem dL_law_425 : decode cL_law 425 = .ok (.aload_n 0, 1) := by decide +kernel
theorem dL_law_426 : decode cL_law 426 = .ok (.iload_n 3, 1) := by decide +kernel
theorem dL_law_427 : decode cL_law 427 = .ok (.iconst 3, 1) := by decide +kernel
theorem dL_law_428 : decode cL_law 428 = .ok (.iadd, 1) := by decide +kernel
theorem dL_law_429 : decode cL_law 429 = .ok (.iaload, 1) := by decide +kernel
theorem dL_law_430 : decode cL_law 430 = .ok (.invokevirtual 48, 3) := by decide +kernel
theorem dL_law_433 : decode cL_law 433 = .ok (.aload_n 2, 1) := by decide +kernel
theorem dL_law_434 : decode cL_law 434 = .ok (.aload_n 0, 1) := by decide +kernel
theorem dL_law_435 : decode cL_law 435 = .ok (.iload_n 3, 1) := by decide +kernel
theorem dL_law_436 : decode cL_law 436 = .ok (.iconst 1, 1) := by decide +kernel
theorem dL_law_437 : decode cL_law 437 = .ok (.iadd, 1) := by decide +kernel
theorem dL_law_438 : decode cL_law 438 = .ok (.iaload, 1) := by decide +kernel
theorem dL_law_439 : decode cL_law 439 = .ok (.aload_n 0, 1) := by decide +kernel
theorem dL_law_440 : decode cL_law 440 = .ok (.iload_n 3, 1) := by decide +kernel
theorem dL_law_441 : decode cL_law 441 = .ok (.iconst 2, 1) := by decide +kernel
theorem dL_law_442 : decode cL_law 442 = .ok (.iadd, 1) := by decide +kernel
theorem dL_law_443 : decode cL_law 443 = .ok (.iaload, 1) := by decide +kernel
theorem dL_law_444 : decode cL_law 444 = .ok (.aload_n 0, 1) := by decide +kernel
theorem dL_law_445 : decode cL_law 445 = .ok (.iload_n 3, 1) := by decide +kernel
theorem dL_law_446 : decode cL_law 446 = .ok (.iconst 3, 1) := by decide +kernel
theorem dL_law_447 : decode cL_law 447 = .ok (.iadd, 1) := by decide +kernel
theorem dL_law_448 : decode cL_law 448 = .ok (.iaload, 1) := by decide +kernel
theorem dL_law_449 : decode cL_law 449 = .ok (.invokevirtual 52, 3) := by decide +kernel
theorem dL_law_452 : decode cL_law 452 = .ok (.if_icmp .eq 884, 3) := by decide +kernel
theorem dL_law_455 : decode cL_law 455 = .ok (.iconst 0, 1) := by decide +kernel
theorem dL_law_456 : decode cL_law 456 = .ok (.ireturn, 1) := by decide +kernel
theorem dL_law_457 : decode cL_law 457 = .ok (.aload_n 1, 1) := by decide +kernel
theorem dL_law_458 : decode cL_law 458 = .ok (.aload_n 0, 1) := by decide +kernel
theorem dL_law_459 : decode cL_law 459 = .ok (.iload_n 3, 1) := by decide +kernel
theorem dL_law_460 : decode cL_law 460 = .ok (.iconst 1, 1) := by decide +kernel
theorem dL_law_461 : decode cL_law 461 = .ok (.iadd, 1) := by decide +kernel
theorem dL_law_462 : decode cL_law 462 = .ok (.iaload, 1) := by decide +kernel
theorem dL_law_463 : decode cL_law 463 = .ok (.invokevirtual 53, 3) := by decide +kernel
theorem dL_law_466 : decode cL_law 466 = .ok (.aload_n 2, 1) := by decide +kernel
theorem dL_law_467 : decode cL_law 467 = .ok (.aload_n 0, 1) := by decide +kernel
theorem dL_law_468 : decode cL_law 468 = .ok (.iload_n 3, 1) := by decide +kernel
theorem dL_law_469 : decode cL_law 469 = .ok (.iconst 1, 1) := by decide +kernel
theorem dL_law_470 : decode cL_law 470 = .ok (.iadd, 1) := by decide +kernel
theorem dL_law_471 : decode cL_law 471 = .ok (.iaload, 1) := by decide +kernel
theorem dL_law_472 : decode cL_law 472 = .ok (.invokevirtual 56, 3) := by decide +kernel
theorem dL_law_475 : decode cL_law 475 = .ok (.if_icmp .eq 861, 3) := by decide +kernel
theorem dL_law_478 : decode cL_law 478 = .ok (.iconst 0, 1) := by decide +kernel
theorem dL_law_479 : decode cL_law 479 = .ok (.ireturn, 1) := by decide +kernel
theorem dL_law_480 : decode cL_law 480 = .ok (.aload_n 1, 1) := by decide +kernel
theorem dL_law_481 : decode cL_law 481 = .ok (.aload_n 0, 1) := by decide +kernel
theorem dL_law_482 : decode cL_law 482 = .ok (.iload_n 3, 1) := by decide +kernel
theorem dL_law_483 : decode cL_law 483 = .ok (.iconst 1, 1) := by decide +kernel
theorem dL_law_484 : decode cL_law 484 = .ok (.iadd, 1) := by decide +kernel
theorem dL_law_485 : decode cL_law 485 = .ok (.iaload, 1) := by decide +kernel
theorem dL_law_486 : decode cL_law 486 = .ok (.aload_n 0, 1) := by decide +kernel
theorem dL_law_487 : decode cL_law 487 = .ok (.iload_n 3, 1) := by decide +kernel
theorem dL_law_488 : decode cL_law 488 = .ok (.iconst 2, 1) := by decide +kernel
theorem dL_law_489 : decode cL_law 489 = .ok (.iadd, 1) := by decide +kernel
theorem dL_law_490 : decode cL_law 490 = .ok (.iaload, 1) := by decide +kernel
theorem dL_law_491 : decode cL_law 491 = .ok (.aload_n 0, 1) := by decide +kernel
theorem dL_law_492 : decode cL_law 492 = .ok (.iload_n 3, 1) := by decide +kernel
theorem dL_law_493 : decode cL_law 493 = .ok (.iconst 3, 1) := by decide +kernel
theorem dL_law_494 : decode cL_law 494 = .ok (.iadd, 1) := by decide +kernel
theorem dL_law_495 : decode cL_law 495 = .ok (.iaload, 1) := by decide +kernel
theorem dL_law_496 : decode cL_law 496 = .ok (.invokevirtual 57, 3) := by decide +kernel
theorem dL_law_499 : decode cL_law 499 = .ok (.aload_n 2, 1) := by decide +kernel
theorem dL_law_500 : decode cL_law 500 = .ok (.aload_n 0, 1) := by decide +kernel
theorem dL_law_501 : decode cL_law 501 = .ok (.iload_n 3, 1) := by decide +kernel
theorem dL_law_502 : decode cL_law 502 = .ok (.iconst 1, 1) := by decide +kernel
theorem dL_law_503 : decode cL_law 503 = .ok (.iadd, 1) := by decide +kernel
theorem dL_law_504 : decode cL_law 504 = .ok (.iaload, 1) := by decide +kernel
theorem dL_law_505 : decode cL_law 505 = .ok (.aload_n 0, 1) := by decide +kernel
theorem dL_law_506 : decode cL_law 506 = .ok (.iload_n 3, 1) := by decide +kernel
theorem dL_law_507 : decode cL_law 507 = .ok (.iconst 2, 1) := by decide +kernel
theorem dL_law_508 : decode cL_law 508 = .ok (.iadd, 1) := by decide +kernel
theorem dL_law_509 : decode cL_law 509 = .ok (.iaload, 1) := by decide +kernel
theorem dL_law_510 : decode cL_law 510 = .ok (.aload_n 0, 1) := by decide +kernel
theorem dL_law_511 : decode cL_law 511 = .ok (.iload_n 3, 1) := by decide +kernel
theorem dL_law_512 : decode cL_law 512 = .ok (.iconst 3, 1) := by decide +kernel
theorem dL_law_513 : decode cL_law 513 = .ok (.iadd, 1) := by decide +kernel
theorem dL_law_514 : decode cL_law 514 = .ok (.iaload, 1) := by decide +kernel
theorem dL_law_515 : decode cL_law 515 = .ok (.invokevirtual 60, 3) := by decide +kernel
theorem dL_law_518 : decode cL_law 518 = .ok (.if_icmp .eq 818, 3) := by decide +kernel
theorem dL_law_521 : decode cL_law 521 = .ok (.iconst 0, 1) := by decide +kernel
theorem dL_law_522 : decode cL_law 522 = .ok (.ireturn, 1) := by decide +kernel
theorem dL_law_523 : decode cL_law 523 = .ok (.aload_n 1, 1) := by decide +kernel
theorem dL_law_524 : decode cL_law 524 = .ok (.aload_n 0, 1) := by decide +kernel
theorem dL_law_525 : decode cL_law 525 = .ok (.iload_n 3, 1) := by decide +kernel
theorem dL_law_526 : decode cL_law 526 = .ok (.iconst 1, 1) := by decide +kernel
theorem dL_law_527 : decode cL_law 527 = .ok (.iadd, 1) := by decide +kernel
theorem dL_law_528 : decode cL_law 528 = .ok (.iaload, 1) := by decide +kernel
theorem dL_law_529 : decode cL_law 529 = .ok (.invokevirtual 61, 3) := by decide +kernel
theorem dL_law_532 : decode cL_law 532 = .ok (.aload_n 2, 1) := by decide +kernel
theorem dL_law_533 : decode cL_law 533 = .ok (.aload_n 0, 1) := by decide +kernel
theorem dL_law_534 : decode cL_law 534 = .ok (.iload_n 3, 1) := by decide +kernel
theorem dL_law_535 : decode cL_law 535 = .ok (.iconst 1, 1) := by decide +kernel
theorem dL_law_536 : decode cL_law 536 = .ok (.iadd, 1) := by decide +kernel
theorem dL_law_537 : decode cL_law 537 = .ok (.iaload, 1) := by decide +kernel
theorem dL_law_538 : decode cL_law 538 = .ok (.invokevirtual 64, 3) := by decide +kernel
theorem dL_law_541 : decode cL_law 541 = .ok (.if_icmp .eq 795, 3) := by decide +kernel
theorem dL_law_544 : decode cL_law 544 = .ok (.iconst 0, 1) := by decide +kernel
theorem dL_law_545 : decode cL_law 545 = .ok (.ireturn, 1) := by decide +kernel
theorem dL_law_546 : decode cL_law 546 = .ok (.aload_n 1, 1) := by decide +kernel
theorem dL_law_547 : decode cL_law 547 = .ok (.aload_n 0, 1) := by decide +kernel
theorem dL_law_548 : decode cL_law 548 = .ok (.iload_n 3, 1) := by decide +kernel
theorem dL_law_549 : decode cL_law 549 = .ok (.iconst 1, 1) := by decide +kernel
theorem dL_law_550 : decode cL_law 550 = .ok (.iadd, 1) := by decide +kernel
theorem dL_law_551 : decode cL_law 551 = .ok (.iaload, 1) := by decide +kernel
theorem dL_law_552 : decode cL_law 552 = .ok (.aload_n 0, 1) := by decide +kernel
theorem dL_law_553 : decode cL_law 553 = .ok (.iload_n 3, 1) := by decide +kernel
theorem dL_law_554 : decode cL_law 554 = .ok (.iconst 2, 1) := by decide +kernel
theorem dL_law_555 : decode cL_law 555 = .ok (.iadd, 1) := by decide +kernel
theorem dL_law_556 : decode cL_law 556 = .ok (.iaload, 1) := by decide +kernel
theorem dL_law_557 : decode cL_law 557 = .ok (.invokevirtual 65, 3) := by decide +kernel
theorem dL_law_560 : decode cL_law 560 = .ok (.aload_n 2, 1) := by decide +kernel
theorem dL_law_561 : decode cL_law 561 = .ok (.aload_n 0, 1) := by decide +kernel
theorem dL_law_562 : decode cL_law 562 = .ok (.iload_n 3, 1) := by decide +kernel
theorem dL_law_563 : decode cL_law 563 = .ok (.iconst 1, 1) := by decide +kernel
theorem dL_law_564 : decode cL_law 564 = .ok (.iadd, 1) := by decide +kernel
theorem dL_law_565 : decode cL_law 565 = .ok (.iaload, 1) := by decide +kernel
theorem dL_law_566 : decode cL_law 566 = .ok (.aload_n 0, 1) := by decide +kernel
theorem dL_law_567 : decode cL_law 567 = .ok (.iload_n 3, 1) := by decide +kernel
theorem dL_law_568 : decode cL_law 568 = .ok (.iconst 2, 1) := by decide +kernel
theorem dL_law_569 : decode cL_law 569 = .ok (.iadd, 1) := by decide +kernel
theorem dL_law_570 : decode cL_law 570 = .ok (.iaload, 1) := by decide +kernel
theorem dL_law_571 : decode cL_law 571 = .ok (.invokevirtual 68, 3) := by decide +kernel
theorem dL_law_574 : decode cL_law 574 = .ok (.if_icmp .eq 762, 3) := by decide +kernel
theorem dL_law_577 : decode cL_law 577 = .ok (.iconst 0, 1) := by decide +kernel
theorem dL_law_578 : decode cL_law 578 = .ok (.ireturn, 1) := by decide +kernel
theorem dL_law_579 : decode cL_law 579 = .ok (.aload_n 1, 1) := by decide +kernel
theorem dL_law_580 : decode cL_law 580 = .ok (.aload_n 0, 1) := by decide +kernel
theorem dL_law_581 : decode cL_law 581 = .ok (.iload_n 3, 1) := by decide +kernel
theorem dL_law_582 : decode cL_law 582 = .ok (.iconst 1, 1) := by decide +kernel
theorem dL_law_583 : decode cL_law 583 = .ok (.iadd, 1) := by decide +kernel
theorem dL_law_584 : decode cL_law 584 = .ok (.iaload, 1) := by decide +kernel
theorem dL_law_585 : decode cL_law 585 = .ok (.aload_n 0, 1) := by decide +kernel
theorem dL_law_586 : decode cL_law 586 = .ok (.iload_n 3, 1) := by decide +kernel
theorem dL_law_587 : decode cL_law 587 = .ok (.iconst 2, 1) := by decide +kernel
theorem dL_law_588 : decode cL_law 588 = .ok (.iadd, 1) := by decide +kernel
theorem dL_law_589 : decode cL_law 589 = .ok (.iaload, 1) := by decide +kernel
theorem dL_law_590 : decode cL_law 590 = .ok (.invokevirtual 69, 3) := by decide +kernel
theorem dL_law_593 : decode cL_law 593 = .ok (.aload_n 2, 1) := by decide +kernel
theorem dL_law_594 : decode cL_law 594 = .ok (.aload_n 0, 1) := by decide +kernel
theorem dL_law_595 : decode cL_law 595 = .ok (.iload_n 3, 1) := by decide +kernel
theorem dL_law_596 : decode cL_law 596 = .ok (.iconst 1, 1) := by decide +kernel
theorem dL_law_597 : decode cL_law 597 = .ok (.iadd, 1) := by decide +kernel
theorem dL_law_598 : decode cL_law 598 = .ok (.iaload, 1) := by decide +kernel
theorem dL_law_599 : decode cL_law 599 = .ok (.aload_n 0, 1) := by decide +kernel
theorem dL_law_600 : decode cL_law 600 = .ok (.iload_n 3, 1) := by decide +kernel
theorem dL_law_601 : decode cL_law 601 = .ok (.iconst 2, 1) := by decide +kernel
theorem dL_law_602 : decode cL_law 602 = .ok (.iadd, 1) := by decide +kernel
theorem dL_law_603 : decode cL_law 603 = .ok (.iaload, 1) := by decide +kernel
theorem dL_law_604 : decode cL_law 604 = .ok (.invokevirtual 72, 3) := by decide +kernel
theorem dL_law_607 : decode cL_law 607 = .ok (.if_icmp .eq 729, 3) := by decide +kernel
theorem dL_law_610 : decode cL_law 610 = .ok (.iconst 0, 1) := by decide +kernel
theorem dL_law_611 : decode cL_law 611 = .ok (.ireturn, 1) := by decide +kernel
theorem dL_law_612 : decode cL_law 612 = .ok (.aload_n 1, 1) := by decide +kernel
theorem dL_law_613 : decode cL_law 613 = .ok (.aload_n 0, 1) := by decide +kernel
theorem dL_law_614 : decode cL_law 614 = .ok (.iload_n 3, 1) := by decide +kernel
theorem dL_law_615 : decode cL_law 615 = .ok (.iconst 1, 1) := by decide +kernel
theorem dL_law_616 : decode cL_law 616 = .ok (.iadd, 1) := by decide +kernel
theorem dL_law_617 : decode cL_law 617 = .ok (.iaload, 1) := by decide +kernel
theorem dL_law_618 : decode cL_law 618 = .ok (.aload_n 0, 1) := by decide +kernel
theorem dL_law_619 : decode cL_law 619 = .ok (.iload_n 3, 1) := by decide +kernel
theorem dL_law_620 : decode cL_law 620 = .ok (.iconst 2, 1) := by decide +kernel
theorem dL_law_621 : decode cL_law 621 = .ok (.iadd, 1) := by decide +kernel
theorem dL_law_622 : decode cL_law 622 = .ok (.iaload, 1) := by decide +kernel
theorem dL_law_623 : decode cL_law 623 = .ok (.aload_n 0, 1) := by decide +kernel
theorem dL_law_624 : decode cL_law 624 = .ok (.iload_n 3, 1) := by decide +kernel
theorem dL_law_625 : decode cL_law 625 = .ok (.iconst 3, 1) := by decide +kernel
theorem dL_law_626 : decode cL_law 626 = .ok (.iadd, 1) := by decide +kernel
theorem dL_law_627 : decode cL_law 627 = .ok (.iaload, 1) := by decide +kernel
theorem dL_law_628 : decode cL_law 628 = .ok (.invokevirtual 73, 3) := by decide +kernel
theorem dL_law_631 : decode cL_law 631 = .ok (.aload_n 2, 1) := by decide +kernel
theorem dL_law_632 : decode cL_law 632 = .ok (.aload_n 0, 1) := by decide +kernel
theorem dL_law_633 : decode cL_law 633 = .ok (.iload_n 3, 1) := by decide +kernel
theorem dL_law_634 : decode cL_law 634 = .ok (.iconst 1, 1) := by decide +kernel
theorem dL_law_635 : decode cL_law 635 = .ok (.iadd, 1) := by decide +kernel
theorem dL_law_636 : decode cL_law 636 = .ok (.iaload, 1) := by decide +kernel
theorem dL_law_637 : decode cL_law 637 = .ok (.aload_n 0, 1) := by decide +kernel
theorem dL_law_638 : decode cL_law 638 = .ok (.iload_n 3, 1) := by decide +kernel
theorem dL_law_639 : decode cL_law 639 = .ok (.iconst 2, 1) := by decide +kernel
theorem dL_law_640 : decode cL_law 640 = .ok (.iadd, 1) := by decide +kernel
theorem dL_law_641 : decode cL_law 641 = .ok (.iaload, 1) := by decide +kernel
theorem dL_law_642 : decode cL_law 642 = .ok (.aload_n 0, 1) := by decide +kernel
theorem dL_law_643 : decode cL_law 643 = .ok (.iload_n 3, 1) := by decide +kernel
theorem dL_law_644 : decode cL_law 644 = .ok (.iconst 3, 1) := by decide +kernel
theorem dL_law_645 : decode cL_law 645 = .ok (.iadd, 1) := by decide +kernel
theorem dL_law_646 : decode cL_law 646 = .ok (.iaload, 1) := by decide +kernel
theorem dL_law_647 : decode cL_law 647 = .ok (.invokevirtual 76, 3) := by decide +kernel
theorem dL_law_650 : decode cL_law 650 = .ok (.if_icmp .eq 686, 3) := by decide +kernel
theorem dL_law_653 : decode cL_law 653 = .ok (.iconst 0, 1) := by decide +kernel
theorem dL_law_654 : decode cL_law 654 = .ok (.ireturn, 1) := by decide +kernel
theorem dL_law_655 : decode cL_law 655 = .ok (.aload_n 1, 1) := by decide +kernel
