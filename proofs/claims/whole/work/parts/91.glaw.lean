set_option maxRecDepth 20000 in
theorem ggL_law_X6_init : GoodIn wsL_law wsX6_init := goodIn_r _ [10, 11, 12, 13, 14, 15, 16, 17, 18, 19, 20, 21, 22, 23, 24, 25, 26, 27, 28, 29, 30, 31, 32, 33, 34, 35, 36, 37, 38, 39, 40, 41, 42, 43, 44, 45, 46, 47, 48, 49, 50, 51, 52, 53, 54, 55, 56, 57, 58, 59, 60, 61, 62, 63, 64, 65, 66, 67, 68, 69, 70, 71, 72, 73, 74, 1000, 1001, 983, 984, 985, 986, 987, 988, 1002, 1003, 1004, 1005, 1006, 1007, 1008] (by decide +kernel) (by decide +kernel)
set_option maxRecDepth 20000 in
theorem gL_law_X6_init : GoodIn wsL_law (wsX6_init) := ggL_law_X6_init
set_option maxRecDepth 20000 in
theorem ggL_law_X7_init : GoodIn wsL_law wsX7_init := goodIn_r _ [77, 78, 12, 13, 39, 79, 80, 81, 82, 83, 28, 84, 85, 86, 87, 88, 5, 89, 90, 91, 92, 93, 94, 95, 989, 990, 991, 992, 993, 994, 995, 996, 997, 998, 999] (by decide +kernel) (by decide +kernel)
set_option maxRecDepth 20000 in
theorem gL_law_X7_init : GoodIn wsL_law (wsX7_init) := ggL_law_X7_init
set_option maxRecDepth 20000 in
theorem ggL_law_L_append : GoodIn wsL_law wsL_append := goodIn_ca (goodIn_ca (goodIn_r _ [99, 100, 101, 102, 103, 104, 2, 105, 106, 107, 108, 109, 17, 110, 111, 112, 16, 113, 114, 115, 116, 117, 118, 34, 119, 120, 121, 122, 123, 983, 984, 985, 986, 987, 988, 1000, 1001] (by decide +kernel) (by decide +kernel)) (goodIn_sub (fun _ h => List.mem_append_left _ (List.mem_append_left _ (List.mem_append_right _ h))) (by decide +kernel))) (goodIn_sub (fun _ h => List.mem_append_left _ (List.mem_append_right _ h)) (by decide +kernel))
set_option maxRecDepth 20000 in
theorem gL_law_L_append : GoodIn wsL_law (va_wsS RL 109 yL_append wsL_append) := goodIn_app (goodIn_of _ (by decide +kernel)) ggL_law_L_append
set_option maxRecDepth 20000 in
theorem ggL_law_X7_append : GoodIn wsL_law wsX7_append := goodIn_r _ [127, 128, 129, 79, 130, 131, 5, 132, 133, 134, 135, 136, 137, 989, 990, 991, 992, 993, 994, 995, 996, 997, 998, 999] (by decide +kernel) (by decide +kernel)
set_option maxRecDepth 20000 in
theorem gL_law_X7_append : GoodIn wsL_law (wsV RL 114 RX7 yX7_append wsX7_append) := goodIn_app (goodIn_of _ (by decide +kernel)) ggL_law_X7_append
set_option maxRecDepth 20000 in
theorem ggL_law_X7_thrown : GoodIn wsL_law wsX7_thrown := goodIn_r _ [141, 137, 989, 990, 991, 992, 993, 994, 995, 996, 997, 998, 999] (by decide +kernel) (by decide +kernel)
set_option maxRecDepth 20000 in
theorem gL_law_X7_thrown : GoodIn wsL_law (wsV RL 115 RX7 yX7_thrown wsX7_thrown) := goodIn_app (goodIn_of _ (by decide +kernel)) ggL_law_X7_thrown
set_option maxRecDepth 20000 in
theorem ggL_law_X6_clearText : GoodIn wsL_law wsX6_clearText := goodIn_r _ [145, 17, 120, 121, 122, 16, 123, 114, 146, 147, 148, 149, 983, 984, 985, 986, 987, 988, 1000, 1001] (by decide +kernel) (by decide +kernel)
set_option maxRecDepth 20000 in
theorem gL_law_X6_clearText : GoodIn wsL_law (wsV RL 118 RX6 yX6_clearText wsX6_clearText) := goodIn_app (goodIn_of _ (by decide +kernel)) ggL_law_X6_clearText
set_option maxRecDepth 20000 in
theorem ggL_law_X7_clearText : GoodIn wsL_law wsX7_clearText := goodIn_r _ [153, 137, 129, 989, 990, 991, 992, 993, 994, 995, 996, 997, 998, 999] (by decide +kernel) (by decide +kernel)
set_option maxRecDepth 20000 in
theorem gL_law_X7_clearText : GoodIn wsL_law (wsV RL 121 RX7 yX7_clearText wsX7_clearText) := goodIn_app (goodIn_of _ (by decide +kernel)) ggL_law_X7_clearText
set_option maxRecDepth 20000 in
theorem ggL_law_X6_errorPosition : GoodIn wsL_law wsX6_errorPosition := goodIn_r _ [157, 17, 158, 159, 160, 16, 161, 114, 162, 163, 164, 165, 166, 167, 168, 169, 170, 171, 172, 173, 34, 174, 175, 176, 177, 178, 179, 180, 181, 182, 2, 183, 983, 984, 985, 986, 987, 988, 1000, 1001] (by decide +kernel) (by decide +kernel)
set_option maxRecDepth 20000 in
theorem gL_law_X6_errorPosition : GoodIn wsL_law (wsV RL 122 RX6 yX6_errorPosition wsX6_errorPosition) := goodIn_app (goodIn_of _ (by decide +kernel)) ggL_law_X6_errorPosition
set_option maxRecDepth 20000 in
theorem ggL_law_X7_errorPosition : GoodIn wsL_law wsX7_errorPosition := goodIn_r _ [187, 137, 81, 188, 189, 190, 5, 191, 129, 192, 193, 194, 87, 88, 89, 195, 196, 197, 198, 199, 200, 201, 202, 79, 203, 204, 205, 90, 91, 92, 93, 94, 95, 130, 131, 132, 206, 207, 208, 209, 210, 211, 212, 213, 214, 989, 990, 991, 992, 993, 994, 995, 996, 997, 998, 999] (by decide +kernel) (by decide +kernel)
set_option maxRecDepth 20000 in
theorem gL_law_X7_errorPosition : GoodIn wsL_law (wsV RL 125 RX7 yX7_errorPosition wsX7_errorPosition) := goodIn_app (goodIn_of _ (by decide +kernel)) ggL_law_X7_errorPosition
set_option maxRecDepth 20000 in
theorem ggL_law_L_load : GoodIn wsL_law wsL_load := goodIn_ca (goodIn_r _ [217, 101, 218, 219, 220, 2, 221, 108, 109, 17, 21, 26, 29, 158, 159, 160, 16, 161, 114, 162, 163, 164, 165, 166, 167, 168, 169, 170, 171, 172, 173, 34, 174, 175, 176, 177, 178, 179, 180, 181, 182, 183, 222, 223, 224, 20, 225, 41, 54, 63, 226, 227, 228, 229, 230, 231, 232, 233, 234, 235, 42, 43, 44, 45, 46, 47, 48, 49, 40, 50, 51, 52, 53, 55, 56, 57, 58, 59, 60, 61, 62, 64, 65, 66, 67, 236, 237, 238, 25, 239, 240, 241, 242, 243, 244, 983, 984, 985, 986, 987, 988, 1000, 1001, 1002, 1003, 1004, 1005, 1006, 1007, 1008] (by decide +kernel) (by decide +kernel)) (goodIn_sub (fun _ h => List.mem_append_left _ (List.mem_append_right _ h)) (by decide +kernel))
set_option maxRecDepth 20000 in
theorem gL_law_L_load : GoodIn wsL_law (va_wsS RL 126 yL_load wsL_load) := goodIn_app (goodIn_of _ (by decide +kernel)) ggL_law_L_load
set_option maxRecDepth 20000 in
theorem ggL_law_X7_load : GoodIn wsL_law wsX7_load := goodIn_r _ [248, 81, 80, 249, 84, 188, 189, 190, 5, 191, 129, 192, 193, 194, 87, 88, 89, 195, 196, 197, 198, 199, 200, 201, 202, 79, 203, 204, 205, 90, 91, 92, 93, 94, 95, 130, 131, 132, 206, 207, 208, 209, 210, 211, 212, 213, 214, 133, 134, 135, 136, 137, 250, 251, 252, 989, 990, 991, 992, 993, 994, 995, 996, 997, 998, 999] (by decide +kernel) (by decide +kernel)
set_option maxRecDepth 20000 in
theorem gL_law_X7_load : GoodIn wsL_law (wsV RL 129 RX7 yX7_load wsX7_load) := goodIn_app (goodIn_of _ (by decide +kernel)) ggL_law_X7_load
set_option maxRecDepth 20000 in
theorem ggL_law_L_about : GoodIn wsL_law wsL_about := goodIn_ca (goodIn_r _ [255, 100, 256, 257, 258, 2, 259, 106, 107, 21, 241, 242, 243, 20, 244, 41, 260, 261, 262, 263, 54, 264, 265, 266, 267, 268, 269, 270, 271, 272, 273, 274, 275, 55, 56, 57, 58, 40, 276, 277, 278, 279, 280, 281, 282, 283, 284, 285, 286, 287, 288, 289, 290, 291, 292, 293, 294, 295, 296, 297, 298, 299, 300, 301, 302, 303, 63, 304, 305, 306, 307, 308, 309, 310, 311, 312, 313, 314, 315, 316, 317, 318, 319, 320, 321, 322, 323, 324, 325, 326, 327, 328, 329, 983, 984, 985, 986, 987, 988, 1002, 1003, 1004, 1005] (by decide +kernel) (by decide +kernel)) (goodIn_sub (fun _ h => List.mem_append_left _ (List.mem_append_left _ (List.mem_append_right _ h))) (by decide +kernel))
set_option maxRecDepth 20000 in
theorem gL_law_L_about : GoodIn wsL_law (va_wsS RL 130 yL_about wsL_about) := goodIn_app (goodIn_of _ (by decide +kernel)) ggL_law_L_about
set_option maxRecDepth 20000 in
theorem ggL_law_X7_about : GoodIn wsL_law wsX7_about := goodIn_r _ [333, 334, 80, 85, 130, 131, 5, 132, 133, 134, 135, 136, 137, 335, 336, 337, 338, 86, 212, 213, 214, 339, 340, 341, 342, 343, 344, 345, 346, 347, 348, 349, 350, 351, 352, 353, 354, 355, 356, 357, 358, 359, 360, 361, 362, 363, 364, 365, 209, 210, 211, 366, 367, 368, 369, 989, 990, 991, 992, 993, 994, 995, 996, 997, 998, 999] (by decide +kernel) (by decide +kernel)
set_option maxRecDepth 20000 in
theorem gL_law_X7_about : GoodIn wsL_law (wsV RL 132 RX7 yX7_about wsX7_about) := goodIn_app (goodIn_of _ (by decide +kernel)) ggL_law_X7_about
set_option maxRecDepth 20000 in
theorem ggL_law_L_level : GoodIn wsL_law wsL_level := goodIn_ca (goodIn_ca (goodIn_r _ [372, 373, 100, 374, 375, 376, 2, 377, 106, 107, 21, 378, 379, 380, 381, 382, 383, 384, 385, 386, 20, 387, 41, 388, 389, 390, 391, 55, 56, 57, 58, 40, 392, 297, 298, 299, 393, 394, 395, 396, 397, 398, 399, 400, 272, 273, 274, 275, 401, 293, 294, 295, 284, 285, 286, 287, 296, 983, 984, 985, 986, 987, 988, 1002, 1003, 1004, 1005] (by decide +kernel) (by decide +kernel)) (goodIn_sub (fun _ h => List.mem_append_left _ (List.mem_append_left _ (List.mem_append_right _ h))) (by decide +kernel))) (goodIn_sub (fun _ h => List.mem_append_right _ h) (by decide +kernel))
set_option maxRecDepth 20000 in
theorem gL_law_L_level : GoodIn wsL_law (va_wsS RL 133 yL_level wsL_level) := goodIn_app (goodIn_of _ (by decide +kernel)) ggL_law_L_level
set_option maxRecDepth 20000 in
theorem ggL_law_X7_level : GoodIn wsL_law wsX7_level := goodIn_r _ [405, 80, 406, 85, 407, 408, 5, 409, 130, 131, 132, 133, 134, 135, 136, 137, 335, 336, 337, 338, 86, 212, 213, 214, 339, 340, 341, 342, 343, 344, 345, 346, 347, 348, 349, 350, 989, 990, 991, 992, 993, 994, 995, 996, 997, 998, 999] (by decide +kernel) (by decide +kernel)
set_option maxRecDepth 20000 in
theorem gL_law_X7_level : GoodIn wsL_law (wsV RL 136 RX7 yX7_level wsX7_level) := goodIn_app (goodIn_of _ (by decide +kernel)) ggL_law_X7_level
set_option maxRecDepth 20000 in
theorem ggL_law_L_button : GoodIn wsL_law wsL_button := goodIn_ca (goodIn_ca (goodIn_r _ [412, 373, 100, 413, 414, 415, 2, 416, 106, 107, 21, 417, 418, 419, 420, 382, 383, 421, 422, 423, 378, 379, 380, 381, 384, 385, 386, 20, 387, 41, 424, 425, 426, 427, 55, 56, 57, 58, 40, 428, 429, 430, 431, 272, 273, 274, 275, 432, 433, 434, 435, 983, 984, 985, 986, 987, 988, 1002, 1003, 1004, 1005] (by decide +kernel) (by decide +kernel)) (goodIn_sub (fun _ h => List.mem_append_left _ (List.mem_append_left _ (List.mem_append_right _ h))) (by decide +kernel))) (goodIn_sub (fun _ h => List.mem_append_right _ h) (by decide +kernel))
set_option maxRecDepth 20000 in
theorem gL_law_L_button : GoodIn wsL_law (va_wsS RL 137 yL_button wsL_button) := goodIn_app (goodIn_of _ (by decide +kernel)) ggL_law_L_button
set_option maxRecDepth 20000 in
theorem ggL_law_X7_button : GoodIn wsL_law wsX7_button := goodIn_r _ [439, 80, 440, 85, 441, 442, 5, 443, 130, 131, 132, 407, 408, 409, 133, 134, 135, 136, 137, 335, 336, 337, 338, 86, 212, 213, 214, 339, 340, 341, 342, 343, 344, 345, 346, 363, 364, 365, 444, 445, 446, 989, 990, 991, 992, 993, 994, 995, 996, 997, 998, 999] (by decide +kernel) (by decide +kernel)
set_option maxRecDepth 20000 in
theorem gL_law_X7_button : GoodIn wsL_law (wsV RL 140 RX7 yX7_button wsX7_button) := goodIn_app (goodIn_of _ (by decide +kernel)) ggL_law_X7_button
set_option maxRecDepth 20000 in
theorem ggL_law_L_isSkipped : GoodIn wsL_law wsL_isSkipped := goodIn_ca (goodIn_r _ [449, 100, 450, 451, 452, 2, 453, 21, 454, 455, 456, 457, 106, 107, 458, 182, 183, 459, 460, 461, 20, 462, 63, 983, 984, 985, 986, 987, 988, 1002, 1003, 1004, 1005] (by decide +kernel) (by decide +kernel)) (goodIn_sub (fun _ h => List.mem_append_left _ (List.mem_append_left _ (List.mem_append_right _ h))) (by decide +kernel))
set_option maxRecDepth 20000 in
theorem gL_law_L_isSkipped : GoodIn wsL_law (va_wsS RL 141 yL_isSkipped wsL_isSkipped) := goodIn_app (goodIn_of _ (by decide +kernel)) ggL_law_L_isSkipped
set_option maxRecDepth 20000 in
theorem ggL_law_X7_isSkipped : GoodIn wsL_law wsX7_isSkipped := goodIn_r _ [466, 80, 467, 468, 5, 469, 470, 130, 131, 132, 133, 134, 135, 136, 137, 212, 213, 214, 989, 990, 991, 992, 993, 994, 995, 996, 997, 998, 999] (by decide +kernel) (by decide +kernel)
set_option maxRecDepth 20000 in
theorem gL_law_X7_isSkipped : GoodIn wsL_law (wsV RL 143 RX7 yX7_isSkipped wsX7_isSkipped) := goodIn_app (goodIn_of _ (by decide +kernel)) ggL_law_X7_isSkipped
set_option maxRecDepth 20000 in
theorem ggL_law_L_named : GoodIn wsL_law wsL_named := goodIn_ca (goodIn_r _ [473, 100, 474, 475, 476, 2, 477, 106, 107, 21, 478, 479, 480, 20, 481, 41, 284, 285, 286, 287, 55, 56, 57, 58, 40, 296, 297, 298, 299, 983, 984, 985, 986, 987, 988, 1002, 1003, 1004, 1005] (by decide +kernel) (by decide +kernel)) (goodIn_sub (fun _ h => List.mem_append_left _ (List.mem_append_left _ (List.mem_append_right _ h))) (by decide +kernel))
set_option maxRecDepth 20000 in
theorem gL_law_L_named : GoodIn wsL_law (va_wsS RL 144 yL_named wsL_named) := goodIn_app (goodIn_of _ (by decide +kernel)) ggL_law_L_named
set_option maxRecDepth 20000 in
theorem ggL_law_X7_named : GoodIn wsL_law wsX7_named := goodIn_r _ [485, 80, 85, 133, 134, 135, 5, 136, 137, 335, 336, 337, 338, 86, 212, 213, 214, 339, 340, 341, 342, 343, 344, 345, 346, 989, 990, 991, 992, 993, 994, 995, 996, 997, 998, 999] (by decide +kernel) (by decide +kernel)
set_option maxRecDepth 20000 in
theorem gL_law_X7_named : GoodIn wsL_law (wsV RL 146 RX7 yX7_named wsX7_named) := goodIn_app (goodIn_of _ (by decide +kernel)) ggL_law_X7_named
set_option maxRecDepth 20000 in
theorem ggL_law_L_add : GoodIn wsL_law wsL_add := goodIn_ca (goodIn_ca (goodIn_ca (goodIn_r _ [488, 373, 100, 101, 489, 490, 491, 2, 492, 26, 21, 493, 494, 495, 496, 382, 383, 108, 109, 241, 242, 243, 20, 244, 41, 497, 498, 499, 500, 106, 107, 501, 502, 503, 504, 505, 506, 507, 508, 509, 510, 25, 511, 73, 512, 240, 513, 328, 317, 329, 514, 515, 321, 516, 517, 518, 519, 520, 40, 521, 522, 523, 524, 54, 63, 525, 526, 527, 528, 529, 55, 56, 57, 58, 46, 47, 48, 49, 42, 43, 44, 45, 50, 51, 52, 53, 59, 60, 61, 62, 64, 65, 66, 67, 983, 984, 985, 986, 987, 988, 1002, 1003, 1004, 1005, 1006, 1007, 1008] (by decide +kernel) (by decide +kernel)) (goodIn_sub (fun _ h => List.mem_append_right _ h) (by decide +kernel))) (goodIn_sub (fun _ h => List.mem_append_left _ (List.mem_append_right _ h)) (by decide +kernel))) (goodIn_sub (fun _ h => List.mem_append_left _ (List.mem_append_left _ (List.mem_append_right _ h))) (by decide +kernel))
set_option maxRecDepth 20000 in
theorem gL_law_L_add : GoodIn wsL_law (va_wsS RL 147 yL_add wsL_add) := goodIn_app (goodIn_of _ (by decide +kernel)) ggL_law_L_add
set_option maxRecDepth 20000 in
theorem ggL_law_X7_add : GoodIn wsL_law wsX7_add := goodIn_r _ [533, 80, 534, 535, 5, 536, 130, 131, 132, 537, 538, 539, 540, 133, 134, 135, 136, 137, 541, 542, 543, 544, 249, 82, 250, 251, 252, 90, 91, 92, 93, 94, 95, 989, 990, 991, 992, 993, 994, 995, 996, 997, 998, 999] (by decide +kernel) (by decide +kernel)
set_option maxRecDepth 20000 in
theorem gL_law_X7_add : GoodIn wsL_law (wsV RL 149 RX7 yX7_add wsX7_add) := goodIn_app (goodIn_of _ (by decide +kernel)) ggL_law_X7_add
set_option maxRecDepth 20000 in
theorem ggL_law_L_remove : GoodIn wsL_law wsL_remove := goodIn_ca (goodIn_ca (goodIn_r _ [547, 373, 101, 548, 549, 550, 2, 551, 108, 109, 21, 26, 378, 379, 380, 381, 382, 383, 384, 385, 386, 20, 387, 41, 260, 261, 262, 263, 54, 508, 509, 510, 25, 511, 73, 512, 240, 513, 328, 317, 329, 514, 515, 321, 516, 517, 518, 519, 520, 40, 521, 522, 523, 524, 63, 552, 553, 554, 555, 556, 55, 56, 57, 58, 46, 47, 48, 49, 50, 51, 52, 53, 59, 60, 61, 62, 64, 65, 66, 67, 241, 242, 243, 244, 983, 984, 985, 986, 987, 988, 1002, 1003, 1004, 1005, 1006, 1007, 1008] (by decide +kernel) (by decide +kernel)) (goodIn_sub (fun _ h => List.mem_append_left _ (List.mem_append_right _ h)) (by decide +kernel))) (goodIn_sub (fun _ h => List.mem_append_right _ h) (by decide +kernel))
set_option maxRecDepth 20000 in
theorem gL_law_L_remove : GoodIn wsL_law (va_wsS RL 150 yL_remove wsL_remove) := goodIn_app (goodIn_of _ (by decide +kernel)) ggL_law_L_remove
set_option maxRecDepth 20000 in
theorem ggL_law_X7_remove : GoodIn wsL_law wsX7_remove := goodIn_r _ [560, 80, 561, 562, 5, 563, 407, 408, 409, 130, 131, 132, 133, 134, 135, 136, 137, 541, 542, 543, 544, 249, 82, 250, 251, 252, 564, 565, 566, 93, 94, 95, 989, 990, 991, 992, 993, 994, 995, 996, 997, 998, 999] (by decide +kernel) (by decide +kernel)
set_option maxRecDepth 20000 in
theorem gL_law_X7_remove : GoodIn wsL_law (wsV RL 152 RX7 yX7_remove wsX7_remove) := goodIn_app (goodIn_of _ (by decide +kernel)) ggL_law_X7_remove
set_option maxRecDepth 20000 in
theorem ggL_law_L_kind : GoodIn wsL_law wsL_kind := goodIn_ca (goodIn_ca (goodIn_ca (goodIn_r _ [569, 373, 100, 101, 570, 571, 572, 2, 573, 108, 109, 21, 26, 378, 379, 380, 381, 382, 383, 384, 385, 386, 20, 387, 41, 497, 498, 499, 500, 106, 107, 501, 502, 503, 260, 261, 262, 263, 54, 508, 509, 510, 25, 511, 73, 512, 240, 513, 328, 317, 329, 514, 515, 321, 516, 517, 518, 519, 520, 40, 521, 522, 523, 524, 63, 388, 389, 390, 391, 55, 56, 57, 58, 574, 575, 576, 577, 556, 46, 47, 48, 49, 50, 51, 52, 53, 59, 60, 61, 62, 64, 65, 66, 67, 983, 984, 985, 986, 987, 988, 1002, 1003, 1004, 1005, 1006, 1007, 1008] (by decide +kernel) (by decide +kernel)) (goodIn_sub (fun _ h => List.mem_append_left _ (List.mem_append_right _ h)) (by decide +kernel))) (goodIn_sub (fun _ h => List.mem_append_right _ h) (by decide +kernel))) (goodIn_sub (fun _ h => List.mem_append_left _ (List.mem_append_left _ (List.mem_append_right _ h))) (by decide +kernel))
set_option maxRecDepth 20000 in
theorem gL_law_L_kind : GoodIn wsL_law (va_wsS RL 153 yL_kind wsL_kind) := goodIn_app (goodIn_of _ (by decide +kernel)) ggL_law_L_kind
set_option maxRecDepth 20000 in
theorem ggL_law_X7_kind : GoodIn wsL_law wsX7_kind := goodIn_r _ [581, 80, 582, 583, 5, 584, 407, 408, 409, 130, 131, 132, 537, 538, 539, 540, 133, 134, 135, 136, 137, 541, 542, 543, 544, 249, 82, 250, 251, 252, 585, 586, 587, 989, 990, 991, 992, 993, 994, 995, 996, 997, 998, 999] (by decide +kernel) (by decide +kernel)
set_option maxRecDepth 20000 in
theorem gL_law_X7_kind : GoodIn wsL_law (wsV RL 155 RX7 yX7_kind wsX7_kind) := goodIn_app (goodIn_of _ (by decide +kernel)) ggL_law_X7_kind
set_option maxRecDepth 20000 in
theorem ggL_law_L_ground : GoodIn wsL_law wsL_ground := goodIn_ca (goodIn_ca (goodIn_r _ [590, 373, 101, 591, 592, 593, 2, 594, 108, 109, 21, 26, 378, 379, 380, 381, 382, 383, 384, 385, 386, 20, 387, 41, 388, 389, 390, 391, 55, 56, 57, 58, 40, 508, 509, 510, 25, 511, 73, 512, 240, 513, 328, 317, 329, 514, 515, 321, 516, 517, 518, 519, 520, 521, 522, 523, 524, 54, 63, 260, 261, 262, 263, 595, 596, 597, 598, 556, 599, 50, 51, 52, 53, 46, 47, 48, 49, 59, 60, 61, 62, 64, 65, 66, 67, 983, 984, 985, 986, 987, 988, 1002, 1003, 1004, 1005, 1006, 1007, 1008] (by decide +kernel) (by decide +kernel)) (goodIn_sub (fun _ h => List.mem_append_left _ (List.mem_append_right _ h)) (by decide +kernel))) (goodIn_sub (fun _ h => List.mem_append_right _ h) (by decide +kernel))
set_option maxRecDepth 20000 in
theorem gL_law_L_ground : GoodIn wsL_law (va_wsS RL 156 yL_ground wsL_ground) := goodIn_app (goodIn_of _ (by decide +kernel)) ggL_law_L_ground
set_option maxRecDepth 20000 in
theorem ggL_law_X7_ground : GoodIn wsL_law wsX7_ground := goodIn_r _ [603, 80, 604, 605, 5, 606, 407, 408, 409, 130, 131, 132, 133, 134, 135, 136, 137, 541, 542, 543, 544, 249, 82, 250, 251, 252, 585, 586, 587, 989, 990, 991, 992, 993, 994, 995, 996, 997, 998, 999] (by decide +kernel) (by decide +kernel)
set_option maxRecDepth 20000 in
theorem gL_law_X7_ground : GoodIn wsL_law (wsV RL 158 RX7 yX7_ground wsX7_ground) := goodIn_app (goodIn_of _ (by decide +kernel)) ggL_law_X7_ground
set_option maxRecDepth 20000 in
theorem ggL_law_L_skip : GoodIn wsL_law wsL_skip := goodIn_ca (goodIn_r _ [609, 100, 610, 611, 612, 2, 613, 26, 21, 454, 455, 456, 457, 106, 107, 458, 182, 183, 508, 509, 510, 25, 511, 73, 512, 240, 513, 328, 317, 329, 514, 515, 321, 516, 517, 518, 519, 20, 520, 40, 521, 522, 523, 524, 41, 54, 63, 614, 615, 616, 617, 50, 51, 52, 53, 46, 47, 48, 49, 55, 56, 57, 58, 59, 60, 61, 62, 64, 65, 66, 67, 300, 301, 302, 303, 304, 305, 306, 307, 308, 309, 310, 983, 984, 985, 986, 987, 988, 1006, 1007, 1008, 1002, 1003, 1004, 1005] (by decide +kernel) (by decide +kernel)) (goodIn_sub (fun _ h => List.mem_append_left _ (List.mem_append_left _ (List.mem_append_right _ h))) (by decide +kernel))
set_option maxRecDepth 20000 in
theorem gL_law_L_skip : GoodIn wsL_law (va_wsS RL 159 yL_skip wsL_skip) := goodIn_app (goodIn_of _ (by decide +kernel)) ggL_law_L_skip
set_option maxRecDepth 20000 in
theorem ggL_law_X7_skip : GoodIn wsL_law wsX7_skip := goodIn_r _ [621, 80, 467, 468, 5, 469, 470, 130, 131, 132, 133, 134, 135, 136, 137, 541, 542, 543, 544, 249, 82, 250, 251, 252, 206, 207, 208, 209, 210, 211, 212, 213, 214, 989, 990, 991, 992, 993, 994, 995, 996, 997, 998, 999] (by decide +kernel) (by decide +kernel)
set_option maxRecDepth 20000 in
theorem gL_law_X7_skip : GoodIn wsL_law (wsV RL 162 RX7 yX7_skip wsX7_skip) := goodIn_app (goodIn_of _ (by decide +kernel)) ggL_law_X7_skip
set_option maxRecDepth 20000 in
theorem ggL_law_L_serve : GoodIn wsL_law wsL_serve := goodIn_ca (goodIn_r _ [624, 373, 625, 626, 627, 2, 628, 26, 21, 417, 418, 419, 420, 382, 383, 421, 422, 423, 378, 379, 380, 381, 384, 385, 386, 20, 387, 41, 508, 509, 510, 25, 511, 73, 512, 240, 513, 328, 317, 329, 514, 515, 321, 516, 517, 518, 519, 520, 40, 521, 522, 523, 524, 54, 63, 629, 630, 631, 632, 556, 46, 47, 48, 49, 633, 634, 635, 636, 637, 433, 434, 435, 55, 56, 57, 58, 983, 984, 985, 986, 987, 988, 1002, 1003, 1004, 1005, 1006, 1007, 1008] (by decide +kernel) (by decide +kernel)) (goodIn_sub (fun _ h => List.mem_append_right _ h) (by decide +kernel))
set_option maxRecDepth 20000 in
theorem gL_law_L_serve : GoodIn wsL_law (va_wsS RL 163 yL_serve wsL_serve) := goodIn_app (goodIn_of _ (by decide +kernel)) ggL_law_L_serve
set_option maxRecDepth 20000 in
theorem ggL_law_X7_serve : GoodIn wsL_law wsX7_serve := goodIn_r _ [641, 80, 441, 442, 5, 443, 440, 130, 131, 132, 407, 408, 409, 133, 134, 135, 136, 137, 541, 542, 543, 544, 249, 82, 250, 251, 252, 642, 643, 644, 444, 445, 446, 989, 990, 991, 992, 993, 994, 995, 996, 997, 998, 999] (by decide +kernel) (by decide +kernel)
set_option maxRecDepth 20000 in
theorem gL_law_X7_serve : GoodIn wsL_law (wsV RL 166 RX7 yX7_serve wsX7_serve) := goodIn_app (goodIn_of _ (by decide +kernel)) ggL_law_X7_serve
set_option maxRecDepth 20000 in
theorem ggL_law_L_putSign : GoodIn wsL_law wsL_putSign := goodIn_ca (goodIn_r _ [647, 373, 648, 649, 650, 2, 651, 26, 21, 378, 379, 380, 381, 382, 383, 384, 385, 386, 20, 387, 41, 508, 509, 510, 25, 511, 73, 512, 240, 513, 328, 317, 329, 514, 515, 321, 516, 517, 518, 519, 520, 40, 521, 522, 523, 524, 54, 63, 393, 394, 395, 396, 55, 56, 57, 58, 652, 653, 654, 655, 556, 46, 47, 48, 49, 983, 984, 985, 986, 987, 988, 1002, 1003, 1004, 1005, 1006, 1007, 1008] (by decide +kernel) (by decide +kernel)) (goodIn_sub (fun _ h => List.mem_append_right _ h) (by decide +kernel))
set_option maxRecDepth 20000 in
theorem gL_law_L_putSign : GoodIn wsL_law (va_wsS RL 167 yL_putSign wsL_putSign) := goodIn_app (goodIn_of _ (by decide +kernel)) ggL_law_L_putSign
set_option maxRecDepth 20000 in
theorem ggL_law_X7_putSign : GoodIn wsL_law wsX7_putSign := goodIn_r _ [659, 80, 407, 408, 5, 409, 130, 131, 132, 133, 134, 135, 136, 137, 541, 542, 543, 544, 249, 82, 250, 251, 252, 660, 661, 662, 663, 85, 335, 336, 337, 338, 86, 212, 213, 214, 339, 340, 341, 342, 343, 344, 345, 346, 989, 990, 991, 992, 993, 994, 995, 996, 997, 998, 999] (by decide +kernel) (by decide +kernel)
set_option maxRecDepth 20000 in
theorem gL_law_X7_putSign : GoodIn wsL_law (wsV RL 169 RX7 yX7_putSign wsX7_putSign) := goodIn_app (goodIn_of _ (by decide +kernel)) ggL_law_X7_putSign
set_option maxRecDepth 20000 in
theorem ggL_law_L_putButton : GoodIn wsL_law wsL_putButton := goodIn_ca (goodIn_r _ [666, 373, 667, 668, 669, 2, 670, 26, 21, 417, 418, 419, 420, 382, 383, 421, 422, 423, 378, 379, 380, 381, 384, 385, 386, 20, 387, 41, 508, 509, 510, 25, 511, 73, 512, 240, 513, 328, 317, 329, 514, 515, 321, 516, 517, 518, 519, 520, 40, 521, 522, 523, 524, 54, 63, 424, 425, 426, 427, 55, 56, 57, 58, 671, 672, 673, 674, 556, 46, 47, 48, 49, 983, 984, 985, 986, 987, 988, 1002, 1003, 1004, 1005, 1006, 1007, 1008] (by decide +kernel) (by decide +kernel)) (goodIn_sub (fun _ h => List.mem_append_right _ h) (by decide +kernel))
set_option maxRecDepth 20000 in
theorem gL_law_L_putButton : GoodIn wsL_law (va_wsS RL 170 yL_putButton wsL_putButton) := goodIn_app (goodIn_of _ (by decide +kernel)) ggL_law_L_putButton
set_option maxRecDepth 20000 in
theorem ggL_law_X7_putButton : GoodIn wsL_law wsX7_putButton := goodIn_r _ [678, 80, 441, 442, 5, 443, 440, 130, 131, 132, 407, 408, 409, 133, 134, 135, 136, 137, 541, 542, 543, 544, 249, 82, 250, 251, 252, 679, 680, 681, 682, 85, 335, 336, 337, 338, 86, 212, 213, 214, 339, 340, 341, 342, 343, 344, 345, 346, 363, 364, 365, 989, 990, 991, 992, 993, 994, 995, 996, 997, 998, 999] (by decide +kernel) (by decide +kernel)
set_option maxRecDepth 20000 in
theorem gL_law_X7_putButton : GoodIn wsL_law (wsV RL 172 RX7 yX7_putButton wsX7_putButton) := goodIn_app (goodIn_of _ (by decide +kernel)) ggL_law_X7_putButton
set_option maxRecDepth 20000 in
theorem ggL_law_L_putCar : GoodIn wsL_law wsL_putCar := goodIn_ca (goodIn_r _ [685, 373, 686, 687, 688, 2, 689, 26, 21, 417, 418, 419, 420, 382, 383, 421, 422, 423, 508, 509, 510, 25, 511, 73, 512, 240, 513, 328, 317, 329, 514, 515, 321, 516, 517, 518, 519, 20, 520, 40, 521, 522, 523, 524, 41, 54, 63, 690, 691, 692, 693, 268, 269, 270, 271, 272, 273, 274, 275, 55, 56, 57, 58, 694, 695, 696, 697, 46, 47, 48, 49, 983, 984, 985, 986, 987, 988, 1006, 1007, 1008, 1002, 1003, 1004, 1005] (by decide +kernel) (by decide +kernel)) (goodIn_sub (fun _ h => List.mem_append_right _ h) (by decide +kernel))
set_option maxRecDepth 20000 in
theorem gL_law_L_putCar : GoodIn wsL_law (va_wsS RL 173 yL_putCar wsL_putCar) := goodIn_app (goodIn_of _ (by decide +kernel)) ggL_law_L_putCar
set_option maxRecDepth 20000 in
theorem ggL_law_X7_putCar : GoodIn wsL_law wsX7_putCar := goodIn_r _ [701, 80, 441, 442, 5, 443, 440, 130, 131, 132, 133, 134, 135, 136, 137, 541, 542, 543, 544, 249, 82, 250, 251, 252, 702, 703, 704, 705, 85, 335, 336, 337, 338, 86, 212, 213, 214, 339, 340, 341, 342, 343, 344, 345, 346, 359, 360, 361, 362, 363, 364, 365, 989, 990, 991, 992, 993, 994, 995, 996, 997, 998, 999] (by decide +kernel) (by decide +kernel)
set_option maxRecDepth 20000 in
theorem gL_law_X7_putCar : GoodIn wsL_law (wsV RL 175 RX7 yX7_putCar wsX7_putCar) := goodIn_app (goodIn_of _ (by decide +kernel)) ggL_law_X7_putCar
set_option maxRecDepth 20000 in
theorem ggL_law_L_exchange : GoodIn wsL_law wsL_exchange := goodIn_ca (goodIn_r _ [708, 373, 709, 710, 711, 2, 712, 26, 21, 417, 418, 419, 420, 382, 383, 421, 422, 423, 378, 379, 380, 381, 384, 385, 386, 20, 387, 41, 508, 509, 510, 25, 511, 73, 512, 240, 513, 328, 317, 329, 514, 515, 321, 516, 517, 518, 519, 520, 40, 521, 522, 523, 524, 54, 63, 713, 714, 715, 716, 556, 717, 425, 426, 427, 55, 56, 57, 58, 46, 47, 48, 49, 428, 429, 430, 431, 272, 273, 274, 275, 983, 984, 985, 986, 987, 988, 1002, 1003, 1004, 1005, 1006, 1007, 1008] (by decide +kernel) (by decide +kernel)) (goodIn_sub (fun _ h => List.mem_append_right _ h) (by decide +kernel))
set_option maxRecDepth 20000 in
theorem gL_law_L_exchange : GoodIn wsL_law (va_wsS RL 176 yL_exchange wsL_exchange) := goodIn_app (goodIn_of _ (by decide +kernel)) ggL_law_L_exchange
set_option maxRecDepth 20000 in
theorem ggL_law_X7_exchange : GoodIn wsL_law wsX7_exchange := goodIn_r _ [721, 80, 441, 442, 5, 443, 440, 130, 131, 132, 407, 408, 409, 133, 134, 135, 136, 137, 541, 542, 543, 544, 249, 82, 250, 251, 252, 722, 723, 724, 725, 85, 363, 364, 365, 335, 336, 337, 338, 86, 212, 213, 214, 339, 340, 341, 342, 343, 344, 345, 346, 989, 990, 991, 992, 993, 994, 995, 996, 997, 998, 999] (by decide +kernel) (by decide +kernel)
set_option maxRecDepth 20000 in
theorem gL_law_X7_exchange : GoodIn wsL_law (wsV RL 178 RX7 yX7_exchange wsX7_exchange) := goodIn_app (goodIn_of _ (by decide +kernel)) ggL_law_X7_exchange
set_option maxRecDepth 20000 in
theorem ggL_law_L_undo : GoodIn wsL_law wsL_undo := goodIn_ca (goodIn_r _ [728, 101, 729, 730, 731, 2, 732, 108, 109, 26, 21, 733, 734, 735, 25, 736, 240, 737, 738, 739, 740, 512, 73, 514, 515, 321, 516, 517, 518, 519, 20, 520, 40, 521, 522, 523, 524, 41, 54, 63, 741, 742, 743, 744, 983, 984, 985, 986, 987, 988, 1006, 1007, 1008, 1002, 1003, 1004, 1005] (by decide +kernel) (by decide +kernel)) (goodIn_sub (fun _ h => List.mem_append_left _ (List.mem_append_right _ h)) (by decide +kernel))
set_option maxRecDepth 20000 in
theorem gL_law_L_undo : GoodIn wsL_law (va_wsS RL 179 yL_undo wsL_undo) := goodIn_app (goodIn_of _ (by decide +kernel)) ggL_law_L_undo
set_option maxRecDepth 20000 in
theorem ggL_law_X7_undo : GoodIn wsL_law wsX7_undo := goodIn_r _ [748, 249, 82, 80, 133, 134, 135, 5, 136, 137, 250, 251, 252, 989, 990, 991, 992, 993, 994, 995, 996, 997, 998, 999] (by decide +kernel) (by decide +kernel)
set_option maxRecDepth 20000 in
theorem gL_law_X7_undo : GoodIn wsL_law (wsV RL 181 RX7 yX7_undo wsX7_undo) := goodIn_app (goodIn_of _ (by decide +kernel)) ggL_law_X7_undo
set_option maxRecDepth 20000 in
theorem ggL_law_L_goes : GoodIn wsL_law wsL_goes := goodIn_ca (goodIn_r _ [751, 373, 752, 753, 754, 2, 755, 21, 417, 418, 419, 420, 382, 383, 421, 422, 423, 378, 379, 380, 381, 384, 385, 386, 20, 387, 41, 756, 757, 758, 759, 760, 761, 762, 763, 55, 56, 57, 58, 40, 764, 242, 243, 244, 765, 425, 426, 427, 983, 984, 985, 986, 987, 988, 1002, 1003, 1004, 1005] (by decide +kernel) (by decide +kernel)) (goodIn_sub (fun _ h => List.mem_append_right _ h) (by decide +kernel))
set_option maxRecDepth 20000 in
theorem gL_law_L_goes : GoodIn wsL_law (va_wsS RL 182 yL_goes wsL_goes) := goodIn_app (goodIn_of _ (by decide +kernel)) ggL_law_L_goes
set_option maxRecDepth 20000 in
theorem ggL_law_X7_goes : GoodIn wsL_law wsX7_goes := goodIn_r _ [769, 80, 441, 442, 5, 443, 440, 130, 131, 132, 407, 408, 409, 133, 134, 135, 136, 137, 335, 336, 337, 338, 86, 85, 212, 213, 214, 339, 340, 341, 342, 343, 344, 345, 346, 770, 771, 772, 773, 774, 775, 776, 777, 444, 445, 446, 363, 364, 365, 989, 990, 991, 992, 993, 994, 995, 996, 997, 998, 999] (by decide +kernel) (by decide +kernel)
set_option maxRecDepth 20000 in
theorem gL_law_X7_goes : GoodIn wsL_law (wsV RL 184 RX7 yX7_goes wsX7_goes) := goodIn_app (goodIn_of _ (by decide +kernel)) ggL_law_X7_goes
set_option maxRecDepth 20000 in
theorem ggL_law_L_astray : GoodIn wsL_law wsL_astray := goodIn_ca (goodIn_r _ [780, 373, 781, 782, 783, 2, 784, 21, 417, 418, 419, 420, 382, 383, 421, 422, 423, 785, 786, 758, 787, 764, 242, 243, 20, 244, 41, 760, 761, 762, 763, 55, 56, 57, 58, 40, 765, 425, 426, 427, 788, 757, 759, 983, 984, 985, 986, 987, 988, 1002, 1003, 1004, 1005] (by decide +kernel) (by decide +kernel)) (goodIn_sub (fun _ h => List.mem_append_right _ h) (by decide +kernel))
set_option maxRecDepth 20000 in
theorem gL_law_L_astray : GoodIn wsL_law (va_wsS RL 185 yL_astray wsL_astray) := goodIn_app (goodIn_of _ (by decide +kernel)) ggL_law_L_astray
set_option maxRecDepth 20000 in
theorem ggL_law_X7_astray : GoodIn wsL_law wsX7_astray := goodIn_r _ [792, 80, 441, 442, 5, 443, 440, 130, 131, 132, 133, 134, 135, 136, 137, 335, 336, 337, 338, 86, 85, 212, 213, 214, 339, 340, 341, 342, 343, 344, 345, 346, 793, 794, 795, 796, 774, 775, 776, 777, 444, 445, 446, 363, 364, 365, 770, 771, 772, 773, 989, 990, 991, 992, 993, 994, 995, 996, 997, 998, 999] (by decide +kernel) (by decide +kernel)
set_option maxRecDepth 20000 in
theorem gL_law_X7_astray : GoodIn wsL_law (wsV RL 187 RX7 yX7_astray wsX7_astray) := goodIn_app (goodIn_of _ (by decide +kernel)) ggL_law_X7_astray
set_option maxRecDepth 20000 in
theorem ggL_law_L_rides : GoodIn wsL_law wsL_rides := goodIn_ca (goodIn_r _ [799, 373, 800, 801, 802, 2, 803, 21, 378, 379, 380, 381, 382, 383, 384, 385, 386, 20, 387, 41, 804, 805, 758, 806, 807, 808, 809, 764, 242, 243, 244, 810, 811, 812, 765, 425, 426, 427, 55, 56, 57, 58, 40, 788, 757, 759, 760, 761, 762, 763, 983, 984, 985, 986, 987, 988, 1002, 1003, 1004, 1005] (by decide +kernel) (by decide +kernel)) (goodIn_sub (fun _ h => List.mem_append_right _ h) (by decide +kernel))
set_option maxRecDepth 20000 in
theorem gL_law_L_rides : GoodIn wsL_law (va_wsS RL 188 yL_rides wsL_rides) := goodIn_app (goodIn_of _ (by decide +kernel)) ggL_law_L_rides
set_option maxRecDepth 20000 in
theorem ggL_law_X7_rides : GoodIn wsL_law wsX7_rides := goodIn_r _ [816, 80, 407, 408, 5, 409, 130, 131, 132, 133, 134, 135, 136, 137, 335, 336, 337, 338, 86, 85, 212, 213, 214, 339, 340, 341, 342, 343, 344, 345, 346, 817, 818, 819, 820, 363, 364, 365, 770, 771, 772, 773, 774, 775, 776, 777, 444, 445, 446, 989, 990, 991, 992, 993, 994, 995, 996, 997, 998, 999] (by decide +kernel) (by decide +kernel)
set_option maxRecDepth 20000 in
theorem gL_law_X7_rides : GoodIn wsL_law (wsV RL 190 RX7 yX7_rides wsX7_rides) := goodIn_app (goodIn_of _ (by decide +kernel)) ggL_law_X7_rides
set_option maxRecDepth 20000 in
theorem ggL_law_L_ifSkipped : GoodIn wsL_law wsL_ifSkipped := goodIn_ca (goodIn_r _ [823, 100, 824, 825, 826, 2, 827, 454, 455, 456, 457, 106, 107, 458, 182, 183, 828, 829, 830, 831, 22, 21, 832, 518, 519, 20, 520, 40, 521, 522, 523, 524, 41, 54, 63, 459, 460, 461, 462, 614, 615, 616, 617, 50, 51, 52, 53, 46, 47, 48, 49, 55, 56, 57, 58, 59, 60, 61, 62, 64, 65, 66, 67, 833, 834, 835, 836, 268, 269, 270, 271, 272, 273, 274, 275, 983, 984, 985, 986, 987, 988, 1002, 1003, 1004, 1005] (by decide +kernel) (by decide +kernel)) (goodIn_sub (fun _ h => List.mem_append_left _ (List.mem_append_left _ (List.mem_append_right _ h))) (by decide +kernel))
set_option maxRecDepth 20000 in
theorem gL_law_L_ifSkipped : GoodIn wsL_law (va_wsS RL 191 yL_ifSkipped wsL_ifSkipped) := goodIn_app (goodIn_of _ (by decide +kernel)) ggL_law_L_ifSkipped
set_option maxRecDepth 20000 in
theorem ggL_law_X7_ifSkipped : GoodIn wsL_law wsX7_ifSkipped := goodIn_r _ [840, 467, 468, 5, 469, 470, 130, 131, 132, 133, 134, 135, 136, 137, 841, 842, 843, 844, 80, 81, 250, 251, 252, 212, 213, 214, 206, 207, 208, 209, 210, 211, 355, 356, 357, 358, 335, 336, 337, 338, 86, 85, 339, 340, 341, 342, 343, 344, 345, 346, 351, 352, 353, 354, 359, 360, 361, 362, 363, 364, 365, 989, 990, 991, 992, 993, 994, 995, 996, 997, 998, 999] (by decide +kernel) (by decide +kernel)
set_option maxRecDepth 20000 in
theorem gL_law_X7_ifSkipped : GoodIn wsL_law (wsV RL 193 RX7 yX7_ifSkipped wsX7_ifSkipped) := goodIn_app (goodIn_of _ (by decide +kernel)) ggL_law_X7_ifSkipped
set_option maxRecDepth 20000 in
theorem ggL_law_X6_bestSkip : GoodIn wsL_law wsX6_bestSkip := goodIn_r _ [848, 21, 833, 834, 835, 20, 836, 268, 269, 270, 271, 41, 272, 273, 274, 275, 55, 56, 57, 58, 40, 828, 829, 830, 2, 831, 22, 832, 518, 519, 520, 521, 522, 523, 524, 54, 63, 459, 460, 461, 462, 182, 183, 614, 615, 616, 617, 50, 51, 52, 53, 46, 47, 48, 49, 59, 60, 61, 62, 64, 65, 66, 67, 983, 984, 985, 986, 987, 988, 1002, 1003, 1004, 1005] (by decide +kernel) (by decide +kernel)
set_option maxRecDepth 20000 in
theorem gL_law_X6_bestSkip : GoodIn wsL_law (wsV RL 194 RX6 yX6_bestSkip wsX6_bestSkip) := goodIn_app (goodIn_of _ (by decide +kernel)) ggL_law_X6_bestSkip
set_option maxRecDepth 20000 in
theorem ggL_law_X7_bestSkip : GoodIn wsL_law wsX7_bestSkip := goodIn_r _ [852, 137, 80, 355, 356, 357, 5, 358, 335, 336, 337, 338, 86, 85, 212, 213, 214, 339, 340, 341, 342, 343, 344, 345, 346, 351, 352, 353, 354, 359, 360, 361, 362, 363, 364, 365, 841, 842, 843, 844, 81, 250, 251, 252, 206, 207, 208, 209, 210, 211, 989, 990, 991, 992, 993, 994, 995, 996, 997, 998, 999] (by decide +kernel) (by decide +kernel)
set_option maxRecDepth 20000 in
theorem gL_law_X7_bestSkip : GoodIn wsL_law (wsV RL 197 RX7 yX7_bestSkip wsX7_bestSkip) := goodIn_app (goodIn_of _ (by decide +kernel)) ggL_law_X7_bestSkip
set_option maxRecDepth 20000 in
theorem ggL_law_L_ifAdded : GoodIn wsL_law wsL_ifAdded := goodIn_ca (goodIn_ca (goodIn_ca (goodIn_r _ [855, 373, 100, 101, 856, 857, 858, 2, 859, 22, 21, 493, 494, 495, 496, 382, 383, 108, 109, 241, 242, 243, 20, 244, 41, 497, 498, 499, 500, 106, 107, 501, 502, 503, 504, 505, 506, 507, 832, 518, 519, 520, 40, 521, 522, 523, 524, 54, 63, 525, 526, 527, 528, 529, 55, 56, 57, 58, 46, 47, 48, 49, 42, 43, 44, 45, 50, 51, 52, 53, 59, 60, 61, 62, 64, 65, 66, 67, 833, 834, 835, 836, 268, 269, 270, 271, 272, 273, 274, 275, 860, 861, 862, 863, 983, 984, 985, 986, 987, 988, 1002, 1003, 1004, 1005] (by decide +kernel) (by decide +kernel)) (goodIn_sub (fun _ h => List.mem_append_right _ h) (by decide +kernel))) (goodIn_sub (fun _ h => List.mem_append_left _ (List.mem_append_right _ h)) (by decide +kernel))) (goodIn_sub (fun _ h => List.mem_append_left _ (List.mem_append_left _ (List.mem_append_right _ h))) (by decide +kernel))
set_option maxRecDepth 20000 in
theorem gL_law_L_ifAdded : GoodIn wsL_law (va_wsS RL 198 yL_ifAdded wsL_ifAdded) := goodIn_app (goodIn_of _ (by decide +kernel)) ggL_law_L_ifAdded
set_option maxRecDepth 20000 in
theorem ggL_law_X7_ifAdded : GoodIn wsL_law wsX7_ifAdded := goodIn_r _ [867, 80, 81, 85, 534, 535, 5, 536, 130, 131, 132, 537, 538, 539, 540, 133, 134, 135, 136, 137, 250, 251, 252, 90, 91, 92, 93, 94, 95, 355, 356, 357, 358, 335, 336, 337, 338, 86, 212, 213, 214, 339, 340, 341, 342, 343, 344, 345, 346, 351, 352, 353, 354, 359, 360, 361, 362, 363, 364, 365, 989, 990, 991, 992, 993, 994, 995, 996, 997, 998, 999] (by decide +kernel) (by decide +kernel)
set_option maxRecDepth 20000 in
theorem gL_law_X7_ifAdded : GoodIn wsL_law (wsV RL 200 RX7 yX7_ifAdded wsX7_ifAdded) := goodIn_app (goodIn_of _ (by decide +kernel)) ggL_law_X7_ifAdded
set_option maxRecDepth 20000 in
theorem ggL_law_X6_worst : GoodIn wsL_law wsX6_worst := goodIn_r _ [871, 21, 785, 786, 758, 787, 764, 242, 243, 20, 244, 41, 760, 761, 762, 763, 55, 56, 57, 58, 40, 765, 425, 426, 427, 788, 757, 759, 983, 984, 985, 986, 987, 988, 1002, 1003, 1004, 1005] (by decide +kernel) (by decide +kernel)
set_option maxRecDepth 20000 in
theorem gL_law_X6_worst : GoodIn wsL_law (wsV RL 201 RX6 yX6_worst wsX6_worst) := goodIn_app (goodIn_of _ (by decide +kernel)) ggL_law_X6_worst
set_option maxRecDepth 20000 in
theorem ggL_law_X7_worst : GoodIn wsL_law wsX7_worst := goodIn_r _ [875, 137, 80, 335, 336, 337, 5, 338, 86, 85, 212, 213, 214, 339, 340, 341, 342, 343, 344, 345, 346, 793, 794, 795, 796, 774, 775, 776, 777, 444, 445, 446, 363, 364, 365, 770, 771, 772, 773, 989, 990, 991, 992, 993, 994, 995, 996, 997, 998, 999] (by decide +kernel) (by decide +kernel)
set_option maxRecDepth 20000 in
theorem gL_law_X7_worst : GoodIn wsL_law (wsV RL 204 RX7 yX7_worst wsX7_worst) := goodIn_app (goodIn_of _ (by decide +kernel)) ggL_law_X7_worst
set_option maxRecDepth 20000 in
theorem ggL_law_L_runScript : GoodIn wsL_law wsL_runScript := goodIn_ca (goodIn_r _ [878, 100, 879, 880, 881, 2, 882, 106, 107, 22, 21, 883, 884, 885, 886, 887, 832, 518, 519, 20, 520, 40, 521, 522, 523, 524, 41, 54, 63, 888, 889, 890, 891, 892, 893, 894, 895, 896, 897, 526, 527, 528, 502, 503, 529, 505, 506, 507, 55, 56, 57, 58, 46, 47, 48, 49, 42, 43, 44, 45, 50, 51, 52, 53, 59, 60, 61, 62, 64, 65, 66, 67, 898, 553, 554, 555, 556, 385, 386, 387, 899, 575, 576, 577, 900, 615, 616, 617, 182, 183, 901, 653, 654, 655, 902, 672, 673, 674, 422, 423, 903, 695, 696, 697, 904, 905, 429, 430, 431, 272, 273, 274, 275, 906, 834, 835, 836, 268, 269, 270, 271, 983, 984, 985, 986, 987, 988, 1002, 1003, 1004, 1005] (by decide +kernel) (by decide +kernel)) (goodIn_sub (fun _ h => List.mem_append_left _ (List.mem_append_left _ (List.mem_append_right _ h))) (by decide +kernel))
set_option maxRecDepth 20000 in
theorem gL_law_L_runScript : GoodIn wsL_law (va_wsS RL 207 yL_runScript wsL_runScript) := goodIn_app (goodIn_of _ (by decide +kernel)) ggL_law_L_runScript
set_option maxRecDepth 20000 in
theorem ggL_law_X7_runScript : GoodIn wsL_law wsX7_runScript := goodIn_r _ [910, 911, 540, 80, 81, 130, 131, 5, 132, 133, 134, 135, 136, 137, 250, 251, 252, 912, 913, 914, 915, 85, 534, 535, 536, 537, 538, 539, 90, 91, 92, 93, 94, 95, 561, 562, 563, 407, 408, 409, 564, 565, 566, 582, 583, 584, 585, 586, 587, 467, 468, 469, 470, 206, 207, 208, 209, 210, 211, 212, 213, 214, 660, 661, 662, 663, 335, 336, 337, 338, 86, 339, 340, 341, 342, 343, 344, 345, 346, 441, 442, 443, 440, 679, 680, 681, 682, 363, 364, 365, 702, 703, 704, 705, 359, 360, 361, 362, 355, 356, 357, 358, 351, 352, 353, 354, 989, 990, 991, 992, 993, 994, 995, 996, 997, 998, 999] (by decide +kernel) (by decide +kernel)
set_option maxRecDepth 20000 in
theorem gL_law_X7_runScript : GoodIn wsL_law (wsV RL 210 RX7 yX7_runScript wsX7_runScript) := goodIn_app (goodIn_of _ (by decide +kernel)) ggL_law_X7_runScript
set_option maxRecDepth 20000 in
theorem ggL_law_L_simulate : GoodIn wsL_law wsL_simulate := goodIn_ca (goodIn_r _ [918, 100, 919, 920, 921, 2, 922, 106, 107, 22, 21, 832, 518, 519, 20, 520, 40, 521, 522, 523, 524, 41, 54, 63, 923, 924, 925, 926, 927, 928, 929, 930, 931, 932, 526, 527, 528, 502, 503, 529, 505, 506, 507, 55, 56, 57, 58, 46, 47, 48, 49, 42, 43, 44, 45, 50, 51, 52, 53, 59, 60, 61, 62, 64, 65, 66, 67, 933, 553, 554, 555, 556, 385, 386, 387, 934, 575, 576, 577, 935, 596, 597, 598, 599, 389, 390, 391, 936, 615, 616, 617, 182, 183, 937, 630, 631, 632, 422, 423, 938, 653, 654, 655, 939, 695, 696, 697, 940, 714, 715, 716, 717, 425, 426, 427, 941, 672, 673, 674, 833, 834, 835, 836, 268, 269, 270, 271, 272, 273, 274, 275, 241, 242, 243, 244, 983, 984, 985, 986, 987, 988, 1002, 1003, 1004, 1005] (by decide +kernel) (by decide +kernel)) (goodIn_sub (fun _ h => List.mem_append_left _ (List.mem_append_left _ (List.mem_append_right _ h))) (by decide +kernel))
set_option maxRecDepth 20000 in
theorem gL_law_L_simulate : GoodIn wsL_law (va_wsS RL 211 yL_simulate wsL_simulate) := goodIn_app (goodIn_of _ (by decide +kernel)) ggL_law_L_simulate
set_option maxRecDepth 20000 in
theorem ggL_law_X7_simulate : GoodIn wsL_law wsX7_simulate := goodIn_r _ [945, 946, 80, 81, 947, 948, 130, 131, 5, 132, 133, 134, 135, 136, 137, 250, 251, 252, 949, 950, 951, 952, 534, 535, 536, 537, 538, 539, 540, 90, 91, 92, 93, 94, 95, 561, 562, 563, 407, 408, 409, 564, 565, 566, 582, 583, 584, 604, 605, 606, 206, 207, 208, 209, 210, 211, 212, 213, 214, 642, 643, 644, 444, 445, 446, 953, 954, 955, 956, 702, 703, 704, 705, 85, 335, 336, 337, 338, 86, 339, 340, 341, 342, 343, 344, 345, 346, 359, 360, 361, 362, 363, 364, 365, 660, 661, 662, 663, 679, 680, 681, 682, 722, 723, 724, 725, 355, 356, 357, 358, 351, 352, 353, 354, 989, 990, 991, 992, 993, 994, 995, 996, 997, 998, 999] (by decide +kernel) (by decide +kernel)
set_option maxRecDepth 20000 in
theorem gL_law_X7_simulate : GoodIn wsL_law (wsV RL 214 RX7 yX7_simulate wsX7_simulate) := goodIn_app (goodIn_of _ (by decide +kernel)) ggL_law_X7_simulate
set_option maxRecDepth 20000 in
theorem ggL_law_L_save : GoodIn wsL_law wsL_save := goodIn_ca (goodIn_r _ [959, 373, 960, 961, 962, 2, 963, 27, 21, 29, 964, 965, 966, 967, 382, 383, 832, 518, 519, 20, 520, 40, 521, 522, 523, 524, 41, 54, 63, 241, 242, 243, 244, 983, 984, 985, 986, 987, 988, 1002, 1003, 1004, 1005] (by decide +kernel) (by decide +kernel)) (goodIn_sub (fun _ h => List.mem_append_right _ h) (by decide +kernel))
set_option maxRecDepth 20000 in
theorem gL_law_L_save : GoodIn wsL_law (va_wsS RL 215 yL_save wsL_save) := goodIn_app (goodIn_of _ (by decide +kernel)) ggL_law_L_save
set_option maxRecDepth 20000 in
theorem ggL_law_X7_save : GoodIn wsL_law wsX7_save := goodIn_r _ [971, 80, 83, 84, 130, 131, 5, 132, 133, 134, 135, 136, 137, 250, 251, 252, 989, 990, 991, 992, 993, 994, 995, 996, 997, 998, 999] (by decide +kernel) (by decide +kernel)
set_option maxRecDepth 20000 in
theorem gL_law_X7_save : GoodIn wsL_law (wsV RL 217 RX7 yX7_save wsX7_save) := goodIn_app (goodIn_of _ (by decide +kernel)) ggL_law_X7_save
set_option maxRecDepth 20000 in
theorem ggL_law_L_restore : GoodIn wsL_law wsL_restore := goodIn_ca (goodIn_ca (goodIn_r _ [974, 373, 101, 975, 976, 977, 2, 978, 108, 109, 29, 21, 27, 26, 964, 965, 966, 967, 382, 383, 832, 518, 519, 20, 520, 40, 521, 522, 523, 524, 41, 54, 63, 236, 237, 238, 25, 239, 240, 241, 242, 243, 244, 983, 984, 985, 986, 987, 988, 1002, 1003, 1004, 1005, 1006, 1007, 1008] (by decide +kernel) (by decide +kernel)) (goodIn_sub (fun _ h => List.mem_append_left _ (List.mem_append_right _ h)) (by decide +kernel))) (goodIn_sub (fun _ h => List.mem_append_right _ h) (by decide +kernel))
set_option maxRecDepth 20000 in
theorem gL_law_L_restore : GoodIn wsL_law (va_wsS RL 218 yL_restore wsL_restore) := goodIn_app (goodIn_of _ (by decide +kernel)) ggL_law_L_restore
set_option maxRecDepth 20000 in
theorem ggL_law_X7_restore : GoodIn wsL_law wsX7_restore := goodIn_r _ [982, 84, 83, 80, 249, 130, 131, 5, 132, 133, 134, 135, 136, 137, 250, 251, 252, 989, 990, 991, 992, 993, 994, 995, 996, 997, 998, 999] (by decide +kernel) (by decide +kernel)
set_option maxRecDepth 20000 in
theorem gL_law_X7_restore : GoodIn wsL_law (wsV RL 220 RX7 yX7_restore wsX7_restore) := goodIn_app (goodIn_of _ (by decide +kernel)) ggL_law_X7_restore
