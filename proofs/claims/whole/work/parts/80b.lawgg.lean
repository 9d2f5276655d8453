set_option maxRecDepth 20000 in
theorem ggL_law_X7_init : GoodIn wsL_law wsX7_init := goodIn_r _ [8, 9, 10, 11, 12, 13, 14, 15, 16, 17, 18, 19, 20, 21, 22, 23, 24, 25, 26, 27, 28, 29, 30, 31, 32, 33, 34, 35, 36, 37, 38, 39, 40, 41, 42, 43, 44, 45, 46, 47, 48, 49, 50, 51, 52, 53, 54, 55, 56, 57, 58, 59, 60, 61, 62, 63, 64, 65, 66, 67, 68, 69, 70, 71, 72, 73, 74, 75, 76, 77, 78, 79, 80, 81, 82, 83, 84, 85, 86, 87, 1012, 1013, 1014, 1015, 1016, 1017, 976, 977, 978, 979, 980, 981, 982, 983, 984, 1018, 1019, 1020, 1021, 1022, 1023, 1024, 1025, 1026, 1027, 1028, 1029, 1030, 1031, 1032, 1033, 1034, 1035, 1036, 1037, 1038, 1039, 1040, 1041, 1042, 1043, 1044, 1045, 1046, 1047] (by decide +kernel) (by decide +kernel)
set_option maxRecDepth 20000 in
theorem gL_law_X7_init : GoodIn wsL_law (wsX7_init) := ggL_law_X7_init
set_option maxRecDepth 20000 in
theorem ggL_law_X8_init : GoodIn wsL_law wsX8_init := goodIn_r _ [90, 91, 10, 11, 44, 92, 93, 94, 95, 96, 97, 98, 99, 100, 101, 102, 103, 104, 105, 72, 106, 107, 108, 109, 110, 111, 985, 986, 987, 988, 989, 990, 991, 992, 993, 994, 995, 996, 997, 998, 999, 1000, 1001, 1002, 1003, 1004, 1005, 1006, 1007, 1008, 1009, 1010, 1011] (by decide +kernel) (by decide +kernel)
set_option maxRecDepth 20000 in
theorem gL_law_X8_init : GoodIn wsL_law (wsX8_init) := ggL_law_X8_init
set_option maxRecDepth 20000 in
theorem ggL_law_X7_feed : GoodIn wsL_law wsX7_feed := goodIn_r _ [115, 116, 15, 117, 118, 119, 120, 121, 14, 122, 123, 45, 976, 977, 978, 979, 980, 981, 982, 983, 984, 1012, 1013, 1014, 1015, 1016, 1017] (by decide +kernel) (by decide +kernel)
set_option maxRecDepth 20000 in
theorem gL_law_X7_feed : GoodIn wsL_law (wsV RL 13 RX7 yX7_feed wsX7_feed) := goodIn_app (goodIn_of _ (by decide +kernel)) ggL_law_X7_feed
set_option maxRecDepth 20000 in
theorem ggL_law_X8_feed : GoodIn wsL_law wsX8_feed := goodIn_r _ [127, 128, 129, 130, 92, 131, 132, 5, 133, 985, 986, 987, 988, 989, 990, 991, 992, 993, 994, 995, 996, 997, 998, 999, 1000, 1001, 1002, 1003, 1004, 1005, 1006, 1007, 1008, 1009, 1010, 1011] (by decide +kernel) (by decide +kernel)
set_option maxRecDepth 20000 in
theorem gL_law_X8_feed : GoodIn wsL_law (wsV RL 17 RX8 yX8_feed wsX8_feed) := goodIn_app (goodIn_of _ (by decide +kernel)) ggL_law_X8_feed
set_option maxRecDepth 20000 in
theorem ggL_law_X7_shore : GoodIn wsL_law wsX7_shore := goodIn_r _ [137, 15, 20, 138, 19, 24, 28, 32, 36, 40, 139, 140, 141, 142, 14, 143, 144, 145, 47, 146, 147, 148, 18, 149, 150, 151, 152, 153, 154, 155, 156, 157, 158, 159, 160, 161, 162, 163, 164, 165, 166, 123, 45, 167, 168, 169, 170, 171, 172, 46, 173, 174, 175, 176, 177, 178, 179, 180, 181, 182, 183, 184, 185, 186, 187, 188, 189, 190, 191, 192, 193, 194, 195, 196, 197, 198, 199, 200, 201, 202, 203, 204, 205, 206, 207, 208, 209, 210, 211, 212, 213, 214, 215, 216, 217, 218, 219, 220, 221, 222, 223, 224, 225, 226, 227, 228, 229, 230, 231, 232, 233, 234, 235, 236, 237, 238, 239, 240, 241, 242, 243, 244, 245, 246, 247, 248, 249, 250, 251, 252, 253, 254, 255, 256, 257, 258, 259, 260, 261, 262, 263, 264, 265, 266, 267, 268, 269, 270, 271, 272, 273, 274, 275, 276, 277, 278, 279, 280, 281, 282, 283, 284, 285, 286, 287, 288, 289, 290, 291, 292, 51, 52, 53, 54, 55, 56, 293, 294, 295, 296, 297, 298, 299, 300, 23, 301, 60, 302, 303, 304, 305, 306, 307, 308, 309, 310, 311, 312, 313, 27, 314, 315, 316, 317, 318, 31, 319, 73, 320, 321, 322, 35, 323, 324, 325, 326, 327, 328, 329, 330, 331, 332, 333, 39, 334, 335, 976, 977, 978, 979, 980, 981, 982, 983, 984, 1012, 1013, 1014, 1015, 1016, 1017, 1018, 1019, 1020, 1021, 1022, 1023, 1024, 1025, 1026, 1027, 1028, 1029, 1030, 1031, 1032, 1033, 1034, 1035, 1036, 1037, 1038, 1039, 1040, 1041, 1042, 1043, 1044, 1045, 1046, 1047] (by decide +kernel) (by decide +kernel)
set_option maxRecDepth 20000 in
theorem gL_law_X7_shore : GoodIn wsL_law (wsV RL 18 RX7 yX7_shore wsX7_shore) := goodIn_app (goodIn_of _ (by decide +kernel)) ggL_law_X7_shore
set_option maxRecDepth 20000 in
theorem ggL_law_X8_shore : GoodIn wsL_law wsX8_shore := goodIn_r _ [339, 340, 341, 101, 100, 98, 99, 129, 93, 94, 95, 96, 97, 102, 342, 343, 344, 106, 345, 346, 347, 5, 348, 349, 350, 351, 352, 92, 353, 354, 355, 356, 357, 358, 359, 360, 361, 362, 363, 364, 365, 366, 367, 368, 369, 370, 371, 372, 131, 132, 133, 373, 374, 375, 376, 377, 378, 379, 380, 381, 382, 383, 384, 385, 386, 387, 388, 389, 390, 391, 985, 986, 987, 988, 989, 990, 991, 992, 993, 994, 995, 996, 997, 998, 999, 1000, 1001, 1002, 1003, 1004, 1005, 1006, 1007, 1008, 1009, 1010, 1011] (by decide +kernel) (by decide +kernel)
set_option maxRecDepth 20000 in
theorem gL_law_X8_shore : GoodIn wsL_law (wsV RL 22 RX8 yX8_shore wsX8_shore) := goodIn_app (goodIn_of _ (by decide +kernel)) ggL_law_X8_shore
set_option maxRecDepth 20000 in
theorem ggL_law_X7_fault : GoodIn wsL_law wsX7_fault := goodIn_r _ [395, 15, 396, 976, 977, 978, 979, 980, 981, 982, 983, 984, 1012, 1013, 1014, 1015, 1016, 1017] (by decide +kernel) (by decide +kernel)
set_option maxRecDepth 20000 in
theorem gL_law_X7_fault : GoodIn wsL_law (wsV RL 23 RX7 yX7_fault wsX7_fault) := goodIn_app (goodIn_of _ (by decide +kernel)) ggL_law_X7_fault
set_option maxRecDepth 20000 in
theorem ggL_law_X8_fault : GoodIn wsL_law wsX8_fault := goodIn_r _ [400, 93, 985, 986, 987, 988, 989, 990, 991, 992, 993, 994, 995, 996, 997, 998, 999, 1000, 1001, 1002, 1003, 1004, 1005, 1006, 1007, 1008, 1009, 1010, 1011] (by decide +kernel) (by decide +kernel)
set_option maxRecDepth 20000 in
theorem gL_law_X8_fault : GoodIn wsL_law (wsV RL 26 RX8 yX8_fault wsX8_fault) := goodIn_app (goodIn_of _ (by decide +kernel)) ggL_law_X8_fault
set_option maxRecDepth 20000 in
theorem ggL_law_X7_told : GoodIn wsL_law wsX7_told := goodIn_r _ [404, 19, 405, 406, 407, 139, 408, 15, 117, 24, 36, 409, 40, 410, 28, 411, 116, 412, 413, 414, 23, 415, 60, 416, 417, 418, 18, 419, 151, 420, 421, 422, 423, 302, 424, 425, 426, 427, 428, 429, 430, 431, 432, 433, 434, 435, 436, 437, 438, 976, 977, 978, 979, 980, 981, 982, 983, 984, 1018, 1019, 1020, 1021, 1022, 1023, 1024, 1025, 1026, 1027, 1028, 1012, 1013, 1014, 1015, 1016, 1017, 1036, 1037, 1038, 1039, 1040, 1041, 1042, 1043, 1044, 1045, 1046, 1047, 1030, 1031, 1032, 1029] (by decide +kernel) (by decide +kernel)
set_option maxRecDepth 20000 in
theorem gL_law_X7_told : GoodIn wsL_law (wsV RL 27 RX7 yX7_told wsX7_told) := goodIn_app (goodIn_of _ (by decide +kernel)) ggL_law_X7_told
set_option maxRecDepth 20000 in
theorem ggL_law_X8_told : GoodIn wsL_law wsX8_told := goodIn_r _ [442, 94, 129, 102, 343, 344, 342, 128, 443, 444, 445, 5, 446, 447, 448, 449, 450, 451, 452, 453, 454, 985, 986, 987, 988, 989, 990, 991, 992, 993, 994, 995, 996, 997, 998, 999, 1000, 1001, 1002, 1003, 1004, 1005, 1006, 1007, 1008, 1009, 1010, 1011] (by decide +kernel) (by decide +kernel)
set_option maxRecDepth 20000 in
theorem gL_law_X8_told : GoodIn wsL_law (wsV RL 30 RX8 yX8_told wsX8_told) := goodIn_app (goodIn_of _ (by decide +kernel)) ggL_law_X8_told
set_option maxRecDepth 20000 in
theorem ggL_law_X7_depth : GoodIn wsL_law wsX7_depth := goodIn_r _ [458, 19, 459, 460, 461, 462, 463, 18, 464, 152, 976, 977, 978, 979, 980, 981, 982, 983, 984, 1018, 1019, 1020, 1021, 1022, 1023, 1024, 1025, 1026, 1027, 1028] (by decide +kernel) (by decide +kernel)
set_option maxRecDepth 20000 in
theorem gL_law_X7_depth : GoodIn wsL_law (wsV RL 31 RX7 yX7_depth wsX7_depth) := goodIn_app (goodIn_of _ (by decide +kernel)) ggL_law_X7_depth
set_option maxRecDepth 20000 in
theorem ggL_law_X8_depth : GoodIn wsL_law wsX8_depth := goodIn_r _ [468, 95, 469, 470, 471, 472, 5, 473, 94, 131, 132, 133, 985, 986, 987, 988, 989, 990, 991, 992, 993, 994, 995, 996, 997, 998, 999, 1000, 1001, 1002, 1003, 1004, 1005, 1006, 1007, 1008, 1009, 1010, 1011] (by decide +kernel) (by decide +kernel)
set_option maxRecDepth 20000 in
theorem gL_law_X8_depth : GoodIn wsL_law (wsV RL 34 RX8 yX8_depth wsX8_depth) := goodIn_app (goodIn_of _ (by decide +kernel)) ggL_law_X8_depth
set_option maxRecDepth 20000 in
theorem ggL_law_X7_person : GoodIn wsL_law wsX7_person := goodIn_r _ [477, 19, 460, 24, 478, 116, 479, 480, 481, 18, 482, 153, 483, 484, 485, 23, 486, 60, 428, 429, 430, 487, 425, 426, 427, 488, 489, 490, 491, 492, 493, 494, 495, 435, 436, 437, 438, 424, 496, 497, 498, 499, 51, 500, 462, 463, 464, 152, 976, 977, 978, 979, 980, 981, 982, 983, 984, 1018, 1019, 1020, 1021, 1022, 1023, 1024, 1025, 1026, 1027, 1028, 1029] (by decide +kernel) (by decide +kernel)
set_option maxRecDepth 20000 in
theorem gL_law_X7_person : GoodIn wsL_law (wsV RL 35 RX7 yX7_person wsX7_person) := goodIn_app (goodIn_of _ (by decide +kernel)) ggL_law_X7_person
set_option maxRecDepth 20000 in
theorem ggL_law_X8_person : GoodIn wsL_law wsX8_person := goodIn_r _ [504, 469, 102, 128, 505, 506, 507, 5, 508, 94, 131, 132, 133, 509, 510, 511, 512, 96, 513, 514, 515, 516, 95, 451, 452, 453, 454, 985, 986, 987, 988, 989, 990, 991, 992, 993, 994, 995, 996, 997, 998, 999, 1000, 1001, 1002, 1003, 1004, 1005, 1006, 1007, 1008, 1009, 1010, 1011] (by decide +kernel) (by decide +kernel)
set_option maxRecDepth 20000 in
theorem gL_law_X8_person : GoodIn wsL_law (wsV RL 39 RX8 yX8_person wsX8_person) := goodIn_app (goodIn_of _ (by decide +kernel)) ggL_law_X8_person
set_option maxRecDepth 20000 in
theorem ggL_law_X7_good : GoodIn wsL_law wsX7_good := goodIn_r _ [520, 19, 460, 24, 521, 522, 523, 116, 524, 525, 526, 18, 527, 154, 528, 529, 530, 23, 531, 60, 532, 533, 534, 976, 977, 978, 979, 980, 981, 982, 983, 984, 1018, 1019, 1020, 1021, 1022, 1023, 1024, 1025, 1026, 1027, 1028, 1029] (by decide +kernel) (by decide +kernel)
set_option maxRecDepth 20000 in
theorem gL_law_X7_good : GoodIn wsL_law (wsV RL 40 RX7 yX7_good wsX7_good) := goodIn_app (goodIn_of _ (by decide +kernel)) ggL_law_X7_good
set_option maxRecDepth 20000 in
theorem ggL_law_X8_good : GoodIn wsL_law wsX8_good := goodIn_r _ [538, 469, 128, 102, 97, 539, 540, 541, 5, 542, 94, 131, 132, 133, 985, 986, 987, 988, 989, 990, 991, 992, 993, 994, 995, 996, 997, 998, 999, 1000, 1001, 1002, 1003, 1004, 1005, 1006, 1007, 1008, 1009, 1010, 1011] (by decide +kernel) (by decide +kernel)
set_option maxRecDepth 20000 in
theorem gL_law_X8_good : GoodIn wsL_law (wsV RL 43 RX8 yX8_good wsX8_good) := goodIn_app (goodIn_of _ (by decide +kernel)) ggL_law_X8_good
set_option maxRecDepth 20000 in
theorem ggL_law_X7_year : GoodIn wsL_law wsX7_year := goodIn_r _ [546, 28, 24, 19, 547, 548, 549, 2, 550, 116, 551, 552, 118, 553, 263, 264, 18, 265, 150, 412, 413, 414, 23, 415, 60, 554, 555, 556, 27, 557, 65, 558, 315, 559, 206, 203, 207, 560, 561, 562, 563, 564, 565, 566, 567, 568, 569, 570, 571, 572, 302, 310, 304, 573, 574, 575, 576, 424, 425, 426, 427, 428, 429, 430, 306, 307, 308, 309, 435, 436, 437, 438, 577, 578, 579, 580, 581, 582, 583, 584, 55, 56, 585, 525, 526, 527, 154, 976, 977, 978, 979, 980, 981, 982, 983, 984, 1018, 1019, 1020, 1021, 1022, 1023, 1024, 1025, 1026, 1027, 1028, 1029, 1030, 1031, 1032] (by decide +kernel) (by decide +kernel)
set_option maxRecDepth 20000 in
theorem gL_law_X7_year : GoodIn wsL_law (wsV RL 44 RX7 yX7_year wsX7_year) := goodIn_app (goodIn_of _ (by decide +kernel)) ggL_law_X7_year
set_option maxRecDepth 20000 in
theorem ggL_law_X8_year : GoodIn wsL_law wsX8_year := goodIn_r _ [589, 102, 590, 591, 592, 5, 593, 128, 594, 595, 130, 131, 132, 133, 443, 444, 445, 446, 94, 596, 597, 598, 599, 342, 103, 600, 601, 602, 603, 604, 605, 606, 607, 509, 510, 511, 512, 96, 451, 452, 453, 454, 608, 609, 610, 611, 97, 985, 986, 987, 988, 989, 990, 991, 992, 993, 994, 995, 996, 997, 998, 999, 1000, 1001, 1002, 1003, 1004, 1005, 1006, 1007, 1008, 1009, 1010, 1011] (by decide +kernel) (by decide +kernel)
set_option maxRecDepth 20000 in
theorem gL_law_X8_year : GoodIn wsL_law (wsV RL 47 RX8 yX8_year wsX8_year) := goodIn_app (goodIn_of _ (by decide +kernel)) ggL_law_X8_year
set_option maxRecDepth 20000 in
theorem ggL_law_X7_down : GoodIn wsL_law wsX7_down := goodIn_r _ [615, 19, 460, 24, 551, 28, 479, 480, 481, 18, 482, 153, 461, 462, 463, 464, 152, 616, 574, 575, 23, 576, 424, 425, 426, 427, 60, 428, 429, 430, 554, 555, 556, 27, 557, 65, 558, 315, 559, 206, 203, 207, 560, 561, 562, 563, 564, 565, 566, 567, 568, 617, 618, 619, 620, 483, 484, 485, 486, 976, 977, 978, 979, 980, 981, 982, 983, 984, 1018, 1019, 1020, 1021, 1022, 1023, 1024, 1025, 1026, 1027, 1028, 1029, 1030, 1031, 1032] (by decide +kernel) (by decide +kernel)
set_option maxRecDepth 20000 in
theorem gL_law_X7_down : GoodIn wsL_law (wsV RL 48 RX7 yX7_down wsX7_down) := goodIn_app (goodIn_of _ (by decide +kernel)) ggL_law_X7_down
set_option maxRecDepth 20000 in
theorem ggL_law_X8_down : GoodIn wsL_law wsX8_down := goodIn_r _ [624, 469, 594, 102, 505, 506, 507, 5, 508, 94, 131, 132, 133, 470, 471, 472, 473, 604, 605, 606, 607, 596, 597, 598, 599, 342, 103, 625, 626, 627, 628, 985, 986, 987, 988, 989, 990, 991, 992, 993, 994, 995, 996, 997, 998, 999, 1000, 1001, 1002, 1003, 1004, 1005, 1006, 1007, 1008, 1009, 1010, 1011] (by decide +kernel) (by decide +kernel)
set_option maxRecDepth 20000 in
theorem gL_law_X8_down : GoodIn wsL_law (wsV RL 51 RX8 yX8_down wsX8_down) := goodIn_app (goodIn_of _ (by decide +kernel)) ggL_law_X8_down
set_option maxRecDepth 20000 in
theorem ggL_law_X7_up : GoodIn wsL_law wsX7_up := goodIn_r _ [632, 19, 460, 24, 551, 28, 479, 480, 481, 18, 482, 153, 633, 436, 437, 23, 438, 424, 425, 426, 427, 60, 428, 429, 430, 554, 555, 556, 27, 557, 65, 558, 315, 559, 206, 203, 207, 560, 561, 562, 563, 564, 565, 566, 567, 568, 492, 493, 494, 495, 435, 496, 497, 498, 499, 51, 500, 462, 463, 464, 152, 634, 635, 636, 637, 976, 977, 978, 979, 980, 981, 982, 983, 984, 1018, 1019, 1020, 1021, 1022, 1023, 1024, 1025, 1026, 1027, 1028, 1029, 1030, 1031, 1032] (by decide +kernel) (by decide +kernel)
set_option maxRecDepth 20000 in
theorem gL_law_X7_up : GoodIn wsL_law (wsV RL 52 RX7 yX7_up wsX7_up) := goodIn_app (goodIn_of _ (by decide +kernel)) ggL_law_X7_up
set_option maxRecDepth 20000 in
theorem ggL_law_X8_up : GoodIn wsL_law wsX8_up := goodIn_r _ [641, 469, 594, 505, 506, 507, 5, 508, 94, 131, 132, 133, 451, 452, 453, 454, 102, 596, 597, 598, 599, 342, 103, 513, 514, 515, 516, 95, 642, 643, 644, 645, 985, 986, 987, 988, 989, 990, 991, 992, 993, 994, 995, 996, 997, 998, 999, 1000, 1001, 1002, 1003, 1004, 1005, 1006, 1007, 1008, 1009, 1010, 1011] (by decide +kernel) (by decide +kernel)
set_option maxRecDepth 20000 in
theorem gL_law_X8_up : GoodIn wsL_law (wsV RL 55 RX8 yX8_up wsX8_up) := goodIn_app (goodIn_of _ (by decide +kernel)) ggL_law_X8_up
set_option maxRecDepth 20000 in
theorem ggL_law_X7_open : GoodIn wsL_law wsX7_open := goodIn_r _ [649, 28, 24, 19, 650, 651, 652, 2, 653, 460, 551, 479, 480, 481, 18, 482, 153, 616, 574, 575, 23, 576, 424, 425, 426, 427, 60, 428, 429, 430, 554, 555, 556, 27, 557, 65, 558, 315, 559, 206, 203, 207, 560, 561, 562, 563, 564, 565, 566, 567, 568, 654, 655, 656, 657, 306, 307, 308, 309, 310, 483, 484, 485, 486, 976, 977, 978, 979, 980, 981, 982, 983, 984, 1018, 1019, 1020, 1021, 1022, 1023, 1024, 1025, 1026, 1027, 1028, 1029, 1030, 1031, 1032] (by decide +kernel) (by decide +kernel)
set_option maxRecDepth 20000 in
theorem gL_law_X7_open : GoodIn wsL_law (wsV RL 56 RX7 yX7_open wsX7_open) := goodIn_app (goodIn_of _ (by decide +kernel)) ggL_law_X7_open
set_option maxRecDepth 20000 in
theorem ggL_law_X8_open : GoodIn wsL_law wsX8_open := goodIn_r _ [661, 469, 594, 102, 505, 506, 507, 5, 508, 94, 131, 132, 133, 604, 605, 606, 607, 596, 597, 598, 599, 342, 103, 509, 510, 511, 512, 96, 985, 986, 987, 988, 989, 990, 991, 992, 993, 994, 995, 996, 997, 998, 999, 1000, 1001, 1002, 1003, 1004, 1005, 1006, 1007, 1008, 1009, 1010, 1011] (by decide +kernel) (by decide +kernel)
set_option maxRecDepth 20000 in
theorem gL_law_X8_open : GoodIn wsL_law (wsV RL 59 RX8 yX8_open wsX8_open) := goodIn_app (goodIn_of _ (by decide +kernel)) ggL_law_X8_open
set_option maxRecDepth 20000 in
theorem ggL_law_X7_take : GoodIn wsL_law wsX7_take := goodIn_r _ [665, 19, 460, 24, 551, 28, 524, 525, 526, 18, 527, 154, 528, 529, 530, 23, 531, 60, 532, 533, 534, 554, 555, 556, 27, 557, 65, 558, 315, 559, 206, 203, 207, 560, 561, 562, 563, 564, 565, 566, 567, 568, 666, 667, 668, 669, 976, 977, 978, 979, 980, 981, 982, 983, 984, 1018, 1019, 1020, 1021, 1022, 1023, 1024, 1025, 1026, 1027, 1028, 1029, 1030, 1031, 1032] (by decide +kernel) (by decide +kernel)
set_option maxRecDepth 20000 in
theorem gL_law_X7_take : GoodIn wsL_law (wsV RL 60 RX7 yX7_take wsX7_take) := goodIn_app (goodIn_of _ (by decide +kernel)) ggL_law_X7_take
set_option maxRecDepth 20000 in
theorem ggL_law_X8_take : GoodIn wsL_law wsX8_take := goodIn_r _ [673, 469, 102, 594, 539, 540, 541, 5, 542, 94, 131, 132, 133, 596, 597, 598, 599, 342, 103, 985, 986, 987, 988, 989, 990, 991, 992, 993, 994, 995, 996, 997, 998, 999, 1000, 1001, 1002, 1003, 1004, 1005, 1006, 1007, 1008, 1009, 1010, 1011] (by decide +kernel) (by decide +kernel)
set_option maxRecDepth 20000 in
theorem gL_law_X8_take : GoodIn wsL_law (wsV RL 63 RX8 yX8_take wsX8_take) := goodIn_app (goodIn_of _ (by decide +kernel)) ggL_law_X8_take
set_option maxRecDepth 20000 in
theorem ggL_law_X7_drift : GoodIn wsL_law wsX7_drift := goodIn_r _ [677, 28, 24, 19, 547, 548, 549, 2, 550, 116, 551, 552, 118, 553, 263, 264, 18, 265, 150, 412, 413, 414, 23, 415, 60, 554, 555, 556, 27, 557, 65, 558, 315, 559, 206, 203, 207, 560, 561, 562, 563, 564, 565, 566, 567, 568, 678, 679, 680, 681, 139, 407, 682, 683, 684, 685, 686, 687, 688, 689, 616, 574, 575, 576, 424, 425, 426, 427, 428, 429, 430, 617, 618, 619, 620, 633, 436, 437, 438, 634, 635, 636, 637, 569, 570, 571, 572, 302, 310, 304, 573, 306, 307, 308, 309, 435, 577, 578, 579, 580, 581, 582, 583, 584, 55, 56, 585, 525, 526, 527, 154, 976, 977, 978, 979, 980, 981, 982, 983, 984, 1018, 1019, 1020, 1021, 1022, 1023, 1024, 1025, 1026, 1027, 1028, 1029, 1030, 1031, 1032] (by decide +kernel) (by decide +kernel)
set_option maxRecDepth 20000 in
theorem gL_law_X7_drift : GoodIn wsL_law (wsV RL 64 RX7 yX7_drift wsX7_drift) := goodIn_app (goodIn_of _ (by decide +kernel)) ggL_law_X7_drift
set_option maxRecDepth 20000 in
theorem ggL_law_X8_drift : GoodIn wsL_law wsX8_drift := goodIn_r _ [693, 94, 102, 590, 591, 592, 5, 593, 128, 594, 595, 130, 131, 132, 133, 443, 444, 445, 446, 596, 597, 598, 599, 342, 103, 694, 695, 696, 697, 698, 699, 700, 701, 702, 604, 605, 606, 607, 625, 626, 627, 628, 451, 452, 453, 454, 642, 643, 644, 645, 600, 601, 602, 603, 509, 510, 511, 512, 96, 608, 609, 610, 611, 97, 985, 986, 987, 988, 989, 990, 991, 992, 993, 994, 995, 996, 997, 998, 999, 1000, 1001, 1002, 1003, 1004, 1005, 1006, 1007, 1008, 1009, 1010, 1011] (by decide +kernel) (by decide +kernel)
set_option maxRecDepth 20000 in
theorem gL_law_X8_drift : GoodIn wsL_law (wsV RL 67 RX8 yX8_drift wsX8_drift) := goodIn_app (goodIn_of _ (by decide +kernel)) ggL_law_X8_drift
set_option maxRecDepth 20000 in
theorem ggL_law_X7_undo : GoodIn wsL_law wsX7_undo := goodIn_r _ [706, 28, 411, 551, 24, 707, 708, 709, 27, 710, 315, 558, 65, 711, 712, 713, 23, 714, 60, 564, 206, 203, 207, 565, 566, 567, 568, 976, 977, 978, 979, 980, 981, 982, 983, 984, 1030, 1031, 1032, 1029] (by decide +kernel) (by decide +kernel)
set_option maxRecDepth 20000 in
theorem gL_law_X7_undo : GoodIn wsL_law (wsV RL 68 RX7 yX7_undo wsX7_undo) := goodIn_app (goodIn_of _ (by decide +kernel)) ggL_law_X7_undo
set_option maxRecDepth 20000 in
theorem ggL_law_X8_undo : GoodIn wsL_law wsX8_undo := goodIn_r _ [718, 342, 594, 102, 103, 985, 986, 987, 988, 989, 990, 991, 992, 993, 994, 995, 996, 997, 998, 999, 1000, 1001, 1002, 1003, 1004, 1005, 1006, 1007, 1008, 1009, 1010, 1011] (by decide +kernel) (by decide +kernel)
set_option maxRecDepth 20000 in
theorem gL_law_X8_undo : GoodIn wsL_law (wsV RL 71 RX8 yX8_undo wsX8_undo) := goodIn_app (goodIn_of _ (by decide +kernel)) ggL_law_X8_undo
set_option maxRecDepth 20000 in
theorem ggL_law_X7_meet : GoodIn wsL_law wsX7_meet := goodIn_r _ [722, 19, 460, 116, 24, 551, 688, 459, 478, 723, 724, 203, 725, 726, 206, 207, 727, 728, 729, 2, 730, 479, 480, 481, 18, 482, 153, 461, 462, 463, 464, 152, 616, 574, 575, 23, 576, 424, 425, 426, 427, 60, 428, 429, 430, 483, 484, 485, 486, 976, 977, 978, 979, 980, 981, 982, 983, 984, 1018, 1019, 1020, 1021, 1022, 1023, 1024, 1025, 1026, 1027, 1028, 1029] (by decide +kernel) (by decide +kernel)
set_option maxRecDepth 20000 in
theorem gL_law_X7_meet : GoodIn wsL_law (wsV RL 72 RX7 yX7_meet wsX7_meet) := goodIn_app (goodIn_of _ (by decide +kernel)) ggL_law_X7_meet
set_option maxRecDepth 20000 in
theorem ggL_law_X8_meet : GoodIn wsL_law wsX8_meet := goodIn_r _ [734, 469, 128, 594, 102, 95, 505, 506, 507, 5, 508, 94, 131, 132, 133, 470, 471, 472, 473, 604, 605, 606, 607, 735, 736, 737, 509, 510, 511, 512, 96, 985, 986, 987, 988, 989, 990, 991, 992, 993, 994, 995, 996, 997, 998, 999, 1000, 1001, 1002, 1003, 1004, 1005, 1006, 1007, 1008, 1009, 1010, 1011] (by decide +kernel) (by decide +kernel)
set_option maxRecDepth 20000 in
theorem gL_law_X8_meet : GoodIn wsL_law (wsV RL 76 RX8 yX8_meet wsX8_meet) := goodIn_app (goodIn_of _ (by decide +kernel)) ggL_law_X8_meet
set_option maxRecDepth 20000 in
theorem ggL_law_X7_both : GoodIn wsL_law wsX7_both := goodIn_r _ [741, 460, 116, 24, 551, 688, 19, 407, 726, 206, 203, 207, 727, 728, 729, 2, 730, 479, 480, 481, 18, 482, 153, 616, 574, 575, 23, 576, 424, 425, 426, 427, 60, 428, 429, 430, 742, 743, 744, 745, 746, 202, 204, 478, 747, 748, 749, 750, 459, 461, 462, 463, 464, 152, 483, 484, 485, 486, 751, 752, 753, 754, 976, 977, 978, 979, 980, 981, 982, 983, 984, 1018, 1019, 1020, 1021, 1022, 1023, 1024, 1025, 1026, 1027, 1028, 1029] (by decide +kernel) (by decide +kernel)
set_option maxRecDepth 20000 in
theorem gL_law_X7_both : GoodIn wsL_law (wsV RL 77 RX7 yX7_both wsX7_both) := goodIn_app (goodIn_of _ (by decide +kernel)) ggL_law_X7_both
set_option maxRecDepth 20000 in
theorem ggL_law_X8_both : GoodIn wsL_law wsX8_both := goodIn_r _ [758, 469, 128, 594, 102, 505, 506, 507, 5, 508, 94, 131, 132, 133, 604, 605, 606, 607, 759, 760, 761, 762, 763, 764, 765, 766, 95, 509, 510, 511, 512, 96, 985, 986, 987, 988, 989, 990, 991, 992, 993, 994, 995, 996, 997, 998, 999, 1000, 1001, 1002, 1003, 1004, 1005, 1006, 1007, 1008, 1009, 1010, 1011] (by decide +kernel) (by decide +kernel)
set_option maxRecDepth 20000 in
theorem gL_law_X8_both : GoodIn wsL_law (wsV RL 81 RX8 yX8_both wsX8_both) := goodIn_app (goodIn_of _ (by decide +kernel)) ggL_law_X8_both
set_option maxRecDepth 20000 in
theorem ggL_law_X7_leave : GoodIn wsL_law wsX7_leave := goodIn_r _ [770, 116, 19, 408, 24, 528, 529, 530, 23, 531, 60, 532, 533, 534, 771, 578, 579, 18, 580, 581, 582, 583, 584, 55, 56, 585, 525, 526, 527, 154, 976, 977, 978, 979, 980, 981, 982, 983, 984, 1018, 1019, 1020, 1021, 1022, 1023, 1024, 1025, 1026, 1027, 1028, 1029] (by decide +kernel) (by decide +kernel)
set_option maxRecDepth 20000 in
theorem gL_law_X7_leave : GoodIn wsL_law (wsV RL 82 RX7 yX7_leave wsX7_leave) := goodIn_app (goodIn_of _ (by decide +kernel)) ggL_law_X7_leave
set_option maxRecDepth 20000 in
theorem ggL_law_X8_leave : GoodIn wsL_law wsX8_leave := goodIn_r _ [775, 128, 94, 102, 131, 132, 5, 133, 776, 777, 778, 779, 608, 609, 610, 611, 97, 985, 986, 987, 988, 989, 990, 991, 992, 993, 994, 995, 996, 997, 998, 999, 1000, 1001, 1002, 1003, 1004, 1005, 1006, 1007, 1008, 1009, 1010, 1011] (by decide +kernel) (by decide +kernel)
set_option maxRecDepth 20000 in
theorem gL_law_X8_leave : GoodIn wsL_law (wsV RL 85 RX8 yX8_leave wsX8_leave) := goodIn_app (goodIn_of _ (by decide +kernel)) ggL_law_X8_leave
set_option maxRecDepth 20000 in
theorem ggL_law_X7_when : GoodIn wsL_law wsX7_when := goodIn_r _ [783, 19, 460, 116, 24, 524, 525, 526, 18, 527, 154, 528, 529, 530, 23, 531, 60, 532, 533, 534, 784, 582, 583, 584, 55, 56, 585, 976, 977, 978, 979, 980, 981, 982, 983, 984, 1018, 1019, 1020, 1021, 1022, 1023, 1024, 1025, 1026, 1027, 1028, 1029] (by decide +kernel) (by decide +kernel)
set_option maxRecDepth 20000 in
theorem gL_law_X7_when : GoodIn wsL_law (wsV RL 86 RX7 yX7_when wsX7_when) := goodIn_app (goodIn_of _ (by decide +kernel)) ggL_law_X7_when
set_option maxRecDepth 20000 in
theorem ggL_law_X8_when : GoodIn wsL_law wsX8_when := goodIn_r _ [788, 469, 128, 102, 539, 540, 541, 5, 542, 94, 131, 132, 133, 608, 609, 610, 611, 97, 985, 986, 987, 988, 989, 990, 991, 992, 993, 994, 995, 996, 997, 998, 999, 1000, 1001, 1002, 1003, 1004, 1005, 1006, 1007, 1008, 1009, 1010, 1011] (by decide +kernel) (by decide +kernel)
set_option maxRecDepth 20000 in
theorem gL_law_X8_when : GoodIn wsL_law (wsV RL 89 RX8 yX8_when wsX8_when) := goodIn_app (goodIn_of _ (by decide +kernel)) ggL_law_X8_when
set_option maxRecDepth 20000 in
theorem ggL_law_X7_letters : GoodIn wsL_law wsX7_letters := goodIn_r _ [792, 19, 460, 116, 24, 459, 461, 462, 463, 18, 464, 152, 412, 413, 414, 23, 415, 60, 793, 497, 498, 499, 51, 500, 976, 977, 978, 979, 980, 981, 982, 983, 984, 1018, 1019, 1020, 1021, 1022, 1023, 1024, 1025, 1026, 1027, 1028, 1029] (by decide +kernel) (by decide +kernel)
set_option maxRecDepth 20000 in
theorem gL_law_X7_letters : GoodIn wsL_law (wsV RL 90 RX7 yX7_letters wsX7_letters) := goodIn_app (goodIn_of _ (by decide +kernel)) ggL_law_X7_letters
set_option maxRecDepth 20000 in
theorem ggL_law_X8_letters : GoodIn wsL_law wsX8_letters := goodIn_r _ [797, 469, 128, 102, 95, 470, 471, 472, 5, 473, 94, 131, 132, 133, 985, 986, 987, 988, 989, 990, 991, 992, 993, 994, 995, 996, 997, 998, 999, 1000, 1001, 1002, 1003, 1004, 1005, 1006, 1007, 1008, 1009, 1010, 1011] (by decide +kernel) (by decide +kernel)
set_option maxRecDepth 20000 in
theorem gL_law_X8_letters : GoodIn wsL_law (wsV RL 93 RX8 yX8_letters wsX8_letters) := goodIn_app (goodIn_of _ (by decide +kernel)) ggL_law_X8_letters
set_option maxRecDepth 20000 in
theorem ggL_law_X7_wouldOpen : GoodIn wsL_law wsX7_wouldOpen := goodIn_r _ [801, 24, 19, 478, 650, 651, 652, 2, 653, 460, 551, 479, 480, 481, 18, 482, 153, 616, 574, 575, 23, 576, 424, 425, 426, 427, 60, 428, 429, 430, 483, 484, 485, 486, 488, 489, 490, 491, 976, 977, 978, 979, 980, 981, 982, 983, 984, 1018, 1019, 1020, 1021, 1022, 1023, 1024, 1025, 1026, 1027, 1028, 1029] (by decide +kernel) (by decide +kernel)
set_option maxRecDepth 20000 in
theorem gL_law_X7_wouldOpen : GoodIn wsL_law (wsV RL 94 RX7 yX7_wouldOpen wsX7_wouldOpen) := goodIn_app (goodIn_of _ (by decide +kernel)) ggL_law_X7_wouldOpen
set_option maxRecDepth 20000 in
theorem ggL_law_X8_wouldOpen : GoodIn wsL_law wsX8_wouldOpen := goodIn_r _ [805, 469, 594, 102, 505, 506, 507, 5, 508, 94, 131, 132, 133, 604, 605, 606, 607, 509, 510, 511, 512, 96, 985, 986, 987, 988, 989, 990, 991, 992, 993, 994, 995, 996, 997, 998, 999, 1000, 1001, 1002, 1003, 1004, 1005, 1006, 1007, 1008, 1009, 1010, 1011] (by decide +kernel) (by decide +kernel)
set_option maxRecDepth 20000 in
theorem gL_law_X8_wouldOpen : GoodIn wsL_law (wsV RL 97 RX8 yX8_wouldOpen wsX8_wouldOpen) := goodIn_app (goodIn_of _ (by decide +kernel)) ggL_law_X8_wouldOpen
set_option maxRecDepth 20000 in
theorem ggL_law_X7_yearsLeft : GoodIn wsL_law wsX7_yearsLeft := goodIn_r _ [809, 19, 478, 24, 650, 651, 652, 2, 653, 460, 551, 479, 480, 481, 18, 482, 153, 616, 574, 575, 23, 576, 424, 425, 426, 427, 60, 428, 429, 430, 483, 484, 485, 486, 976, 977, 978, 979, 980, 981, 982, 983, 984, 1018, 1019, 1020, 1021, 1022, 1023, 1024, 1025, 1026, 1027, 1028, 1029] (by decide +kernel) (by decide +kernel)
set_option maxRecDepth 20000 in
theorem gL_law_X7_yearsLeft : GoodIn wsL_law (wsV RL 98 RX7 yX7_yearsLeft wsX7_yearsLeft) := goodIn_app (goodIn_of _ (by decide +kernel)) ggL_law_X7_yearsLeft
set_option maxRecDepth 20000 in
theorem ggL_law_X8_yearsLeft : GoodIn wsL_law wsX8_yearsLeft := goodIn_r _ [813, 469, 594, 102, 505, 506, 507, 5, 508, 94, 131, 132, 133, 604, 605, 606, 607, 509, 510, 511, 512, 96, 985, 986, 987, 988, 989, 990, 991, 992, 993, 994, 995, 996, 997, 998, 999, 1000, 1001, 1002, 1003, 1004, 1005, 1006, 1007, 1008, 1009, 1010, 1011] (by decide +kernel) (by decide +kernel)
set_option maxRecDepth 20000 in
theorem gL_law_X8_yearsLeft : GoodIn wsL_law (wsV RL 101 RX8 yX8_yearsLeft wsX8_yearsLeft) := goodIn_app (goodIn_of _ (by decide +kernel)) ggL_law_X8_yearsLeft
set_option maxRecDepth 20000 in
theorem ggL_law_X7_latest : GoodIn wsL_law wsX7_latest := goodIn_r _ [817, 19, 139, 478, 24, 483, 484, 485, 23, 486, 60, 428, 429, 430, 616, 574, 575, 576, 424, 425, 426, 427, 976, 977, 978, 979, 980, 981, 982, 983, 984, 1018, 1019, 1020, 1021, 1022, 1023, 1024, 1025, 1026, 1027, 1028, 1029] (by decide +kernel) (by decide +kernel)
set_option maxRecDepth 20000 in
theorem gL_law_X7_latest : GoodIn wsL_law (wsV RL 102 RX7 yX7_latest wsX7_latest) := goodIn_app (goodIn_of _ (by decide +kernel)) ggL_law_X7_latest
set_option maxRecDepth 20000 in
theorem ggL_law_X8_latest : GoodIn wsL_law wsX8_latest := goodIn_r _ [821, 94, 102, 604, 605, 606, 5, 607, 509, 510, 511, 512, 96, 985, 986, 987, 988, 989, 990, 991, 992, 993, 994, 995, 996, 997, 998, 999, 1000, 1001, 1002, 1003, 1004, 1005, 1006, 1007, 1008, 1009, 1010, 1011] (by decide +kernel) (by decide +kernel)
set_option maxRecDepth 20000 in
theorem gL_law_X8_latest : GoodIn wsL_law (wsV RL 105 RX8 yX8_latest wsX8_latest) := goodIn_app (goodIn_of _ (by decide +kernel)) ggL_law_X8_latest
set_option maxRecDepth 20000 in
theorem ggL_law_X7_storm : GoodIn wsL_law wsX7_storm := goodIn_r _ [825, 116, 826, 827] (by decide +kernel) (by decide +kernel)
set_option maxRecDepth 20000 in
theorem gL_law_X7_storm : GoodIn wsL_law (wsV RL 106 RX7 yX7_storm wsX7_storm) := goodIn_app (goodIn_of _ (by decide +kernel)) ggL_law_X7_storm
set_option maxRecDepth 20000 in
theorem ggL_law_X8_storm : GoodIn wsL_law wsX8_storm := goodIn_r _ [831, 128, 832, 833, 131, 132, 5, 133] (by decide +kernel) (by decide +kernel)
set_option maxRecDepth 20000 in
theorem gL_law_X8_storm : GoodIn wsL_law (wsV RL 109 RX8 yX8_storm wsX8_storm) := goodIn_app (goodIn_of _ (by decide +kernel)) ggL_law_X8_storm
set_option maxRecDepth 20000 in
theorem ggL_law_X7_find : GoodIn wsL_law wsX7_find := goodIn_r _ [837, 19, 460, 116, 36, 409, 118, 524, 525, 526, 18, 527, 154, 838, 839, 840, 35, 841, 329, 77, 78, 79, 330, 976, 977, 978, 979, 980, 981, 982, 983, 984, 1036, 1037, 1038, 1039, 1040, 1041, 1042, 1043, 1044, 1018, 1019, 1020, 1021, 1022, 1023, 1024, 1025, 1026, 1027, 1028] (by decide +kernel) (by decide +kernel)
set_option maxRecDepth 20000 in
theorem gL_law_X7_find : GoodIn wsL_law (wsV RL 110 RX7 yX7_find wsX7_find) := goodIn_app (goodIn_of _ (by decide +kernel)) ggL_law_X7_find
set_option maxRecDepth 20000 in
theorem ggL_law_X8_find : GoodIn wsL_law wsX8_find := goodIn_r _ [845, 469, 128, 343, 130, 107, 539, 540, 541, 5, 542, 94, 131, 132, 133, 985, 986, 987, 988, 989, 990, 991, 992, 993, 994, 995, 996, 997, 998, 999, 1000, 1001, 1002, 1003, 1004, 1005, 1006, 1007, 1008, 1009, 1010, 1011] (by decide +kernel) (by decide +kernel)
set_option maxRecDepth 20000 in
theorem gL_law_X8_find : GoodIn wsL_law (wsV RL 113 RX8 yX8_find wsX8_find) := goodIn_app (goodIn_of _ (by decide +kernel)) ggL_law_X8_find
set_option maxRecDepth 20000 in
theorem ggL_law_X7_stays : GoodIn wsL_law wsX7_stays := goodIn_r _ [849, 36, 19, 850, 851, 852, 853, 854, 35, 855, 330, 856, 857, 82, 858, 859, 860, 861, 324, 862, 863, 81, 864, 865, 578, 579, 18, 580, 581, 582, 583, 584, 55, 56, 585, 525, 526, 527, 154, 866, 867, 868, 869, 329, 77, 78, 79, 870, 871, 872, 873, 874, 417, 418, 419, 151, 976, 977, 978, 979, 980, 981, 982, 983, 984, 1036, 1037, 1038, 1039, 1040, 1041, 1042, 1043, 1044, 1018, 1019, 1020, 1021, 1022, 1023, 1024, 1025, 1026, 1027, 1028] (by decide +kernel) (by decide +kernel)
set_option maxRecDepth 20000 in
theorem gL_law_X7_stays : GoodIn wsL_law (wsV RL 114 RX7 yX7_stays wsX7_stays) := goodIn_app (goodIn_of _ (by decide +kernel)) ggL_law_X7_stays
set_option maxRecDepth 20000 in
theorem ggL_law_X8_stays : GoodIn wsL_law wsX8_stays := goodIn_r _ [878, 110, 879, 880, 881, 5, 882, 94, 109, 97, 95, 111, 883, 884, 885, 886, 343, 107, 776, 777, 778, 779, 608, 609, 610, 611, 131, 132, 133, 985, 986, 987, 988, 989, 990, 991, 992, 993, 994, 995, 996, 997, 998, 999, 1000, 1001, 1002, 1003, 1004, 1005, 1006, 1007, 1008, 1009, 1010, 1011] (by decide +kernel) (by decide +kernel)
set_option maxRecDepth 20000 in
theorem gL_law_X8_stays : GoodIn wsL_law (wsV RL 117 RX8 yX8_stays wsX8_stays) := goodIn_app (goodIn_of _ (by decide +kernel)) ggL_law_X8_stays
set_option maxRecDepth 20000 in
theorem ggL_law_X7_ask : GoodIn wsL_law wsX7_ask := goodIn_r _ [890, 36, 19, 850, 408, 852, 853, 854, 35, 855, 330, 856, 857, 82, 858, 859, 860, 861, 324, 862, 863, 81, 864, 865, 578, 579, 18, 580, 581, 582, 583, 584, 55, 56, 585, 525, 526, 527, 154, 866, 867, 868, 869, 329, 77, 78, 79, 870, 871, 872, 873, 874, 417, 418, 419, 151, 891, 892, 893, 894, 895, 202, 203, 204, 896, 897, 898, 899, 976, 977, 978, 979, 980, 981, 982, 983, 984, 1036, 1037, 1038, 1039, 1040, 1041, 1042, 1043, 1044, 1018, 1019, 1020, 1021, 1022, 1023, 1024, 1025, 1026, 1027, 1028] (by decide +kernel) (by decide +kernel)
set_option maxRecDepth 20000 in
theorem gL_law_X7_ask : GoodIn wsL_law (wsV RL 118 RX7 yX7_ask wsX7_ask) := goodIn_app (goodIn_of _ (by decide +kernel)) ggL_law_X7_ask
set_option maxRecDepth 20000 in
theorem ggL_law_X8_ask : GoodIn wsL_law wsX8_ask := goodIn_r _ [903, 94, 111, 879, 880, 881, 5, 882, 109, 97, 95, 110, 883, 884, 885, 886, 343, 107, 776, 777, 778, 779, 608, 609, 610, 611, 985, 986, 987, 988, 989, 990, 991, 992, 993, 994, 995, 996, 997, 998, 999, 1000, 1001, 1002, 1003, 1004, 1005, 1006, 1007, 1008, 1009, 1010, 1011] (by decide +kernel) (by decide +kernel)
set_option maxRecDepth 20000 in
theorem gL_law_X8_ask : GoodIn wsL_law (wsV RL 121 RX8 yX8_ask wsX8_ask) := goodIn_app (goodIn_of _ (by decide +kernel)) ggL_law_X8_ask
set_option maxRecDepth 20000 in
theorem ggL_law_X7_write : GoodIn wsL_law wsX7_write := goodIn_r _ [907, 19, 460, 116, 40, 410, 118, 479, 480, 481, 18, 482, 153, 908, 909, 910, 39, 911, 335, 86, 87, 976, 977, 978, 979, 980, 981, 982, 983, 984, 1045, 1046, 1047, 1018, 1019, 1020, 1021, 1022, 1023, 1024, 1025, 1026, 1027, 1028] (by decide +kernel) (by decide +kernel)
set_option maxRecDepth 20000 in
theorem gL_law_X7_write : GoodIn wsL_law (wsV RL 122 RX7 yX7_write wsX7_write) := goodIn_app (goodIn_of _ (by decide +kernel)) ggL_law_X7_write
set_option maxRecDepth 20000 in
theorem ggL_law_X8_write : GoodIn wsL_law wsX8_write := goodIn_r _ [915, 469, 128, 344, 130, 108, 505, 506, 507, 5, 508, 94, 131, 132, 133, 985, 986, 987, 988, 989, 990, 991, 992, 993, 994, 995, 996, 997, 998, 999, 1000, 1001, 1002, 1003, 1004, 1005, 1006, 1007, 1008, 1009, 1010, 1011] (by decide +kernel) (by decide +kernel)
set_option maxRecDepth 20000 in
theorem gL_law_X8_write : GoodIn wsL_law (wsV RL 125 RX8 yX8_write wsX8_write) := goodIn_app (goodIn_of _ (by decide +kernel)) ggL_law_X8_write
set_option maxRecDepth 20000 in
theorem ggL_law_X7_tear : GoodIn wsL_law wsX7_tear := goodIn_r _ [919, 36, 409, 40, 410, 920, 326, 327, 35, 328, 329, 330, 331, 332, 333, 39, 334, 335, 976, 977, 978, 979, 980, 981, 982, 983, 984, 1036, 1037, 1038, 1039, 1040, 1041, 1042, 1043, 1044, 1045, 1046, 1047] (by decide +kernel) (by decide +kernel)
set_option maxRecDepth 20000 in
theorem gL_law_X7_tear : GoodIn wsL_law (wsV RL 126 RX7 yX7_tear wsX7_tear) := goodIn_app (goodIn_of _ (by decide +kernel)) ggL_law_X7_tear
set_option maxRecDepth 20000 in
theorem ggL_law_X8_tear : GoodIn wsL_law wsX8_tear := goodIn_r _ [924, 343, 344, 985, 986, 987, 988, 989, 990, 991, 992, 993, 994, 995, 996, 997, 998, 999, 1000, 1001, 1002, 1003, 1004, 1005, 1006, 1007, 1008, 1009, 1010, 1011] (by decide +kernel) (by decide +kernel)
set_option maxRecDepth 20000 in
theorem gL_law_X8_tear : GoodIn wsL_law (wsV RL 129 RX8 yX8_tear wsX8_tear) := goodIn_app (goodIn_of _ (by decide +kernel)) ggL_law_X8_tear
set_option maxRecDepth 20000 in
theorem ggL_law_X7_judge : GoodIn wsL_law wsX7_judge := goodIn_r _ [928, 40, 24, 929, 930, 931, 39, 932, 335, 86, 87, 933, 484, 485, 23, 486, 60, 428, 429, 430, 976, 977, 978, 979, 980, 981, 982, 983, 984, 1045, 1046, 1047, 1029] (by decide +kernel) (by decide +kernel)
set_option maxRecDepth 20000 in
theorem gL_law_X7_judge : GoodIn wsL_law (wsV RL 130 RX7 yX7_judge wsX7_judge) := goodIn_app (goodIn_of _ (by decide +kernel)) ggL_law_X7_judge
set_option maxRecDepth 20000 in
theorem ggL_law_X8_judge : GoodIn wsL_law wsX8_judge := goodIn_r _ [937, 344, 102, 108, 985, 986, 987, 988, 989, 990, 991, 992, 993, 994, 995, 996, 997, 998, 999, 1000, 1001, 1002, 1003, 1004, 1005, 1006, 1007, 1008, 1009, 1010, 1011] (by decide +kernel) (by decide +kernel)
set_option maxRecDepth 20000 in
theorem gL_law_X8_judge : GoodIn wsL_law (wsV RL 133 RX8 yX8_judge wsX8_judge) := goodIn_app (goodIn_of _ (by decide +kernel)) ggL_law_X8_judge
set_option maxRecDepth 20000 in
theorem ggL_law_X7_seed : GoodIn wsL_law wsX7_seed := goodIn_r _ [941, 116, 686, 976, 977, 978, 979, 980, 981, 982, 983, 984] (by decide +kernel) (by decide +kernel)
set_option maxRecDepth 20000 in
theorem gL_law_X7_seed : GoodIn wsL_law (wsV RL 134 RX7 yX7_seed wsX7_seed) := goodIn_app (goodIn_of _ (by decide +kernel)) ggL_law_X7_seed
set_option maxRecDepth 20000 in
theorem ggL_law_X8_seed : GoodIn wsL_law wsX8_seed := goodIn_r _ [945, 128, 698, 985, 986, 987, 988, 989, 990, 991, 992, 993, 994, 995, 996, 997, 998, 999, 1000, 1001, 1002, 1003, 1004, 1005, 1006, 1007, 1008, 1009, 1010, 1011] (by decide +kernel) (by decide +kernel)
set_option maxRecDepth 20000 in
theorem gL_law_X8_seed : GoodIn wsL_law (wsV RL 137 RX8 yX8_seed wsX8_seed) := goodIn_app (goodIn_of _ (by decide +kernel)) ggL_law_X8_seed
set_option maxRecDepth 20000 in
theorem ggL_law_X7_keep : GoodIn wsL_law wsX7_keep := goodIn_r _ [949, 32, 460, 24, 686, 28, 950, 951, 952, 31, 953, 954, 955, 956, 957, 70, 71, 73, 958, 959, 561, 562, 23, 563, 60, 564, 206, 203, 207, 565, 566, 567, 568, 311, 312, 313, 27, 314, 315, 976, 977, 978, 979, 980, 981, 982, 983, 984, 1033, 1034, 1035, 1029, 1030, 1031, 1032] (by decide +kernel) (by decide +kernel)
set_option maxRecDepth 20000 in
theorem gL_law_X7_keep : GoodIn wsL_law (wsV RL 138 RX7 yX7_keep wsX7_keep) := goodIn_app (goodIn_of _ (by decide +kernel)) ggL_law_X7_keep
set_option maxRecDepth 20000 in
theorem ggL_law_X8_keep : GoodIn wsL_law wsX8_keep := goodIn_r _ [963, 469, 104, 102, 105, 698, 106, 342, 131, 132, 5, 133, 985, 986, 987, 988, 989, 990, 991, 992, 993, 994, 995, 996, 997, 998, 999, 1000, 1001, 1002, 1003, 1004, 1005, 1006, 1007, 1008, 1009, 1010, 1011] (by decide +kernel) (by decide +kernel)
set_option maxRecDepth 20000 in
theorem gL_law_X8_keep : GoodIn wsL_law (wsV RL 141 RX8 yX8_keep wsX8_keep) := goodIn_app (goodIn_of _ (by decide +kernel)) ggL_law_X8_keep
set_option maxRecDepth 20000 in
theorem ggL_law_X7_goBack : GoodIn wsL_law wsX7_goBack := goodIn_r _ [967, 32, 460, 968, 551, 24, 969, 970, 686, 28, 950, 951, 952, 31, 953, 971, 712, 713, 23, 714, 60, 564, 206, 203, 207, 565, 566, 567, 568, 311, 312, 313, 27, 314, 315, 976, 977, 978, 979, 980, 981, 982, 983, 984, 1033, 1034, 1035, 1029, 1030, 1031, 1032] (by decide +kernel) (by decide +kernel)
set_option maxRecDepth 20000 in
theorem gL_law_X7_goBack : GoodIn wsL_law (wsV RL 142 RX7 yX7_goBack wsX7_goBack) := goodIn_app (goodIn_of _ (by decide +kernel)) ggL_law_X7_goBack
set_option maxRecDepth 20000 in
theorem ggL_law_X8_goBack : GoodIn wsL_law wsX8_goBack := goodIn_r _ [975, 469, 106, 594, 102, 104, 105, 698, 342, 131, 132, 5, 133, 985, 986, 987, 988, 989, 990, 991, 992, 993, 994, 995, 996, 997, 998, 999, 1000, 1001, 1002, 1003, 1004, 1005, 1006, 1007, 1008, 1009, 1010, 1011] (by decide +kernel) (by decide +kernel)
set_option maxRecDepth 20000 in
theorem gL_law_X8_goBack : GoodIn wsL_law (wsV RL 145 RX8 yX8_goBack wsX8_goBack) := goodIn_app (goodIn_of _ (by decide +kernel)) ggL_law_X8_goBack
