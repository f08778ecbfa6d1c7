/-! the law's calls of the class: their words -/
set_option maxRecDepth 20000 in
theorem ggL_law_X9_init : GoodIn wsL_law wsX9_init := goodIn_r _ [8, 9, 10, 11, 12, 13, 14, 15, 16, 17, 18, 19, 20, 21, 22, 23, 24, 25, 26, 27, 28, 29, 30, 31, 32, 33, 34, 35, 36, 37, 38, 39, 40, 41, 42, 43, 44, 45, 46, 47, 48, 49, 50, 51, 52, 53, 54, 55, 56, 57, 58, 59, 60, 61, 62, 63, 64, 65, 66, 67, 68, 69, 70, 71, 72, 73, 74, 75, 76, 77, 78, 79, 80, 81, 82, 83, 84, 85, 86, 87, 88, 89, 90, 91, 92, 93, 94, 95, 96, 97, 98, 99, 100, 101, 102, 103, 104, 105, 106, 107, 947, 948, 949, 950, 951, 952, 953, 954, 898, 899, 900, 901, 955, 956, 957, 958, 959, 960, 961, 962, 963, 964, 965, 966, 967, 968, 969, 970, 971, 972, 973, 974, 975, 976, 977, 978, 979, 980, 981, 982, 983, 984, 985, 986, 987, 988, 989, 990, 991, 992, 993, 994, 995, 996] (by decide +kernel) (by decide +kernel)
set_option maxRecDepth 20000 in
theorem gL_law_X9_init : GoodIn wsL_law (wsX9_init) := ggL_law_X9_init
set_option maxRecDepth 20000 in
theorem ggL_law_X9_file : GoodIn wsL_law wsX9_file := goodIn_r _ [152, 15, 153, 154, 155, 156, 2, 157, 158, 159, 160, 34, 161, 48, 49, 50, 898, 899, 900, 901, 947, 948, 949, 950, 951, 952, 953, 954, 958, 959, 960] (by decide +kernel) (by decide +kernel)
set_option maxRecDepth 20000 in
theorem gL_law_X9_file : GoodIn wsL_law (wsV RL 13 RX9 yX9_file wsX9_file) := goodIn_app (goodIn_of _ (by decide +kernel)) ggL_law_X9_file
set_option maxRecDepth 20000 in
theorem ggL_law_X9_value : GoodIn wsL_law wsX9_value := goodIn_r _ [175, 15, 154, 176, 177, 178, 34, 179, 49, 180, 181, 182, 183, 48, 184, 185, 186, 187, 50, 188, 898, 899, 900, 901, 947, 948, 949, 950, 951, 952, 953, 954, 958, 959, 960] (by decide +kernel) (by decide +kernel)
set_option maxRecDepth 20000 in
theorem gL_law_X9_value : GoodIn wsL_law (wsV RL 18 RX9 yX9_value wsX9_value) := goodIn_app (goodIn_of _ (by decide +kernel)) ggL_law_X9_value
set_option maxRecDepth 20000 in
theorem ggL_law_X9_sum : GoodIn wsL_law wsX9_sum := goodIn_r _ [205, 15, 154, 206, 181, 182, 34, 183, 48, 207, 208, 209, 210, 49, 211, 185, 186, 187, 50, 188, 212, 2, 213, 214, 898, 899, 900, 901, 947, 948, 949, 950, 951, 952, 953, 954, 958, 959, 960] (by decide +kernel) (by decide +kernel)
set_option maxRecDepth 20000 in
theorem gL_law_X9_sum : GoodIn wsL_law (wsV RL 23 RX9 yX9_sum wsX9_sum) := goodIn_app (goodIn_of _ (by decide +kernel)) ggL_law_X9_sum
set_option maxRecDepth 20000 in
theorem ggL_law_X9_peer : GoodIn wsL_law wsX9_peer := goodIn_r _ [227, 15, 153, 155, 156, 2, 157, 228, 229, 230, 14, 231, 232, 41, 233, 234, 235, 236, 35, 237, 238, 239, 240, 241, 68, 242, 243, 244, 81, 245, 246, 247, 248, 185, 186, 34, 187, 50, 188, 249, 250, 251, 252, 48, 898, 899, 900, 901, 947, 948, 949, 950, 951, 952, 953, 954, 968, 969, 970, 971, 972, 973, 974, 975, 976, 977, 978, 979, 980, 958, 959, 960, 981, 982, 983, 984, 985, 986] (by decide +kernel) (by decide +kernel)
set_option maxRecDepth 20000 in
theorem gL_law_X9_peer : GoodIn wsL_law (wsV RL 28 RX9 yX9_peer wsX9_peer) := goodIn_app (goodIn_of _ (by decide +kernel)) ggL_law_X9_peer
set_option maxRecDepth 20000 in
theorem ggL_law_X9_often : GoodIn wsL_law wsX9_often := goodIn_r _ [263, 15, 264, 265, 266, 267, 268, 269, 14, 270, 232, 155, 156, 2, 157, 898, 899, 900, 901, 947, 948, 949, 950, 951, 952, 953, 954, 968, 969, 970, 971, 972, 973, 974, 975, 976, 977, 978, 979, 980] (by decide +kernel) (by decide +kernel)
set_option maxRecDepth 20000 in
theorem gL_law_X9_often : GoodIn wsL_law (wsV RL 33 RX9 yX9_often wsX9_often) := goodIn_app (goodIn_of _ (by decide +kernel)) ggL_law_X9_often
set_option maxRecDepth 20000 in
theorem ggL_law_X9_meet : GoodIn wsL_law wsX9_meet := goodIn_r _ [282, 15, 264, 283, 284, 285, 286, 287, 14, 288, 289, 268, 269, 270, 232, 290, 291, 2, 292, 898, 899, 900, 901, 947, 948, 949, 950, 951, 952, 953, 954, 968, 969, 970, 971, 972, 973, 974, 975, 976, 977, 978, 979, 980, 987, 988, 989, 990, 991, 992, 993, 994, 995, 996] (by decide +kernel) (by decide +kernel)
set_option maxRecDepth 20000 in
theorem gL_law_X9_meet : GoodIn wsL_law (wsV RL 38 RX9 yX9_meet wsX9_meet) := goodIn_app (goodIn_of _ (by decide +kernel)) ggL_law_X9_meet
set_option maxRecDepth 20000 in
theorem ggL_law_X9_leave : GoodIn wsL_law wsX9_leave := goodIn_r _ [307, 15, 308, 267, 268, 269, 14, 270, 232, 290, 291, 2, 292, 309, 310, 311, 312, 238, 41, 313, 314, 315, 316, 317, 318, 39, 319, 320, 321, 236, 322, 323, 324, 325, 326, 327, 68, 328, 82, 329, 246, 247, 330, 331, 332, 38, 333, 56, 57, 58, 59, 60, 61, 898, 899, 900, 901, 947, 948, 949, 950, 951, 952, 953, 954, 968, 969, 970, 971, 972, 973, 974, 975, 976, 977, 978, 979, 980, 987, 988, 989, 990, 991, 992, 993, 994, 995, 996, 961, 962, 963, 964, 965, 966, 967, 981, 982, 983, 984, 985, 986] (by decide +kernel) (by decide +kernel)
set_option maxRecDepth 20000 in
theorem gL_law_X9_leave : GoodIn wsL_law (wsV RL 42 RX9 yX9_leave wsX9_leave) := goodIn_app (goodIn_of _ (by decide +kernel)) ggL_law_X9_leave
set_option maxRecDepth 20000 in
theorem ggL_law_X9_join : GoodIn wsL_law wsX9_join := goodIn_r _ [347, 15, 308, 267, 268, 269, 14, 270, 232, 290, 291, 2, 292, 898, 899, 900, 901, 947, 948, 949, 950, 951, 952, 953, 954] (by decide +kernel) (by decide +kernel)
set_option maxRecDepth 20000 in
theorem gL_law_X9_join : GoodIn wsL_law (wsV RL 47 RX9 yX9_join wsX9_join) := goodIn_app (goodIn_of _ (by decide +kernel)) ggL_law_X9_join
set_option maxRecDepth 20000 in
theorem ggL_law_X9_tick : GoodIn wsL_law wsX9_tick := goodIn_r _ [355, 15, 356, 357, 19, 23, 27, 155, 156, 2, 157, 358, 359, 360, 18, 361, 97, 362, 363, 364, 365, 366, 367, 368, 369, 370, 371, 372, 373, 374, 375, 376, 377, 378, 379, 380, 381, 382, 383, 326, 327, 68, 328, 82, 329, 246, 247, 384, 385, 386, 387, 388, 389, 291, 292, 390, 391, 392, 393, 245, 80, 394, 395, 396, 397, 398, 399, 400, 401, 81, 402, 403, 404, 405, 406, 407, 408, 409, 410, 411, 412, 212, 213, 214, 413, 208, 209, 34, 210, 49, 211, 185, 186, 187, 50, 188, 414, 415, 416, 417, 418, 419, 250, 251, 252, 48, 420, 421, 422, 423, 424, 425, 426, 427, 428, 429, 430, 431, 432, 433, 434, 435, 436, 437, 438, 331, 332, 38, 333, 56, 57, 58, 59, 60, 61, 439, 440, 441, 22, 442, 102, 443, 444, 445, 446, 447, 448, 449, 450, 451, 452, 453, 454, 455, 456, 43, 457, 458, 459, 460, 461, 14, 462, 41, 232, 236, 463, 464, 465, 466, 467, 69, 468, 469, 470, 471, 472, 473, 313, 238, 474, 475, 476, 477, 478, 479, 480, 481, 482, 483, 484, 73, 485, 486, 487, 488, 489, 490, 75, 491, 492, 493, 494, 495, 496, 497, 498, 499, 500, 72, 501, 87, 88, 502, 503, 504, 26, 505, 107, 506, 507, 508, 509, 510, 511, 512, 513, 514, 515, 516, 517, 518, 519, 520, 521, 522, 523, 524, 525, 526, 527, 528, 529, 530, 531, 532, 533, 534, 535, 536, 537, 538, 539, 540, 541, 542, 543, 544, 545, 546, 547, 548, 549, 550, 551, 552, 553, 554, 555, 556, 557, 558, 559, 560, 561, 562, 563, 564, 565, 566, 567, 568, 569, 570, 571, 572, 573, 574, 575, 576, 577, 578, 579, 580, 581, 582, 583, 584, 585, 586, 587, 588, 589, 590, 591, 592, 593, 594, 595, 596, 597, 598, 599, 600, 601, 602, 603, 604, 605, 606, 607, 608, 609, 610, 611, 612, 613, 614, 74, 615, 616, 617, 618, 619, 620, 898, 899, 900, 901, 947, 948, 949, 950, 951, 952, 953, 954, 955, 961, 962, 963, 964, 965, 966, 967, 968, 969, 970, 971, 972, 973, 974, 975, 976, 977, 978, 979, 980, 987, 988, 989, 990, 991, 992, 993, 994, 995, 996, 958, 959, 960, 981, 982, 983, 984, 985, 986, 956, 957] (by decide +kernel) (by decide +kernel)
set_option maxRecDepth 20000 in
theorem gL_law_X9_tick : GoodIn wsL_law (wsV RL 51 RX9 yX9_tick wsX9_tick) := goodIn_app (goodIn_of _ (by decide +kernel)) ggL_law_X9_tick
set_option maxRecDepth 20000 in
theorem ggL_law_X9_about : GoodIn wsL_law wsX9_about := goodIn_r _ [732, 15, 264, 265, 308, 733, 734, 735, 736, 737, 738, 739, 740, 741, 283, 742, 743, 284, 267, 268, 269, 14, 270, 232, 290, 291, 2, 292, 744, 407, 408, 745, 572, 573, 574, 575, 576, 577, 746, 747, 748, 68, 749, 750, 403, 404, 405, 406, 391, 392, 393, 245, 80, 246, 247, 898, 899, 900, 901, 947, 948, 949, 950, 951, 952, 953, 954, 968, 969, 970, 971, 972, 973, 974, 975, 976, 977, 978, 979, 980, 981, 982, 983, 984, 985, 986, 987, 988, 989, 990, 991, 992, 993, 994, 995, 996] (by decide +kernel) (by decide +kernel)
set_option maxRecDepth 20000 in
theorem gL_law_X9_about : GoodIn wsL_law (wsV RL 55 RX9 yX9_about wsX9_about) := goodIn_app (goodIn_of _ (by decide +kernel)) ggL_law_X9_about
set_option maxRecDepth 20000 in
theorem ggL_law_X9_held : GoodIn wsL_law wsX9_held := goodIn_r _ [778, 15, 154, 264, 733, 734, 779, 267, 268, 269, 14, 270, 232, 206, 181, 182, 34, 183, 48, 290, 291, 2, 292, 780, 403, 404, 68, 405, 406, 391, 392, 393, 245, 80, 246, 247, 407, 408, 898, 899, 900, 901, 947, 948, 949, 950, 951, 952, 953, 954, 968, 969, 970, 971, 972, 973, 974, 975, 976, 977, 978, 979, 980, 981, 982, 983, 984, 985, 986, 958, 959, 960] (by decide +kernel) (by decide +kernel)
set_option maxRecDepth 20000 in
theorem gL_law_X9_held : GoodIn wsL_law (wsV RL 59 RX9 yX9_held wsX9_held) := goodIn_app (goodIn_of _ (by decide +kernel)) ggL_law_X9_held
set_option maxRecDepth 20000 in
theorem ggL_law_X9_from : GoodIn wsL_law wsX9_from := goodIn_r _ [788, 15, 154, 264, 733, 789, 267, 268, 269, 14, 270, 232, 176, 177, 178, 34, 179, 49, 180, 181, 182, 183, 48, 790, 246, 2, 247, 898, 899, 900, 901, 947, 948, 949, 950, 951, 952, 953, 954, 968, 969, 970, 971, 972, 973, 974, 975, 976, 977, 978, 979, 980, 981, 982, 983, 984, 985, 986, 958, 959, 960] (by decide +kernel) (by decide +kernel)
set_option maxRecDepth 20000 in
theorem gL_law_X9_from : GoodIn wsL_law (wsV RL 63 RX9 yX9_from wsX9_from) := goodIn_app (goodIn_of _ (by decide +kernel)) ggL_law_X9_from
set_option maxRecDepth 20000 in
theorem ggL_law_X9_got : GoodIn wsL_law wsX9_got := goodIn_r _ [798, 15, 154, 264, 733, 734, 799, 267, 268, 269, 14, 270, 232, 176, 177, 178, 34, 179, 49, 180, 181, 182, 183, 48, 290, 291, 2, 292, 800, 391, 392, 68, 393, 245, 80, 246, 247, 790, 898, 899, 900, 901, 947, 948, 949, 950, 951, 952, 953, 954, 968, 969, 970, 971, 972, 973, 974, 975, 976, 977, 978, 979, 980, 981, 982, 983, 984, 985, 986, 958, 959, 960] (by decide +kernel) (by decide +kernel)
set_option maxRecDepth 20000 in
theorem gL_law_X9_got : GoodIn wsL_law (wsV RL 67 RX9 yX9_got wsX9_got) := goodIn_app (goodIn_of _ (by decide +kernel)) ggL_law_X9_got
set_option maxRecDepth 20000 in
theorem ggL_law_X9_rare : GoodIn wsL_law wsX9_rare := goodIn_r _ [808, 15, 154, 267, 268, 269, 14, 270, 232, 206, 181, 182, 34, 183, 48, 809, 471, 472, 473, 41, 313, 238, 474, 475, 476, 291, 2, 292, 810, 560, 561, 562, 464, 465, 466, 43, 467, 458, 69, 468, 469, 745, 572, 573, 574, 575, 576, 577, 898, 899, 900, 901, 947, 948, 949, 950, 951, 952, 953, 954, 958, 959, 960, 968, 969, 970, 971, 972, 973, 974, 975, 976, 977, 978, 979, 980, 987, 988, 989, 990, 991, 992, 993, 994, 995, 996, 981, 982, 983, 984, 985, 986] (by decide +kernel) (by decide +kernel)
set_option maxRecDepth 20000 in
theorem gL_law_X9_rare : GoodIn wsL_law (wsV RL 71 RX9 yX9_rare wsX9_rare) := goodIn_app (goodIn_of _ (by decide +kernel)) ggL_law_X9_rare
set_option maxRecDepth 20000 in
theorem ggL_law_X9_pair : GoodIn wsL_law wsX9_pair := goodIn_r _ [818, 15, 264, 283, 284, 743, 819, 820, 742, 821, 285, 286, 287, 14, 288, 289, 268, 269, 270, 232, 290, 291, 2, 292, 744, 407, 408, 809, 471, 472, 473, 41, 313, 238, 474, 475, 476, 822, 460, 461, 462, 236, 463, 464, 465, 466, 43, 467, 458, 69, 468, 469, 470, 823, 482, 483, 484, 73, 485, 486, 487, 488, 489, 490, 75, 898, 899, 900, 901, 947, 948, 949, 950, 951, 952, 953, 954, 968, 969, 970, 971, 972, 973, 974, 975, 976, 977, 978, 979, 980, 987, 988, 989, 990, 991, 992, 993, 994, 995, 996, 981, 982, 983, 984, 985, 986] (by decide +kernel) (by decide +kernel)
set_option maxRecDepth 20000 in
theorem gL_law_X9_pair : GoodIn wsL_law (wsV RL 75 RX9 yX9_pair wsX9_pair) := goodIn_app (goodIn_of _ (by decide +kernel)) ggL_law_X9_pair
set_option maxRecDepth 20000 in
theorem ggL_law_X9_alone : GoodIn wsL_law wsX9_alone := goodIn_r _ [831, 15, 154, 264, 733, 734, 832, 250, 251, 34, 252, 48, 833, 834, 835, 14, 836, 232, 238, 41, 236, 463, 291, 2, 292, 745, 572, 573, 574, 575, 576, 577, 267, 268, 269, 270, 898, 899, 900, 901, 947, 948, 949, 950, 951, 952, 953, 954, 968, 969, 970, 971, 972, 973, 974, 975, 976, 977, 978, 979, 980, 981, 982, 983, 984, 985, 986, 958, 959, 960] (by decide +kernel) (by decide +kernel)
set_option maxRecDepth 20000 in
theorem gL_law_X9_alone : GoodIn wsL_law (wsV RL 79 RX9 yX9_alone wsX9_alone) := goodIn_app (goodIn_of _ (by decide +kernel)) ggL_law_X9_alone
set_option maxRecDepth 20000 in
theorem ggL_law_X9_bound : GoodIn wsL_law wsX9_bound := goodIn_r _ [848, 15, 308, 264, 154, 849, 779, 850, 153, 733, 851, 852, 853, 854, 855, 267, 268, 269, 14, 270, 232, 290, 291, 2, 292, 856, 488, 489, 43, 490, 75, 857, 858, 859, 860, 861, 862, 68, 863, 245, 329, 864, 747, 748, 749, 750, 403, 404, 405, 406, 391, 392, 393, 80, 246, 247, 407, 408, 898, 899, 900, 901, 947, 948, 949, 950, 951, 952, 953, 954, 958, 959, 960, 968, 969, 970, 971, 972, 973, 974, 975, 976, 977, 978, 979, 980, 981, 982, 983, 984, 985, 986] (by decide +kernel) (by decide +kernel)
set_option maxRecDepth 20000 in
theorem gL_law_X9_bound : GoodIn wsL_law (wsV RL 83 RX9 yX9_bound wsX9_bound) := goodIn_app (goodIn_of _ (by decide +kernel)) ggL_law_X9_bound
set_option maxRecDepth 20000 in
theorem ggL_law_X9_count : GoodIn wsL_law wsX9_count := goodIn_r _ [875, 15, 357, 153, 308, 154, 849, 779, 356, 876, 877, 878, 745, 572, 573, 574, 575, 576, 577, 879, 880, 881, 14, 882, 232, 238, 41, 291, 2, 292, 883, 488, 489, 43, 490, 75, 407, 408, 884, 885, 886, 887, 888, 889, 890, 891, 892, 893, 898, 899, 900, 901, 947, 948, 949, 950, 951, 952, 953, 954, 958, 959, 960, 961, 962, 963, 964, 965, 966, 967, 968, 969, 970, 971, 972, 973, 974, 975, 976, 977, 978, 979, 980] (by decide +kernel) (by decide +kernel)
set_option maxRecDepth 20000 in
theorem gL_law_X9_count : GoodIn wsL_law (wsV RL 87 RX9 yX9_count wsX9_count) := goodIn_app (goodIn_of _ (by decide +kernel)) ggL_law_X9_count
