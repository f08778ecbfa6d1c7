/-! the law's calls of the reference: their words -/
set_option maxRecDepth 20000 in
theorem ggL_law_X10_init : GoodIn wsL_law wsX10_init := goodIn_r _ [110, 111, 10, 11, 112, 113, 55, 114, 115, 116, 117, 118, 119, 120, 121, 122, 123, 124, 125, 126, 127, 128, 129, 130, 131, 132, 133, 134, 135, 136, 137, 138, 139, 140, 141, 142, 143, 144, 145, 146, 147, 148, 902, 903, 904, 905, 906, 907, 908, 909, 910, 911, 912, 913, 914, 915, 916, 917, 918, 919, 920, 921, 922, 923, 924, 925, 926, 927, 928, 929, 930, 931, 932, 933, 934, 935, 936, 937, 938, 939, 940, 941, 942, 943, 944, 945, 946] (by decide +kernel) (by decide +kernel)
set_option maxRecDepth 20000 in
theorem gL_law_X10_init : GoodIn wsL_law (wsX10_init) := ggL_law_X10_init
set_option maxRecDepth 20000 in
theorem ggL_law_X10_file : GoodIn wsL_law wsX10_file := goodIn_r _ [165, 166, 167, 112, 113, 168, 169, 170, 5, 171, 902, 903, 904, 905, 906, 907, 908, 909, 910, 911, 912, 913, 914, 915, 916, 917, 918, 919, 920, 921, 922, 923, 924, 925, 926, 927, 928, 929, 930, 931, 932, 933, 934, 935, 936, 937, 938, 939, 940, 941, 942, 943, 944, 945, 946] (by decide +kernel) (by decide +kernel)
set_option maxRecDepth 20000 in
theorem gL_law_X10_file : GoodIn wsL_law (wsV RL 17 RX10 yX10_file wsX10_file) := goodIn_app (goodIn_of _ (by decide +kernel)) ggL_law_X10_file
set_option maxRecDepth 20000 in
theorem ggL_law_X10_value : GoodIn wsL_law wsX10_value := goodIn_r _ [192, 166, 193, 194, 195, 5, 196, 112, 113, 169, 170, 171, 197, 198, 199, 200, 168, 201, 902, 903, 904, 905, 906, 907, 908, 909, 910, 911, 912, 913, 914, 915, 916, 917, 918, 919, 920, 921, 922, 923, 924, 925, 926, 927, 928, 929, 930, 931, 932, 933, 934, 935, 936, 937, 938, 939, 940, 941, 942, 943, 944, 945, 946] (by decide +kernel) (by decide +kernel)
set_option maxRecDepth 20000 in
theorem gL_law_X10_value : GoodIn wsL_law (wsV RL 22 RX10 yX10_value wsX10_value) := goodIn_app (goodIn_of _ (by decide +kernel)) ggL_law_X10_value
set_option maxRecDepth 20000 in
theorem ggL_law_X10_sum : GoodIn wsL_law wsX10_sum := goodIn_r _ [218, 166, 193, 194, 195, 5, 196, 112, 113, 169, 170, 171, 219, 220, 221, 222, 223, 197, 198, 199, 200, 168, 201, 902, 903, 904, 905, 906, 907, 908, 909, 910, 911, 912, 913, 914, 915, 916, 917, 918, 919, 920, 921, 922, 923, 924, 925, 926, 927, 928, 929, 930, 931, 932, 933, 934, 935, 936, 937, 938, 939, 940, 941, 942, 943, 944, 945, 946] (by decide +kernel) (by decide +kernel)
set_option maxRecDepth 20000 in
theorem gL_law_X10_sum : GoodIn wsL_law (wsV RL 27 RX10 yX10_sum wsX10_sum) := goodIn_app (goodIn_of _ (by decide +kernel)) ggL_law_X10_sum
set_option maxRecDepth 20000 in
theorem ggL_law_X10_peer : GoodIn wsL_law wsX10_peer := goodIn_r _ [256, 166, 167, 114, 115, 116, 118, 119, 124, 137, 138, 112, 125, 113, 127, 128, 129, 169, 170, 5, 171, 257, 258, 259, 197, 198, 199, 200, 168, 201, 902, 903, 904, 905, 906, 907, 908, 909, 910, 911, 912, 913, 914, 915, 916, 917, 918, 919, 920, 921, 922, 923, 924, 925, 926, 927, 928, 929, 930, 931, 932, 933, 934, 935, 936, 937, 938, 939, 940, 941, 942, 943, 944, 945, 946] (by decide +kernel) (by decide +kernel)
set_option maxRecDepth 20000 in
theorem gL_law_X10_peer : GoodIn wsL_law (wsV RL 32 RX10 yX10_peer wsX10_peer) := goodIn_app (goodIn_of _ (by decide +kernel)) ggL_law_X10_peer
set_option maxRecDepth 20000 in
theorem ggL_law_X10_often : GoodIn wsL_law wsX10_often := goodIn_r _ [274, 166, 114, 119, 275, 276, 277, 5, 278, 167, 169, 170, 171, 902, 903, 904, 905, 906, 907, 908, 909, 910, 911, 912, 913, 914, 915, 916, 917, 918, 919, 920, 921, 922, 923, 924, 925, 926, 927, 928, 929, 930, 931, 932, 933, 934, 935, 936, 937, 938, 939, 940, 941, 942, 943, 944, 945, 946] (by decide +kernel) (by decide +kernel)
set_option maxRecDepth 20000 in
theorem gL_law_X10_often : GoodIn wsL_law (wsV RL 37 RX10 yX10_often wsX10_often) := goodIn_app (goodIn_of _ (by decide +kernel)) ggL_law_X10_often
set_option maxRecDepth 20000 in
theorem ggL_law_X10_meet : GoodIn wsL_law wsX10_meet := goodIn_r _ [296, 166, 130, 297, 298, 299, 5, 300, 275, 276, 277, 278, 167, 169, 170, 171, 301, 302, 303, 902, 903, 904, 905, 906, 907, 908, 909, 910, 911, 912, 913, 914, 915, 916, 917, 918, 919, 920, 921, 922, 923, 924, 925, 926, 927, 928, 929, 930, 931, 932, 933, 934, 935, 936, 937, 938, 939, 940, 941, 942, 943, 944, 945, 946] (by decide +kernel) (by decide +kernel)
set_option maxRecDepth 20000 in
theorem gL_law_X10_meet : GoodIn wsL_law (wsV RL 41 RX10 yX10_meet wsX10_meet) := goodIn_app (goodIn_of _ (by decide +kernel)) ggL_law_X10_meet
set_option maxRecDepth 20000 in
theorem ggL_law_X10_leave : GoodIn wsL_law wsX10_leave := goodIn_r _ [337, 166, 118, 338, 139, 140, 339, 167, 131, 275, 276, 277, 5, 278, 169, 170, 171, 340, 341, 342, 343, 141, 142, 143, 144, 145, 301, 302, 303, 902, 903, 904, 905, 906, 907, 908, 909, 910, 911, 912, 913, 914, 915, 916, 917, 918, 919, 920, 921, 922, 923, 924, 925, 926, 927, 928, 929, 930, 931, 932, 933, 934, 935, 936, 937, 938, 939, 940, 941, 942, 943, 944, 945, 946] (by decide +kernel) (by decide +kernel)
set_option maxRecDepth 20000 in
theorem gL_law_X10_leave : GoodIn wsL_law (wsV RL 46 RX10 yX10_leave wsX10_leave) := goodIn_app (goodIn_of _ (by decide +kernel)) ggL_law_X10_leave
set_option maxRecDepth 20000 in
theorem ggL_law_X10_join : GoodIn wsL_law wsX10_join := goodIn_r _ [351, 166, 118, 275, 276, 277, 5, 278, 167, 169, 170, 171, 902, 903, 904, 905, 906, 907, 908, 909, 910, 911, 912, 913, 914, 915, 916, 917, 918, 919, 920, 921, 922, 923, 924, 925, 926, 927, 928, 929, 930, 931, 932, 933, 934, 935, 936, 937, 938, 939, 940, 941, 942, 943, 944, 945, 946] (by decide +kernel) (by decide +kernel)
set_option maxRecDepth 20000 in
theorem gL_law_X10_join : GoodIn wsL_law (wsV RL 50 RX10 yX10_join wsX10_join) := goodIn_app (goodIn_of _ (by decide +kernel)) ggL_law_X10_join
set_option maxRecDepth 20000 in
theorem ggL_law_X10_tick : GoodIn wsL_law wsX10_tick := goodIn_r _ [624, 166, 625, 169, 170, 5, 171, 626, 627, 628, 629, 630, 167, 118, 147, 115, 148, 116, 631, 632, 633, 634, 338, 144, 145, 635, 636, 637, 638, 139, 140, 141, 142, 120, 136, 122, 639, 127, 128, 143, 129, 113, 223, 125, 124, 301, 302, 303, 640, 641, 642, 643, 126, 257, 258, 259, 644, 645, 646, 647, 219, 220, 221, 222, 197, 198, 199, 200, 168, 201, 648, 649, 650, 651, 123, 652, 133, 132, 653, 654, 655, 656, 657, 658, 659, 660, 112, 661, 662, 663, 664, 340, 341, 342, 343, 665, 666, 667, 668, 146, 131, 114, 137, 138, 135, 669, 670, 671, 672, 673, 674, 675, 676, 130, 677, 678, 679, 680, 681, 682, 683, 684, 685, 686, 687, 688, 689, 690, 691, 692, 693, 694, 695, 696, 697, 698, 699, 700, 701, 702, 703, 704, 705, 706, 707, 708, 709, 710, 711, 712, 713, 714, 715, 716, 717, 718, 719, 720, 721, 722, 723, 724, 121, 134, 119, 725, 726, 727, 728, 902, 903, 904, 905, 906, 907, 908, 909, 910, 911, 912, 913, 914, 915, 916, 917, 918, 919, 920, 921, 922, 923, 924, 925, 926, 927, 928, 929, 930, 931, 932, 933, 934, 935, 936, 937, 938, 939, 940, 941, 942, 943, 944, 945, 946] (by decide +kernel) (by decide +kernel)
set_option maxRecDepth 20000 in
theorem gL_law_X10_tick : GoodIn wsL_law (wsV RL 54 RX10 yX10_tick wsX10_tick) := goodIn_app (goodIn_of _ (by decide +kernel)) ggL_law_X10_tick
set_option maxRecDepth 20000 in
theorem ggL_law_X10_about : GoodIn wsL_law wsX10_about := goodIn_r _ [754, 166, 114, 118, 120, 121, 122, 123, 126, 112, 124, 132, 167, 130, 275, 276, 277, 5, 278, 169, 170, 171, 661, 662, 663, 664, 125, 755, 756, 757, 758, 644, 645, 646, 647, 113, 127, 257, 258, 259, 759, 760, 761, 762, 763, 764, 765, 766, 338, 139, 767, 768, 769, 770, 771, 772, 773, 774, 131, 301, 302, 303, 673, 674, 675, 676, 902, 903, 904, 905, 906, 907, 908, 909, 910, 911, 912, 913, 914, 915, 916, 917, 918, 919, 920, 921, 922, 923, 924, 925, 926, 927, 928, 929, 930, 931, 932, 933, 934, 935, 936, 937, 938, 939, 940, 941, 942, 943, 944, 945, 946] (by decide +kernel) (by decide +kernel)
set_option maxRecDepth 20000 in
theorem gL_law_X10_about : GoodIn wsL_law (wsV RL 58 RX10 yX10_about wsX10_about) := goodIn_app (goodIn_of _ (by decide +kernel)) ggL_law_X10_about
set_option maxRecDepth 20000 in
theorem ggL_law_X10_held : GoodIn wsL_law wsX10_held := goodIn_r _ [784, 166, 275, 276, 277, 5, 278, 167, 169, 170, 171, 193, 194, 195, 196, 112, 113, 644, 645, 646, 647, 127, 257, 258, 259, 902, 903, 904, 905, 906, 907, 908, 909, 910, 911, 912, 913, 914, 915, 916, 917, 918, 919, 920, 921, 922, 923, 924, 925, 926, 927, 928, 929, 930, 931, 932, 933, 934, 935, 936, 937, 938, 939, 940, 941, 942, 943, 944, 945, 946] (by decide +kernel) (by decide +kernel)
set_option maxRecDepth 20000 in
theorem gL_law_X10_held : GoodIn wsL_law (wsV RL 62 RX10 yX10_held wsX10_held) := goodIn_app (goodIn_of _ (by decide +kernel)) ggL_law_X10_held
set_option maxRecDepth 20000 in
theorem ggL_law_X10_from : GoodIn wsL_law wsX10_from := goodIn_r _ [794, 166, 127, 129, 275, 276, 277, 5, 278, 167, 169, 170, 171, 193, 194, 195, 196, 112, 113, 257, 258, 259, 902, 903, 904, 905, 906, 907, 908, 909, 910, 911, 912, 913, 914, 915, 916, 917, 918, 919, 920, 921, 922, 923, 924, 925, 926, 927, 928, 929, 930, 931, 932, 933, 934, 935, 936, 937, 938, 939, 940, 941, 942, 943, 944, 945, 946] (by decide +kernel) (by decide +kernel)
set_option maxRecDepth 20000 in
theorem gL_law_X10_from : GoodIn wsL_law (wsV RL 66 RX10 yX10_from wsX10_from) := goodIn_app (goodIn_of _ (by decide +kernel)) ggL_law_X10_from
set_option maxRecDepth 20000 in
theorem ggL_law_X10_got : GoodIn wsL_law wsX10_got := goodIn_r _ [804, 166, 127, 128, 275, 276, 277, 5, 278, 167, 169, 170, 171, 193, 194, 195, 196, 112, 113, 257, 258, 259, 902, 903, 904, 905, 906, 907, 908, 909, 910, 911, 912, 913, 914, 915, 916, 917, 918, 919, 920, 921, 922, 923, 924, 925, 926, 927, 928, 929, 930, 931, 932, 933, 934, 935, 936, 937, 938, 939, 940, 941, 942, 943, 944, 945, 946] (by decide +kernel) (by decide +kernel)
set_option maxRecDepth 20000 in
theorem gL_law_X10_got : GoodIn wsL_law (wsV RL 70 RX10 yX10_got wsX10_got) := goodIn_app (goodIn_of _ (by decide +kernel)) ggL_law_X10_got
set_option maxRecDepth 20000 in
theorem ggL_law_X10_rare : GoodIn wsL_law wsX10_rare := goodIn_r _ [814, 166, 275, 276, 277, 5, 278, 167, 169, 170, 171, 193, 194, 195, 196, 112, 113, 717, 718, 719, 720, 673, 674, 675, 676, 130, 118, 132, 301, 302, 303, 677, 678, 679, 680, 125, 114, 902, 903, 904, 905, 906, 907, 908, 909, 910, 911, 912, 913, 914, 915, 916, 917, 918, 919, 920, 921, 922, 923, 924, 925, 926, 927, 928, 929, 930, 931, 932, 933, 934, 935, 936, 937, 938, 939, 940, 941, 942, 943, 944, 945, 946] (by decide +kernel) (by decide +kernel)
set_option maxRecDepth 20000 in
theorem gL_law_X10_rare : GoodIn wsL_law (wsV RL 74 RX10 yX10_rare wsX10_rare) := goodIn_app (goodIn_of _ (by decide +kernel)) ggL_law_X10_rare
set_option maxRecDepth 20000 in
theorem ggL_law_X10_pair : GoodIn wsL_law wsX10_pair := goodIn_r _ [827, 166, 130, 134, 133, 132, 137, 297, 298, 299, 5, 300, 275, 276, 277, 278, 167, 169, 170, 171, 301, 302, 303, 673, 674, 675, 676, 118, 669, 670, 671, 672, 112, 125, 677, 678, 679, 680, 114, 771, 772, 773, 774, 131, 681, 682, 683, 684, 135, 136, 657, 658, 659, 660, 661, 662, 663, 664, 902, 903, 904, 905, 906, 907, 908, 909, 910, 911, 912, 913, 914, 915, 916, 917, 918, 919, 920, 921, 922, 923, 924, 925, 926, 927, 928, 929, 930, 931, 932, 933, 934, 935, 936, 937, 938, 939, 940, 941, 942, 943, 944, 945, 946] (by decide +kernel) (by decide +kernel)
set_option maxRecDepth 20000 in
theorem gL_law_X10_pair : GoodIn wsL_law (wsV RL 78 RX10 yX10_pair wsX10_pair) := goodIn_app (goodIn_of _ (by decide +kernel)) ggL_law_X10_pair
set_option maxRecDepth 20000 in
theorem ggL_law_X10_alone : GoodIn wsL_law wsX10_alone := goodIn_r _ [840, 166, 112, 125, 275, 276, 277, 5, 278, 167, 169, 170, 171, 841, 842, 843, 844, 118, 902, 903, 904, 905, 906, 907, 908, 909, 910, 911, 912, 913, 914, 915, 916, 917, 918, 919, 920, 921, 922, 923, 924, 925, 926, 927, 928, 929, 930, 931, 932, 933, 934, 935, 936, 937, 938, 939, 940, 941, 942, 943, 944, 945, 946] (by decide +kernel) (by decide +kernel)
set_option maxRecDepth 20000 in
theorem gL_law_X10_alone : GoodIn wsL_law (wsV RL 82 RX10 yX10_alone wsX10_alone) := goodIn_app (goodIn_of _ (by decide +kernel)) ggL_law_X10_alone
set_option maxRecDepth 20000 in
theorem ggL_law_X10_bound_ : GoodIn wsL_law wsX10_bound_ := goodIn_r _ [868, 166, 118, 112, 113, 115, 167, 116, 275, 276, 277, 5, 278, 169, 170, 171, 657, 658, 659, 660, 661, 662, 663, 664, 125, 869, 870, 871, 755, 756, 757, 758, 644, 645, 646, 647, 127, 257, 258, 259, 763, 764, 765, 766, 338, 139, 902, 903, 904, 905, 906, 907, 908, 909, 910, 911, 912, 913, 914, 915, 916, 917, 918, 919, 920, 921, 922, 923, 924, 925, 926, 927, 928, 929, 930, 931, 932, 933, 934, 935, 936, 937, 938, 939, 940, 941, 942, 943, 944, 945, 946] (by decide +kernel) (by decide +kernel)
set_option maxRecDepth 20000 in
theorem gL_law_X10_bound_ : GoodIn wsL_law (wsV RL 86 RX10 yX10_bound_ wsX10_bound_) := goodIn_app (goodIn_of _ (by decide +kernel)) ggL_law_X10_bound_
set_option maxRecDepth 20000 in
theorem ggL_law_X10_count_ : GoodIn wsL_law wsX10_count_ := goodIn_r _ [897, 166, 630, 167, 118, 112, 113, 625, 338, 339, 652, 639, 759, 760, 761, 5, 762, 657, 658, 659, 660, 661, 662, 663, 664, 125, 902, 903, 904, 905, 906, 907, 908, 909, 910, 911, 912, 913, 914, 915, 916, 917, 918, 919, 920, 921, 922, 923, 924, 925, 926, 927, 928, 929, 930, 931, 932, 933, 934, 935, 936, 937, 938, 939, 940, 941, 942, 943, 944, 945, 946] (by decide +kernel) (by decide +kernel)
set_option maxRecDepth 20000 in
theorem gL_law_X10_count_ : GoodIn wsL_law (wsV RL 90 RX10 yX10_count_ wsX10_count_) := goodIn_app (goodIn_of _ (by decide +kernel)) ggL_law_X10_count_
