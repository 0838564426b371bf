set_option maxRecDepth 20000 in
theorem ggL_law_X4_init : GoodIn wsL_law wsX4_init := goodIn_r _ [10, 11, 12, 13, 14, 15, 16, 17, 18, 19, 20, 21, 22, 23, 24, 25, 26, 27, 28, 29, 30, 31, 32, 33, 34, 35, 36, 37, 38, 39, 40, 41, 42, 43, 44, 45, 46, 47, 7, 48, 49, 858, 859, 860, 861, 862, 863, 864, 865, 866, 867, 868, 869, 870, 871, 872, 873, 896, 897, 898, 899, 900, 901, 902, 903, 904, 905, 906, 907, 908, 909, 910, 911, 912, 913, 914, 915, 916, 917, 918, 919, 920, 921, 922, 923, 924] (by decide +kernel) (by decide +kernel)
set_option maxRecDepth 20000 in
theorem gL_law_X4_init : GoodIn wsL_law (wsX4_init) := ggL_law_X4_init
set_option maxRecDepth 20000 in
theorem ggL_law_X7_init : GoodIn wsL_law wsX7_init := goodIn_r _ [52, 53, 12, 13, 54, 55, 56, 57, 58, 59, 60, 61, 46, 62, 63, 64, 65, 66, 67, 68, 69, 70, 71, 72, 73, 74, 75, 76, 77, 78, 79, 925, 926, 927, 874, 875, 876, 877, 878, 879, 880, 881, 882, 883, 884, 885, 886, 887, 888, 889, 890, 891, 892, 893, 894, 895] (by decide +kernel) (by decide +kernel)
set_option maxRecDepth 20000 in
theorem gL_law_X7_init : GoodIn wsL_law (wsX7_init) := ggL_law_X7_init
set_option maxRecDepth 20000 in
theorem ggL_law_L_archer : GoodIn wsL_law wsL_archer := goodIn_ca (goodIn_ca (goodIn_r _ [83, 84, 85, 86, 87, 88, 2, 89, 90, 91, 92, 15, 93, 94, 95, 96, 97, 98, 99, 858, 859, 860, 861, 862, 863, 864, 865, 866, 867, 868, 869, 870, 871, 872, 873, 908, 909, 910, 911, 912, 913, 914, 915, 916, 917, 918, 919] (by decide +kernel) (by decide +kernel)) (goodIn_sub (fun _ h => List.mem_append_left _ (List.mem_append_left _ (List.mem_append_right _ h))) (by decide +kernel))) (goodIn_sub (fun _ h => List.mem_append_left _ (List.mem_append_right _ h)) (by decide +kernel))
set_option maxRecDepth 20000 in
theorem gL_law_L_archer : GoodIn wsL_law (va_wsS RL 91 yL_archer wsL_archer) := goodIn_app (goodIn_of _ (by decide +kernel)) ggL_law_L_archer
set_option maxRecDepth 20000 in
theorem ggL_law_X7_archer : GoodIn wsL_law wsX7_archer := goodIn_r _ [103, 104, 57, 105, 106, 107, 108, 109, 5, 110, 111, 112, 113, 114, 115, 116, 117, 56, 118, 119, 120, 121, 122, 12, 13, 123, 124, 125, 126, 127, 128, 129, 69, 130, 131, 132, 133, 134, 135, 136, 137, 138, 139, 140, 141, 68, 142, 143, 144, 145, 146, 147, 148, 149, 150, 151, 152, 153, 154, 155, 156, 157, 158, 159, 160, 161, 162, 163, 164, 165, 166, 167, 168, 169, 170, 171, 172, 173, 174, 175, 874, 875, 876, 877, 878, 879, 880, 881, 882, 883, 884, 885, 886, 887, 888, 889, 890, 891, 892, 893, 894, 895, 928, 929, 930, 931, 932, 933, 934, 935, 936, 937, 938, 939, 925, 926, 927] (by decide +kernel) (by decide +kernel)
set_option maxRecDepth 20000 in
theorem gL_law_X7_archer : GoodIn wsL_law (wsV RL 96 RX7 yX7_archer wsX7_archer) := goodIn_app (goodIn_of _ (by decide +kernel)) ggL_law_X7_archer
set_option maxRecDepth 20000 in
theorem ggL_law_X7_thrown : GoodIn wsL_law wsX7_thrown := goodIn_r _ [179, 104, 874, 875, 876, 877, 878, 879, 880, 881, 882, 883, 884, 885, 886, 887, 888, 889, 890, 891, 892, 893, 894, 895] (by decide +kernel) (by decide +kernel)
set_option maxRecDepth 20000 in
theorem gL_law_X7_thrown : GoodIn wsL_law (wsV RL 97 RX7 yX7_thrown wsX7_thrown) := goodIn_app (goodIn_of _ (by decide +kernel)) ggL_law_X7_thrown
set_option maxRecDepth 20000 in
theorem ggL_law_L_quiver : GoodIn wsL_law wsL_quiver := goodIn_ca (goodIn_ca (goodIn_r _ [182, 84, 85, 183, 184, 185, 2, 186, 90, 91, 187, 17, 188, 189, 95, 96, 97, 98, 99, 858, 859, 860, 861, 862, 863, 864, 865, 866, 867, 868, 869, 870, 871, 872, 873, 920, 921, 922, 923, 924] (by decide +kernel) (by decide +kernel)) (goodIn_sub (fun _ h => List.mem_append_left _ (List.mem_append_left _ (List.mem_append_right _ h))) (by decide +kernel))) (goodIn_sub (fun _ h => List.mem_append_left _ (List.mem_append_right _ h)) (by decide +kernel))
set_option maxRecDepth 20000 in
theorem gL_law_L_quiver : GoodIn wsL_law (va_wsS RL 100 yL_quiver wsL_quiver) := goodIn_app (goodIn_of _ (by decide +kernel)) ggL_law_L_quiver
set_option maxRecDepth 20000 in
theorem ggL_law_X7_quiver : GoodIn wsL_law wsX7_quiver := goodIn_r _ [193, 104, 58, 194, 195, 196, 108, 109, 5, 110, 111, 112, 113, 114, 115, 116, 117, 56, 118, 119, 197, 198, 199, 12, 13, 46, 200, 7, 201, 202, 124, 125, 126, 127, 128, 129, 69, 130, 131, 132, 133, 134, 135, 136, 137, 138, 139, 140, 141, 68, 142, 143, 144, 145, 146, 147, 148, 149, 150, 151, 152, 153, 154, 155, 156, 157, 158, 159, 160, 161, 162, 163, 164, 165, 166, 167, 168, 169, 170, 171, 172, 173, 174, 175, 874, 875, 876, 877, 878, 879, 880, 881, 882, 883, 884, 885, 886, 887, 888, 889, 890, 891, 892, 893, 894, 895, 940, 941, 942, 943, 944, 925, 926, 927] (by decide +kernel) (by decide +kernel)
set_option maxRecDepth 20000 in
theorem gL_law_X7_quiver : GoodIn wsL_law (wsV RL 102 RX7 yX7_quiver wsX7_quiver) := goodIn_app (goodIn_of _ (by decide +kernel)) ggL_law_X7_quiver
set_option maxRecDepth 20000 in
theorem ggL_law_L_give : GoodIn wsL_law wsL_give := goodIn_ca (goodIn_ca (goodIn_r _ [205, 206, 85, 207, 208, 209, 2, 210, 90, 91, 23, 211, 15, 212, 213, 214, 215, 216, 217, 218, 92, 219, 220, 221, 222, 187, 223, 224, 225, 226, 858, 859, 860, 861, 862, 863, 864, 865, 866, 867, 868, 869, 870, 871, 872, 873, 896, 897, 898, 899, 900, 901, 902, 903, 904, 905, 908, 909, 910, 911, 912, 913, 914, 915, 916, 917, 918, 919] (by decide +kernel) (by decide +kernel)) (goodIn_sub (fun _ h => List.mem_append_left _ (List.mem_append_left _ (List.mem_append_right _ h))) (by decide +kernel))) (goodIn_sub (fun _ h => List.mem_append_right _ h) (by decide +kernel))
set_option maxRecDepth 20000 in
theorem gL_law_L_give : GoodIn wsL_law (va_wsS RL 103 yL_give wsL_give) := goodIn_app (goodIn_of _ (by decide +kernel)) ggL_law_L_give
set_option maxRecDepth 20000 in
theorem ggL_law_X7_give : GoodIn wsL_law wsX7_give := goodIn_r _ [230, 104, 57, 231, 232, 233, 234, 5, 235, 115, 116, 117, 56, 118, 119, 108, 109, 110, 236, 237, 238, 239, 58, 111, 112, 113, 114, 240, 241, 242, 243, 62, 244, 245, 246, 247, 248, 249, 250, 251, 252, 253, 254, 255, 256, 257, 258, 259, 260, 261, 262, 263, 69, 874, 875, 876, 877, 878, 879, 880, 881, 882, 883, 884, 885, 886, 887, 888, 889, 890, 891, 892, 893, 894, 895, 928, 929, 930, 931, 932, 933, 934, 935, 936, 937, 938, 939, 925, 926, 927] (by decide +kernel) (by decide +kernel)
set_option maxRecDepth 20000 in
theorem gL_law_X7_give : GoodIn wsL_law (wsV RL 105 RX7 yX7_give wsX7_give) := goodIn_app (goodIn_of _ (by decide +kernel)) ggL_law_X7_give
set_option maxRecDepth 20000 in
theorem ggL_law_L_tune : GoodIn wsL_law wsL_tune := goodIn_ca (goodIn_ca (goodIn_r _ [266, 206, 84, 267, 268, 269, 2, 270, 271, 272, 213, 214, 215, 216, 217, 218, 92, 15, 95, 96, 97, 98, 99, 908, 909, 910, 911, 912, 913, 914, 915, 916, 917, 918, 919, 858, 859, 860, 861, 862, 863, 864, 865, 866, 867, 868, 869, 870, 871, 872, 873] (by decide +kernel) (by decide +kernel)) (goodIn_sub (fun _ h => List.mem_append_right _ h) (by decide +kernel))) (goodIn_sub (fun _ h => List.mem_append_left _ (List.mem_append_right _ h)) (by decide +kernel))
set_option maxRecDepth 20000 in
theorem gL_law_L_tune : GoodIn wsL_law (va_wsS RL 106 yL_tune wsL_tune) := goodIn_app (goodIn_of _ (by decide +kernel)) ggL_law_L_tune
set_option maxRecDepth 20000 in
theorem ggL_law_X7_tune : GoodIn wsL_law wsX7_tune := goodIn_r _ [276, 104, 57, 231, 232, 233, 234, 5, 235, 115, 116, 117, 56, 118, 119, 108, 109, 110, 111, 112, 113, 114, 248, 249, 250, 251, 252, 253, 254, 255, 256, 257, 258, 259, 260, 261, 262, 263, 69, 874, 875, 876, 877, 878, 879, 880, 881, 882, 883, 884, 885, 886, 887, 888, 889, 890, 891, 892, 893, 894, 895, 928, 929, 930, 931, 932, 933, 934, 935, 936, 937, 938, 939, 925, 926, 927] (by decide +kernel) (by decide +kernel)
set_option maxRecDepth 20000 in
theorem gL_law_X7_tune : GoodIn wsL_law (wsV RL 109 RX7 yX7_tune wsX7_tune) := goodIn_app (goodIn_of _ (by decide +kernel)) ggL_law_X7_tune
set_option maxRecDepth 20000 in
theorem ggL_law_L_string : GoodIn wsL_law wsL_string := goodIn_ca (goodIn_r _ [279, 206, 280, 281, 282, 2, 283, 284, 213, 214, 215, 216, 217, 218, 92, 15, 908, 909, 910, 911, 912, 913, 914, 915, 916, 917, 918, 919, 858, 859, 860, 861, 862, 863, 864, 865, 866, 867, 868, 869, 870, 871, 872, 873] (by decide +kernel) (by decide +kernel)) (goodIn_sub (fun _ h => List.mem_append_right _ h) (by decide +kernel))
set_option maxRecDepth 20000 in
theorem gL_law_L_string : GoodIn wsL_law (va_wsS RL 110 yL_string wsL_string) := goodIn_app (goodIn_of _ (by decide +kernel)) ggL_law_L_string
set_option maxRecDepth 20000 in
theorem ggL_law_X7_string : GoodIn wsL_law wsX7_string := goodIn_r _ [288, 104, 57, 231, 232, 233, 234, 5, 235, 115, 116, 117, 56, 118, 119, 108, 109, 110, 248, 249, 250, 251, 252, 253, 254, 255, 256, 257, 258, 259, 260, 261, 262, 263, 69, 874, 875, 876, 877, 878, 879, 880, 881, 882, 883, 884, 885, 886, 887, 888, 889, 890, 891, 892, 893, 894, 895, 928, 929, 930, 931, 932, 933, 934, 935, 936, 937, 938, 939, 925, 926, 927] (by decide +kernel) (by decide +kernel)
set_option maxRecDepth 20000 in
theorem gL_law_X7_string : GoodIn wsL_law (wsV RL 113 RX7 yX7_string wsX7_string) := goodIn_app (goodIn_of _ (by decide +kernel)) ggL_law_X7_string
set_option maxRecDepth 20000 in
theorem ggL_law_L_field : GoodIn wsL_law wsL_field := goodIn_ca (goodIn_ca (goodIn_r _ [291, 84, 85, 292, 293, 294, 2, 295, 90, 91, 18, 296, 19, 95, 96, 97, 98, 99, 297, 298, 299, 300, 187, 17, 301, 302, 303, 32, 304, 47, 305, 306, 307, 308, 309, 310, 311, 858, 859, 860, 861, 862, 863, 864, 865, 866, 867, 868, 869, 870, 871, 872, 873, 920, 921, 922, 923, 924] (by decide +kernel) (by decide +kernel)) (goodIn_sub (fun _ h => List.mem_append_left _ (List.mem_append_left _ (List.mem_append_right _ h))) (by decide +kernel))) (goodIn_sub (fun _ h => List.mem_append_left _ (List.mem_append_right _ h)) (by decide +kernel))
set_option maxRecDepth 20000 in
theorem gL_law_L_field : GoodIn wsL_law (va_wsS RL 114 yL_field wsL_field) := goodIn_app (goodIn_of _ (by decide +kernel)) ggL_law_L_field
set_option maxRecDepth 20000 in
theorem ggL_law_X7_field : GoodIn wsL_law wsX7_field := goodIn_r _ [315, 104, 59, 316, 60, 108, 109, 5, 110, 111, 112, 113, 114, 317, 318, 319, 320, 58, 321, 322, 323, 324, 56, 325, 326, 327, 328, 329, 330, 331, 332, 333, 12, 13, 334, 335, 129, 336, 337, 338, 339, 340, 341, 342, 343, 344, 345, 346, 347, 348, 349, 350, 351, 352, 353, 196, 354, 200, 355, 306, 307, 308, 309, 310, 311, 874, 875, 876, 877, 878, 879, 880, 881, 882, 883, 884, 885, 886, 887, 888, 889, 890, 891, 892, 893, 894, 895, 945, 946, 947, 948, 925, 926, 927, 940, 941, 942, 943, 944] (by decide +kernel) (by decide +kernel)
set_option maxRecDepth 20000 in
theorem gL_law_X7_field : GoodIn wsL_law (wsV RL 116 RX7 yX7_field wsX7_field) := goodIn_app (goodIn_of _ (by decide +kernel)) ggL_law_X7_field
set_option maxRecDepth 20000 in
theorem ggL_law_L_wind : GoodIn wsL_law wsL_wind := goodIn_ca (goodIn_r _ [358, 84, 359, 360, 361, 2, 362, 296, 95, 96, 97, 98, 99, 858, 859, 860, 861, 862, 863, 864, 865, 866, 867, 868, 869, 870, 871, 872, 873] (by decide +kernel) (by decide +kernel)) (goodIn_sub (fun _ h => List.mem_append_left _ (List.mem_append_right _ h)) (by decide +kernel))
set_option maxRecDepth 20000 in
theorem gL_law_L_wind : GoodIn wsL_law (va_wsS RL 117 yL_wind wsL_wind) := goodIn_app (goodIn_of _ (by decide +kernel)) ggL_law_L_wind
set_option maxRecDepth 20000 in
theorem ggL_law_X7_wind : GoodIn wsL_law wsX7_wind := goodIn_r _ [366, 104, 316, 108, 109, 5, 110, 111, 112, 113, 114, 874, 875, 876, 877, 878, 879, 880, 881, 882, 883, 884, 885, 886, 887, 888, 889, 890, 891, 892, 893, 894, 895] (by decide +kernel) (by decide +kernel)
set_option maxRecDepth 20000 in
theorem gL_law_X7_wind : GoodIn wsL_law (wsV RL 120 RX7 yX7_wind wsX7_wind) := goodIn_app (goodIn_of _ (by decide +kernel)) ggL_law_X7_wind
set_option maxRecDepth 20000 in
theorem ggL_law_L_shoot : GoodIn wsL_law wsL_shoot := goodIn_ca (goodIn_ca (goodIn_r _ [369, 206, 85, 370, 371, 372, 2, 373, 90, 91, 374, 375, 23, 211, 28, 271, 18, 296, 376, 94, 19, 377, 213, 214, 215, 216, 217, 218, 92, 15, 378, 379, 380, 381, 382, 383, 384, 212, 17, 385, 386, 387, 22, 388, 389, 390, 391, 392, 393, 394, 395, 396, 397, 398, 27, 399, 400, 401, 402, 403, 404, 405, 406, 407, 408, 409, 410, 411, 412, 413, 30, 414, 415, 416, 417, 418, 419, 420, 421, 422, 423, 424, 425, 426, 427, 428, 429, 187, 430, 431, 432, 433, 32, 434, 47, 435, 48, 436, 437, 49, 438, 439, 440, 441, 442, 443, 444, 445, 446, 447, 448, 449, 450, 451, 452, 453, 454, 455, 456, 457, 458, 459, 460, 461, 462, 463, 464, 465, 466, 467, 24, 468, 469, 470, 471, 472, 473, 474, 475, 476, 477, 478, 479, 480, 481, 482, 483, 484, 485, 486, 487, 488, 489, 490, 491, 492, 493, 494, 858, 859, 860, 861, 862, 863, 864, 865, 866, 867, 868, 869, 870, 871, 872, 873, 920, 921, 922, 923, 924, 896, 897, 898, 899, 900, 901, 902, 903, 904, 905, 908, 909, 910, 911, 912, 913, 914, 915, 916, 917, 918, 919, 906, 907] (by decide +kernel) (by decide +kernel)) (goodIn_sub (fun _ h => List.mem_append_left _ (List.mem_append_left _ (List.mem_append_right _ h))) (by decide +kernel))) (goodIn_sub (fun _ h => List.mem_append_right _ h) (by decide +kernel))
set_option maxRecDepth 20000 in
theorem gL_law_L_shoot : GoodIn wsL_law (va_wsS RL 121 yL_shoot wsL_shoot) := goodIn_app (goodIn_of _ (by decide +kernel)) ggL_law_L_shoot
set_option maxRecDepth 20000 in
theorem ggL_law_X7_shoot : GoodIn wsL_law wsX7_shoot := goodIn_r _ [498, 104, 57, 231, 58, 321, 59, 499, 500, 501, 502, 503, 504, 505, 506, 232, 233, 234, 5, 235, 115, 116, 117, 56, 118, 119, 108, 109, 110, 111, 112, 113, 114, 507, 508, 509, 510, 511, 62, 512, 248, 249, 250, 251, 252, 253, 254, 255, 256, 257, 258, 259, 260, 261, 262, 263, 69, 240, 241, 242, 243, 513, 514, 515, 516, 517, 518, 519, 520, 521, 316, 522, 523, 524, 525, 526, 527, 528, 529, 530, 531, 532, 533, 322, 323, 324, 325, 326, 327, 328, 329, 330, 331, 332, 333, 12, 13, 334, 335, 129, 336, 337, 338, 339, 340, 341, 342, 343, 344, 345, 346, 347, 348, 349, 350, 534, 535, 536, 537, 538, 539, 540, 541, 542, 543, 544, 545, 546, 547, 548, 549, 60, 550, 551, 552, 553, 554, 555, 556, 557, 558, 559, 560, 561, 562, 563, 564, 64, 63, 565, 566, 567, 568, 61, 874, 875, 876, 877, 878, 879, 880, 881, 882, 883, 884, 885, 886, 887, 888, 889, 890, 891, 892, 893, 894, 895, 928, 929, 930, 931, 932, 933, 934, 935, 936, 937, 938, 939, 940, 941, 942, 943, 944, 925, 926, 927, 945, 946, 947, 948] (by decide +kernel) (by decide +kernel)
set_option maxRecDepth 20000 in
theorem gL_law_X7_shoot : GoodIn wsL_law (wsV RL 123 RX7 yX7_shoot wsX7_shoot) := goodIn_app (goodIn_of _ (by decide +kernel)) ggL_law_X7_shoot
set_option maxRecDepth 20000 in
theorem ggL_law_X4_pull : GoodIn wsL_law wsX4_pull := goodIn_r _ [572, 187, 17, 92, 15, 297, 298, 299, 2, 300, 301, 302, 303, 32, 304, 47, 305, 306, 307, 308, 309, 310, 311, 573, 574, 575, 576, 577, 578, 579, 30, 580, 460, 459, 461, 858, 859, 860, 861, 862, 863, 864, 865, 866, 867, 868, 869, 870, 871, 872, 873, 920, 921, 922, 923, 924, 908, 909, 910, 911, 912, 913, 914, 915, 916, 917, 918, 919] (by decide +kernel) (by decide +kernel)
set_option maxRecDepth 20000 in
theorem gL_law_X4_pull : GoodIn wsL_law (wsV RL 124 RX4 yX4_pull wsX4_pull) := goodIn_app (goodIn_of _ (by decide +kernel)) ggL_law_X4_pull
set_option maxRecDepth 20000 in
theorem ggL_law_X7_pull : GoodIn wsL_law wsX7_pull := goodIn_r _ [584, 104, 58, 321, 57, 231, 317, 318, 319, 5, 320, 322, 323, 324, 56, 325, 326, 327, 328, 329, 330, 331, 332, 333, 12, 13, 334, 335, 129, 336, 337, 338, 339, 340, 341, 342, 343, 344, 345, 346, 347, 348, 349, 350, 351, 352, 353, 196, 354, 200, 355, 306, 307, 308, 309, 310, 311, 874, 875, 876, 877, 878, 879, 880, 881, 882, 883, 884, 885, 886, 887, 888, 889, 890, 891, 892, 893, 894, 895, 940, 941, 942, 943, 944, 928, 929, 930, 931, 932, 933, 934, 935, 936, 937, 938, 939, 945, 946, 947, 948, 925, 926, 927] (by decide +kernel) (by decide +kernel)
set_option maxRecDepth 20000 in
theorem gL_law_X7_pull : GoodIn wsL_law (wsV RL 127 RX7 yX7_pull wsX7_pull) := goodIn_app (goodIn_of _ (by decide +kernel)) ggL_law_X7_pull
set_option maxRecDepth 20000 in
theorem ggL_law_L_mend : GoodIn wsL_law wsL_mend := goodIn_ca (goodIn_r _ [587, 206, 588, 589, 590, 2, 591, 17, 219, 220, 221, 222, 217, 218, 187, 573, 574, 575, 32, 576, 47, 858, 859, 860, 861, 862, 863, 864, 865, 866, 867, 868, 869, 870, 871, 872, 873, 920, 921, 922, 923, 924] (by decide +kernel) (by decide +kernel)) (goodIn_sub (fun _ h => List.mem_append_right _ h) (by decide +kernel))
set_option maxRecDepth 20000 in
theorem gL_law_L_mend : GoodIn wsL_law (va_wsS RL 128 yL_mend wsL_mend) := goodIn_app (goodIn_of _ (by decide +kernel)) ggL_law_L_mend
set_option maxRecDepth 20000 in
theorem ggL_law_X7_mend : GoodIn wsL_law wsX7_mend := goodIn_r _ [595, 104, 58, 321, 236, 237, 238, 5, 239, 115, 116, 117, 56, 118, 119, 108, 109, 110, 111, 112, 113, 114, 248, 249, 250, 251, 252, 253, 254, 255, 256, 257, 258, 259, 260, 261, 262, 263, 69, 351, 352, 353, 196, 354, 200, 355, 306, 307, 308, 309, 310, 311, 874, 875, 876, 877, 878, 879, 880, 881, 882, 883, 884, 885, 886, 887, 888, 889, 890, 891, 892, 893, 894, 895, 940, 941, 942, 943, 944, 925, 926, 927] (by decide +kernel) (by decide +kernel)
set_option maxRecDepth 20000 in
theorem gL_law_X7_mend : GoodIn wsL_law (wsV RL 130 RX7 yX7_mend wsX7_mend) := goodIn_app (goodIn_of _ (by decide +kernel)) ggL_law_X7_mend
set_option maxRecDepth 20000 in
theorem ggL_law_L_match : GoodIn wsL_law wsL_match := goodIn_ca (goodIn_ca (goodIn_ca (goodIn_r _ [598, 206, 84, 85, 599, 600, 601, 2, 602, 98, 99, 90, 91, 23, 211, 212, 603, 213, 214, 215, 216, 217, 218, 92, 15, 604, 605, 606, 22, 607, 608, 389, 390, 486, 487, 474, 491, 492, 493, 494, 475, 476, 395, 858, 859, 860, 861, 862, 863, 864, 865, 866, 867, 868, 869, 870, 871, 872, 873, 896, 897, 898, 899, 900, 901, 902, 903, 904, 905, 908, 909, 910, 911, 912, 913, 914, 915, 916, 917, 918, 919] (by decide +kernel) (by decide +kernel)) (goodIn_sub (fun _ h => List.mem_append_left _ (List.mem_append_right _ h)) (by decide +kernel))) (goodIn_sub (fun _ h => List.mem_append_left _ (List.mem_append_left _ (List.mem_append_right _ h))) (by decide +kernel))) (goodIn_sub (fun _ h => List.mem_append_right _ h) (by decide +kernel))
set_option maxRecDepth 20000 in
theorem gL_law_L_match : GoodIn wsL_law (va_wsS RL 131 yL_match wsL_match) := goodIn_app (goodIn_of _ (by decide +kernel)) ggL_law_L_match
set_option maxRecDepth 20000 in
theorem ggL_law_X7_match : GoodIn wsL_law wsX7_match := goodIn_r _ [612, 104, 57, 231, 62, 63, 64, 512, 563, 613, 232, 233, 234, 5, 235, 115, 116, 117, 56, 118, 119, 108, 109, 110, 111, 112, 113, 114, 240, 241, 242, 243, 248, 249, 250, 251, 252, 253, 254, 255, 256, 257, 258, 259, 260, 261, 262, 263, 69, 874, 875, 876, 877, 878, 879, 880, 881, 882, 883, 884, 885, 886, 887, 888, 889, 890, 891, 892, 893, 894, 895, 928, 929, 930, 931, 932, 933, 934, 935, 936, 937, 938, 939, 925, 926, 927] (by decide +kernel) (by decide +kernel)
set_option maxRecDepth 20000 in
theorem gL_law_X7_match : GoodIn wsL_law (wsV RL 133 RX7 yX7_match wsX7_match) := goodIn_app (goodIn_of _ (by decide +kernel)) ggL_law_X7_match
set_option maxRecDepth 20000 in
theorem ggL_law_L_breakOff : GoodIn wsL_law wsL_breakOff := goodIn_ca (goodIn_r _ [616, 85, 617, 618, 619, 2, 620, 90, 91, 23, 211, 621, 622, 858, 859, 860, 861, 862, 863, 864, 865, 866, 867, 868, 869, 870, 871, 872, 873, 896, 897, 898, 899, 900, 901, 902, 903, 904, 905] (by decide +kernel) (by decide +kernel)) (goodIn_sub (fun _ h => List.mem_append_left _ (List.mem_append_left _ (List.mem_append_right _ h))) (by decide +kernel))
set_option maxRecDepth 20000 in
theorem gL_law_L_breakOff : GoodIn wsL_law (va_wsS RL 134 yL_breakOff wsL_breakOff) := goodIn_app (goodIn_of _ (by decide +kernel)) ggL_law_L_breakOff
set_option maxRecDepth 20000 in
theorem ggL_law_X7_breakOff : GoodIn wsL_law wsX7_breakOff := goodIn_r _ [626, 104, 62, 63, 240, 241, 242, 5, 243, 111, 112, 113, 114, 874, 875, 876, 877, 878, 879, 880, 881, 882, 883, 884, 885, 886, 887, 888, 889, 890, 891, 892, 893, 894, 895] (by decide +kernel) (by decide +kernel)
set_option maxRecDepth 20000 in
theorem gL_law_X7_breakOff : GoodIn wsL_law (wsV RL 137 RX7 yX7_breakOff wsX7_breakOff) := goodIn_app (goodIn_of _ (by decide +kernel)) ggL_law_X7_breakOff
set_option maxRecDepth 20000 in
theorem ggL_law_X4_close : GoodIn wsL_law wsX4_close := goodIn_r _ [630, 374, 858, 859, 860, 861, 862, 863, 864, 865, 866, 867, 868, 869, 870, 871, 872, 873] (by decide +kernel) (by decide +kernel)
set_option maxRecDepth 20000 in
theorem gL_law_X4_close : GoodIn wsL_law (wsV RL 138 RX4 yX4_close wsX4_close) := goodIn_app (goodIn_of _ (by decide +kernel)) ggL_law_X4_close
set_option maxRecDepth 20000 in
theorem ggL_law_X7_close : GoodIn wsL_law wsX7_close := goodIn_r _ [634, 104, 511, 874, 875, 876, 877, 878, 879, 880, 881, 882, 883, 884, 885, 886, 887, 888, 889, 890, 891, 892, 893, 894, 895] (by decide +kernel) (by decide +kernel)
set_option maxRecDepth 20000 in
theorem gL_law_X7_close : GoodIn wsL_law (wsV RL 142 RX7 yX7_close wsX7_close) := goodIn_app (goodIn_of _ (by decide +kernel)) ggL_law_X7_close
set_option maxRecDepth 20000 in
theorem ggL_law_X4_horn : GoodIn wsL_law wsX4_horn := goodIn_r _ [638, 639, 858, 859, 860, 861, 862, 863, 864, 865, 866, 867, 868, 869, 870, 871, 872, 873] (by decide +kernel) (by decide +kernel)
set_option maxRecDepth 20000 in
theorem gL_law_X4_horn : GoodIn wsL_law (wsV RL 143 RX4 yX4_horn wsX4_horn) := goodIn_app (goodIn_of _ (by decide +kernel)) ggL_law_X4_horn
set_option maxRecDepth 20000 in
theorem ggL_law_X7_horn : GoodIn wsL_law wsX7_horn := goodIn_r _ [643, 104, 644, 874, 875, 876, 877, 878, 879, 880, 881, 882, 883, 884, 885, 886, 887, 888, 889, 890, 891, 892, 893, 894, 895] (by decide +kernel) (by decide +kernel)
set_option maxRecDepth 20000 in
theorem gL_law_X7_horn : GoodIn wsL_law (wsV RL 146 RX7 yX7_horn wsX7_horn) := goodIn_app (goodIn_of _ (by decide +kernel)) ggL_law_X7_horn
set_option maxRecDepth 20000 in
theorem ggL_law_L_ofArcher : GoodIn wsL_law wsL_ofArcher := goodIn_ca (goodIn_ca (goodIn_r _ [647, 206, 84, 648, 649, 650, 2, 651, 93, 94, 271, 272, 212, 652, 653, 468, 654, 655, 656, 213, 214, 215, 216, 217, 218, 92, 15, 95, 96, 97, 98, 99, 908, 909, 910, 911, 912, 913, 914, 915, 916, 917, 918, 919, 858, 859, 860, 861, 862, 863, 864, 865, 866, 867, 868, 869, 870, 871, 872, 873] (by decide +kernel) (by decide +kernel)) (goodIn_sub (fun _ h => List.mem_append_right _ h) (by decide +kernel))) (goodIn_sub (fun _ h => List.mem_append_left _ (List.mem_append_right _ h)) (by decide +kernel))
set_option maxRecDepth 20000 in
theorem gL_law_L_ofArcher : GoodIn wsL_law (va_wsS RL 147 yL_ofArcher wsL_ofArcher) := goodIn_app (goodIn_of _ (by decide +kernel)) ggL_law_L_ofArcher
set_option maxRecDepth 20000 in
theorem ggL_law_X7_ofArcher : GoodIn wsL_law wsX7_ofArcher := goodIn_r _ [660, 104, 57, 231, 232, 233, 234, 5, 235, 115, 116, 117, 56, 118, 119, 108, 109, 110, 111, 112, 113, 114, 248, 249, 250, 251, 252, 253, 254, 255, 256, 257, 258, 259, 260, 261, 262, 263, 69, 661, 662, 663, 46, 874, 875, 876, 877, 878, 879, 880, 881, 882, 883, 884, 885, 886, 887, 888, 889, 890, 891, 892, 893, 894, 895, 925, 926, 927, 928, 929, 930, 931, 932, 933, 934, 935, 936, 937, 938, 939] (by decide +kernel) (by decide +kernel)
set_option maxRecDepth 20000 in
theorem gL_law_X7_ofArcher : GoodIn wsL_law (wsV RL 149 RX7 yX7_ofArcher wsX7_ofArcher) := goodIn_app (goodIn_of _ (by decide +kernel)) ggL_law_X7_ofArcher
set_option maxRecDepth 20000 in
theorem ggL_law_L_speed : GoodIn wsL_law wsL_speed := goodIn_ca (goodIn_r _ [666, 206, 667, 668, 669, 2, 670, 212, 17, 213, 214, 215, 216, 217, 218, 92, 15, 671, 412, 413, 30, 414, 415, 416, 417, 418, 419, 908, 909, 910, 911, 912, 913, 914, 915, 916, 917, 918, 919, 858, 859, 860, 861, 862, 863, 864, 865, 866, 867, 868, 869, 870, 871, 872, 873, 920, 921, 922, 923, 924] (by decide +kernel) (by decide +kernel)) (goodIn_sub (fun _ h => List.mem_append_right _ h) (by decide +kernel))
set_option maxRecDepth 20000 in
theorem gL_law_L_speed : GoodIn wsL_law (va_wsS RL 150 yL_speed wsL_speed) := goodIn_app (goodIn_of _ (by decide +kernel)) ggL_law_L_speed
set_option maxRecDepth 20000 in
theorem ggL_law_X7_speed_ : GoodIn wsL_law wsX7_speed_ := goodIn_r _ [675, 104, 57, 231, 232, 233, 234, 5, 235, 115, 116, 117, 56, 118, 119, 108, 109, 110, 248, 249, 250, 251, 252, 253, 254, 255, 256, 257, 258, 259, 260, 261, 262, 263, 69, 676, 677, 678, 679, 58, 321, 523, 524, 525, 526, 527, 874, 875, 876, 877, 878, 879, 880, 881, 882, 883, 884, 885, 886, 887, 888, 889, 890, 891, 892, 893, 894, 895, 925, 926, 927, 928, 929, 930, 931, 932, 933, 934, 935, 936, 937, 938, 939, 940, 941, 942, 943, 944] (by decide +kernel) (by decide +kernel)
set_option maxRecDepth 20000 in
theorem gL_law_X7_speed_ : GoodIn wsL_law (wsV RL 152 RX7 yX7_speed_ wsX7_speed_) := goodIn_app (goodIn_of _ (by decide +kernel)) ggL_law_X7_speed_
set_option maxRecDepth 20000 in
theorem ggL_law_L_ofQuiver : GoodIn wsL_law wsL_ofQuiver := goodIn_ca (goodIn_ca (goodIn_r _ [682, 206, 84, 683, 684, 685, 2, 686, 17, 188, 189, 219, 220, 221, 222, 217, 218, 187, 95, 96, 97, 98, 99, 223, 224, 225, 226, 92, 15, 212, 301, 302, 303, 32, 304, 47, 858, 859, 860, 861, 862, 863, 864, 865, 866, 867, 868, 869, 870, 871, 872, 873, 920, 921, 922, 923, 924, 908, 909, 910, 911, 912, 913, 914, 915, 916, 917, 918, 919] (by decide +kernel) (by decide +kernel)) (goodIn_sub (fun _ h => List.mem_append_right _ h) (by decide +kernel))) (goodIn_sub (fun _ h => List.mem_append_left _ (List.mem_append_right _ h)) (by decide +kernel))
set_option maxRecDepth 20000 in
theorem gL_law_L_ofQuiver : GoodIn wsL_law (va_wsS RL 153 yL_ofQuiver wsL_ofQuiver) := goodIn_app (goodIn_of _ (by decide +kernel)) ggL_law_L_ofQuiver
set_option maxRecDepth 20000 in
theorem ggL_law_X7_ofQuiver : GoodIn wsL_law wsX7_ofQuiver := goodIn_r _ [690, 104, 236, 237, 238, 5, 239, 58, 115, 116, 117, 56, 118, 119, 108, 109, 110, 111, 112, 113, 114, 691, 692, 693, 694, 321, 248, 249, 250, 251, 252, 253, 254, 255, 256, 257, 258, 259, 260, 261, 262, 263, 69, 244, 245, 246, 247, 57, 231, 351, 352, 353, 196, 354, 200, 874, 875, 876, 877, 878, 879, 880, 881, 882, 883, 884, 885, 886, 887, 888, 889, 890, 891, 892, 893, 894, 895, 925, 926, 927, 940, 941, 942, 943, 944, 928, 929, 930, 931, 932, 933, 934, 935, 936, 937, 938, 939] (by decide +kernel) (by decide +kernel)
set_option maxRecDepth 20000 in
theorem gL_law_X7_ofQuiver : GoodIn wsL_law (wsV RL 155 RX7 yX7_ofQuiver wsX7_ofQuiver) := goodIn_app (goodIn_of _ (by decide +kernel)) ggL_law_X7_ofQuiver
set_option maxRecDepth 20000 in
theorem ggL_law_L_hit : GoodIn wsL_law wsL_hit := goodIn_ca (goodIn_r _ [697, 206, 698, 699, 700, 2, 701, 17, 702, 703, 219, 220, 221, 222, 217, 218, 187, 378, 379, 380, 858, 859, 860, 861, 862, 863, 864, 865, 866, 867, 868, 869, 870, 871, 872, 873, 920, 921, 922, 923, 924] (by decide +kernel) (by decide +kernel)) (goodIn_sub (fun _ h => List.mem_append_right _ h) (by decide +kernel))
set_option maxRecDepth 20000 in
theorem gL_law_L_hit : GoodIn wsL_law (va_wsS RL 156 yL_hit wsL_hit) := goodIn_app (goodIn_of _ (by decide +kernel)) ggL_law_L_hit
set_option maxRecDepth 20000 in
theorem ggL_law_X7_hit : GoodIn wsL_law wsX7_hit := goodIn_r _ [707, 104, 58, 321, 236, 237, 238, 5, 239, 115, 116, 117, 56, 118, 119, 108, 109, 110, 248, 249, 250, 251, 252, 253, 254, 255, 256, 257, 258, 259, 260, 261, 262, 263, 69, 874, 875, 876, 877, 878, 879, 880, 881, 882, 883, 884, 885, 886, 887, 888, 889, 890, 891, 892, 893, 894, 895, 940, 941, 942, 943, 944, 925, 926, 927] (by decide +kernel) (by decide +kernel)
set_option maxRecDepth 20000 in
theorem gL_law_X7_hit : GoodIn wsL_law (wsV RL 159 RX7 yX7_hit wsX7_hit) := goodIn_app (goodIn_of _ (by decide +kernel)) ggL_law_X7_hit
set_option maxRecDepth 20000 in
theorem ggL_law_L_many : GoodIn wsL_law wsL_many := goodIn_ca (goodIn_r _ [710, 84, 711, 712, 713, 2, 714, 92, 187, 18, 296, 19, 377, 430, 376, 603, 374, 639, 95, 96, 97, 98, 99, 297, 298, 299, 300, 17, 301, 302, 303, 32, 304, 47, 305, 306, 307, 308, 309, 310, 311, 858, 859, 860, 861, 862, 863, 864, 865, 866, 867, 868, 869, 870, 871, 872, 873, 920, 921, 922, 923, 924] (by decide +kernel) (by decide +kernel)) (goodIn_sub (fun _ h => List.mem_append_left _ (List.mem_append_right _ h)) (by decide +kernel))
set_option maxRecDepth 20000 in
theorem gL_law_L_many : GoodIn wsL_law (va_wsS RL 160 yL_many wsL_many) := goodIn_app (goodIn_of _ (by decide +kernel)) ggL_law_L_many
set_option maxRecDepth 20000 in
theorem ggL_law_X7_many : GoodIn wsL_law wsX7_many := goodIn_r _ [718, 104, 108, 109, 5, 110, 719, 720, 721, 722, 46, 57, 58, 59, 316, 60, 506, 533, 499, 613, 511, 644, 115, 116, 117, 56, 118, 119, 317, 318, 319, 320, 321, 322, 323, 324, 325, 326, 327, 328, 329, 330, 331, 332, 333, 12, 13, 334, 335, 129, 336, 337, 338, 339, 340, 341, 342, 343, 344, 345, 346, 347, 348, 349, 350, 351, 352, 353, 196, 354, 200, 355, 306, 307, 308, 309, 310, 311, 111, 112, 113, 114, 874, 875, 876, 877, 878, 879, 880, 881, 882, 883, 884, 885, 886, 887, 888, 889, 890, 891, 892, 893, 894, 895, 925, 926, 927, 945, 946, 947, 948, 940, 941, 942, 943, 944] (by decide +kernel) (by decide +kernel)
set_option maxRecDepth 20000 in
theorem gL_law_X7_many : GoodIn wsL_law (wsV RL 162 RX7 yX7_many wsX7_many) := goodIn_app (goodIn_of _ (by decide +kernel)) ggL_law_X7_many
set_option maxRecDepth 20000 in
theorem ggL_law_L_ofMatch : GoodIn wsL_law wsL_ofMatch := goodIn_ca (goodIn_r _ [725, 84, 726, 727, 728, 2, 729, 23, 211, 730, 731, 621, 622, 732, 733, 734, 95, 96, 97, 98, 99, 385, 386, 387, 22, 388, 389, 390, 391, 392, 393, 394, 395, 858, 859, 860, 861, 862, 863, 864, 865, 866, 867, 868, 869, 870, 871, 872, 873, 896, 897, 898, 899, 900, 901, 902, 903, 904, 905] (by decide +kernel) (by decide +kernel)) (goodIn_sub (fun _ h => List.mem_append_left _ (List.mem_append_right _ h)) (by decide +kernel))
set_option maxRecDepth 20000 in
theorem gL_law_L_ofMatch : GoodIn wsL_law (va_wsS RL 163 yL_ofMatch wsL_ofMatch) := goodIn_app (goodIn_of _ (by decide +kernel)) ggL_law_L_ofMatch
set_option maxRecDepth 20000 in
theorem ggL_law_X7_ofMatch : GoodIn wsL_law wsX7_ofMatch := goodIn_r _ [738, 104, 108, 109, 5, 110, 739, 740, 741, 742, 46, 62, 63, 64, 512, 563, 240, 241, 242, 243, 111, 112, 113, 114, 874, 875, 876, 877, 878, 879, 880, 881, 882, 883, 884, 885, 886, 887, 888, 889, 890, 891, 892, 893, 894, 895] (by decide +kernel) (by decide +kernel)
set_option maxRecDepth 20000 in
theorem gL_law_X7_ofMatch : GoodIn wsL_law (wsV RL 165 RX7 yX7_ofMatch wsX7_ofMatch) := goodIn_app (goodIn_of _ (by decide +kernel)) ggL_law_X7_ofMatch
set_option maxRecDepth 20000 in
theorem ggL_law_X4_winner : GoodIn wsL_law wsX4_winner := goodIn_r _ [746, 24, 858, 859, 860, 861, 862, 863, 864, 865, 866, 867, 868, 869, 870, 871, 872, 873] (by decide +kernel) (by decide +kernel)
set_option maxRecDepth 20000 in
theorem gL_law_X4_winner : GoodIn wsL_law (wsV RL 166 RX4 yX4_winner wsX4_winner) := goodIn_app (goodIn_of _ (by decide +kernel)) ggL_law_X4_winner
set_option maxRecDepth 20000 in
theorem ggL_law_X7_winner : GoodIn wsL_law wsX7_winner := goodIn_r _ [750, 104, 61, 874, 875, 876, 877, 878, 879, 880, 881, 882, 883, 884, 885, 886, 887, 888, 889, 890, 891, 892, 893, 894, 895] (by decide +kernel) (by decide +kernel)
set_option maxRecDepth 20000 in
theorem gL_law_X7_winner : GoodIn wsL_law (wsV RL 169 RX7 yX7_winner wsX7_winner) := goodIn_app (goodIn_of _ (by decide +kernel)) ggL_law_X7_winner
set_option maxRecDepth 20000 in
theorem ggL_law_L_wouldHit : GoodIn wsL_law wsL_wouldHit := goodIn_ca (goodIn_ca (goodIn_ca (goodIn_r _ [753, 206, 84, 85, 754, 755, 756, 2, 757, 28, 18, 296, 758, 759, 213, 214, 215, 216, 217, 218, 92, 15, 95, 96, 97, 98, 99, 381, 382, 383, 384, 90, 91, 212, 17, 396, 397, 398, 27, 399, 400, 401, 402, 403, 404, 405, 406, 407, 408, 409, 410, 411, 412, 413, 30, 414, 415, 416, 417, 418, 419, 858, 859, 860, 861, 862, 863, 864, 865, 866, 867, 868, 869, 870, 871, 872, 873, 906, 907, 908, 909, 910, 911, 912, 913, 914, 915, 916, 917, 918, 919, 920, 921, 922, 923, 924] (by decide +kernel) (by decide +kernel)) (goodIn_sub (fun _ h => List.mem_append_right _ h) (by decide +kernel))) (goodIn_sub (fun _ h => List.mem_append_left _ (List.mem_append_right _ h)) (by decide +kernel))) (goodIn_sub (fun _ h => List.mem_append_left _ (List.mem_append_left _ (List.mem_append_right _ h))) (by decide +kernel))
set_option maxRecDepth 20000 in
theorem gL_law_L_wouldHit : GoodIn wsL_law (va_wsS RL 170 yL_wouldHit wsL_wouldHit) := goodIn_app (goodIn_of _ (by decide +kernel)) ggL_law_L_wouldHit
set_option maxRecDepth 20000 in
theorem ggL_law_X7_wouldHit : GoodIn wsL_law wsX7_wouldHit := goodIn_r _ [763, 104, 59, 503, 500, 232, 233, 234, 5, 235, 57, 115, 116, 117, 56, 118, 119, 108, 109, 110, 764, 765, 766, 767, 231, 248, 249, 250, 251, 252, 253, 254, 255, 256, 257, 258, 259, 260, 261, 262, 263, 69, 768, 769, 770, 771, 58, 321, 513, 514, 515, 516, 517, 518, 519, 520, 521, 316, 522, 523, 524, 525, 526, 527, 874, 875, 876, 877, 878, 879, 880, 881, 882, 883, 884, 885, 886, 887, 888, 889, 890, 891, 892, 893, 894, 895, 925, 926, 927, 928, 929, 930, 931, 932, 933, 934, 935, 936, 937, 938, 939, 940, 941, 942, 943, 944] (by decide +kernel) (by decide +kernel)
set_option maxRecDepth 20000 in
theorem gL_law_X7_wouldHit : GoodIn wsL_law (wsV RL 172 RX7 yX7_wouldHit wsX7_wouldHit) := goodIn_app (goodIn_of _ (by decide +kernel)) ggL_law_X7_wouldHit
set_option maxRecDepth 20000 in
theorem ggL_law_L_mark : GoodIn wsL_law wsL_mark := goodIn_ca (goodIn_ca (goodIn_r _ [774, 206, 85, 775, 776, 777, 2, 778, 28, 18, 296, 758, 213, 214, 215, 216, 217, 218, 92, 15, 381, 382, 383, 384, 90, 91, 212, 17, 396, 397, 398, 27, 399, 400, 401, 402, 403, 404, 405, 406, 407, 408, 409, 410, 411, 412, 413, 30, 414, 415, 416, 417, 418, 419, 779, 438, 439, 858, 859, 860, 861, 862, 863, 864, 865, 866, 867, 868, 869, 870, 871, 872, 873, 906, 907, 908, 909, 910, 911, 912, 913, 914, 915, 916, 917, 918, 919, 920, 921, 922, 923, 924] (by decide +kernel) (by decide +kernel)) (goodIn_sub (fun _ h => List.mem_append_right _ h) (by decide +kernel))) (goodIn_sub (fun _ h => List.mem_append_left _ (List.mem_append_left _ (List.mem_append_right _ h))) (by decide +kernel))
set_option maxRecDepth 20000 in
theorem gL_law_L_mark : GoodIn wsL_law (va_wsS RL 173 yL_mark wsL_mark) := goodIn_app (goodIn_of _ (by decide +kernel)) ggL_law_L_mark
set_option maxRecDepth 20000 in
theorem ggL_law_X7_mark : GoodIn wsL_law wsX7_mark := goodIn_r _ [783, 104, 59, 503, 232, 233, 234, 5, 235, 57, 115, 116, 117, 56, 118, 119, 108, 109, 110, 111, 112, 113, 114, 764, 765, 766, 767, 231, 248, 249, 250, 251, 252, 253, 254, 255, 256, 257, 258, 259, 260, 261, 262, 263, 69, 768, 769, 770, 771, 58, 321, 513, 514, 515, 516, 517, 518, 519, 500, 520, 521, 316, 522, 523, 524, 525, 526, 527, 534, 535, 536, 537, 538, 539, 540, 541, 542, 543, 544, 545, 874, 875, 876, 877, 878, 879, 880, 881, 882, 883, 884, 885, 886, 887, 888, 889, 890, 891, 892, 893, 894, 895, 925, 926, 927, 928, 929, 930, 931, 932, 933, 934, 935, 936, 937, 938, 939, 940, 941, 942, 943, 944] (by decide +kernel) (by decide +kernel)
set_option maxRecDepth 20000 in
theorem gL_law_X7_mark : GoodIn wsL_law (wsV RL 175 RX7 yX7_mark wsX7_mark) := goodIn_app (goodIn_of _ (by decide +kernel)) ggL_law_X7_mark
set_option maxRecDepth 20000 in
theorem ggL_law_L_best : GoodIn wsL_law wsL_best := goodIn_ca (goodIn_r _ [786, 206, 787, 788, 789, 2, 790, 187, 28, 17, 271, 18, 296, 759, 213, 214, 215, 216, 217, 218, 92, 15, 223, 224, 225, 226, 212, 396, 397, 398, 27, 399, 400, 401, 402, 403, 404, 405, 406, 407, 408, 409, 410, 411, 412, 413, 30, 414, 415, 416, 417, 418, 419, 779, 438, 439, 858, 859, 860, 861, 862, 863, 864, 865, 866, 867, 868, 869, 870, 871, 872, 873, 908, 909, 910, 911, 912, 913, 914, 915, 916, 917, 918, 919, 906, 907, 920, 921, 922, 923, 924] (by decide +kernel) (by decide +kernel)) (goodIn_sub (fun _ h => List.mem_append_right _ h) (by decide +kernel))
set_option maxRecDepth 20000 in
theorem gL_law_L_best : GoodIn wsL_law (va_wsS RL 176 yL_best wsL_best) := goodIn_app (goodIn_of _ (by decide +kernel)) ggL_law_L_best
set_option maxRecDepth 20000 in
theorem ggL_law_X7_best : GoodIn wsL_law wsX7_best := goodIn_r _ [794, 104, 232, 233, 234, 5, 235, 57, 115, 116, 117, 56, 118, 119, 108, 109, 110, 795, 796, 797, 798, 58, 231, 321, 59, 500, 244, 245, 246, 247, 248, 249, 250, 251, 252, 253, 254, 255, 256, 257, 258, 259, 260, 261, 262, 263, 69, 513, 514, 515, 516, 517, 518, 519, 503, 520, 521, 316, 522, 523, 524, 525, 526, 527, 534, 535, 536, 537, 538, 539, 540, 541, 542, 543, 544, 545, 111, 112, 113, 114, 874, 875, 876, 877, 878, 879, 880, 881, 882, 883, 884, 885, 886, 887, 888, 889, 890, 891, 892, 893, 894, 895, 925, 926, 927, 928, 929, 930, 931, 932, 933, 934, 935, 936, 937, 938, 939, 940, 941, 942, 943, 944] (by decide +kernel) (by decide +kernel)
set_option maxRecDepth 20000 in
theorem gL_law_X7_best : GoodIn wsL_law (wsV RL 178 RX7 yX7_best wsX7_best) := goodIn_app (goodIn_of _ (by decide +kernel)) ggL_law_X7_best
set_option maxRecDepth 20000 in
theorem ggL_law_L_reach : GoodIn wsL_law wsL_reach := goodIn_ca (goodIn_ca (goodIn_r _ [801, 206, 85, 802, 803, 804, 2, 805, 28, 296, 758, 213, 214, 215, 216, 217, 218, 92, 15, 381, 382, 383, 384, 90, 91, 212, 17, 396, 397, 398, 27, 399, 400, 401, 402, 403, 404, 405, 406, 407, 408, 409, 410, 411, 412, 413, 30, 414, 415, 416, 417, 418, 419, 858, 859, 860, 861, 862, 863, 864, 865, 866, 867, 868, 869, 870, 871, 872, 873, 906, 907, 908, 909, 910, 911, 912, 913, 914, 915, 916, 917, 918, 919, 920, 921, 922, 923, 924] (by decide +kernel) (by decide +kernel)) (goodIn_sub (fun _ h => List.mem_append_right _ h) (by decide +kernel))) (goodIn_sub (fun _ h => List.mem_append_left _ (List.mem_append_left _ (List.mem_append_right _ h))) (by decide +kernel))
set_option maxRecDepth 20000 in
theorem gL_law_L_reach : GoodIn wsL_law (va_wsS RL 179 yL_reach wsL_reach) := goodIn_app (goodIn_of _ (by decide +kernel)) ggL_law_L_reach
set_option maxRecDepth 20000 in
theorem ggL_law_X7_reach : GoodIn wsL_law wsX7_reach := goodIn_r _ [809, 104, 57, 231, 810, 517, 518, 520, 519, 521, 232, 233, 234, 5, 235, 115, 116, 117, 56, 118, 119, 108, 109, 110, 111, 112, 113, 114, 764, 765, 766, 767, 248, 249, 250, 251, 252, 253, 254, 255, 256, 257, 258, 259, 260, 261, 262, 263, 69, 676, 677, 678, 679, 58, 321, 523, 524, 525, 526, 527, 874, 875, 876, 877, 878, 879, 880, 881, 882, 883, 884, 885, 886, 887, 888, 889, 890, 891, 892, 893, 894, 895, 928, 929, 930, 931, 932, 933, 934, 935, 936, 937, 938, 939, 925, 926, 927, 940, 941, 942, 943, 944] (by decide +kernel) (by decide +kernel)
set_option maxRecDepth 20000 in
theorem gL_law_X7_reach : GoodIn wsL_law (wsV RL 181 RX7 yX7_reach wsX7_reach) := goodIn_app (goodIn_of _ (by decide +kernel)) ggL_law_X7_reach
set_option maxRecDepth 20000 in
theorem ggL_law_L_wouldScore : GoodIn wsL_law wsL_wouldScore := goodIn_ca (goodIn_ca (goodIn_r _ [813, 206, 85, 814, 815, 816, 2, 817, 28, 271, 18, 296, 19, 213, 214, 215, 216, 217, 218, 92, 15, 381, 382, 383, 384, 90, 91, 212, 17, 396, 397, 398, 27, 399, 400, 401, 402, 403, 404, 405, 406, 407, 408, 409, 410, 411, 412, 413, 30, 414, 415, 416, 417, 418, 419, 440, 441, 442, 443, 444, 445, 446, 447, 448, 858, 859, 860, 861, 862, 863, 864, 865, 866, 867, 868, 869, 870, 871, 872, 873, 908, 909, 910, 911, 912, 913, 914, 915, 916, 917, 918, 919, 920, 921, 922, 923, 924, 906, 907] (by decide +kernel) (by decide +kernel)) (goodIn_sub (fun _ h => List.mem_append_right _ h) (by decide +kernel))) (goodIn_sub (fun _ h => List.mem_append_left _ (List.mem_append_left _ (List.mem_append_right _ h))) (by decide +kernel))
set_option maxRecDepth 20000 in
theorem gL_law_L_wouldScore : GoodIn wsL_law (va_wsS RL 182 yL_wouldScore wsL_wouldScore) := goodIn_app (goodIn_of _ (by decide +kernel)) ggL_law_L_wouldScore
set_option maxRecDepth 20000 in
theorem ggL_law_X7_wouldScore : GoodIn wsL_law wsX7_wouldScore := goodIn_r _ [821, 104, 57, 231, 59, 500, 503, 232, 233, 234, 5, 235, 115, 116, 117, 56, 118, 119, 108, 109, 110, 111, 112, 113, 114, 764, 765, 766, 767, 248, 249, 250, 251, 252, 253, 254, 255, 256, 257, 258, 259, 260, 261, 262, 263, 69, 768, 769, 770, 771, 58, 321, 513, 514, 515, 516, 517, 518, 519, 520, 521, 316, 522, 523, 524, 525, 526, 527, 546, 547, 548, 549, 60, 550, 874, 875, 876, 877, 878, 879, 880, 881, 882, 883, 884, 885, 886, 887, 888, 889, 890, 891, 892, 893, 894, 895, 928, 929, 930, 931, 932, 933, 934, 935, 936, 937, 938, 939, 925, 926, 927, 940, 941, 942, 943, 944] (by decide +kernel) (by decide +kernel)
set_option maxRecDepth 20000 in
theorem gL_law_X7_wouldScore : GoodIn wsL_law (wsV RL 184 RX7 yX7_wouldScore wsX7_wouldScore) := goodIn_app (goodIn_of _ (by decide +kernel)) ggL_law_X7_wouldScore
set_option maxRecDepth 20000 in
theorem ggL_law_X4_digest : GoodIn wsL_law wsX4_digest := goodIn_ca (goodIn_ca (goodIn_r _ [825, 826, 827, 92, 187, 828, 712, 713, 2, 714, 18, 296, 19, 377, 430, 376, 603, 374, 639, 95, 96, 97, 98, 99, 297, 298, 299, 300, 17, 301, 302, 303, 32, 304, 47, 305, 306, 307, 308, 309, 310, 311, 829, 727, 728, 729, 23, 211, 730, 731, 621, 622, 732, 733, 734, 385, 386, 387, 22, 388, 389, 390, 391, 392, 393, 394, 395, 830, 744, 745, 746, 24, 831, 832, 833, 834, 835, 836, 649, 650, 651, 93, 94, 271, 272, 212, 652, 653, 468, 654, 655, 656, 213, 214, 215, 216, 217, 218, 15, 837, 668, 669, 670, 671, 412, 413, 30, 414, 415, 416, 417, 418, 419, 838, 788, 789, 790, 28, 759, 223, 224, 225, 226, 396, 397, 398, 27, 399, 400, 401, 402, 403, 404, 405, 406, 407, 408, 409, 410, 411, 779, 438, 439, 839, 840, 841, 842, 843, 844, 684, 685, 686, 188, 189, 219, 220, 221, 222, 845, 699, 700, 701, 702, 703, 378, 379, 380, 858, 859, 860, 861, 862, 863, 864, 865, 866, 867, 868, 869, 870, 871, 872, 873, 920, 921, 922, 923, 924, 896, 897, 898, 899, 900, 901, 902, 903, 904, 905, 908, 909, 910, 911, 912, 913, 914, 915, 916, 917, 918, 919, 906, 907] (by decide +kernel) (by decide +kernel)) (goodIn_sub (fun _ h => List.mem_append_left _ (List.mem_append_right _ h)) (by decide +kernel))) (goodIn_sub (fun _ h => List.mem_append_right _ h) (by decide +kernel))
set_option maxRecDepth 20000 in
theorem gL_law_X4_digest : GoodIn wsL_law (wsV RL 185 RX4 yX4_digest wsX4_digest) := goodIn_app (goodIn_of _ (by decide +kernel)) ggL_law_X4_digest
set_option maxRecDepth 20000 in
theorem ggL_law_X7_digest : GoodIn wsL_law wsX7_digest := goodIn_r _ [849, 104, 850, 851, 61, 57, 231, 852, 58, 502, 321, 719, 720, 721, 5, 722, 46, 59, 316, 60, 506, 533, 499, 613, 511, 644, 115, 116, 117, 56, 118, 119, 317, 318, 319, 320, 322, 323, 324, 325, 326, 327, 328, 329, 330, 331, 332, 333, 12, 13, 334, 335, 129, 336, 337, 338, 339, 340, 341, 342, 343, 344, 345, 346, 347, 348, 349, 350, 351, 352, 353, 196, 354, 200, 355, 306, 307, 308, 309, 310, 311, 853, 854, 855, 856, 857, 739, 740, 741, 742, 62, 63, 64, 512, 563, 240, 241, 242, 243, 248, 249, 250, 251, 252, 253, 254, 255, 256, 257, 258, 259, 260, 261, 262, 263, 69, 661, 662, 663, 676, 677, 678, 679, 523, 524, 525, 526, 527, 795, 796, 797, 798, 500, 244, 245, 246, 247, 513, 514, 515, 516, 517, 518, 519, 503, 520, 521, 522, 534, 535, 536, 537, 538, 539, 540, 541, 542, 543, 544, 545, 691, 692, 693, 694, 874, 875, 876, 877, 878, 879, 880, 881, 882, 883, 884, 885, 886, 887, 888, 889, 890, 891, 892, 893, 894, 895, 940, 941, 942, 943, 944, 925, 926, 927, 945, 946, 947, 948, 928, 929, 930, 931, 932, 933, 934, 935, 936, 937, 938, 939] (by decide +kernel) (by decide +kernel)
set_option maxRecDepth 20000 in
theorem gL_law_X7_digest : GoodIn wsL_law (wsV RL 189 RX7 yX7_digest wsX7_digest) := goodIn_app (goodIn_of _ (by decide +kernel)) ggL_law_X7_digest
