set_option maxRecDepth 20000 in
theorem ggL_law_X7_init : GoodIn wsL_law wsX7_init := goodIn_r _ [9, 10, 11, 12, 13, 14, 15, 16, 17, 18, 19, 20, 21, 22, 23, 24, 25, 26, 27, 28, 29, 30, 31, 32, 33, 34, 35, 36, 37, 38, 39, 40, 41, 42, 43, 44, 45, 46, 47, 48, 49, 50, 51, 52, 53, 54, 55, 56, 57, 58, 59, 60, 61, 62, 63, 64, 65, 66, 67, 68, 69, 6, 70, 71, 72, 73, 74, 75, 76, 77, 78, 79, 80, 81, 82, 83, 84, 85, 86, 87, 88, 89, 90, 91, 92, 93, 94, 95, 96, 2, 97, 98, 99, 100, 101, 102, 103, 104, 105, 106, 107, 108, 109, 110, 111, 112, 113, 114, 115, 116, 117, 118, 826, 827, 828, 829, 830, 831, 832, 868, 869, 870, 871, 872, 873, 874, 875, 876, 877, 878, 879, 880, 881, 882, 883, 884, 885, 886, 887, 888, 889, 890, 891, 892, 893, 894, 895, 896, 897, 898, 899, 900, 901, 902, 903, 904, 905, 906] (by decide +kernel) (by decide +kernel)
set_option maxRecDepth 20000 in
theorem gL_law_X7_init : GoodIn wsL_law (wsX7_init) := ggL_law_X7_init
set_option maxRecDepth 20000 in
theorem ggL_law_X8_init : GoodIn wsL_law wsX8_init := goodIn_r _ [121, 122, 11, 12, 123, 66, 124, 125, 126, 127, 128, 129, 84, 130, 131, 132, 133, 134, 135, 136, 6, 137, 138, 139, 140, 141, 142, 143, 144, 145, 146, 147, 148, 149, 150, 151, 152, 153, 833, 834, 835, 836, 837, 838, 839, 840, 841, 842, 843, 844, 845, 846, 847, 848, 849, 850, 851, 852, 853, 854, 855, 856, 857, 858, 859, 860, 861, 862, 863, 864, 865, 866, 867] (by decide +kernel) (by decide +kernel)
set_option maxRecDepth 20000 in
theorem gL_law_X8_init : GoodIn wsL_law (wsX8_init) := ggL_law_X8_init
set_option maxRecDepth 20000 in
theorem ggL_law_L_open : GoodIn wsL_law wsL_open := goodIn_ca (goodIn_r _ [157, 158, 159, 160, 161, 2, 162, 163, 164, 165, 166, 167, 94, 95, 96, 97, 98, 14, 18, 99, 100, 101, 102, 103, 104, 32, 105, 76, 86, 78, 106, 82, 107, 108, 109, 83, 85, 110, 111, 112, 25, 113, 114, 115, 116, 117, 118, 826, 827, 828, 829, 830, 831, 832, 868, 869, 870, 871, 887, 888, 889, 890, 891, 892, 893, 894, 882, 883, 884, 885, 886, 902, 903, 904, 905, 906, 875, 876, 877, 878, 879, 880, 881] (by decide +kernel) (by decide +kernel)) (goodIn_sub (fun _ h => List.mem_append_left _ (List.mem_append_right _ h)) (by decide +kernel))
set_option maxRecDepth 20000 in
theorem gL_law_L_open : GoodIn wsL_law (va_wsS RL 88 yL_open wsL_open) := goodIn_app (goodIn_of _ (by decide +kernel)) ggL_law_L_open
set_option maxRecDepth 20000 in
theorem ggL_law_X8_open : GoodIn wsL_law wsX8_open := goodIn_r _ [171, 172, 123, 173, 174, 175, 176, 124, 125, 126, 130, 142, 131, 833, 834, 835, 836, 837, 838, 839, 840, 841, 842, 843, 844, 845, 846, 847, 848, 849, 850, 851, 852, 853, 854, 855, 856, 857, 858, 859, 860, 861, 862, 863, 864, 865, 866, 867] (by decide +kernel) (by decide +kernel)
set_option maxRecDepth 20000 in
theorem gL_law_X8_open : GoodIn wsL_law (wsV RL 93 RX8 yX8_open wsX8_open) := goodIn_app (goodIn_of _ (by decide +kernel)) ggL_law_X8_open
set_option maxRecDepth 20000 in
theorem ggL_law_X8_thrown : GoodIn wsL_law wsX8_thrown := goodIn_r _ [180, 172, 833, 834, 835, 836, 837, 838, 839, 840, 841, 842, 843, 844, 845, 846, 847, 848, 849, 850, 851, 852, 853, 854, 855, 856, 857, 858, 859, 860, 861, 862, 863, 864, 865, 866, 867] (by decide +kernel) (by decide +kernel)
set_option maxRecDepth 20000 in
theorem gL_law_X8_thrown : GoodIn wsL_law (wsV RL 94 RX8 yX8_thrown wsX8_thrown) := goodIn_app (goodIn_of _ (by decide +kernel)) ggL_law_X8_thrown
set_option maxRecDepth 20000 in
theorem ggL_law_L_input : GoodIn wsL_law wsL_input := goodIn_ca (goodIn_ca (goodIn_r _ [183, 158, 184, 185, 186, 187, 2, 188, 14, 189, 190, 191, 192, 193, 194, 195, 98, 163, 164, 165, 166, 167, 196, 197, 198, 29, 199, 200, 201, 202, 203, 204, 205, 206, 207, 208, 209, 67, 68, 69, 70, 210, 211, 212, 213, 214, 215, 216, 217, 218, 219, 25, 220, 116, 118, 114, 115, 221, 117, 222, 223, 224, 225, 226, 227, 228, 229, 230, 231, 232, 233, 234, 18, 100, 235, 236, 237, 238, 239, 17, 240, 241, 242, 243, 244, 245, 38, 246, 247, 248, 40, 249, 250, 251, 252, 253, 254, 255, 256, 257, 258, 259, 260, 261, 262, 826, 827, 828, 829, 830, 831, 832, 887, 888, 889, 890, 891, 892, 893, 894, 882, 883, 884, 885, 886, 875, 876, 877, 878, 879, 880, 881, 868, 869, 870, 871, 895, 896, 897, 898, 899, 900, 901] (by decide +kernel) (by decide +kernel)) (goodIn_sub (fun _ h => List.mem_append_left _ (List.mem_append_right _ h)) (by decide +kernel))) (goodIn_sub (fun _ h => List.mem_append_right _ h) (by decide +kernel))
set_option maxRecDepth 20000 in
theorem gL_law_L_input : GoodIn wsL_law (va_wsS RL 98 yL_input wsL_input) := goodIn_app (goodIn_of _ (by decide +kernel)) ggL_law_L_input
set_option maxRecDepth 20000 in
theorem ggL_law_X8_input : GoodIn wsL_law wsX8_input := goodIn_r _ [266, 126, 172, 124, 125, 267, 268, 269, 5, 270, 123, 271, 272, 273, 274, 127, 128, 129, 275, 276, 277, 278, 279, 280, 281, 282, 283, 284, 285, 286, 287, 288, 289, 290, 291, 292, 293, 294, 295, 296, 297, 298, 299, 300, 301, 302, 303, 304, 174, 173, 132, 133, 134, 135, 136, 137, 138, 833, 834, 835, 836, 837, 838, 839, 840, 841, 842, 843, 844, 845, 846, 847, 848, 849, 850, 851, 852, 853, 854, 855, 856, 857, 858, 859, 860, 861, 862, 863, 864, 865, 866, 867] (by decide +kernel) (by decide +kernel)
set_option maxRecDepth 20000 in
theorem gL_law_X8_input : GoodIn wsL_law (wsV RL 101 RX8 yX8_input wsX8_input) := goodIn_app (goodIn_of _ (by decide +kernel)) ggL_law_X8_input
set_option maxRecDepth 20000 in
theorem ggL_law_L_deliver : GoodIn wsL_law wsL_deliver := goodIn_ca (goodIn_r _ [307, 158, 308, 309, 310, 2, 311, 18, 312, 313, 314, 315, 316, 99, 163, 164, 165, 166, 167, 317, 318, 319, 17, 320, 38, 241, 41, 321, 322, 323, 324, 14, 325, 326, 236, 327, 328, 329, 189, 330, 190, 331, 210, 211, 212, 213, 214, 215, 216, 253, 254, 255, 332, 333, 334, 32, 335, 85, 196, 197, 198, 29, 199, 200, 336, 337, 338, 339, 108, 206, 207, 208, 209, 67, 68, 69, 70, 340, 341, 342, 81, 343, 344, 90, 91, 92, 93, 345, 346, 347, 348, 349, 350, 351, 25, 352, 117, 118, 221, 222, 223, 224, 225, 226, 227, 228, 229, 230, 231, 232, 233, 234, 191, 100, 235, 237, 238, 239, 240, 242, 243, 244, 245, 246, 247, 248, 40, 249, 250, 251, 252, 256, 257, 258, 259, 260, 261, 262, 353, 354, 355, 356, 826, 827, 828, 829, 830, 831, 832, 895, 896, 897, 898, 899, 900, 901, 868, 869, 870, 871, 887, 888, 889, 890, 891, 892, 893, 894, 882, 883, 884, 885, 886, 902, 903, 904, 905, 906, 875, 876, 877, 878, 879, 880, 881] (by decide +kernel) (by decide +kernel)) (goodIn_sub (fun _ h => List.mem_append_left _ (List.mem_append_right _ h)) (by decide +kernel))
set_option maxRecDepth 20000 in
theorem gL_law_L_deliver : GoodIn wsL_law (va_wsS RL 102 yL_deliver wsL_deliver) := goodIn_app (goodIn_of _ (by decide +kernel)) ggL_law_L_deliver
set_option maxRecDepth 20000 in
theorem ggL_law_X8_deliver : GoodIn wsL_law wsX8_deliver := goodIn_r _ [360, 173, 172, 132, 133, 134, 135, 136, 137, 138, 126, 139, 175, 140, 141, 125, 361, 362, 363, 5, 364, 298, 299, 300, 293, 294, 295, 296, 297, 365, 366, 367, 368, 142, 143, 144, 145, 146, 369, 370, 371, 372, 290, 291, 292, 373, 374, 375, 376, 271, 272, 273, 274, 127, 128, 129, 377, 378, 379, 282, 283, 284, 285, 286, 287, 288, 289, 301, 302, 303, 304, 174, 833, 834, 835, 836, 837, 838, 839, 840, 841, 842, 843, 844, 845, 846, 847, 848, 849, 850, 851, 852, 853, 854, 855, 856, 857, 858, 859, 860, 861, 862, 863, 864, 865, 866, 867] (by decide +kernel) (by decide +kernel)
set_option maxRecDepth 20000 in
theorem gL_law_X8_deliver : GoodIn wsL_law (wsV RL 105 RX8 yX8_deliver wsX8_deliver) := goodIn_app (goodIn_of _ (by decide +kernel)) ggL_law_X8_deliver
set_option maxRecDepth 20000 in
theorem ggL_law_L_drop : GoodIn wsL_law wsL_drop := goodIn_ca (goodIn_r _ [382, 158, 383, 384, 385, 2, 386, 18, 312, 313, 314, 315, 316, 99, 163, 164, 165, 166, 167, 317, 318, 319, 17, 320, 38, 241, 41, 826, 827, 828, 829, 830, 831, 832, 895, 896, 897, 898, 899, 900, 901, 868, 869, 870, 871] (by decide +kernel) (by decide +kernel)) (goodIn_sub (fun _ h => List.mem_append_left _ (List.mem_append_right _ h)) (by decide +kernel))
set_option maxRecDepth 20000 in
theorem gL_law_L_drop : GoodIn wsL_law (va_wsS RL 106 yL_drop wsL_drop) := goodIn_app (goodIn_of _ (by decide +kernel)) ggL_law_L_drop
set_option maxRecDepth 20000 in
theorem ggL_law_X8_drop : GoodIn wsL_law wsX8_drop := goodIn_r _ [390, 173, 172, 132, 361, 362, 363, 5, 364, 133, 134, 135, 136, 137, 138, 833, 834, 835, 836, 837, 838, 839, 840, 841, 842, 843, 844, 845, 846, 847, 848, 849, 850, 851, 852, 853, 854, 855, 856, 857, 858, 859, 860, 861, 862, 863, 864, 865, 866, 867] (by decide +kernel) (by decide +kernel)
set_option maxRecDepth 20000 in
theorem gL_law_X8_drop : GoodIn wsL_law (wsV RL 108 RX8 yX8_drop wsX8_drop) := goodIn_app (goodIn_of _ (by decide +kernel)) ggL_law_X8_drop
set_option maxRecDepth 20000 in
theorem ggL_law_L_copy : GoodIn wsL_law wsL_copy := goodIn_ca (goodIn_r _ [393, 158, 394, 395, 396, 2, 397, 18, 313, 314, 315, 316, 99, 163, 164, 165, 166, 167, 398, 399, 400, 17, 401, 38, 402, 238, 239, 240, 241, 403, 243, 244, 245, 404, 405, 406, 40, 407, 250, 251, 252, 408, 260, 261, 262, 409, 247, 248, 249, 410, 257, 258, 259, 826, 827, 828, 829, 830, 831, 832, 868, 869, 870, 871, 895, 896, 897, 898, 899, 900, 901] (by decide +kernel) (by decide +kernel)) (goodIn_sub (fun _ h => List.mem_append_left _ (List.mem_append_right _ h)) (by decide +kernel))
set_option maxRecDepth 20000 in
theorem gL_law_L_copy : GoodIn wsL_law (va_wsS RL 109 yL_copy wsL_copy) := goodIn_app (goodIn_of _ (by decide +kernel)) ggL_law_L_copy
set_option maxRecDepth 20000 in
theorem ggL_law_X8_copy : GoodIn wsL_law wsX8_copy := goodIn_r _ [414, 173, 172, 132, 133, 134, 135, 136, 137, 138, 174, 301, 302, 303, 5, 304, 833, 834, 835, 836, 837, 838, 839, 840, 841, 842, 843, 844, 845, 846, 847, 848, 849, 850, 851, 852, 853, 854, 855, 856, 857, 858, 859, 860, 861, 862, 863, 864, 865, 866, 867] (by decide +kernel) (by decide +kernel)
set_option maxRecDepth 20000 in
theorem gL_law_X8_copy : GoodIn wsL_law (wsV RL 111 RX8 yX8_copy wsX8_copy) := goodIn_app (goodIn_of _ (by decide +kernel)) ggL_law_X8_copy
set_option maxRecDepth 20000 in
theorem ggL_law_L_spoil : GoodIn wsL_law wsL_spoil := goodIn_ca (goodIn_r _ [417, 158, 418, 419, 420, 2, 421, 18, 422, 312, 236, 313, 314, 315, 316, 99, 163, 164, 165, 166, 167, 826, 827, 828, 829, 830, 831, 832, 868, 869, 870, 871, 895, 896, 897, 898, 899, 900, 901] (by decide +kernel) (by decide +kernel)) (goodIn_sub (fun _ h => List.mem_append_left _ (List.mem_append_right _ h)) (by decide +kernel))
set_option maxRecDepth 20000 in
theorem gL_law_L_spoil : GoodIn wsL_law (va_wsS RL 112 yL_spoil wsL_spoil) := goodIn_app (goodIn_of _ (by decide +kernel)) ggL_law_L_spoil
set_option maxRecDepth 20000 in
theorem ggL_law_X8_spoil : GoodIn wsL_law wsX8_spoil := goodIn_r _ [426, 173, 132, 172, 135, 833, 834, 835, 836, 837, 838, 839, 840, 841, 842, 843, 844, 845, 846, 847, 848, 849, 850, 851, 852, 853, 854, 855, 856, 857, 858, 859, 860, 861, 862, 863, 864, 865, 866, 867] (by decide +kernel) (by decide +kernel)
set_option maxRecDepth 20000 in
theorem gL_law_X8_spoil : GoodIn wsL_law (wsV RL 114 RX8 yX8_spoil wsX8_spoil) := goodIn_app (goodIn_of _ (by decide +kernel)) ggL_law_X8_spoil
set_option maxRecDepth 20000 in
theorem ggL_law_L_forward : GoodIn wsL_law wsL_forward := goodIn_ca (goodIn_r _ [429, 158, 430, 431, 432, 2, 433, 14, 330, 434, 435, 192, 193, 194, 195, 98, 163, 164, 165, 166, 167, 436, 437, 438, 439, 440, 18, 100, 441, 442, 237, 238, 239, 17, 240, 241, 242, 243, 244, 245, 38, 246, 247, 248, 40, 249, 250, 251, 252, 253, 254, 255, 212, 213, 214, 215, 216, 256, 257, 258, 259, 260, 261, 262, 826, 827, 828, 829, 830, 831, 832, 887, 888, 889, 890, 891, 892, 893, 894, 902, 903, 904, 905, 906, 868, 869, 870, 871, 895, 896, 897, 898, 899, 900, 901] (by decide +kernel) (by decide +kernel)) (goodIn_sub (fun _ h => List.mem_append_left _ (List.mem_append_right _ h)) (by decide +kernel))
set_option maxRecDepth 20000 in
theorem gL_law_L_forward : GoodIn wsL_law (va_wsS RL 115 yL_forward wsL_forward) := goodIn_app (goodIn_of _ (by decide +kernel)) ggL_law_L_forward
set_option maxRecDepth 20000 in
theorem ggL_law_X8_forward : GoodIn wsL_law wsX8_forward := goodIn_r _ [446, 172, 142, 146, 143, 123, 144, 145, 267, 268, 269, 5, 270, 298, 299, 300, 293, 294, 295, 296, 297, 301, 302, 303, 304, 174, 173, 132, 133, 134, 135, 136, 137, 138, 833, 834, 835, 836, 837, 838, 839, 840, 841, 842, 843, 844, 845, 846, 847, 848, 849, 850, 851, 852, 853, 854, 855, 856, 857, 858, 859, 860, 861, 862, 863, 864, 865, 866, 867] (by decide +kernel) (by decide +kernel)
set_option maxRecDepth 20000 in
theorem gL_law_X8_forward : GoodIn wsL_law (wsV RL 117 RX8 yX8_forward wsX8_forward) := goodIn_app (goodIn_of _ (by decide +kernel)) ggL_law_X8_forward
set_option maxRecDepth 20000 in
theorem ggL_law_L_lie : GoodIn wsL_law wsL_lie := goodIn_ca (goodIn_ca (goodIn_r _ [449, 158, 184, 450, 451, 452, 2, 453, 14, 189, 191, 192, 193, 194, 195, 98, 163, 164, 165, 166, 167, 196, 197, 198, 29, 199, 200, 201, 202, 203, 204, 205, 230, 231, 232, 233, 234, 18, 100, 235, 236, 206, 207, 208, 209, 67, 68, 69, 70, 210, 211, 212, 213, 214, 215, 216, 237, 238, 239, 17, 240, 241, 242, 243, 244, 245, 38, 246, 247, 248, 40, 249, 250, 251, 252, 253, 254, 255, 256, 257, 258, 259, 260, 261, 262, 826, 827, 828, 829, 830, 831, 832, 887, 888, 889, 890, 891, 892, 893, 894, 882, 883, 884, 885, 886, 868, 869, 870, 871, 895, 896, 897, 898, 899, 900, 901] (by decide +kernel) (by decide +kernel)) (goodIn_sub (fun _ h => List.mem_append_left _ (List.mem_append_right _ h)) (by decide +kernel))) (goodIn_sub (fun _ h => List.mem_append_right _ h) (by decide +kernel))
set_option maxRecDepth 20000 in
theorem gL_law_L_lie : GoodIn wsL_law (va_wsS RL 118 yL_lie wsL_lie) := goodIn_app (goodIn_of _ (by decide +kernel)) ggL_law_L_lie
set_option maxRecDepth 20000 in
theorem ggL_law_X8_lie : GoodIn wsL_law wsX8_lie := goodIn_r _ [457, 126, 172, 267, 268, 269, 5, 270, 123, 282, 283, 284, 285, 286, 287, 288, 289, 127, 128, 129, 290, 291, 292, 293, 294, 295, 296, 297, 271, 272, 273, 274, 298, 299, 300, 301, 302, 303, 304, 174, 173, 132, 133, 134, 135, 136, 137, 138, 833, 834, 835, 836, 837, 838, 839, 840, 841, 842, 843, 844, 845, 846, 847, 848, 849, 850, 851, 852, 853, 854, 855, 856, 857, 858, 859, 860, 861, 862, 863, 864, 865, 866, 867] (by decide +kernel) (by decide +kernel)
set_option maxRecDepth 20000 in
theorem gL_law_X8_lie : GoodIn wsL_law (wsV RL 121 RX8 yX8_lie wsX8_lie) := goodIn_app (goodIn_of _ (by decide +kernel)) ggL_law_X8_lie
set_option maxRecDepth 20000 in
theorem ggL_law_L_bend : GoodIn wsL_law wsL_bend := goodIn_ca (goodIn_r _ [460, 158, 461, 462, 463, 2, 464, 14, 189, 191, 465, 192, 193, 194, 195, 98, 163, 164, 165, 166, 167, 466, 467, 468, 29, 469, 69, 200, 70, 67, 68, 210, 211, 212, 213, 214, 215, 216, 826, 827, 828, 829, 830, 831, 832, 887, 888, 889, 890, 891, 892, 893, 894, 882, 883, 884, 885, 886] (by decide +kernel) (by decide +kernel)) (goodIn_sub (fun _ h => List.mem_append_left _ (List.mem_append_right _ h)) (by decide +kernel))
set_option maxRecDepth 20000 in
theorem gL_law_L_bend : GoodIn wsL_law (va_wsS RL 122 yL_bend wsL_bend) := goodIn_app (goodIn_of _ (by decide +kernel)) ggL_law_L_bend
set_option maxRecDepth 20000 in
theorem ggL_law_X8_bend : GoodIn wsL_law wsX8_bend := goodIn_r _ [473, 126, 172, 129, 267, 268, 269, 5, 270, 123, 833, 834, 835, 836, 837, 838, 839, 840, 841, 842, 843, 844, 845, 846, 847, 848, 849, 850, 851, 852, 853, 854, 855, 856, 857, 858, 859, 860, 861, 862, 863, 864, 865, 866, 867] (by decide +kernel) (by decide +kernel)
set_option maxRecDepth 20000 in
theorem gL_law_X8_bend : GoodIn wsL_law (wsV RL 124 RX8 yX8_bend wsX8_bend) := goodIn_app (goodIn_of _ (by decide +kernel)) ggL_law_X8_bend
set_option maxRecDepth 20000 in
theorem ggL_law_L_cut : GoodIn wsL_law wsL_cut := goodIn_ca (goodIn_r _ [476, 158, 477, 478, 479, 2, 480, 14, 189, 191, 192, 193, 194, 195, 98, 163, 164, 165, 166, 167, 826, 827, 828, 829, 830, 831, 832, 887, 888, 889, 890, 891, 892, 893, 894, 882, 883, 884, 885, 886] (by decide +kernel) (by decide +kernel)) (goodIn_sub (fun _ h => List.mem_append_left _ (List.mem_append_right _ h)) (by decide +kernel))
set_option maxRecDepth 20000 in
theorem gL_law_L_cut : GoodIn wsL_law (va_wsS RL 125 yL_cut wsL_cut) := goodIn_app (goodIn_of _ (by decide +kernel)) ggL_law_L_cut
set_option maxRecDepth 20000 in
theorem ggL_law_X8_cut : GoodIn wsL_law wsX8_cut := goodIn_r _ [484, 126, 172, 267, 268, 269, 5, 270, 123, 833, 834, 835, 836, 837, 838, 839, 840, 841, 842, 843, 844, 845, 846, 847, 848, 849, 850, 851, 852, 853, 854, 855, 856, 857, 858, 859, 860, 861, 862, 863, 864, 865, 866, 867] (by decide +kernel) (by decide +kernel)
set_option maxRecDepth 20000 in
theorem gL_law_X8_cut : GoodIn wsL_law (wsV RL 127 RX8 yX8_cut wsX8_cut) := goodIn_app (goodIn_of _ (by decide +kernel)) ggL_law_X8_cut
set_option maxRecDepth 20000 in
theorem ggL_law_L_hide : GoodIn wsL_law wsL_hide := goodIn_ca (goodIn_r _ [487, 158, 488, 489, 490, 2, 491, 14, 492, 192, 193, 194, 195, 98, 163, 164, 165, 166, 167, 826, 827, 828, 829, 830, 831, 832, 887, 888, 889, 890, 891, 892, 893, 894] (by decide +kernel) (by decide +kernel)) (goodIn_sub (fun _ h => List.mem_append_left _ (List.mem_append_right _ h)) (by decide +kernel))
set_option maxRecDepth 20000 in
theorem gL_law_L_hide : GoodIn wsL_law (va_wsS RL 128 yL_hide wsL_hide) := goodIn_app (goodIn_of _ (by decide +kernel)) ggL_law_L_hide
set_option maxRecDepth 20000 in
theorem ggL_law_X8_hide : GoodIn wsL_law wsX8_hide := goodIn_r _ [496, 172, 130, 267, 268, 269, 5, 270, 123, 833, 834, 835, 836, 837, 838, 839, 840, 841, 842, 843, 844, 845, 846, 847, 848, 849, 850, 851, 852, 853, 854, 855, 856, 857, 858, 859, 860, 861, 862, 863, 864, 865, 866, 867] (by decide +kernel) (by decide +kernel)
set_option maxRecDepth 20000 in
theorem gL_law_X8_hide : GoodIn wsL_law (wsV RL 131 RX8 yX8_hide wsX8_hide) := goodIn_app (goodIn_of _ (by decide +kernel)) ggL_law_X8_hide
set_option maxRecDepth 20000 in
theorem ggL_law_L_audit : GoodIn wsL_law wsL_audit := goodIn_ca (goodIn_ca (goodIn_r _ [499, 158, 184, 500, 501, 502, 2, 503, 101, 14, 504, 330, 192, 193, 194, 195, 98, 505, 506, 507, 508, 163, 164, 165, 166, 167, 201, 202, 203, 204, 205, 509, 510, 511, 512, 492, 235, 189, 191, 234, 513, 514, 515, 81, 516, 344, 90, 91, 517, 92, 518, 519, 520, 521, 522, 441, 442, 523, 524, 525, 526, 22, 527, 528, 529, 530, 531, 532, 533, 534, 21, 535, 536, 537, 538, 539, 11, 12, 149, 540, 541, 542, 543, 544, 545, 546, 49, 547, 548, 549, 550, 551, 552, 553, 554, 555, 556, 557, 558, 48, 559, 560, 561, 562, 563, 564, 565, 566, 567, 568, 569, 570, 571, 572, 573, 574, 575, 576, 577, 578, 579, 580, 581, 582, 583, 584, 585, 586, 587, 588, 589, 590, 591, 592, 593, 594, 595, 596, 597, 598, 599, 600, 601, 602, 603, 604, 605, 606, 607, 608, 609, 610, 611, 612, 613, 465, 614, 615, 616, 617, 618, 253, 254, 255, 212, 213, 214, 215, 216, 619, 620, 621, 622, 26, 227, 623, 111, 112, 25, 113, 114, 115, 116, 117, 118, 624, 625, 626, 627, 228, 229, 217, 218, 219, 220, 221, 222, 349, 350, 351, 352, 628, 629, 630, 631, 632, 633, 634, 635, 340, 341, 342, 343, 93, 345, 346, 347, 348, 826, 827, 828, 829, 830, 831, 832, 887, 888, 889, 890, 891, 892, 893, 894, 882, 883, 884, 885, 886, 902, 903, 904, 905, 906, 907, 908, 872, 873, 874, 875, 876, 877, 878, 879, 880, 881] (by decide +kernel) (by decide +kernel)) (goodIn_sub (fun _ h => List.mem_append_left _ (List.mem_append_right _ h)) (by decide +kernel))) (goodIn_sub (fun _ h => List.mem_append_right _ h) (by decide +kernel))
set_option maxRecDepth 20000 in
theorem gL_law_L_audit : GoodIn wsL_law (va_wsS RL 132 yL_audit wsL_audit) := goodIn_app (goodIn_of _ (by decide +kernel)) ggL_law_L_audit
set_option maxRecDepth 20000 in
theorem ggL_law_X8_audit : GoodIn wsL_law wsX8_audit := goodIn_r _ [639, 123, 176, 172, 131, 130, 144, 145, 126, 267, 268, 269, 5, 270, 640, 641, 642, 643, 644, 645, 646, 647, 648, 151, 127, 152, 128, 153, 129, 649, 650, 651, 652, 142, 143, 286, 287, 288, 289, 290, 291, 292, 293, 294, 295, 296, 297, 653, 654, 655, 656, 275, 276, 277, 278, 279, 280, 281, 377, 378, 379, 657, 658, 659, 660, 147, 661, 662, 663, 664, 150, 665, 666, 667, 668, 298, 299, 300, 669, 670, 671, 672, 365, 366, 367, 368, 146, 369, 370, 371, 372, 833, 834, 835, 836, 837, 838, 839, 840, 841, 842, 843, 844, 845, 846, 847, 848, 849, 850, 851, 852, 853, 854, 855, 856, 857, 858, 859, 860, 861, 862, 863, 864, 865, 866, 867] (by decide +kernel) (by decide +kernel)
set_option maxRecDepth 20000 in
theorem gL_law_X8_audit : GoodIn wsL_law (wsV RL 134 RX8 yX8_audit wsX8_audit) := goodIn_app (goodIn_of _ (by decide +kernel)) ggL_law_X8_audit
set_option maxRecDepth 20000 in
theorem ggL_law_L_judge : GoodIn wsL_law wsL_judge := goodIn_ca (goodIn_r _ [675, 158, 676, 677, 678, 2, 679, 22, 530, 14, 504, 192, 193, 194, 195, 98, 680, 681, 682, 683, 101, 163, 164, 165, 166, 167, 593, 594, 595, 21, 596, 536, 597, 598, 599, 600, 601, 602, 603, 604, 605, 606, 607, 608, 49, 684, 685, 686, 687, 30, 191, 234, 688, 689, 690, 529, 691, 618, 692, 693, 694, 695, 540, 696, 697, 698, 699, 700, 701, 702, 703, 704, 705, 206, 207, 208, 29, 209, 200, 67, 68, 69, 70, 210, 211, 212, 213, 214, 215, 216, 253, 254, 255, 706, 707, 708, 709, 710, 711, 712, 713, 619, 620, 621, 622, 26, 227, 623, 111, 112, 25, 113, 114, 115, 116, 117, 118, 624, 625, 626, 627, 612, 613, 465, 228, 229, 217, 218, 219, 220, 221, 222, 349, 350, 351, 352, 826, 827, 828, 829, 830, 831, 832, 887, 888, 889, 890, 891, 892, 893, 894, 872, 873, 874, 882, 883, 884, 885, 886, 907, 908, 875, 876, 877, 878, 879, 880, 881] (by decide +kernel) (by decide +kernel)) (goodIn_sub (fun _ h => List.mem_append_left _ (List.mem_append_right _ h)) (by decide +kernel))
set_option maxRecDepth 20000 in
theorem gL_law_L_judge : GoodIn wsL_law (va_wsS RL 135 yL_judge wsL_judge) := goodIn_app (goodIn_of _ (by decide +kernel)) ggL_law_L_judge
set_option maxRecDepth 20000 in
theorem ggL_law_X8_judge : GoodIn wsL_law wsX8_judge := goodIn_r _ [717, 172, 131, 267, 268, 269, 5, 270, 123, 718, 719, 720, 721, 176, 722, 723, 724, 725, 147, 648, 151, 152, 153, 726, 727, 728, 729, 150, 665, 666, 667, 668, 290, 291, 292, 293, 294, 295, 296, 297, 298, 299, 300, 653, 654, 655, 656, 275, 276, 277, 278, 279, 280, 281, 377, 378, 379, 833, 834, 835, 836, 837, 838, 839, 840, 841, 842, 843, 844, 845, 846, 847, 848, 849, 850, 851, 852, 853, 854, 855, 856, 857, 858, 859, 860, 861, 862, 863, 864, 865, 866, 867] (by decide +kernel) (by decide +kernel)
set_option maxRecDepth 20000 in
theorem gL_law_X8_judge : GoodIn wsL_law (wsV RL 137 RX8 yX8_judge wsX8_judge) := goodIn_app (goodIn_of _ (by decide +kernel)) ggL_law_X8_judge
set_option maxRecDepth 20000 in
theorem ggL_law_L_holds : GoodIn wsL_law wsL_holds := goodIn_ca (goodIn_r _ [732, 158, 733, 734, 735, 2, 736, 22, 530, 680, 681, 682, 683, 101, 163, 164, 165, 166, 167, 593, 594, 595, 21, 596, 536, 597, 598, 599, 600, 601, 602, 603, 604, 605, 606, 607, 608, 49, 684, 685, 686, 687, 30, 191, 234, 688, 689, 690, 529, 691, 618, 692, 693, 694, 695, 540, 696, 697, 698, 699, 700, 192, 193, 194, 195, 98, 701, 702, 703, 704, 705, 206, 207, 208, 29, 209, 200, 67, 68, 69, 70, 210, 211, 212, 213, 214, 215, 216, 253, 254, 255, 706, 707, 708, 709, 710, 711, 712, 713, 619, 620, 621, 622, 26, 227, 623, 111, 112, 25, 113, 114, 115, 116, 117, 118, 624, 625, 626, 627, 612, 613, 465, 228, 229, 217, 218, 219, 220, 221, 222, 349, 350, 351, 352, 826, 827, 828, 829, 830, 831, 832, 872, 873, 874, 882, 883, 884, 885, 886, 907, 908, 875, 876, 877, 878, 879, 880, 881] (by decide +kernel) (by decide +kernel)) (goodIn_sub (fun _ h => List.mem_append_left _ (List.mem_append_right _ h)) (by decide +kernel))
set_option maxRecDepth 20000 in
theorem gL_law_L_holds : GoodIn wsL_law (va_wsS RL 138 yL_holds wsL_holds) := goodIn_app (goodIn_of _ (by decide +kernel)) ggL_law_L_holds
set_option maxRecDepth 20000 in
theorem ggL_law_X8_holds : GoodIn wsL_law wsX8_holds := goodIn_r _ [740, 172, 718, 719, 720, 5, 721, 176, 722, 723, 724, 725, 123, 147, 648, 151, 152, 153, 726, 727, 728, 729, 150, 665, 666, 667, 668, 290, 291, 292, 293, 294, 295, 296, 297, 298, 299, 300, 653, 654, 655, 656, 275, 276, 277, 278, 279, 280, 281, 377, 378, 379, 833, 834, 835, 836, 837, 838, 839, 840, 841, 842, 843, 844, 845, 846, 847, 848, 849, 850, 851, 852, 853, 854, 855, 856, 857, 858, 859, 860, 861, 862, 863, 864, 865, 866, 867] (by decide +kernel) (by decide +kernel)
set_option maxRecDepth 20000 in
theorem gL_law_X8_holds : GoodIn wsL_law (wsV RL 140 RX8 yX8_holds wsX8_holds) := goodIn_app (goodIn_of _ (by decide +kernel)) ggL_law_X8_holds
set_option maxRecDepth 20000 in
theorem ggL_law_L_byteOf : GoodIn wsL_law wsL_byteOf := goodIn_ca (goodIn_r _ [743, 158, 744, 745, 746, 2, 747, 22, 530, 680, 681, 682, 683, 101, 163, 164, 165, 166, 167, 593, 594, 595, 21, 596, 536, 597, 598, 599, 600, 601, 602, 603, 604, 605, 606, 607, 608, 49, 748, 749, 750, 529, 751, 618, 700, 693, 694, 695, 540, 826, 827, 828, 829, 830, 831, 832, 872, 873, 874, 907, 908] (by decide +kernel) (by decide +kernel)) (goodIn_sub (fun _ h => List.mem_append_left _ (List.mem_append_right _ h)) (by decide +kernel))
set_option maxRecDepth 20000 in
theorem gL_law_L_byteOf : GoodIn wsL_law (va_wsS RL 141 yL_byteOf wsL_byteOf) := goodIn_app (goodIn_of _ (by decide +kernel)) ggL_law_L_byteOf
set_option maxRecDepth 20000 in
theorem ggL_law_X8_byteOf : GoodIn wsL_law wsX8_byteOf := goodIn_r _ [755, 172, 147, 150, 718, 719, 720, 5, 721, 176, 833, 834, 835, 836, 837, 838, 839, 840, 841, 842, 843, 844, 845, 846, 847, 848, 849, 850, 851, 852, 853, 854, 855, 856, 857, 858, 859, 860, 861, 862, 863, 864, 865, 866, 867] (by decide +kernel) (by decide +kernel)
set_option maxRecDepth 20000 in
theorem gL_law_X8_byteOf : GoodIn wsL_law (wsV RL 143 RX8 yX8_byteOf wsX8_byteOf) := goodIn_app (goodIn_of _ (by decide +kernel)) ggL_law_X8_byteOf
set_option maxRecDepth 20000 in
theorem ggL_law_L_smudge : GoodIn wsL_law wsL_smudge := goodIn_ca (goodIn_r _ [758, 158, 759, 760, 761, 2, 762, 22, 530, 763, 680, 681, 682, 683, 101, 593, 594, 595, 21, 596, 536, 597, 598, 599, 600, 601, 602, 603, 604, 605, 606, 607, 608, 49, 748, 749, 750, 529, 751, 618, 163, 164, 165, 166, 167, 700, 693, 694, 695, 540, 826, 827, 828, 829, 830, 831, 832, 907, 908, 872, 873, 874] (by decide +kernel) (by decide +kernel)) (goodIn_sub (fun _ h => List.mem_append_left _ (List.mem_append_right _ h)) (by decide +kernel))
set_option maxRecDepth 20000 in
theorem gL_law_L_smudge : GoodIn wsL_law (va_wsS RL 144 yL_smudge wsL_smudge) := goodIn_app (goodIn_of _ (by decide +kernel)) ggL_law_L_smudge
set_option maxRecDepth 20000 in
theorem ggL_law_X8_smudge : GoodIn wsL_law wsX8_smudge := goodIn_r _ [767, 147, 172, 150, 718, 719, 720, 5, 721, 176, 833, 834, 835, 836, 837, 838, 839, 840, 841, 842, 843, 844, 845, 846, 847, 848, 849, 850, 851, 852, 853, 854, 855, 856, 857, 858, 859, 860, 861, 862, 863, 864, 865, 866, 867] (by decide +kernel) (by decide +kernel)
set_option maxRecDepth 20000 in
theorem gL_law_X8_smudge : GoodIn wsL_law (wsV RL 146 RX8 yX8_smudge wsX8_smudge) := goodIn_app (goodIn_of _ (by decide +kernel)) ggL_law_X8_smudge
set_option maxRecDepth 20000 in
theorem ggL_law_L_verdict : GoodIn wsL_law wsL_verdict := goodIn_ca (goodIn_r _ [770, 158, 771, 772, 773, 2, 774, 14, 504, 192, 193, 194, 195, 98, 163, 164, 165, 166, 167, 826, 827, 828, 829, 830, 831, 832, 887, 888, 889, 890, 891, 892, 893, 894] (by decide +kernel) (by decide +kernel)) (goodIn_sub (fun _ h => List.mem_append_left _ (List.mem_append_right _ h)) (by decide +kernel))
set_option maxRecDepth 20000 in
theorem gL_law_L_verdict : GoodIn wsL_law (va_wsS RL 147 yL_verdict wsL_verdict) := goodIn_app (goodIn_of _ (by decide +kernel)) ggL_law_L_verdict
set_option maxRecDepth 20000 in
theorem ggL_law_X8_verdict : GoodIn wsL_law wsX8_verdict := goodIn_r _ [778, 172, 131, 267, 268, 269, 5, 270, 123, 833, 834, 835, 836, 837, 838, 839, 840, 841, 842, 843, 844, 845, 846, 847, 848, 849, 850, 851, 852, 853, 854, 855, 856, 857, 858, 859, 860, 861, 862, 863, 864, 865, 866, 867] (by decide +kernel) (by decide +kernel)
set_option maxRecDepth 20000 in
theorem gL_law_X8_verdict : GoodIn wsL_law (wsV RL 149 RX8 yX8_verdict wsX8_verdict) := goodIn_app (goodIn_of _ (by decide +kernel)) ggL_law_X8_verdict
set_option maxRecDepth 20000 in
theorem ggL_law_L_entry : GoodIn wsL_law wsL_entry := goodIn_ca (goodIn_r _ [781, 158, 782, 783, 784, 2, 785, 166, 167, 14, 189, 191, 612, 613, 465, 192, 193, 194, 195, 98, 163, 164, 165, 826, 827, 828, 829, 830, 831, 832, 887, 888, 889, 890, 891, 892, 893, 894, 882, 883, 884, 885, 886] (by decide +kernel) (by decide +kernel)) (goodIn_sub (fun _ h => List.mem_append_left _ (List.mem_append_right _ h)) (by decide +kernel))
set_option maxRecDepth 20000 in
theorem gL_law_L_entry : GoodIn wsL_law (va_wsS RL 150 yL_entry wsL_entry) := goodIn_app (goodIn_of _ (by decide +kernel)) ggL_law_L_entry
set_option maxRecDepth 20000 in
theorem ggL_law_X8_entry : GoodIn wsL_law wsX8_entry := goodIn_r _ [789, 126, 172, 127, 128, 129, 267, 268, 269, 5, 270, 123, 833, 834, 835, 836, 837, 838, 839, 840, 841, 842, 843, 844, 845, 846, 847, 848, 849, 850, 851, 852, 853, 854, 855, 856, 857, 858, 859, 860, 861, 862, 863, 864, 865, 866, 867] (by decide +kernel) (by decide +kernel)
set_option maxRecDepth 20000 in
theorem gL_law_X8_entry : GoodIn wsL_law (wsV RL 152 RX8 yX8_entry wsX8_entry) := goodIn_app (goodIn_of _ (by decide +kernel)) ggL_law_X8_entry
set_option maxRecDepth 20000 in
theorem ggL_law_L_head : GoodIn wsL_law wsL_head := goodIn_ca (goodIn_r _ [792, 158, 793, 794, 795, 2, 796, 14, 189, 191, 234, 192, 193, 194, 195, 98, 163, 164, 165, 166, 167, 826, 827, 828, 829, 830, 831, 832, 887, 888, 889, 890, 891, 892, 893, 894, 882, 883, 884, 885, 886] (by decide +kernel) (by decide +kernel)) (goodIn_sub (fun _ h => List.mem_append_left _ (List.mem_append_right _ h)) (by decide +kernel))
set_option maxRecDepth 20000 in
theorem gL_law_L_head : GoodIn wsL_law (va_wsS RL 153 yL_head wsL_head) := goodIn_app (goodIn_of _ (by decide +kernel)) ggL_law_L_head
set_option maxRecDepth 20000 in
theorem ggL_law_X8_head : GoodIn wsL_law wsX8_head := goodIn_r _ [800, 126, 172, 267, 268, 269, 5, 270, 123, 286, 287, 288, 289, 127, 128, 129, 290, 291, 292, 293, 294, 295, 296, 297, 833, 834, 835, 836, 837, 838, 839, 840, 841, 842, 843, 844, 845, 846, 847, 848, 849, 850, 851, 852, 853, 854, 855, 856, 857, 858, 859, 860, 861, 862, 863, 864, 865, 866, 867] (by decide +kernel) (by decide +kernel)
set_option maxRecDepth 20000 in
theorem gL_law_X8_head : GoodIn wsL_law (wsV RL 155 RX8 yX8_head wsX8_head) := goodIn_app (goodIn_of _ (by decide +kernel)) ggL_law_X8_head
set_option maxRecDepth 20000 in
theorem ggL_law_L_about : GoodIn wsL_law wsL_about := goodIn_ca (goodIn_r _ [803, 158, 804, 805, 806, 2, 807, 166, 167, 14, 189, 191, 190, 808, 809, 330, 434, 810, 192, 193, 194, 195, 98, 163, 164, 165, 826, 827, 828, 829, 830, 831, 832, 887, 888, 889, 890, 891, 892, 893, 894, 882, 883, 884, 885, 886, 875, 876, 877, 878, 879, 880, 881, 902, 903, 904, 905, 906] (by decide +kernel) (by decide +kernel)) (goodIn_sub (fun _ h => List.mem_append_left _ (List.mem_append_right _ h)) (by decide +kernel))
set_option maxRecDepth 20000 in
theorem gL_law_L_about : GoodIn wsL_law (va_wsS RL 156 yL_about wsL_about) := goodIn_app (goodIn_of _ (by decide +kernel)) ggL_law_L_about
set_option maxRecDepth 20000 in
theorem ggL_law_X8_about : GoodIn wsL_law wsX8_about := goodIn_r _ [814, 172, 126, 124, 125, 142, 175, 139, 267, 268, 269, 5, 270, 123, 833, 834, 835, 836, 837, 838, 839, 840, 841, 842, 843, 844, 845, 846, 847, 848, 849, 850, 851, 852, 853, 854, 855, 856, 857, 858, 859, 860, 861, 862, 863, 864, 865, 866, 867] (by decide +kernel) (by decide +kernel)
set_option maxRecDepth 20000 in
theorem gL_law_X8_about : GoodIn wsL_law (wsV RL 158 RX8 yX8_about wsX8_about) := goodIn_app (goodIn_of _ (by decide +kernel)) ggL_law_X8_about
set_option maxRecDepth 20000 in
theorem ggL_law_L_total : GoodIn wsL_law wsL_total := goodIn_ca (goodIn_r _ [817, 158, 818, 819, 820, 2, 821, 166, 167, 18, 99, 100, 101, 98, 826, 827, 828, 829, 830, 831, 832, 868, 869, 870, 871] (by decide +kernel) (by decide +kernel)) (goodIn_sub (fun _ h => List.mem_append_left _ (List.mem_append_right _ h)) (by decide +kernel))
set_option maxRecDepth 20000 in
theorem gL_law_L_total : GoodIn wsL_law (va_wsS RL 159 yL_total wsL_total) := goodIn_app (goodIn_of _ (by decide +kernel)) ggL_law_L_total
set_option maxRecDepth 20000 in
theorem ggL_law_X8_total : GoodIn wsL_law wsX8_total := goodIn_r _ [825, 172, 173, 174, 176, 123, 833, 834, 835, 836, 837, 838, 839, 840, 841, 842, 843, 844, 845, 846, 847, 848, 849, 850, 851, 852, 853, 854, 855, 856, 857, 858, 859, 860, 861, 862, 863, 864, 865, 866, 867] (by decide +kernel) (by decide +kernel)
set_option maxRecDepth 20000 in
theorem gL_law_X8_total : GoodIn wsL_law (wsV RL 161 RX8 yX8_total wsX8_total) := goodIn_app (goodIn_of _ (by decide +kernel)) ggL_law_X8_total
