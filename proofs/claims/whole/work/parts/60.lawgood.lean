set_option maxRecDepth 20000 in
theorem ggL_law_X11_init : GoodIn wsL_law wsX11_init := goodIn_r _ [8, 9, 10, 11, 12, 13, 14, 15, 16, 17, 18, 19, 20, 21, 22, 23, 24, 25, 26, 27, 28, 29, 30, 31, 32, 33, 34, 35, 36, 37, 38, 39, 40, 41, 42, 43, 44, 45, 46, 47, 48, 49, 50, 51, 52, 53, 54, 55, 56, 57, 58, 59, 60, 61, 62, 63, 64, 65, 66, 67, 68, 69, 70, 71, 72, 73, 74, 75, 76, 77, 78, 79, 80, 81, 82, 83, 84, 85, 86, 87, 88, 89, 90, 91, 92, 93, 94, 95, 96, 97, 98, 99, 100, 101, 102, 103, 104, 105, 106, 107, 108, 109, 110, 111, 112, 113, 911, 912, 913, 914, 873, 874, 875, 876, 877, 878, 879, 880, 881, 882, 883, 915, 916, 917, 918, 919, 920, 921, 922, 923, 924, 925, 926, 927, 928, 929, 930, 931, 932, 933, 934, 935, 936, 937, 938, 939, 940, 941, 942, 943] (by rfl) (by decide +kernel)
set_option maxRecDepth 20000 in
theorem gL_law_X11_init : GoodIn wsL_law (wsX11_init) := ggL_law_X11_init
set_option maxRecDepth 20000 in
theorem ggL_law_X12_init : GoodIn wsL_law wsX12_init := goodIn_r _ [116, 117, 10, 11, 41, 118, 119, 120, 121, 122, 123, 124, 125, 126, 127, 128, 129, 130, 131, 132, 133, 134, 135, 136, 137, 138, 139, 884, 885, 886, 887, 888, 889, 890, 891, 892, 893, 894, 895, 896, 897, 898, 899, 900, 901, 902, 903, 904, 905, 906, 907, 908, 909, 910] (by rfl) (by decide +kernel)
set_option maxRecDepth 20000 in
theorem gL_law_X12_init : GoodIn wsL_law (wsX12_init) := ggL_law_X12_init
set_option maxRecDepth 20000 in
theorem ggL_law_X11_star : GoodIn wsL_law wsX11_star := goodIn_r _ [143, 15, 144, 145, 146, 2, 147, 148, 149, 20, 150, 151, 152, 153, 154, 155, 156, 157, 44, 158, 159, 160, 161, 14, 162, 52, 49, 50, 51, 873, 874, 875, 876, 877, 878, 879, 880, 881, 882, 883, 911, 912, 913, 914, 915, 916, 917, 918, 919, 920, 921, 922, 923, 924] (by rfl) (by decide +kernel)
set_option maxRecDepth 20000 in
theorem gL_law_X11_star : GoodIn wsL_law (wsV RL 13 RX11 yX11_star wsX11_star) := goodIn_app (goodIn_of _ (by decide +kernel)) ggL_law_X11_star
set_option maxRecDepth 20000 in
theorem ggL_law_X12_star : GoodIn wsL_law wsX12_star := goodIn_r _ [166, 167, 168, 169, 118, 119, 170, 171, 5, 172, 173, 174, 175, 176, 131, 177, 884, 885, 886, 887, 888, 889, 890, 891, 892, 893, 894, 895, 896, 897, 898, 899, 900, 901, 902, 903, 904, 905, 906, 907, 908, 909, 910] (by rfl) (by decide +kernel)
set_option maxRecDepth 20000 in
theorem gL_law_X12_star : GoodIn wsL_law (wsV RL 17 RX12 yX12_star wsX12_star) := goodIn_app (goodIn_of _ (by decide +kernel)) ggL_law_X12_star
set_option maxRecDepth 20000 in
theorem ggL_law_X11_spot : GoodIn wsL_law wsX11_spot := goodIn_r _ [181, 16, 144, 145, 146, 2, 147, 148, 149, 20, 150, 151, 152, 153, 154, 155, 156, 157, 44, 158, 159, 160, 161, 14, 162, 52, 49, 50, 51, 873, 874, 875, 876, 877, 878, 879, 880, 881, 882, 883, 911, 912, 913, 914, 915, 916, 917, 918, 919, 920, 921, 922, 923, 924] (by rfl) (by decide +kernel)
set_option maxRecDepth 20000 in
theorem gL_law_X11_spot : GoodIn wsL_law (wsV RL 18 RX11 yX11_spot wsX11_spot) := goodIn_app (goodIn_of _ (by decide +kernel)) ggL_law_X11_spot
set_option maxRecDepth 20000 in
theorem ggL_law_X12_spot : GoodIn wsL_law wsX12_spot := goodIn_r _ [185, 167, 186, 169, 118, 119, 170, 171, 5, 172, 173, 174, 175, 176, 131, 177, 884, 885, 886, 887, 888, 889, 890, 891, 892, 893, 894, 895, 896, 897, 898, 899, 900, 901, 902, 903, 904, 905, 906, 907, 908, 909, 910] (by rfl) (by decide +kernel)
set_option maxRecDepth 20000 in
theorem gL_law_X12_spot : GoodIn wsL_law (wsV RL 21 RX12 yX12_spot wsX12_spot) := goodIn_app (goodIn_of _ (by decide +kernel)) ggL_law_X12_spot
set_option maxRecDepth 20000 in
theorem ggL_law_X11_row : GoodIn wsL_law wsX11_row := goodIn_r _ [190, 26, 191, 192, 2, 193, 154, 155, 156, 157, 44, 158, 194, 195, 196, 28, 197, 93, 92, 873, 874, 875, 876, 877, 878, 879, 880, 881, 882, 883, 933, 934] (by rfl) (by decide +kernel)
set_option maxRecDepth 20000 in
theorem gL_law_X11_row : GoodIn wsL_law (wsV RL 22 RX11 yX11_row wsX11_row) := goodIn_app (goodIn_of _ (by decide +kernel)) ggL_law_X11_row
set_option maxRecDepth 20000 in
theorem ggL_law_X12_row : GoodIn wsL_law wsX12_row := goodIn_r _ [201, 167, 202, 122, 121, 170, 171, 5, 172, 173, 174, 175, 176, 131, 177, 884, 885, 886, 887, 888, 889, 890, 891, 892, 893, 894, 895, 896, 897, 898, 899, 900, 901, 902, 903, 904, 905, 906, 907, 908, 909, 910] (by rfl) (by decide +kernel)
set_option maxRecDepth 20000 in
theorem gL_law_X12_row : GoodIn wsL_law (wsV RL 25 RX12 yX12_row wsX12_row) := goodIn_app (goodIn_of _ (by decide +kernel)) ggL_law_X12_row
set_option maxRecDepth 20000 in
theorem ggL_law_X11_put : GoodIn wsL_law wsX11_put := goodIn_r _ [206, 26, 207, 208, 191, 192, 2, 193, 154, 155, 156, 157, 44, 158, 209, 210, 211, 28, 212, 93, 873, 874, 875, 876, 877, 878, 879, 880, 881, 882, 883, 933, 934] (by rfl) (by decide +kernel)
set_option maxRecDepth 20000 in
theorem gL_law_X11_put : GoodIn wsL_law (wsV RL 26 RX11 yX11_put wsX11_put) := goodIn_app (goodIn_of _ (by decide +kernel)) ggL_law_X11_put
set_option maxRecDepth 20000 in
theorem ggL_law_X12_put : GoodIn wsL_law wsX12_put := goodIn_r _ [216, 167, 122, 217, 121, 170, 171, 5, 172, 173, 174, 175, 176, 131, 177, 884, 885, 886, 887, 888, 889, 890, 891, 892, 893, 894, 895, 896, 897, 898, 899, 900, 901, 902, 903, 904, 905, 906, 907, 908, 909, 910] (by rfl) (by decide +kernel)
set_option maxRecDepth 20000 in
theorem gL_law_X12_put : GoodIn wsL_law (wsV RL 30 RX12 yX12_put wsX12_put) := goodIn_app (goodIn_of _ (by decide +kernel)) ggL_law_X12_put
set_option maxRecDepth 20000 in
theorem ggL_law_X11_load : GoodIn wsL_law wsX11_load := goodIn_r _ [221, 26, 149, 20, 150, 148, 208, 191, 192, 2, 193, 154, 155, 156, 157, 44, 158, 209, 210, 211, 28, 212, 93, 222, 223, 224, 225, 92, 152, 153, 226, 227, 228, 229, 15, 16, 159, 160, 161, 14, 162, 52, 49, 50, 51, 873, 874, 875, 876, 877, 878, 879, 880, 881, 882, 883, 911, 912, 913, 914, 915, 916, 917, 918, 919, 920, 921, 922, 923, 924, 933, 934] (by rfl) (by decide +kernel)
set_option maxRecDepth 20000 in
theorem gL_law_X11_load : GoodIn wsL_law (wsV RL 31 RX11 yX11_load wsX11_load) := goodIn_app (goodIn_of _ (by decide +kernel)) ggL_law_X11_load
set_option maxRecDepth 20000 in
theorem ggL_law_X12_load : GoodIn wsL_law wsX12_load := goodIn_r _ [233, 167, 122, 217, 202, 121, 169, 118, 119, 168, 186, 170, 171, 5, 172, 173, 174, 175, 176, 131, 177, 884, 885, 886, 887, 888, 889, 890, 891, 892, 893, 894, 895, 896, 897, 898, 899, 900, 901, 902, 903, 904, 905, 906, 907, 908, 909, 910] (by rfl) (by decide +kernel)
set_option maxRecDepth 20000 in
theorem gL_law_X12_load : GoodIn wsL_law (wsV RL 35 RX12 yX12_load wsX12_load) := goodIn_app (goodIn_of _ (by decide +kernel)) ggL_law_X12_load
set_option maxRecDepth 20000 in
theorem ggL_law_X11_clear : GoodIn wsL_law wsX11_clear := goodIn_r _ [237, 148, 20, 150, 226, 227, 228, 2, 229, 15, 16, 911, 912, 913, 914, 873, 874, 875, 876, 877, 878, 879, 880, 881, 882, 883, 915, 916, 917, 918, 919, 920, 921, 922, 923, 924] (by rfl) (by decide +kernel)
set_option maxRecDepth 20000 in
theorem gL_law_X11_clear : GoodIn wsL_law (wsV RL 36 RX11 yX11_clear wsX11_clear) := goodIn_app (goodIn_of _ (by decide +kernel)) ggL_law_X11_clear
set_option maxRecDepth 20000 in
theorem ggL_law_X12_clear : GoodIn wsL_law wsX12_clear := goodIn_r _ [241, 168, 186, 884, 885, 886, 887, 888, 889, 890, 891, 892, 893, 894, 895, 896, 897, 898, 899, 900, 901, 902, 903, 904, 905, 906, 907, 908, 909, 910] (by rfl) (by decide +kernel)
set_option maxRecDepth 20000 in
theorem gL_law_X12_clear : GoodIn wsL_law (wsV RL 40 RX12 yX12_clear wsX12_clear) := goodIn_app (goodIn_of _ (by decide +kernel)) ggL_law_X12_clear
set_option maxRecDepth 20000 in
theorem ggL_law_X11_near : GoodIn wsL_law wsX11_near := goodIn_r _ [245, 20, 246, 150, 154, 155, 156, 2, 157, 44, 158, 873, 874, 875, 876, 877, 878, 879, 880, 881, 882, 883, 915, 916, 917, 918, 919, 920, 921, 922, 923, 924] (by rfl) (by decide +kernel)
set_option maxRecDepth 20000 in
theorem gL_law_X11_near : GoodIn wsL_law (wsV RL 41 RX11 yX11_near wsX11_near) := goodIn_app (goodIn_of _ (by decide +kernel)) ggL_law_X11_near
set_option maxRecDepth 20000 in
theorem ggL_law_X12_near : GoodIn wsL_law wsX12_near := goodIn_r _ [250, 167, 120, 170, 171, 5, 172, 173, 174, 175, 176, 131, 177, 884, 885, 886, 887, 888, 889, 890, 891, 892, 893, 894, 895, 896, 897, 898, 899, 900, 901, 902, 903, 904, 905, 906, 907, 908, 909, 910] (by rfl) (by decide +kernel)
set_option maxRecDepth 20000 in
theorem gL_law_X12_near : GoodIn wsL_law (wsV RL 45 RX12 yX12_near wsX12_near) := goodIn_app (goodIn_of _ (by decide +kernel)) ggL_law_X12_near
set_option maxRecDepth 20000 in
theorem ggL_law_X11_corner : GoodIn wsL_law wsX11_corner := goodIn_r _ [254, 24, 255, 226, 227, 228, 2, 229, 15, 16, 256, 257, 258, 14, 259, 52, 154, 155, 156, 157, 44, 158, 260, 261, 262, 23, 263, 264, 265, 266, 267, 268, 269, 270, 86, 271, 272, 273, 274, 50, 51, 275, 276, 277, 278, 279, 280, 281, 282, 283, 284, 285, 286, 287, 288, 289, 290, 291, 292, 293, 294, 295, 296, 297, 298, 873, 874, 875, 876, 877, 878, 879, 880, 881, 882, 883, 925, 926, 927, 928, 929, 930, 931, 932, 911, 912, 913, 914] (by rfl) (by decide +kernel)
set_option maxRecDepth 20000 in
theorem gL_law_X11_corner : GoodIn wsL_law (wsV RL 46 RX11 yX11_corner wsX11_corner) := goodIn_app (goodIn_of _ (by decide +kernel)) ggL_law_X11_corner
set_option maxRecDepth 20000 in
theorem ggL_law_X12_corner : GoodIn wsL_law wsX12_corner := goodIn_r _ [302, 168, 186, 167, 217, 303, 132, 170, 171, 5, 172, 173, 174, 175, 176, 131, 177, 304, 305, 306, 307, 133, 308, 309, 310, 311, 118, 119, 312, 313, 314, 315, 316, 317, 318, 319, 884, 885, 886, 887, 888, 889, 890, 891, 892, 893, 894, 895, 896, 897, 898, 899, 900, 901, 902, 903, 904, 905, 906, 907, 908, 909, 910] (by rfl) (by decide +kernel)
set_option maxRecDepth 20000 in
theorem gL_law_X12_corner : GoodIn wsL_law (wsV RL 50 RX12 yX12_corner wsX12_corner) := goodIn_app (goodIn_of _ (by decide +kernel)) ggL_law_X12_corner
set_option maxRecDepth 20000 in
theorem ggL_law_X11_votes : GoodIn wsL_law wsX11_votes := goodIn_r _ [323, 16, 15, 20, 324, 256, 257, 258, 14, 259, 52, 154, 155, 156, 2, 157, 44, 158, 325, 326, 327, 19, 328, 69, 62, 57, 63, 58, 329, 66, 68, 330, 331, 332, 61, 333, 81, 334, 80, 335, 336, 337, 338, 79, 22, 23, 339, 340, 83, 84, 85, 10, 11, 86, 341, 261, 262, 263, 264, 265, 266, 267, 268, 269, 270, 271, 272, 273, 274, 50, 51, 275, 276, 277, 278, 279, 280, 281, 282, 283, 284, 285, 286, 287, 288, 289, 290, 291, 292, 293, 294, 342, 343, 344, 345, 65, 346, 347, 348, 349, 350, 351, 70, 352, 353, 354, 355, 356, 357, 358, 359, 360, 77, 361, 362, 363, 364, 365, 366, 367, 368, 369, 370, 371, 372, 373, 374, 67, 375, 376, 377, 378, 379, 873, 874, 875, 876, 877, 878, 879, 880, 881, 882, 883, 915, 916, 917, 918, 919, 920, 921, 922, 923, 924, 911, 912, 913, 914, 942, 943, 925, 926, 927, 928, 929, 930, 931, 932] (by rfl) (by decide +kernel)
set_option maxRecDepth 20000 in
theorem gL_law_X11_votes : GoodIn wsL_law (wsV RL 51 RX11 yX11_votes wsX11_votes) := goodIn_app (goodIn_of _ (by decide +kernel)) ggL_law_X11_votes
set_option maxRecDepth 20000 in
theorem ggL_law_X12_votes : GoodIn wsL_law wsX12_votes := goodIn_r _ [383, 186, 168, 167, 137, 170, 171, 5, 172, 173, 174, 175, 176, 131, 177, 384, 385, 386, 387, 388, 389, 390, 391, 392, 134, 132, 135, 133, 136, 303, 304, 305, 306, 307, 308, 309, 310, 311, 118, 119, 312, 313, 314, 315, 316, 317, 318, 319, 393, 394, 395, 396, 397, 398, 399, 400, 401, 360, 77, 361, 402, 120, 884, 885, 886, 887, 888, 889, 890, 891, 892, 893, 894, 895, 896, 897, 898, 899, 900, 901, 902, 903, 904, 905, 906, 907, 908, 909, 910] (by rfl) (by decide +kernel)
set_option maxRecDepth 20000 in
theorem gL_law_X12_votes : GoodIn wsL_law (wsV RL 54 RX12 yX12_votes wsX12_votes) := goodIn_app (goodIn_of _ (by decide +kernel)) ggL_law_X12_votes
set_option maxRecDepth 20000 in
theorem ggL_law_X11_match : GoodIn wsL_law wsX11_match := goodIn_r _ [406, 16, 20, 407, 256, 257, 258, 14, 259, 52, 154, 155, 156, 2, 157, 44, 158, 325, 326, 327, 19, 328, 69, 62, 57, 63, 58, 329, 66, 68, 330, 331, 332, 61, 333, 81, 334, 80, 335, 336, 337, 338, 79, 22, 23, 339, 340, 83, 84, 85, 10, 11, 86, 341, 261, 262, 263, 264, 265, 266, 267, 268, 269, 270, 271, 272, 273, 274, 50, 51, 275, 276, 277, 278, 279, 280, 281, 282, 283, 284, 285, 286, 287, 288, 289, 290, 291, 292, 293, 294, 342, 343, 344, 345, 65, 346, 347, 348, 349, 350, 351, 70, 352, 353, 354, 355, 356, 357, 358, 359, 360, 77, 361, 362, 363, 364, 365, 366, 367, 368, 369, 370, 371, 372, 373, 374, 67, 375, 376, 377, 378, 379, 873, 874, 875, 876, 877, 878, 879, 880, 881, 882, 883, 915, 916, 917, 918, 919, 920, 921, 922, 923, 924, 911, 912, 913, 914, 942, 943, 925, 926, 927, 928, 929, 930, 931, 932] (by rfl) (by decide +kernel)
set_option maxRecDepth 20000 in
theorem gL_law_X11_match : GoodIn wsL_law (wsV RL 55 RX11 yX11_match wsX11_match) := goodIn_app (goodIn_of _ (by decide +kernel)) ggL_law_X11_match
set_option maxRecDepth 20000 in
theorem ggL_law_X12_match : GoodIn wsL_law wsX12_match := goodIn_r _ [411, 186, 167, 217, 170, 171, 5, 172, 173, 174, 175, 176, 131, 177, 384, 385, 386, 387, 137, 388, 389, 390, 391, 392, 168, 134, 132, 135, 133, 136, 303, 304, 305, 306, 307, 308, 309, 310, 311, 118, 119, 312, 313, 314, 315, 316, 317, 318, 319, 393, 394, 395, 396, 397, 398, 399, 400, 401, 360, 77, 361, 402, 120, 412, 413, 414, 415, 884, 885, 886, 887, 888, 889, 890, 891, 892, 893, 894, 895, 896, 897, 898, 899, 900, 901, 902, 903, 904, 905, 906, 907, 908, 909, 910] (by rfl) (by decide +kernel)
set_option maxRecDepth 20000 in
theorem gL_law_X12_match : GoodIn wsL_law (wsV RL 58 RX12 yX12_match wsX12_match) := goodIn_app (goodIn_of _ (by decide +kernel)) ggL_law_X12_match
set_option maxRecDepth 20000 in
theorem ggL_law_X11_matched : GoodIn wsL_law wsX11_matched := goodIn_r _ [419, 20, 325, 326, 327, 19, 328, 69, 62, 57, 63, 58, 329, 66, 68, 330, 331, 332, 61, 333, 81, 334, 80, 335, 336, 337, 338, 79, 22, 23, 339, 340, 83, 84, 85, 10, 11, 86, 341, 261, 262, 263, 264, 265, 266, 267, 268, 269, 270, 271, 272, 273, 14, 274, 50, 51, 275, 276, 277, 278, 279, 280, 281, 282, 283, 284, 285, 286, 287, 288, 289, 290, 291, 292, 293, 294, 342, 343, 344, 345, 65, 346, 347, 348, 349, 350, 351, 70, 352, 353, 354, 355, 356, 357, 358, 359, 360, 77, 361, 362, 363, 364, 365, 366, 367, 368, 369, 370, 371, 372, 373, 374, 67, 375, 376, 377, 378, 379, 420, 421, 422, 423, 873, 874, 875, 876, 877, 878, 879, 880, 881, 882, 883, 915, 916, 917, 918, 919, 920, 921, 922, 923, 924, 911, 912, 913, 914, 942, 943, 925, 926, 927, 928, 929, 930, 931, 932] (by rfl) (by decide +kernel)
set_option maxRecDepth 20000 in
theorem gL_law_X11_matched : GoodIn wsL_law (wsV RL 59 RX11 yX11_matched wsX11_matched) := goodIn_app (goodIn_of _ (by decide +kernel)) ggL_law_X11_matched
set_option maxRecDepth 20000 in
theorem ggL_law_X12_matched : GoodIn wsL_law wsX12_matched := goodIn_r _ [427, 186, 384, 385, 386, 5, 387, 137, 388, 389, 390, 391, 392, 168, 134, 132, 135, 133, 136, 303, 304, 305, 306, 307, 308, 309, 310, 311, 118, 119, 312, 313, 314, 315, 316, 317, 318, 319, 393, 394, 395, 396, 397, 398, 399, 400, 401, 360, 77, 361, 402, 120, 412, 413, 414, 415, 884, 885, 886, 887, 888, 889, 890, 891, 892, 893, 894, 895, 896, 897, 898, 899, 900, 901, 902, 903, 904, 905, 906, 907, 908, 909, 910] (by rfl) (by decide +kernel)
set_option maxRecDepth 20000 in
theorem gL_law_X12_matched : GoodIn wsL_law (wsV RL 63 RX12 yX12_matched wsX12_matched) := goodIn_app (goodIn_of _ (by decide +kernel)) ggL_law_X12_matched
set_option maxRecDepth 20000 in
theorem ggL_law_X11_table : GoodIn wsL_law wsX11_table := goodIn_r _ [431, 20, 432, 433, 154, 155, 156, 2, 157, 44, 158, 325, 326, 327, 19, 328, 69, 62, 57, 63, 58, 329, 66, 68, 330, 331, 332, 61, 333, 81, 334, 80, 335, 336, 337, 338, 79, 22, 23, 339, 340, 83, 84, 85, 10, 11, 86, 341, 261, 262, 263, 264, 265, 266, 267, 268, 269, 270, 271, 272, 273, 14, 274, 50, 51, 275, 276, 277, 278, 279, 280, 281, 282, 283, 284, 285, 286, 287, 288, 289, 290, 291, 292, 293, 294, 342, 343, 344, 345, 65, 346, 347, 348, 349, 350, 351, 70, 352, 353, 354, 355, 356, 357, 358, 359, 360, 77, 361, 362, 363, 364, 365, 366, 367, 368, 369, 370, 371, 372, 373, 374, 67, 375, 376, 377, 378, 379, 873, 874, 875, 876, 877, 878, 879, 880, 881, 882, 883, 915, 916, 917, 918, 919, 920, 921, 922, 923, 924, 911, 912, 913, 914, 942, 943, 925, 926, 927, 928, 929, 930, 931, 932] (by rfl) (by decide +kernel)
set_option maxRecDepth 20000 in
theorem gL_law_X11_table : GoodIn wsL_law (wsV RL 64 RX11 yX11_table wsX11_table) := goodIn_app (goodIn_of _ (by decide +kernel)) ggL_law_X11_table
set_option maxRecDepth 20000 in
theorem ggL_law_X12_table : GoodIn wsL_law wsX12_table := goodIn_r _ [437, 167, 138, 217, 170, 171, 5, 172, 173, 174, 175, 176, 131, 177, 438, 439, 440, 441, 186, 384, 385, 386, 387, 137, 388, 389, 390, 391, 392, 168, 134, 132, 135, 133, 136, 303, 304, 305, 306, 307, 308, 309, 310, 311, 118, 119, 312, 313, 314, 315, 316, 317, 318, 319, 393, 394, 395, 396, 397, 398, 399, 400, 401, 360, 77, 361, 402, 120, 412, 413, 414, 415, 884, 885, 886, 887, 888, 889, 890, 891, 892, 893, 894, 895, 896, 897, 898, 899, 900, 901, 902, 903, 904, 905, 906, 907, 908, 909, 910] (by rfl) (by decide +kernel)
set_option maxRecDepth 20000 in
theorem gL_law_X12_table : GoodIn wsL_law (wsV RL 67 RX12 yX12_table wsX12_table) := goodIn_app (goodIn_of _ (by decide +kernel)) ggL_law_X12_table
set_option maxRecDepth 20000 in
theorem ggL_law_X11_place : GoodIn wsL_law wsX11_place := goodIn_r _ [445, 20, 432, 151, 152, 2, 153, 154, 155, 156, 157, 44, 158, 325, 326, 327, 19, 328, 69, 62, 57, 63, 58, 329, 66, 68, 330, 331, 332, 61, 333, 81, 334, 80, 335, 336, 337, 338, 79, 22, 23, 339, 340, 83, 84, 85, 10, 11, 86, 341, 261, 262, 263, 264, 265, 266, 267, 268, 269, 270, 271, 272, 273, 14, 274, 50, 51, 275, 276, 277, 278, 279, 280, 281, 282, 283, 284, 285, 286, 287, 288, 289, 290, 291, 292, 293, 294, 342, 343, 344, 345, 65, 346, 347, 348, 349, 350, 351, 70, 352, 353, 354, 355, 356, 357, 358, 359, 360, 77, 361, 362, 363, 364, 365, 366, 367, 368, 369, 370, 371, 372, 373, 374, 67, 375, 376, 377, 378, 379, 446, 447, 448, 449, 450, 451, 452, 453, 454, 455, 456, 457, 458, 459, 460, 461, 462, 463, 464, 465, 466, 467, 468, 469, 470, 471, 472, 473, 873, 874, 875, 876, 877, 878, 879, 880, 881, 882, 883, 915, 916, 917, 918, 919, 920, 921, 922, 923, 924, 911, 912, 913, 914, 942, 943, 925, 926, 927, 928, 929, 930, 931, 932, 944, 945] (by rfl) (by decide +kernel)
set_option maxRecDepth 20000 in
theorem gL_law_X11_place : GoodIn wsL_law (wsV RL 68 RX11 yX11_place wsX11_place) := goodIn_app (goodIn_of _ (by decide +kernel)) ggL_law_X11_place
set_option maxRecDepth 20000 in
theorem ggL_law_X12_place : GoodIn wsL_law wsX12_place := goodIn_r _ [477, 167, 217, 119, 118, 138, 170, 171, 5, 172, 173, 174, 175, 176, 131, 177, 438, 439, 440, 441, 186, 384, 385, 386, 387, 137, 388, 389, 390, 391, 392, 168, 134, 132, 135, 133, 136, 303, 304, 305, 306, 307, 308, 309, 310, 311, 312, 313, 314, 315, 316, 317, 318, 319, 393, 394, 395, 396, 397, 398, 399, 400, 401, 360, 77, 361, 402, 120, 412, 413, 414, 415, 478, 479, 480, 481, 482, 483, 484, 485, 486, 487, 884, 885, 886, 887, 888, 889, 890, 891, 892, 893, 894, 895, 896, 897, 898, 899, 900, 901, 902, 903, 904, 905, 906, 907, 908, 909, 910] (by rfl) (by decide +kernel)
set_option maxRecDepth 20000 in
theorem gL_law_X12_place : GoodIn wsL_law (wsV RL 72 RX12 yX12_place wsX12_place) := goodIn_app (goodIn_of _ (by decide +kernel)) ggL_law_X12_place
set_option maxRecDepth 20000 in
theorem ggL_law_X11_station : GoodIn wsL_law wsX11_station := goodIn_r _ [491, 34, 33, 35, 36, 492, 493, 2, 494, 495, 496, 497, 154, 155, 156, 157, 44, 158, 100, 101, 102, 103, 10, 11, 104, 105, 106, 873, 874, 875, 876, 877, 878, 879, 880, 881, 882, 883, 937, 938, 939] (by rfl) (by decide +kernel)
set_option maxRecDepth 20000 in
theorem gL_law_X11_station : GoodIn wsL_law (wsV RL 73 RX11 yX11_station wsX11_station) := goodIn_app (goodIn_of _ (by decide +kernel)) ggL_law_X11_station
set_option maxRecDepth 20000 in
theorem ggL_law_X12_station : GoodIn wsL_law wsX12_station := goodIn_r _ [501, 167, 123, 502, 503, 5, 504, 170, 171, 172, 173, 174, 175, 176, 131, 177, 884, 885, 886, 887, 888, 889, 890, 891, 892, 893, 894, 895, 896, 897, 898, 899, 900, 901, 902, 903, 904, 905, 906, 907, 908, 909, 910] (by rfl) (by decide +kernel)
set_option maxRecDepth 20000 in
theorem gL_law_X12_station : GoodIn wsL_law (wsV RL 77 RX12 yX12_station wsX12_station) := goodIn_app (goodIn_of _ (by decide +kernel)) ggL_law_X12_station
set_option maxRecDepth 20000 in
theorem ggL_law_X11_tell : GoodIn wsL_law wsX11_tell := goodIn_r _ [508, 32, 509, 510, 154, 155, 156, 2, 157, 44, 158, 873, 874, 875, 876, 877, 878, 879, 880, 881, 882, 883, 935, 936] (by rfl) (by decide +kernel)
set_option maxRecDepth 20000 in
theorem gL_law_X11_tell : GoodIn wsL_law (wsV RL 78 RX11 yX11_tell wsX11_tell) := goodIn_app (goodIn_of _ (by decide +kernel)) ggL_law_X11_tell
set_option maxRecDepth 20000 in
theorem ggL_law_X12_tell : GoodIn wsL_law wsX12_tell := goodIn_r _ [514, 515, 169, 129, 173, 174, 175, 5, 176, 131, 177, 884, 885, 886, 887, 888, 889, 890, 891, 892, 893, 894, 895, 896, 897, 898, 899, 900, 901, 902, 903, 904, 905, 906, 907, 908, 909, 910] (by rfl) (by decide +kernel)
set_option maxRecDepth 20000 in
theorem gL_law_X12_tell : GoodIn wsL_law (wsV RL 81 RX12 yX12_tell wsX12_tell) := goodIn_app (goodIn_of _ (by decide +kernel)) ggL_law_X12_tell
set_option maxRecDepth 20000 in
theorem ggL_law_X11_sight : GoodIn wsL_law wsX11_sight := goodIn_r _ [519, 38, 32, 509, 520, 521, 2, 522, 523, 524, 525, 492, 493, 494, 154, 155, 156, 157, 44, 158, 526, 527, 528, 529, 530, 531, 532, 533, 534, 535, 536, 31, 537, 98, 496, 497, 538, 539, 540, 541, 542, 35, 36, 543, 101, 102, 103, 10, 11, 104, 105, 106, 544, 545, 546, 547, 548, 549, 550, 551, 552, 553, 554, 555, 556, 557, 558, 559, 560, 561, 562, 563, 564, 565, 566, 567, 568, 40, 569, 113, 112, 873, 874, 875, 876, 877, 878, 879, 880, 881, 882, 883, 935, 936, 940, 941, 946, 947, 948, 949, 950, 951, 937, 938, 939] (by rfl) (by decide +kernel)
set_option maxRecDepth 20000 in
theorem gL_law_X11_sight : GoodIn wsL_law (wsV RL 82 RX11 yX11_sight wsX11_sight) := goodIn_app (goodIn_of _ (by decide +kernel)) ggL_law_X11_sight
set_option maxRecDepth 20000 in
theorem ggL_law_X12_sight : GoodIn wsL_law wsX12_sight := goodIn_r _ [573, 167, 515, 202, 124, 169, 125, 126, 127, 129, 574, 575, 5, 576, 170, 171, 172, 502, 503, 504, 173, 174, 175, 176, 131, 177, 577, 578, 579, 580, 884, 885, 886, 887, 888, 889, 890, 891, 892, 893, 894, 895, 896, 897, 898, 899, 900, 901, 902, 903, 904, 905, 906, 907, 908, 909, 910] (by rfl) (by decide +kernel)
set_option maxRecDepth 20000 in
theorem gL_law_X12_sight : GoodIn wsL_law (wsV RL 85 RX12 yX12_sight wsX12_sight) := goodIn_app (goodIn_of _ (by decide +kernel)) ggL_law_X12_sight
set_option maxRecDepth 20000 in
theorem ggL_law_X11_drop : GoodIn wsL_law wsX11_drop := goodIn_r _ [584, 38, 530, 520, 521, 2, 522, 154, 155, 156, 157, 44, 158, 873, 874, 875, 876, 877, 878, 879, 880, 881, 882, 883, 940, 941] (by rfl) (by decide +kernel)
set_option maxRecDepth 20000 in
theorem gL_law_X11_drop : GoodIn wsL_law (wsV RL 86 RX11 yX11_drop wsX11_drop) := goodIn_app (goodIn_of _ (by decide +kernel)) ggL_law_X11_drop
set_option maxRecDepth 20000 in
theorem ggL_law_X12_drop : GoodIn wsL_law wsX12_drop := goodIn_r _ [588, 167, 124, 217, 574, 575, 5, 576, 170, 171, 172, 173, 174, 175, 176, 131, 177, 884, 885, 886, 887, 888, 889, 890, 891, 892, 893, 894, 895, 896, 897, 898, 899, 900, 901, 902, 903, 904, 905, 906, 907, 908, 909, 910] (by rfl) (by decide +kernel)
set_option maxRecDepth 20000 in
theorem gL_law_X12_drop : GoodIn wsL_law (wsV RL 89 RX12 yX12_drop wsX12_drop) := goodIn_app (goodIn_of _ (by decide +kernel)) ggL_law_X12_drop
set_option maxRecDepth 20000 in
theorem ggL_law_X11_about : GoodIn wsL_law wsX11_about := goodIn_r _ [592, 593, 594, 595, 596, 597, 598, 599, 2, 600, 38, 520, 521, 522, 601, 602, 603, 40, 604, 113, 112, 154, 155, 156, 157, 44, 158, 605, 606, 607, 36, 608, 104, 105, 106, 609, 610, 611, 612, 946, 947, 948, 949, 950, 951, 873, 874, 875, 876, 877, 878, 879, 880, 881, 882, 883, 940, 941, 937, 938, 939] (by rfl) (by decide +kernel)
set_option maxRecDepth 20000 in
theorem gL_law_X11_about : GoodIn wsL_law (wsV RL 90 RX11 yX11_about wsX11_about) := goodIn_app (goodIn_of _ (by decide +kernel)) ggL_law_X11_about
set_option maxRecDepth 20000 in
theorem ggL_law_X12_about : GoodIn wsL_law wsX12_about := goodIn_r _ [616, 167, 125, 126, 617, 217, 618, 619, 620, 5, 621, 124, 574, 575, 576, 170, 171, 172, 173, 174, 175, 176, 131, 177, 622, 623, 624, 625, 626, 627, 628, 629, 630, 631, 632, 633, 127, 884, 885, 886, 887, 888, 889, 890, 891, 892, 893, 894, 895, 896, 897, 898, 899, 900, 901, 902, 903, 904, 905, 906, 907, 908, 909, 910] (by rfl) (by decide +kernel)
set_option maxRecDepth 20000 in
theorem gL_law_X12_about : GoodIn wsL_law (wsV RL 93 RX12 yX12_about wsX12_about) := goodIn_app (goodIn_of _ (by decide +kernel)) ggL_law_X12_about
set_option maxRecDepth 20000 in
theorem ggL_law_X11_as : GoodIn wsL_law wsX11_as := goodIn_r _ [637, 593, 594, 597, 598, 599, 2, 600, 38, 520, 521, 522, 601, 602, 603, 40, 604, 113, 112, 523, 524, 525, 154, 155, 156, 157, 44, 158, 946, 947, 948, 949, 950, 951, 873, 874, 875, 876, 877, 878, 879, 880, 881, 882, 883, 940, 941] (by rfl) (by decide +kernel)
set_option maxRecDepth 20000 in
theorem gL_law_X11_as : GoodIn wsL_law (wsV RL 94 RX11 yX11_as wsX11_as) := goodIn_app (goodIn_of _ (by decide +kernel)) ggL_law_X11_as
set_option maxRecDepth 20000 in
theorem ggL_law_X12_as : GoodIn wsL_law wsX12_as := goodIn_r _ [641, 167, 125, 126, 617, 618, 619, 620, 5, 621, 124, 574, 575, 576, 170, 171, 172, 173, 174, 175, 176, 131, 177, 884, 885, 886, 887, 888, 889, 890, 891, 892, 893, 894, 895, 896, 897, 898, 899, 900, 901, 902, 903, 904, 905, 906, 907, 908, 909, 910] (by rfl) (by decide +kernel)
set_option maxRecDepth 20000 in
theorem gL_law_X12_as : GoodIn wsL_law (wsV RL 97 RX12 yX12_as wsX12_as) := goodIn_app (goodIn_of _ (by decide +kernel)) ggL_law_X12_as
set_option maxRecDepth 20000 in
theorem ggL_law_X11_point : GoodIn wsL_law wsX11_point := goodIn_r _ [645, 646, 647, 648, 2, 649, 597, 598, 599, 600, 38, 520, 521, 522, 601, 602, 603, 40, 604, 113, 112, 650, 651, 652, 154, 155, 156, 157, 44, 158, 653, 654, 655, 593, 656, 657, 658, 659, 596, 34, 594, 660, 661, 662, 663, 664, 605, 606, 607, 36, 608, 104, 105, 106, 665, 666, 667, 668, 560, 35, 561, 101, 102, 103, 10, 11, 669, 670, 671, 672, 673, 674, 675, 676, 677, 678, 679, 680, 681, 682, 683, 684, 685, 686, 687, 453, 454, 688, 610, 611, 612, 689, 457, 458, 459, 460, 360, 77, 361, 461, 462, 463, 464, 465, 466, 467, 468, 469, 470, 471, 472, 473, 873, 874, 875, 876, 877, 878, 879, 880, 881, 882, 883, 940, 941, 946, 947, 948, 949, 950, 951, 952, 953, 937, 938, 939, 944, 945] (by rfl) (by decide +kernel)
set_option maxRecDepth 20000 in
theorem gL_law_X11_point : GoodIn wsL_law (wsV RL 98 RX11 yX11_point wsX11_point) := goodIn_app (goodIn_of _ (by decide +kernel)) ggL_law_X11_point
set_option maxRecDepth 20000 in
theorem ggL_law_X12_point : GoodIn wsL_law wsX12_point := goodIn_r _ [693, 167, 125, 617, 139, 694, 217, 695, 696, 697, 5, 698, 618, 619, 620, 621, 124, 574, 575, 576, 170, 171, 172, 173, 174, 175, 176, 131, 177, 699, 700, 701, 702, 123, 126, 622, 623, 624, 625, 626, 627, 628, 629, 630, 631, 632, 633, 127, 482, 483, 484, 485, 486, 487, 401, 360, 77, 361, 884, 885, 886, 887, 888, 889, 890, 891, 892, 893, 894, 895, 896, 897, 898, 899, 900, 901, 902, 903, 904, 905, 906, 907, 908, 909, 910] (by rfl) (by decide +kernel)
set_option maxRecDepth 20000 in
theorem gL_law_X12_point : GoodIn wsL_law (wsV RL 102 RX12 yX12_point wsX12_point) := goodIn_app (goodIn_of _ (by decide +kernel)) ggL_law_X12_point
set_option maxRecDepth 20000 in
theorem ggL_law_X11_fall : GoodIn wsL_law wsX11_fall := goodIn_r _ [706, 646, 647, 648, 2, 649, 597, 598, 599, 600, 38, 520, 521, 522, 601, 602, 603, 40, 604, 113, 112, 650, 651, 652, 154, 155, 156, 157, 44, 158, 707, 708, 709, 710, 596, 711, 554, 555, 556, 557, 558, 36, 559, 560, 35, 105, 106, 104, 561, 101, 102, 103, 10, 11, 562, 563, 564, 565, 609, 610, 611, 612, 873, 874, 875, 876, 877, 878, 879, 880, 881, 882, 883, 940, 941, 946, 947, 948, 949, 950, 951, 937, 938, 939] (by rfl) (by decide +kernel)
set_option maxRecDepth 20000 in
theorem gL_law_X11_fall : GoodIn wsL_law (wsV RL 103 RX11 yX11_fall wsX11_fall) := goodIn_app (goodIn_of _ (by decide +kernel)) ggL_law_X11_fall
set_option maxRecDepth 20000 in
theorem ggL_law_X12_fall : GoodIn wsL_law wsX12_fall := goodIn_r _ [715, 167, 217, 695, 696, 697, 5, 698, 618, 619, 620, 621, 124, 574, 575, 576, 170, 171, 172, 173, 174, 175, 176, 131, 177, 716, 717, 718, 719, 720, 721, 722, 723, 626, 627, 628, 629, 630, 631, 632, 633, 127, 884, 885, 886, 887, 888, 889, 890, 891, 892, 893, 894, 895, 896, 897, 898, 899, 900, 901, 902, 903, 904, 905, 906, 907, 908, 909, 910] (by rfl) (by decide +kernel)
set_option maxRecDepth 20000 in
theorem gL_law_X12_fall : GoodIn wsL_law (wsV RL 106 RX12 yX12_fall wsX12_fall) := goodIn_app (goodIn_of _ (by decide +kernel)) ggL_law_X12_fall
set_option maxRecDepth 20000 in
theorem ggL_law_X11_angle : GoodIn wsL_law wsX11_angle := goodIn_r _ [727, 646, 647, 648, 2, 649, 597, 598, 599, 600, 38, 520, 521, 522, 601, 602, 603, 40, 604, 113, 112, 154, 155, 156, 157, 44, 158, 707, 708, 709, 710, 596, 728, 729, 730, 731, 453, 454, 605, 606, 607, 36, 608, 104, 105, 106, 732, 457, 458, 459, 10, 11, 460, 360, 77, 361, 461, 462, 463, 464, 465, 466, 467, 468, 469, 470, 471, 472, 473, 873, 874, 875, 876, 877, 878, 879, 880, 881, 882, 883, 940, 941, 946, 947, 948, 949, 950, 951, 944, 945, 937, 938, 939] (by rfl) (by decide +kernel)
set_option maxRecDepth 20000 in
theorem gL_law_X11_angle : GoodIn wsL_law (wsV RL 107 RX11 yX11_angle wsX11_angle) := goodIn_app (goodIn_of _ (by decide +kernel)) ggL_law_X11_angle
set_option maxRecDepth 20000 in
theorem ggL_law_X12_angle : GoodIn wsL_law wsX12_angle := goodIn_r _ [736, 167, 217, 695, 696, 697, 5, 698, 618, 619, 620, 621, 124, 574, 575, 576, 170, 171, 172, 173, 174, 175, 176, 131, 177, 622, 623, 624, 625, 626, 627, 628, 629, 630, 631, 632, 633, 127, 737, 738, 739, 740, 482, 483, 484, 485, 486, 487, 401, 360, 77, 361, 884, 885, 886, 887, 888, 889, 890, 891, 892, 893, 894, 895, 896, 897, 898, 899, 900, 901, 902, 903, 904, 905, 906, 907, 908, 909, 910] (by rfl) (by decide +kernel)
set_option maxRecDepth 20000 in
theorem gL_law_X12_angle : GoodIn wsL_law (wsV RL 110 RX12 yX12_angle wsX12_angle) := goodIn_app (goodIn_of _ (by decide +kernel)) ggL_law_X12_angle
set_option maxRecDepth 20000 in
theorem ggL_law_X11_best : GoodIn wsL_law wsX11_best := goodIn_r _ [744, 38, 530, 745, 520, 521, 2, 522, 154, 155, 156, 157, 44, 158, 746, 747, 748, 749, 646, 647, 648, 649, 597, 598, 599, 600, 601, 602, 603, 40, 604, 113, 112, 653, 654, 655, 593, 656, 657, 658, 659, 596, 34, 594, 660, 661, 662, 663, 664, 605, 606, 607, 36, 608, 104, 105, 106, 665, 666, 667, 668, 560, 35, 561, 101, 102, 103, 10, 11, 669, 670, 671, 672, 673, 674, 675, 676, 677, 678, 679, 680, 681, 682, 707, 708, 709, 710, 711, 554, 555, 556, 557, 558, 559, 562, 563, 564, 565, 728, 729, 730, 731, 453, 454, 732, 457, 458, 459, 460, 360, 77, 361, 461, 462, 463, 464, 465, 466, 467, 468, 469, 750, 751, 752, 753, 873, 874, 875, 876, 877, 878, 879, 880, 881, 882, 883, 940, 941, 946, 947, 948, 949, 950, 951, 952, 953, 937, 938, 939, 944, 945] (by rfl) (by decide +kernel)
set_option maxRecDepth 20000 in
theorem gL_law_X11_best : GoodIn wsL_law (wsV RL 111 RX11 yX11_best wsX11_best) := goodIn_app (goodIn_of _ (by decide +kernel)) ggL_law_X11_best
set_option maxRecDepth 20000 in
theorem ggL_law_X12_best : GoodIn wsL_law wsX12_best := goodIn_r _ [757, 167, 124, 125, 217, 574, 575, 5, 576, 170, 171, 172, 173, 174, 175, 176, 131, 177, 716, 717, 718, 719, 720, 721, 722, 723, 626, 627, 628, 629, 630, 631, 632, 633, 127, 699, 700, 701, 702, 694, 123, 126, 139, 622, 623, 624, 625, 737, 738, 739, 740, 758, 759, 760, 884, 885, 886, 887, 888, 889, 890, 891, 892, 893, 894, 895, 896, 897, 898, 899, 900, 901, 902, 903, 904, 905, 906, 907, 908, 909, 910] (by rfl) (by decide +kernel)
set_option maxRecDepth 20000 in
theorem gL_law_X12_best : GoodIn wsL_law (wsV RL 114 RX12 yX12_best wsX12_best) := goodIn_app (goodIn_of _ (by decide +kernel)) ggL_law_X12_best
set_option maxRecDepth 20000 in
theorem ggL_law_X11_land : GoodIn wsL_law wsX11_land := goodIn_r _ [764, 765, 646, 647, 648, 2, 649, 597, 598, 599, 600, 38, 520, 521, 522, 601, 602, 603, 40, 604, 113, 112, 154, 155, 156, 157, 44, 158, 653, 654, 655, 593, 656, 657, 658, 659, 596, 34, 594, 660, 661, 662, 663, 664, 605, 606, 607, 36, 608, 104, 105, 106, 665, 666, 667, 668, 560, 35, 561, 101, 102, 103, 10, 11, 669, 670, 671, 672, 673, 674, 675, 676, 677, 678, 679, 680, 681, 682, 707, 708, 709, 710, 711, 554, 555, 556, 557, 558, 559, 562, 563, 564, 565, 766, 767, 768, 769, 731, 453, 454, 770, 609, 610, 611, 612, 732, 457, 458, 459, 460, 360, 77, 361, 461, 462, 463, 464, 465, 466, 467, 468, 469, 470, 471, 472, 473, 937, 938, 939, 873, 874, 875, 876, 877, 878, 879, 880, 881, 882, 883, 940, 941, 946, 947, 948, 949, 950, 951, 952, 953, 944, 945] (by rfl) (by decide +kernel)
set_option maxRecDepth 20000 in
theorem gL_law_X11_land : GoodIn wsL_law (wsV RL 115 RX11 yX11_land wsX11_land) := goodIn_app (goodIn_of _ (by decide +kernel)) ggL_law_X11_land
set_option maxRecDepth 20000 in
theorem ggL_law_X12_land : GoodIn wsL_law wsX12_land := goodIn_r _ [774, 167, 125, 617, 217, 139, 694, 695, 696, 697, 5, 698, 618, 619, 620, 621, 124, 574, 575, 576, 170, 171, 172, 173, 174, 175, 176, 131, 177, 699, 700, 701, 702, 123, 126, 622, 623, 624, 625, 626, 627, 628, 629, 630, 631, 632, 633, 127, 720, 721, 722, 723, 482, 483, 484, 485, 486, 487, 401, 360, 77, 361, 884, 885, 886, 887, 888, 889, 890, 891, 892, 893, 894, 895, 896, 897, 898, 899, 900, 901, 902, 903, 904, 905, 906, 907, 908, 909, 910] (by rfl) (by decide +kernel)
set_option maxRecDepth 20000 in
theorem gL_law_X12_land : GoodIn wsL_law (wsV RL 119 RX12 yX12_land wsX12_land) := goodIn_app (goodIn_of _ (by decide +kernel)) ggL_law_X12_land
set_option maxRecDepth 20000 in
theorem ggL_law_X11_wind : GoodIn wsL_law wsX11_wind := goodIn_r _ [778, 42, 43, 495, 496, 2, 497, 154, 155, 156, 157, 44, 158, 873, 874, 875, 876, 877, 878, 879, 880, 881, 882, 883] (by rfl) (by decide +kernel)
set_option maxRecDepth 20000 in
theorem gL_law_X11_wind : GoodIn wsL_law (wsV RL 120 RX11 yX11_wind wsX11_wind) := goodIn_app (goodIn_of _ (by decide +kernel)) ggL_law_X11_wind
set_option maxRecDepth 20000 in
theorem ggL_law_X12_wind : GoodIn wsL_law wsX12_wind := goodIn_r _ [782, 167, 128, 170, 171, 5, 172, 173, 174, 175, 176, 131, 177, 884, 885, 886, 887, 888, 889, 890, 891, 892, 893, 894, 895, 896, 897, 898, 899, 900, 901, 902, 903, 904, 905, 906, 907, 908, 909, 910] (by rfl) (by decide +kernel)
set_option maxRecDepth 20000 in
theorem gL_law_X12_wind : GoodIn wsL_law (wsV RL 123 RX12 yX12_wind wsX12_wind) := goodIn_app (goodIn_of _ (by decide +kernel)) ggL_law_X12_wind
set_option maxRecDepth 20000 in
theorem ggL_law_X11_drift : GoodIn wsL_law wsX11_drift := goodIn_r _ [786, 787, 788, 745, 43, 42, 646, 647, 648, 2, 649, 597, 598, 599, 600, 38, 520, 521, 522, 601, 602, 603, 40, 604, 113, 112, 154, 155, 156, 157, 44, 158, 653, 654, 655, 593, 656, 657, 658, 659, 596, 34, 594, 660, 661, 662, 663, 664, 605, 606, 607, 36, 608, 104, 105, 106, 665, 666, 667, 668, 560, 35, 561, 101, 102, 103, 10, 11, 669, 670, 671, 672, 673, 674, 675, 676, 677, 678, 679, 680, 681, 682, 683, 684, 685, 686, 687, 453, 454, 688, 610, 611, 612, 689, 457, 458, 459, 460, 360, 77, 361, 461, 462, 463, 464, 465, 466, 467, 468, 469, 789, 790, 791, 792, 793, 794, 795, 731, 732, 470, 471, 472, 473, 944, 945, 873, 874, 875, 876, 877, 878, 879, 880, 881, 882, 883, 940, 941, 946, 947, 948, 949, 950, 951, 952, 953, 937, 938, 939] (by rfl) (by decide +kernel)
set_option maxRecDepth 20000 in
theorem gL_law_X11_drift : GoodIn wsL_law (wsV RL 124 RX11 yX11_drift wsX11_drift) := goodIn_app (goodIn_of _ (by decide +kernel)) ggL_law_X11_drift
set_option maxRecDepth 20000 in
theorem ggL_law_X12_drift : GoodIn wsL_law wsX12_drift := goodIn_r _ [799, 167, 125, 617, 217, 694, 139, 402, 202, 800, 801, 462, 77, 463, 802, 794, 795, 128, 695, 696, 697, 5, 698, 618, 619, 620, 621, 124, 574, 575, 576, 170, 171, 172, 173, 174, 175, 176, 131, 177, 699, 700, 701, 702, 123, 126, 622, 623, 624, 625, 626, 627, 628, 629, 630, 631, 632, 633, 127, 482, 483, 484, 485, 486, 487, 401, 360, 361, 884, 885, 886, 887, 888, 889, 890, 891, 892, 893, 894, 895, 896, 897, 898, 899, 900, 901, 902, 903, 904, 905, 906, 907, 908, 909, 910] (by rfl) (by decide +kernel)
set_option maxRecDepth 20000 in
theorem gL_law_X12_drift : GoodIn wsL_law (wsV RL 127 RX12 yX12_drift wsX12_drift) := goodIn_app (goodIn_of _ (by decide +kernel)) ggL_law_X12_drift
set_option maxRecDepth 20000 in
theorem ggL_law_X11_radiant : GoodIn wsL_law wsX11_radiant := goodIn_r _ [806, 38, 520, 521, 2, 522, 650, 651, 652, 154, 155, 156, 157, 44, 158, 807, 808, 809, 40, 810, 113, 811, 812, 813, 814, 815, 816, 602, 603, 604, 112, 711, 554, 555, 556, 557, 558, 36, 559, 560, 35, 105, 106, 104, 561, 101, 102, 103, 10, 11, 562, 563, 564, 565, 609, 610, 611, 612, 873, 874, 875, 876, 877, 878, 879, 880, 881, 882, 883, 940, 941, 946, 947, 948, 949, 950, 951, 937, 938, 939] (by rfl) (by decide +kernel)
set_option maxRecDepth 20000 in
theorem gL_law_X11_radiant : GoodIn wsL_law (wsV RL 128 RX11 yX11_radiant wsX11_radiant) := goodIn_app (goodIn_of _ (by decide +kernel)) ggL_law_X11_radiant
set_option maxRecDepth 20000 in
theorem ggL_law_X12_radiant : GoodIn wsL_law wsX12_radiant := goodIn_r _ [820, 167, 217, 574, 575, 5, 576, 170, 171, 172, 173, 174, 175, 176, 131, 177, 821, 822, 823, 824, 825, 826, 827, 828, 124, 622, 623, 624, 625, 626, 627, 628, 629, 630, 631, 632, 633, 127, 716, 717, 718, 719, 720, 721, 722, 723, 884, 885, 886, 887, 888, 889, 890, 891, 892, 893, 894, 895, 896, 897, 898, 899, 900, 901, 902, 903, 904, 905, 906, 907, 908, 909, 910] (by rfl) (by decide +kernel)
set_option maxRecDepth 20000 in
theorem gL_law_X12_radiant : GoodIn wsL_law (wsV RL 131 RX12 yX12_radiant wsX12_radiant) := goodIn_app (goodIn_of _ (by decide +kernel)) ggL_law_X12_radiant
set_option maxRecDepth 20000 in
theorem ggL_law_X11_shower : GoodIn wsL_law wsX11_shower := goodIn_r _ [832, 38, 520, 521, 2, 522, 154, 155, 156, 157, 44, 158, 807, 808, 809, 40, 810, 113, 811, 812, 813, 814, 815, 816, 602, 603, 604, 112, 711, 554, 555, 556, 557, 558, 36, 559, 560, 35, 105, 106, 104, 561, 101, 102, 103, 10, 11, 562, 563, 564, 565, 833, 834, 835, 836, 837, 606, 607, 608, 838, 873, 874, 875, 876, 877, 878, 879, 880, 881, 882, 883, 940, 941, 946, 947, 948, 949, 950, 951, 937, 938, 939] (by rfl) (by decide +kernel)
set_option maxRecDepth 20000 in
theorem gL_law_X11_shower : GoodIn wsL_law (wsV RL 132 RX11 yX11_shower wsX11_shower) := goodIn_app (goodIn_of _ (by decide +kernel)) ggL_law_X11_shower
set_option maxRecDepth 20000 in
theorem ggL_law_X12_shower : GoodIn wsL_law wsX12_shower := goodIn_r _ [842, 167, 217, 574, 575, 5, 576, 170, 171, 172, 173, 174, 175, 176, 131, 177, 821, 822, 823, 824, 825, 826, 827, 828, 124, 622, 623, 624, 625, 626, 627, 628, 629, 630, 631, 632, 633, 127, 716, 717, 718, 719, 720, 721, 722, 723, 843, 844, 845, 846, 884, 885, 886, 887, 888, 889, 890, 891, 892, 893, 894, 895, 896, 897, 898, 899, 900, 901, 902, 903, 904, 905, 906, 907, 908, 909, 910] (by rfl) (by decide +kernel)
set_option maxRecDepth 20000 in
theorem gL_law_X12_shower : GoodIn wsL_law (wsV RL 135 RX12 yX12_shower wsX12_shower) := goodIn_app (goodIn_of _ (by decide +kernel)) ggL_law_X12_shower
set_option maxRecDepth 20000 in
theorem ggL_law_X11_check : GoodIn wsL_law wsX11_check := goodIn_r _ [850, 32, 509, 20, 16, 148, 510, 407, 851, 325, 326, 327, 19, 328, 69, 62, 57, 63, 58, 329, 66, 68, 330, 331, 332, 61, 333, 81, 334, 80, 335, 336, 337, 338, 79, 22, 23, 339, 340, 83, 84, 85, 10, 11, 86, 341, 261, 262, 263, 264, 265, 266, 267, 268, 269, 270, 271, 272, 273, 14, 274, 50, 51, 275, 276, 277, 278, 279, 280, 281, 282, 283, 284, 285, 286, 287, 288, 289, 290, 291, 292, 293, 294, 342, 343, 344, 345, 65, 346, 347, 348, 349, 350, 351, 70, 352, 353, 354, 355, 356, 357, 358, 359, 360, 77, 361, 362, 363, 364, 365, 366, 367, 368, 369, 370, 371, 372, 373, 374, 67, 375, 376, 377, 378, 379, 873, 874, 875, 876, 877, 878, 879, 880, 881, 882, 883, 935, 936, 911, 912, 913, 914, 915, 916, 917, 918, 919, 920, 921, 922, 923, 924, 942, 943, 925, 926, 927, 928, 929, 930, 931, 932] (by rfl) (by decide +kernel)
set_option maxRecDepth 20000 in
theorem gL_law_X11_check : GoodIn wsL_law (wsV RL 136 RX11 yX11_check wsX11_check) := goodIn_app (goodIn_of _ (by decide +kernel)) ggL_law_X11_check
set_option maxRecDepth 20000 in
theorem ggL_law_X12_check : GoodIn wsL_law wsX12_check := goodIn_r _ [855, 515, 186, 129, 856, 384, 385, 386, 5, 387, 137, 388, 389, 390, 391, 392, 168, 134, 132, 135, 133, 136, 303, 304, 305, 306, 307, 308, 309, 310, 311, 118, 119, 312, 313, 314, 315, 316, 317, 318, 319, 393, 394, 395, 396, 397, 398, 399, 400, 401, 360, 77, 361, 402, 120, 412, 413, 414, 415, 884, 885, 886, 887, 888, 889, 890, 891, 892, 893, 894, 895, 896, 897, 898, 899, 900, 901, 902, 903, 904, 905, 906, 907, 908, 909, 910] (by rfl) (by decide +kernel)
set_option maxRecDepth 20000 in
theorem gL_law_X12_check : GoodIn wsL_law (wsV RL 139 RX12 yX12_check wsX12_check) := goodIn_app (goodIn_of _ (by decide +kernel)) ggL_law_X12_check
set_option maxRecDepth 20000 in
theorem ggL_law_X11_count : GoodIn wsL_law wsX11_count := goodIn_r _ [860, 15, 148, 16, 32, 509, 38, 530, 154, 155, 156, 2, 157, 44, 158, 873, 874, 875, 876, 877, 878, 879, 880, 881, 882, 883, 911, 912, 913, 914, 935, 936, 940, 941] (by rfl) (by decide +kernel)
set_option maxRecDepth 20000 in
theorem gL_law_X11_count : GoodIn wsL_law (wsV RL 140 RX11 yX11_count wsX11_count) := goodIn_app (goodIn_of _ (by decide +kernel)) ggL_law_X11_count
set_option maxRecDepth 20000 in
theorem ggL_law_X12_count : GoodIn wsL_law wsX12_count := goodIn_r _ [864, 167, 168, 186, 515, 124, 170, 171, 5, 172, 173, 174, 175, 176, 131, 177, 884, 885, 886, 887, 888, 889, 890, 891, 892, 893, 894, 895, 896, 897, 898, 899, 900, 901, 902, 903, 904, 905, 906, 907, 908, 909, 910] (by rfl) (by decide +kernel)
set_option maxRecDepth 20000 in
theorem gL_law_X12_count : GoodIn wsL_law (wsV RL 143 RX12 yX12_count wsX12_count) := goodIn_app (goodIn_of _ (by decide +kernel)) ggL_law_X12_count
set_option maxRecDepth 20000 in
theorem ggL_law_X11_found : GoodIn wsL_law wsX11_found := goodIn_r _ [868, 44, 154, 155, 156, 2, 157, 158, 873, 874, 875, 876, 877, 878, 879, 880, 881, 882, 883] (by rfl) (by decide +kernel)
set_option maxRecDepth 20000 in
theorem gL_law_X11_found : GoodIn wsL_law (wsV RL 144 RX11 yX11_found wsX11_found) := goodIn_app (goodIn_of _ (by decide +kernel)) ggL_law_X11_found
set_option maxRecDepth 20000 in
theorem ggL_law_X12_found : GoodIn wsL_law wsX12_found := goodIn_r _ [872, 131, 167, 170, 171, 5, 172, 173, 174, 175, 176, 177, 884, 885, 886, 887, 888, 889, 890, 891, 892, 893, 894, 895, 896, 897, 898, 899, 900, 901, 902, 903, 904, 905, 906, 907, 908, 909, 910] (by rfl) (by decide +kernel)
set_option maxRecDepth 20000 in
theorem gL_law_X12_found : GoodIn wsL_law (wsV RL 147 RX12 yX12_found wsX12_found) := goodIn_app (goodIn_of _ (by decide +kernel)) ggL_law_X12_found

