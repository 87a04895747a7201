set_option maxRecDepth 20000 in
theorem ggL_law_X5_init : GoodIn wsL_law wsX5_init := goodIn_r _ [8, 9, 10, 11, 12, 13, 14, 15, 16, 17, 18, 19, 20, 21, 22, 23, 24, 25, 26, 27, 28, 29, 30, 31, 32, 33, 34, 35, 36, 37, 38, 39, 40, 41, 42, 2, 43, 44, 45, 46, 47, 48, 49, 50, 51, 52, 53, 54, 55, 56, 57, 58, 59, 60, 61, 62, 63, 64, 65, 66, 67, 68, 69, 70, 71, 72, 73, 74, 75, 76, 77, 78, 79, 80, 81, 82, 83, 84, 85, 86, 87, 88, 89, 90, 91, 92, 93, 94, 95, 96, 97, 98, 99, 100, 101, 102, 103, 104, 105, 106, 107, 108, 109, 110, 111, 112, 113, 114, 115, 116, 117, 118, 119, 120, 121, 122, 123, 124, 125, 126, 127, 128, 129, 130, 131, 132, 133, 134, 135, 136, 137, 138, 139, 140, 141, 142, 143, 144, 145, 146, 147, 148, 149, 150, 151, 152, 153, 154, 155, 156, 157, 158, 159, 160, 161, 162, 163, 164, 165, 166, 167, 168, 169, 170, 171, 172, 173, 174, 175, 176, 177, 178, 179, 180, 181, 182, 183, 184, 185, 186, 187, 188, 189, 190, 191, 192, 813, 814, 815, 816, 817, 818, 819, 820, 821, 843, 844, 845, 846, 847, 848, 849, 850, 851, 852, 853, 854, 855, 856, 857, 858, 859, 860, 861] (by decide +kernel) (by decide +kernel)
set_option maxRecDepth 20000 in
theorem gL_law_X5_init : GoodIn wsL_law (wsX5_init) := ggL_law_X5_init
set_option maxRecDepth 20000 in
theorem ggL_law_X6_init : GoodIn wsL_law wsX6_init := goodIn_r _ [195, 196, 10, 11, 39, 197, 198, 199, 200, 201, 202, 203, 204, 205, 206, 207, 208, 209, 210, 211, 212, 5, 213, 214, 215, 216, 217, 218, 219, 220, 221, 222, 223, 224, 225, 226, 227, 228, 229, 230, 231, 232, 233, 234, 235, 236, 237, 238, 239, 240, 241, 242, 243, 244, 245, 246, 247, 248, 249, 822, 823, 824, 825, 826, 827, 828, 829, 830, 831, 832, 833, 834, 835, 836, 837, 838, 839, 840, 841, 842] (by decide +kernel) (by decide +kernel)
set_option maxRecDepth 20000 in
theorem gL_law_X6_init : GoodIn wsL_law (wsX6_init) := ggL_law_X6_init
set_option maxRecDepth 20000 in
theorem ggL_law_X5_write : GoodIn wsL_law wsX5_write := goodIn_r _ [253, 254, 13, 143, 144, 2, 145, 813, 814, 815, 816, 817, 818, 819, 820, 821] (by decide +kernel) (by decide +kernel)
set_option maxRecDepth 20000 in
theorem gL_law_X5_write : GoodIn wsL_law (wsV RL 13 RX5 yX5_write wsX5_write) := goodIn_app (goodIn_of _ (by decide +kernel)) ggL_law_X5_write
set_option maxRecDepth 20000 in
theorem ggL_law_X6_write : GoodIn wsL_law wsX6_write := goodIn_r _ [258, 259, 201, 260, 261, 5, 262, 822, 823, 824, 825, 826, 827, 828, 829, 830, 831, 832, 833, 834, 835, 836, 837, 838, 839, 840, 841, 842] (by decide +kernel) (by decide +kernel)
set_option maxRecDepth 20000 in
theorem gL_law_X6_write : GoodIn wsL_law (wsV RL 17 RX6 yX6_write wsX6_write) := goodIn_app (goodIn_of _ (by decide +kernel)) ggL_law_X6_write
set_option maxRecDepth 20000 in
theorem ggL_law_X5_wipe : GoodIn wsL_law wsX5_wipe := goodIn_r _ [266, 254, 813, 814, 815, 816, 817, 818, 819, 820, 821] (by decide +kernel) (by decide +kernel)
set_option maxRecDepth 20000 in
theorem gL_law_X5_wipe : GoodIn wsL_law (wsV RL 18 RX5 yX5_wipe wsX5_wipe) := goodIn_app (goodIn_of _ (by decide +kernel)) ggL_law_X5_wipe
set_option maxRecDepth 20000 in
theorem ggL_law_X6_wipe : GoodIn wsL_law wsX6_wipe := goodIn_r _ [270, 259, 822, 823, 824, 825, 826, 827, 828, 829, 830, 831, 832, 833, 834, 835, 836, 837, 838, 839, 840, 841, 842] (by decide +kernel) (by decide +kernel)
set_option maxRecDepth 20000 in
theorem gL_law_X6_wipe : GoodIn wsL_law (wsV RL 22 RX6 yX6_wipe wsX6_wipe) := goodIn_app (goodIn_of _ (by decide +kernel)) ggL_law_X6_wipe
set_option maxRecDepth 20000 in
theorem ggL_law_X5_fault : GoodIn wsL_law wsX5_fault := goodIn_r _ [274, 17, 13, 254, 22, 101, 102, 103, 16, 104, 105, 106, 107, 21, 108, 109, 110, 111, 112, 47, 113, 114, 115, 116, 117, 118, 119, 120, 121, 122, 40, 123, 124, 125, 126, 127, 128, 129, 130, 131, 132, 133, 134, 135, 136, 137, 138, 139, 140, 52, 141, 2, 142, 143, 144, 145, 146, 147, 148, 149, 150, 151, 152, 153, 54, 154, 155, 156, 157, 158, 159, 160, 161, 162, 163, 164, 165, 166, 167, 168, 48, 49, 50, 51, 169, 170, 171, 172, 173, 174, 175, 813, 814, 815, 816, 817, 818, 819, 820, 821, 844, 845, 846, 847, 848, 849, 850, 851, 852, 853, 854, 843] (by decide +kernel) (by decide +kernel)
set_option maxRecDepth 20000 in
theorem gL_law_X5_fault : GoodIn wsL_law (wsV RL 23 RX5 yX5_fault wsX5_fault) := goodIn_app (goodIn_of _ (by decide +kernel)) ggL_law_X5_fault
set_option maxRecDepth 20000 in
theorem ggL_law_X6_fault : GoodIn wsL_law wsX6_fault := goodIn_r _ [278, 279, 259, 210, 211, 212, 5, 213, 203, 209, 280, 281, 282, 283, 284, 285, 286, 287, 201, 288, 289, 290, 291, 202, 292, 293, 294, 295, 296, 297, 298, 260, 261, 262, 299, 300, 301, 302, 303, 304, 305, 306, 214, 215, 216, 217, 218, 219, 220, 307, 308, 309, 310, 822, 823, 824, 825, 826, 827, 828, 829, 830, 831, 832, 833, 834, 835, 836, 837, 838, 839, 840, 841, 842] (by decide +kernel) (by decide +kernel)
set_option maxRecDepth 20000 in
theorem gL_law_X6_fault : GoodIn wsL_law (wsV RL 26 RX6 yX6_fault wsX6_fault) := goodIn_app (goodIn_of _ (by decide +kernel)) ggL_law_X6_fault
set_option maxRecDepth 20000 in
theorem ggL_law_X5_lay : GoodIn wsL_law wsX5_lay := goodIn_r _ [314, 17, 13, 254, 22, 315, 18, 26, 27, 31, 101, 102, 103, 16, 104, 105, 106, 107, 21, 108, 109, 110, 111, 112, 47, 113, 114, 115, 116, 117, 118, 119, 120, 121, 122, 40, 123, 124, 125, 126, 127, 128, 129, 130, 131, 132, 133, 134, 135, 136, 137, 138, 139, 140, 52, 141, 2, 142, 143, 144, 145, 146, 147, 148, 149, 150, 151, 152, 153, 54, 154, 155, 156, 157, 158, 159, 160, 161, 162, 163, 164, 165, 166, 167, 168, 48, 49, 50, 51, 169, 170, 171, 172, 173, 174, 175, 316, 317, 318, 319, 320, 321, 322, 25, 323, 324, 325, 326, 327, 30, 328, 329, 813, 814, 815, 816, 817, 818, 819, 820, 821, 844, 845, 846, 847, 848, 849, 850, 851, 852, 853, 854, 843, 855, 856, 857, 858, 859] (by decide +kernel) (by decide +kernel)
set_option maxRecDepth 20000 in
theorem gL_law_X5_lay : GoodIn wsL_law (wsV RL 27 RX5 yX5_lay wsX5_lay) := goodIn_app (goodIn_of _ (by decide +kernel)) ggL_law_X5_lay
set_option maxRecDepth 20000 in
theorem ggL_law_X6_lay : GoodIn wsL_law wsX6_lay := goodIn_r _ [333, 203, 197, 334, 276, 277, 5, 278, 279, 259, 210, 211, 212, 213, 209, 280, 281, 282, 283, 284, 285, 286, 287, 201, 288, 289, 290, 291, 202, 292, 293, 294, 295, 296, 297, 298, 260, 261, 262, 299, 300, 301, 302, 303, 304, 305, 306, 214, 215, 216, 217, 218, 219, 220, 307, 308, 309, 310, 221, 222, 223, 224, 225, 204, 226, 227, 228, 229, 230, 231, 232, 233, 234, 235, 236, 237, 238, 239, 240, 241, 242, 243, 244, 245, 246, 247, 248, 249, 822, 823, 824, 825, 826, 827, 828, 829, 830, 831, 832, 833, 834, 835, 836, 837, 838, 839, 840, 841, 842] (by decide +kernel) (by decide +kernel)
set_option maxRecDepth 20000 in
theorem gL_law_X6_lay : GoodIn wsL_law (wsV RL 30 RX6 yX6_lay wsX6_lay) := goodIn_app (goodIn_of _ (by decide +kernel)) ggL_law_X6_lay
set_option maxRecDepth 20000 in
theorem ggL_law_X5_saying : GoodIn wsL_law wsX5_saying := goodIn_r _ [338, 18, 339, 340, 341, 342, 343, 344, 345, 147, 148, 21, 149, 110, 346, 347, 348, 349, 54, 146, 158, 2, 159, 350, 351, 352, 353, 155, 156, 157, 111, 354, 151, 152, 153, 109, 154, 813, 814, 815, 816, 817, 818, 819, 820, 821, 844, 845, 846, 847, 848, 849, 850, 851, 852, 853, 854] (by decide +kernel) (by decide +kernel)
set_option maxRecDepth 20000 in
theorem gL_law_X5_saying : GoodIn wsL_law (wsV RL 31 RX5 yX5_saying wsX5_saying) := goodIn_app (goodIn_of _ (by decide +kernel)) ggL_law_X5_saying
set_option maxRecDepth 20000 in
theorem ggL_law_X6_saying : GoodIn wsL_law wsX6_saying := goodIn_r _ [358, 197, 359, 360, 361, 5, 362, 260, 261, 262, 363, 364, 365, 366, 204, 229, 230, 231, 243, 244, 245, 246, 247, 248, 249, 240, 241, 242, 822, 823, 824, 825, 826, 827, 828, 829, 830, 831, 832, 833, 834, 835, 836, 837, 838, 839, 840, 841, 842] (by decide +kernel) (by decide +kernel)
set_option maxRecDepth 20000 in
theorem gL_law_X6_saying : GoodIn wsL_law (wsV RL 35 RX6 yX6_saying wsX6_saying) := goodIn_app (goodIn_of _ (by decide +kernel)) ggL_law_X6_saying
set_option maxRecDepth 20000 in
theorem ggL_law_X5_fact : GoodIn wsL_law wsX5_fact := goodIn_r _ [370, 18, 343, 371, 141, 2, 142, 143, 144, 145, 813, 814, 815, 816, 817, 818, 819, 820, 821, 844, 845, 846, 847, 848, 849, 850, 851, 852, 853, 854] (by decide +kernel) (by decide +kernel)
set_option maxRecDepth 20000 in
theorem gL_law_X5_fact : GoodIn wsL_law (wsV RL 36 RX5 yX5_fact wsX5_fact) := goodIn_app (goodIn_of _ (by decide +kernel)) ggL_law_X5_fact
set_option maxRecDepth 20000 in
theorem ggL_law_X6_fact : GoodIn wsL_law wsX6_fact := goodIn_r _ [375, 197, 376, 377, 5, 378, 260, 261, 262, 822, 823, 824, 825, 826, 827, 828, 829, 830, 831, 832, 833, 834, 835, 836, 837, 838, 839, 840, 841, 842] (by decide +kernel) (by decide +kernel)
set_option maxRecDepth 20000 in
theorem gL_law_X6_fact : GoodIn wsL_law (wsV RL 39 RX6 yX6_fact wsX6_fact) := goodIn_app (goodIn_of _ (by decide +kernel)) ggL_law_X6_fact
set_option maxRecDepth 20000 in
theorem ggL_law_X5_clash : GoodIn wsL_law wsX5_clash := goodIn_r _ [382, 18, 345, 147, 148, 21, 149, 110, 383, 384, 385, 386, 54, 146, 350, 351, 2, 352, 813, 814, 815, 816, 817, 818, 819, 820, 821, 844, 845, 846, 847, 848, 849, 850, 851, 852, 853, 854] (by decide +kernel) (by decide +kernel)
set_option maxRecDepth 20000 in
theorem gL_law_X5_clash : GoodIn wsL_law (wsV RL 40 RX5 yX5_clash wsX5_clash) := goodIn_app (goodIn_of _ (by decide +kernel)) ggL_law_X5_clash
set_option maxRecDepth 20000 in
theorem ggL_law_X6_clash : GoodIn wsL_law wsX6_clash := goodIn_r _ [390, 359, 360, 361, 5, 362, 197, 260, 261, 262, 363, 364, 365, 366, 204, 229, 230, 231, 391, 392, 393, 394, 243, 244, 245, 246, 247, 248, 249, 240, 241, 242, 822, 823, 824, 825, 826, 827, 828, 829, 830, 831, 832, 833, 834, 835, 836, 837, 838, 839, 840, 841, 842] (by decide +kernel) (by decide +kernel)
set_option maxRecDepth 20000 in
theorem gL_law_X6_clash : GoodIn wsL_law (wsV RL 43 RX6 yX6_clash wsX6_clash) := goodIn_app (goodIn_of _ (by decide +kernel)) ggL_law_X6_clash
set_option maxRecDepth 20000 in
theorem ggL_law_X5_pass : GoodIn wsL_law wsX5_pass := goodIn_r _ [398, 26, 18, 399, 143, 144, 2, 145, 400, 401, 402, 25, 403, 181, 324, 404, 405, 406, 407, 408, 317, 318, 21, 319, 109, 110, 111, 112, 47, 48, 49, 50, 51, 52, 54, 409, 410, 411, 412, 413, 414, 415, 416, 146, 147, 148, 149, 150, 151, 152, 153, 154, 155, 156, 157, 158, 159, 417, 418, 419, 420, 421, 422, 423, 424, 425, 384, 385, 386, 426, 427, 428, 429, 813, 814, 815, 816, 817, 818, 819, 820, 821, 844, 845, 846, 847, 848, 849, 850, 851, 852, 853, 854, 855, 856] (by decide +kernel) (by decide +kernel)
set_option maxRecDepth 20000 in
theorem gL_law_X5_pass : GoodIn wsL_law (wsV RL 44 RX5 yX5_pass wsX5_pass) := goodIn_app (goodIn_of _ (by decide +kernel)) ggL_law_X5_pass
set_option maxRecDepth 20000 in
theorem ggL_law_X6_pass : GoodIn wsL_law wsX6_pass := goodIn_r _ [433, 197, 204, 260, 261, 5, 262, 434, 435, 436, 437, 226, 198, 229, 230, 231, 363, 364, 365, 366, 438, 439, 440, 441, 442, 225, 443, 391, 392, 393, 394, 243, 244, 245, 246, 247, 248, 249, 240, 241, 242, 822, 823, 824, 825, 826, 827, 828, 829, 830, 831, 832, 833, 834, 835, 836, 837, 838, 839, 840, 841, 842] (by decide +kernel) (by decide +kernel)
set_option maxRecDepth 20000 in
theorem gL_law_X6_pass : GoodIn wsL_law (wsV RL 47 RX6 yX6_pass wsX6_pass) := goodIn_app (goodIn_of _ (by decide +kernel)) ggL_law_X6_pass
set_option maxRecDepth 20000 in
theorem ggL_law_X5_say : GoodIn wsL_law wsX5_say := goodIn_r _ [447, 18, 315, 26, 448, 160, 2, 161, 143, 144, 145, 162, 163, 164, 400, 401, 402, 25, 403, 181, 324, 404, 405, 406, 407, 408, 317, 318, 21, 319, 109, 110, 111, 112, 47, 48, 49, 50, 51, 52, 54, 449, 166, 167, 168, 169, 170, 171, 172, 173, 174, 175, 813, 814, 815, 816, 817, 818, 819, 820, 821, 844, 845, 846, 847, 848, 849, 850, 851, 852, 853, 854, 855, 856] (by decide +kernel) (by decide +kernel)
set_option maxRecDepth 20000 in
theorem gL_law_X5_say : GoodIn wsL_law (wsV RL 48 RX5 yX5_say wsX5_say) := goodIn_app (goodIn_of _ (by decide +kernel)) ggL_law_X5_say
set_option maxRecDepth 20000 in
theorem ggL_law_X6_say : GoodIn wsL_law wsX6_say := goodIn_r _ [453, 197, 204, 260, 261, 5, 262, 434, 435, 436, 437, 226, 198, 229, 230, 231, 363, 364, 365, 366, 218, 219, 220, 232, 233, 234, 235, 236, 237, 238, 239, 240, 241, 242, 243, 244, 245, 246, 247, 248, 249, 822, 823, 824, 825, 826, 827, 828, 829, 830, 831, 832, 833, 834, 835, 836, 837, 838, 839, 840, 841, 842] (by decide +kernel) (by decide +kernel)
set_option maxRecDepth 20000 in
theorem gL_law_X6_say : GoodIn wsL_law (wsV RL 52 RX6 yX6_say wsX6_say) := goodIn_app (goodIn_of _ (by decide +kernel)) ggL_law_X6_say
set_option maxRecDepth 20000 in
theorem ggL_law_X5_withdraw : GoodIn wsL_law wsX5_withdraw := goodIn_r _ [457, 18, 26, 345, 147, 148, 21, 149, 110, 458, 459, 460, 461, 146, 154, 155, 156, 157, 111, 421, 422, 423, 424, 52, 47, 150, 151, 152, 153, 54, 109, 158, 2, 159, 400, 401, 402, 25, 403, 181, 324, 404, 405, 406, 407, 408, 317, 318, 319, 112, 48, 49, 50, 51, 462, 427, 428, 429, 463, 464, 465, 466, 467, 468, 469, 470, 471, 347, 348, 349, 472, 473, 474, 475, 476, 477, 478, 813, 814, 815, 816, 817, 818, 819, 820, 821, 844, 845, 846, 847, 848, 849, 850, 851, 852, 853, 854, 855, 856] (by decide +kernel) (by decide +kernel)
set_option maxRecDepth 20000 in
theorem gL_law_X5_withdraw : GoodIn wsL_law (wsV RL 53 RX5 yX5_withdraw wsX5_withdraw) := goodIn_app (goodIn_of _ (by decide +kernel)) ggL_law_X5_withdraw
set_option maxRecDepth 20000 in
theorem ggL_law_X6_withdraw : GoodIn wsL_law wsX6_withdraw := goodIn_r _ [482, 197, 204, 359, 360, 361, 5, 362, 260, 261, 262, 363, 364, 365, 366, 229, 230, 231, 483, 484, 485, 486, 225, 240, 241, 242, 434, 435, 436, 437, 226, 198, 487, 488, 489, 490, 491, 492, 493, 494, 495, 496, 497, 822, 823, 824, 825, 826, 827, 828, 829, 830, 831, 832, 833, 834, 835, 836, 837, 838, 839, 840, 841, 842] (by decide +kernel) (by decide +kernel)
set_option maxRecDepth 20000 in
theorem gL_law_X6_withdraw : GoodIn wsL_law (wsV RL 56 RX6 yX6_withdraw wsX6_withdraw) := goodIn_app (goodIn_of _ (by decide +kernel)) ggL_law_X6_withdraw
set_option maxRecDepth 20000 in
theorem ggL_law_X5_turn : GoodIn wsL_law wsX5_turn := goodIn_r _ [501, 26, 18, 371, 141, 2, 142, 143, 144, 145, 400, 401, 402, 25, 403, 181, 324, 404, 405, 406, 407, 408, 317, 318, 21, 319, 109, 110, 111, 112, 47, 48, 49, 50, 51, 52, 54, 502, 138, 139, 140, 146, 147, 148, 149, 150, 151, 152, 153, 154, 155, 156, 157, 158, 159, 463, 464, 465, 466, 467, 468, 469, 470, 471, 347, 348, 349, 472, 473, 474, 475, 476, 477, 478, 813, 814, 815, 816, 817, 818, 819, 820, 821, 855, 856, 844, 845, 846, 847, 848, 849, 850, 851, 852, 853, 854] (by decide +kernel) (by decide +kernel)
set_option maxRecDepth 20000 in
theorem gL_law_X5_turn : GoodIn wsL_law (wsV RL 57 RX5 yX5_turn wsX5_turn) := goodIn_app (goodIn_of _ (by decide +kernel)) ggL_law_X5_turn
set_option maxRecDepth 20000 in
theorem ggL_law_X6_turn : GoodIn wsL_law wsX6_turn := goodIn_r _ [506, 204, 197, 376, 377, 5, 378, 260, 261, 262, 434, 435, 436, 437, 226, 198, 229, 230, 231, 363, 364, 365, 366, 232, 233, 234, 235, 236, 237, 238, 239, 240, 241, 242, 243, 244, 245, 246, 247, 248, 249, 491, 492, 493, 494, 495, 496, 497, 822, 823, 824, 825, 826, 827, 828, 829, 830, 831, 832, 833, 834, 835, 836, 837, 838, 839, 840, 841, 842] (by decide +kernel) (by decide +kernel)
set_option maxRecDepth 20000 in
theorem gL_law_X6_turn : GoodIn wsL_law (wsV RL 60 RX6 yX6_turn wsX6_turn) := goodIn_app (goodIn_of _ (by decide +kernel)) ggL_law_X6_turn
set_option maxRecDepth 20000 in
theorem ggL_law_X5_undo : GoodIn wsL_law wsX5_undo := goodIn_r _ [510, 26, 18, 511, 512, 513, 514, 25, 515, 324, 181, 408, 317, 318, 21, 319, 109, 110, 111, 112, 47, 48, 49, 50, 51, 52, 54, 813, 814, 815, 816, 817, 818, 819, 820, 821, 855, 856, 844, 845, 846, 847, 848, 849, 850, 851, 852, 853, 854] (by decide +kernel) (by decide +kernel)
set_option maxRecDepth 20000 in
theorem gL_law_X5_undo : GoodIn wsL_law (wsV RL 61 RX5 yX5_undo wsX5_undo) := goodIn_app (goodIn_of _ (by decide +kernel)) ggL_law_X5_undo
set_option maxRecDepth 20000 in
theorem ggL_law_X6_undo : GoodIn wsL_law wsX6_undo := goodIn_r _ [519, 226, 197, 198, 229, 230, 5, 231, 822, 823, 824, 825, 826, 827, 828, 829, 830, 831, 832, 833, 834, 835, 836, 837, 838, 839, 840, 841, 842] (by decide +kernel) (by decide +kernel)
set_option maxRecDepth 20000 in
theorem gL_law_X6_undo : GoodIn wsL_law (wsV RL 64 RX6 yX6_undo wsX6_undo) := goodIn_app (goodIn_of _ (by decide +kernel)) ggL_law_X6_undo
set_option maxRecDepth 20000 in
theorem ggL_law_X5_behind : GoodIn wsL_law wsX5_behind := goodIn_r _ [523, 22, 18, 343, 143, 144, 2, 145, 316, 317, 318, 21, 319, 109, 110, 111, 112, 47, 48, 49, 50, 51, 52, 54, 409, 410, 411, 412, 413, 414, 415, 416, 146, 147, 148, 149, 150, 151, 152, 153, 154, 155, 156, 157, 158, 159, 417, 418, 419, 420, 421, 422, 423, 424, 425, 384, 385, 386, 426, 427, 428, 429, 524, 468, 469, 470, 471, 347, 348, 349, 813, 814, 815, 816, 817, 818, 819, 820, 821, 844, 845, 846, 847, 848, 849, 850, 851, 852, 853, 854] (by decide +kernel) (by decide +kernel)
set_option maxRecDepth 20000 in
theorem gL_law_X5_behind : GoodIn wsL_law (wsV RL 65 RX5 yX5_behind wsX5_behind) := goodIn_app (goodIn_of _ (by decide +kernel)) ggL_law_X5_behind
set_option maxRecDepth 20000 in
theorem ggL_law_X6_behind : GoodIn wsL_law wsX6_behind := goodIn_r _ [528, 260, 261, 5, 262, 363, 364, 365, 366, 204, 197, 229, 230, 231, 438, 439, 440, 441, 442, 225, 443, 391, 392, 393, 394, 243, 244, 245, 246, 247, 248, 249, 240, 241, 242, 491, 492, 493, 494, 822, 823, 824, 825, 826, 827, 828, 829, 830, 831, 832, 833, 834, 835, 836, 837, 838, 839, 840, 841, 842] (by decide +kernel) (by decide +kernel)
set_option maxRecDepth 20000 in
theorem gL_law_X6_behind : GoodIn wsL_law (wsV RL 68 RX6 yX6_behind wsX6_behind) := goodIn_app (goodIn_of _ (by decide +kernel)) ggL_law_X6_behind
set_option maxRecDepth 20000 in
theorem ggL_law_X5_fall : GoodIn wsL_law wsX5_fall := goodIn_r _ [532, 22, 18, 143, 144, 2, 145, 316, 317, 318, 21, 319, 109, 110, 111, 112, 47, 48, 49, 50, 51, 52, 54, 533, 414, 415, 416, 146, 147, 148, 149, 150, 151, 152, 153, 154, 155, 156, 157, 158, 159, 534, 535, 536, 537, 417, 418, 419, 420, 421, 422, 423, 424, 425, 384, 385, 386, 538, 813, 814, 815, 816, 817, 818, 819, 820, 821, 844, 845, 846, 847, 848, 849, 850, 851, 852, 853, 854] (by decide +kernel) (by decide +kernel)
set_option maxRecDepth 20000 in
theorem gL_law_X5_fall : GoodIn wsL_law (wsV RL 69 RX5 yX5_fall wsX5_fall) := goodIn_app (goodIn_of _ (by decide +kernel)) ggL_law_X5_fall
set_option maxRecDepth 20000 in
theorem ggL_law_X6_fall : GoodIn wsL_law wsX6_fall := goodIn_r _ [542, 442, 260, 261, 5, 262, 363, 364, 365, 366, 204, 197, 229, 230, 231, 438, 439, 440, 441, 225, 443, 391, 392, 393, 394, 243, 244, 245, 246, 247, 248, 249, 240, 241, 242, 822, 823, 824, 825, 826, 827, 828, 829, 830, 831, 832, 833, 834, 835, 836, 837, 838, 839, 840, 841, 842] (by decide +kernel) (by decide +kernel)
set_option maxRecDepth 20000 in
theorem gL_law_X6_fall : GoodIn wsL_law (wsV RL 72 RX6 yX6_fall wsX6_fall) := goodIn_app (goodIn_of _ (by decide +kernel)) ggL_law_X6_fall
set_option maxRecDepth 20000 in
theorem ggL_law_X5_core : GoodIn wsL_law wsX5_core := goodIn_r _ [546, 18, 547, 548, 549, 21, 550, 551, 552, 553, 554, 110, 111, 472, 473, 474, 475, 476, 477, 478, 555, 556, 557, 558, 559, 54, 146, 147, 148, 149, 560, 2, 561, 813, 814, 815, 816, 817, 818, 819, 820, 821, 844, 845, 846, 847, 848, 849, 850, 851, 852, 853, 854] (by decide +kernel) (by decide +kernel)
set_option maxRecDepth 20000 in
theorem gL_law_X5_core : GoodIn wsL_law (wsV RL 73 RX5 yX5_core wsX5_core) := goodIn_app (goodIn_of _ (by decide +kernel)) ggL_law_X5_core
set_option maxRecDepth 20000 in
theorem ggL_law_X6_core : GoodIn wsL_law wsX6_core := goodIn_r _ [565, 197, 566, 567, 568, 5, 569, 205, 363, 364, 365, 366, 204, 229, 230, 231, 570, 571, 572, 573, 236, 237, 238, 239, 240, 241, 242, 243, 244, 245, 246, 247, 248, 249, 495, 496, 497, 574, 575, 576, 577, 822, 823, 824, 825, 826, 827, 828, 829, 830, 831, 832, 833, 834, 835, 836, 837, 838, 839, 840, 841, 842] (by decide +kernel) (by decide +kernel)
set_option maxRecDepth 20000 in
theorem gL_law_X6_core : GoodIn wsL_law (wsV RL 76 RX6 yX6_core wsX6_core) := goodIn_app (goodIn_of _ (by decide +kernel)) ggL_law_X6_core
set_option maxRecDepth 20000 in
theorem ggL_law_X5_cut : GoodIn wsL_law wsX5_cut := goodIn_r _ [581, 18, 582, 583, 584, 21, 585, 551, 552, 553, 554, 110, 111, 472, 473, 474, 475, 476, 477, 478, 555, 556, 557, 558, 559, 54, 146, 147, 148, 149, 560, 2, 561, 813, 814, 815, 816, 817, 818, 819, 820, 821, 844, 845, 846, 847, 848, 849, 850, 851, 852, 853, 854] (by decide +kernel) (by decide +kernel)
set_option maxRecDepth 20000 in
theorem gL_law_X5_cut : GoodIn wsL_law (wsV RL 77 RX5 yX5_cut wsX5_cut) := goodIn_app (goodIn_of _ (by decide +kernel)) ggL_law_X5_cut
set_option maxRecDepth 20000 in
theorem ggL_law_X6_cut : GoodIn wsL_law wsX6_cut := goodIn_r _ [589, 197, 566, 567, 568, 5, 569, 205, 363, 364, 365, 366, 204, 229, 230, 231, 570, 571, 572, 573, 236, 237, 238, 239, 240, 241, 242, 243, 244, 245, 246, 247, 248, 249, 495, 496, 497, 574, 575, 576, 577, 822, 823, 824, 825, 826, 827, 828, 829, 830, 831, 832, 833, 834, 835, 836, 837, 838, 839, 840, 841, 842] (by decide +kernel) (by decide +kernel)
set_option maxRecDepth 20000 in
theorem gL_law_X6_cut : GoodIn wsL_law (wsV RL 80 RX6 yX6_cut wsX6_cut) := goodIn_app (goodIn_of _ (by decide +kernel)) ggL_law_X6_cut
set_option maxRecDepth 20000 in
theorem ggL_law_X5_truest : GoodIn wsL_law wsX5_truest := goodIn_r _ [593, 18, 143, 144, 2, 145, 594, 595, 596, 21, 597, 551, 552, 553, 554, 110, 111, 467, 468, 469, 470, 154, 155, 156, 157, 471, 347, 348, 349, 54, 146, 147, 148, 149, 158, 159, 472, 473, 474, 475, 476, 477, 478, 813, 814, 815, 816, 817, 818, 819, 820, 821, 844, 845, 846, 847, 848, 849, 850, 851, 852, 853, 854] (by decide +kernel) (by decide +kernel)
set_option maxRecDepth 20000 in
theorem gL_law_X5_truest : GoodIn wsL_law (wsV RL 81 RX5 yX5_truest wsX5_truest) := goodIn_app (goodIn_of _ (by decide +kernel)) ggL_law_X5_truest
set_option maxRecDepth 20000 in
theorem ggL_law_X6_truest : GoodIn wsL_law wsX6_truest := goodIn_r _ [601, 205, 260, 261, 5, 262, 566, 567, 568, 569, 363, 364, 365, 366, 204, 197, 229, 230, 231, 570, 571, 572, 573, 236, 237, 238, 239, 240, 241, 242, 243, 244, 245, 246, 247, 248, 249, 495, 496, 497, 822, 823, 824, 825, 826, 827, 828, 829, 830, 831, 832, 833, 834, 835, 836, 837, 838, 839, 840, 841, 842] (by decide +kernel) (by decide +kernel)
set_option maxRecDepth 20000 in
theorem gL_law_X6_truest : GoodIn wsL_law (wsV RL 84 RX6 yX6_truest wsX6_truest) := goodIn_app (goodIn_of _ (by decide +kernel)) ggL_law_X6_truest
set_option maxRecDepth 20000 in
theorem ggL_law_X5_married : GoodIn wsL_law wsX5_married := goodIn_r _ [605, 18, 343, 524, 468, 469, 21, 470, 110, 154, 155, 156, 157, 111, 471, 347, 348, 349, 54, 146, 147, 148, 149, 158, 2, 159, 606, 607, 608, 315, 609, 610, 611, 612, 613, 560, 561, 614, 615, 616, 617, 51, 425, 384, 385, 386, 813, 814, 815, 816, 817, 818, 819, 820, 821, 844, 845, 846, 847, 848, 849, 850, 851, 852, 853, 854] (by decide +kernel) (by decide +kernel)
set_option maxRecDepth 20000 in
theorem gL_law_X5_married : GoodIn wsL_law (wsV RL 85 RX5 yX5_married wsX5_married) := goodIn_app (goodIn_of _ (by decide +kernel)) ggL_law_X5_married
set_option maxRecDepth 20000 in
theorem ggL_law_X6_married : GoodIn wsL_law wsX6_married := goodIn_r _ [621, 206, 363, 364, 365, 5, 366, 204, 197, 229, 230, 231, 491, 492, 493, 494, 240, 241, 242, 622, 623, 624, 625, 391, 392, 393, 394, 243, 244, 245, 246, 247, 248, 249, 822, 823, 824, 825, 826, 827, 828, 829, 830, 831, 832, 833, 834, 835, 836, 837, 838, 839, 840, 841, 842] (by decide +kernel) (by decide +kernel)
set_option maxRecDepth 20000 in
theorem gL_law_X6_married : GoodIn wsL_law (wsV RL 88 RX6 yX6_married wsX6_married) := goodIn_app (goodIn_of _ (by decide +kernel)) ggL_law_X6_married
set_option maxRecDepth 20000 in
theorem ggL_law_X5_trial : GoodIn wsL_law wsX5_trial := goodIn_r _ [629, 35, 18, 343, 143, 144, 2, 145, 630, 631, 632, 34, 633, 192, 191, 634, 468, 469, 21, 470, 110, 154, 155, 156, 157, 111, 471, 347, 348, 349, 54, 146, 147, 148, 149, 158, 159, 635, 473, 474, 475, 476, 477, 478, 636, 637, 638, 639, 640, 610, 611, 612, 641, 642, 643, 644, 645, 646, 647, 648, 649, 650, 651, 652, 653, 654, 655, 656, 813, 814, 815, 816, 817, 818, 819, 820, 821, 844, 845, 846, 847, 848, 849, 850, 851, 852, 853, 854, 860, 861] (by decide +kernel) (by decide +kernel)
set_option maxRecDepth 20000 in
theorem gL_law_X5_trial : GoodIn wsL_law (wsV RL 89 RX5 yX5_trial wsX5_trial) := goodIn_app (goodIn_of _ (by decide +kernel)) ggL_law_X5_trial
set_option maxRecDepth 20000 in
theorem ggL_law_X6_trial : GoodIn wsL_law wsX6_trial := goodIn_r _ [660, 207, 208, 197, 260, 261, 5, 262, 363, 364, 365, 366, 204, 229, 230, 231, 236, 237, 238, 239, 240, 241, 242, 243, 244, 245, 246, 247, 248, 249, 495, 496, 497, 822, 823, 824, 825, 826, 827, 828, 829, 830, 831, 832, 833, 834, 835, 836, 837, 838, 839, 840, 841, 842] (by decide +kernel) (by decide +kernel)
set_option maxRecDepth 20000 in
theorem gL_law_X6_trial : GoodIn wsL_law (wsV RL 92 RX6 yX6_trial wsX6_trial) := goodIn_app (goodIn_of _ (by decide +kernel)) ggL_law_X6_trial
set_option maxRecDepth 20000 in
theorem ggL_law_X5_see : GoodIn wsL_law wsX5_see := goodIn_r _ [664, 18, 31, 345, 147, 148, 21, 149, 110, 665, 666, 667, 30, 668, 329, 185, 187, 813, 814, 815, 816, 817, 818, 819, 820, 821, 844, 845, 846, 847, 848, 849, 850, 851, 852, 853, 854, 857, 858, 859] (by decide +kernel) (by decide +kernel)
set_option maxRecDepth 20000 in
theorem gL_law_X5_see : GoodIn wsL_law (wsV RL 93 RX5 yX5_see wsX5_see) := goodIn_app (goodIn_of _ (by decide +kernel)) ggL_law_X5_see
set_option maxRecDepth 20000 in
theorem ggL_law_X6_see : GoodIn wsL_law wsX6_see := goodIn_r _ [672, 228, 200, 359, 360, 361, 5, 362, 197, 260, 261, 262, 822, 823, 824, 825, 826, 827, 828, 829, 830, 831, 832, 833, 834, 835, 836, 837, 838, 839, 840, 841, 842] (by decide +kernel) (by decide +kernel)
set_option maxRecDepth 20000 in
theorem gL_law_X6_see : GoodIn wsL_law (wsV RL 97 RX6 yX6_see wsX6_see) := goodIn_app (goodIn_of _ (by decide +kernel)) ggL_law_X6_see
set_option maxRecDepth 20000 in
theorem ggL_law_X5_forget : GoodIn wsL_law wsX5_forget := goodIn_r _ [676, 31, 677, 325, 326, 327, 30, 328, 329, 813, 814, 815, 816, 817, 818, 819, 820, 821, 857, 858, 859] (by decide +kernel) (by decide +kernel)
set_option maxRecDepth 20000 in
theorem gL_law_X5_forget : GoodIn wsL_law (wsV RL 98 RX5 yX5_forget wsX5_forget) := goodIn_app (goodIn_of _ (by decide +kernel)) ggL_law_X5_forget
set_option maxRecDepth 20000 in
theorem ggL_law_X6_forget : GoodIn wsL_law wsX6_forget := goodIn_r _ [681, 228, 822, 823, 824, 825, 826, 827, 828, 829, 830, 831, 832, 833, 834, 835, 836, 837, 838, 839, 840, 841, 842] (by decide +kernel) (by decide +kernel)
set_option maxRecDepth 20000 in
theorem gL_law_X6_forget : GoodIn wsL_law (wsV RL 101 RX6 yX6_forget wsX6_forget) := goodIn_app (goodIn_of _ (by decide +kernel)) ggL_law_X6_forget
set_option maxRecDepth 20000 in
theorem ggL_law_X5_worlds : GoodIn wsL_law wsX5_worlds := goodIn_r _ [685, 31, 18, 143, 144, 2, 145, 686, 687, 688, 30, 689, 690, 329, 185, 187, 691, 692, 693, 21, 694, 54, 559, 146, 147, 148, 149, 110, 154, 155, 156, 157, 111, 695, 696, 697, 698, 699, 700, 701, 702, 703, 704, 705, 158, 159, 813, 814, 815, 816, 817, 818, 819, 820, 821, 857, 858, 859, 844, 845, 846, 847, 848, 849, 850, 851, 852, 853, 854] (by decide +kernel) (by decide +kernel)
set_option maxRecDepth 20000 in
theorem gL_law_X5_worlds : GoodIn wsL_law (wsV RL 102 RX5 yX5_worlds wsX5_worlds) := goodIn_app (goodIn_of _ (by decide +kernel)) ggL_law_X5_worlds
set_option maxRecDepth 20000 in
theorem ggL_law_X6_worlds : GoodIn wsL_law wsX6_worlds := goodIn_r _ [709, 260, 261, 5, 262, 363, 364, 365, 366, 204, 197, 229, 230, 231, 710, 711, 712, 713, 228, 200, 236, 237, 238, 239, 240, 241, 242, 243, 244, 245, 246, 247, 248, 249, 822, 823, 824, 825, 826, 827, 828, 829, 830, 831, 832, 833, 834, 835, 836, 837, 838, 839, 840, 841, 842] (by decide +kernel) (by decide +kernel)
set_option maxRecDepth 20000 in
theorem gL_law_X6_worlds : GoodIn wsL_law (wsV RL 105 RX6 yX6_worlds wsX6_worlds) := goodIn_app (goodIn_of _ (by decide +kernel)) ggL_law_X6_worlds
set_option maxRecDepth 20000 in
theorem ggL_law_X5_must : GoodIn wsL_law wsX5_must := goodIn_r _ [717, 31, 18, 371, 141, 2, 142, 143, 144, 145, 686, 687, 688, 30, 689, 690, 329, 185, 187, 691, 692, 693, 21, 694, 54, 559, 146, 147, 148, 149, 110, 154, 155, 156, 157, 111, 172, 173, 174, 175, 171, 813, 814, 815, 816, 817, 818, 819, 820, 821, 857, 858, 859, 844, 845, 846, 847, 848, 849, 850, 851, 852, 853, 854] (by decide +kernel) (by decide +kernel)
set_option maxRecDepth 20000 in
theorem gL_law_X5_must : GoodIn wsL_law (wsV RL 106 RX5 yX5_must wsX5_must) := goodIn_app (goodIn_of _ (by decide +kernel)) ggL_law_X5_must
set_option maxRecDepth 20000 in
theorem ggL_law_X6_must : GoodIn wsL_law wsX6_must := goodIn_r _ [721, 376, 377, 5, 378, 260, 261, 262, 363, 364, 365, 366, 204, 197, 229, 230, 231, 710, 711, 712, 713, 228, 200, 236, 237, 238, 239, 240, 241, 242, 243, 244, 245, 246, 247, 248, 249, 822, 823, 824, 825, 826, 827, 828, 829, 830, 831, 832, 833, 834, 835, 836, 837, 838, 839, 840, 841, 842] (by decide +kernel) (by decide +kernel)
set_option maxRecDepth 20000 in
theorem gL_law_X6_must : GoodIn wsL_law (wsV RL 109 RX6 yX6_must wsX6_must) := goodIn_app (goodIn_of _ (by decide +kernel)) ggL_law_X6_must
set_option maxRecDepth 20000 in
theorem ggL_law_X5_liars : GoodIn wsL_law wsX5_liars := goodIn_r _ [725, 31, 18, 143, 144, 2, 145, 686, 687, 688, 30, 689, 690, 329, 185, 187, 691, 692, 693, 21, 694, 54, 559, 146, 147, 148, 149, 110, 154, 155, 156, 157, 111, 726, 727, 728, 729, 51, 467, 468, 469, 470, 471, 347, 348, 349, 158, 159, 560, 561, 472, 473, 474, 475, 476, 477, 478, 705, 813, 814, 815, 816, 817, 818, 819, 820, 821, 857, 858, 859, 844, 845, 846, 847, 848, 849, 850, 851, 852, 853, 854] (by decide +kernel) (by decide +kernel)
set_option maxRecDepth 20000 in
theorem gL_law_X5_liars : GoodIn wsL_law (wsV RL 110 RX5 yX5_liars wsX5_liars) := goodIn_app (goodIn_of _ (by decide +kernel)) ggL_law_X5_liars
set_option maxRecDepth 20000 in
theorem ggL_law_X6_liars : GoodIn wsL_law wsX6_liars := goodIn_r _ [733, 260, 261, 5, 262, 363, 364, 365, 366, 204, 197, 229, 230, 231, 734, 735, 736, 737, 236, 237, 238, 239, 240, 241, 242, 243, 244, 245, 246, 247, 248, 249, 495, 496, 497, 710, 711, 712, 713, 228, 200, 822, 823, 824, 825, 826, 827, 828, 829, 830, 831, 832, 833, 834, 835, 836, 837, 838, 839, 840, 841, 842] (by decide +kernel) (by decide +kernel)
set_option maxRecDepth 20000 in
theorem gL_law_X6_liars : GoodIn wsL_law (wsV RL 113 RX6 yX6_liars wsX6_liars) := goodIn_app (goodIn_of _ (by decide +kernel)) ggL_law_X6_liars
set_option maxRecDepth 20000 in
theorem ggL_law_X5_chance : GoodIn wsL_law wsX5_chance := goodIn_r _ [741, 18, 343, 143, 144, 2, 145, 524, 468, 469, 21, 470, 110, 154, 155, 156, 157, 111, 471, 347, 348, 349, 54, 146, 147, 148, 149, 158, 159, 742, 473, 474, 475, 476, 477, 478, 743, 744, 745, 746, 747, 748, 749, 750, 751, 813, 814, 815, 816, 817, 818, 819, 820, 821, 844, 845, 846, 847, 848, 849, 850, 851, 852, 853, 854] (by decide +kernel) (by decide +kernel)
set_option maxRecDepth 20000 in
theorem gL_law_X5_chance : GoodIn wsL_law (wsV RL 114 RX5 yX5_chance wsX5_chance) := goodIn_app (goodIn_of _ (by decide +kernel)) ggL_law_X5_chance
set_option maxRecDepth 20000 in
theorem ggL_law_X6_chance : GoodIn wsL_law wsX6_chance := goodIn_r _ [755, 197, 756, 260, 261, 5, 262, 363, 364, 365, 366, 204, 229, 230, 231, 236, 237, 238, 239, 240, 241, 242, 243, 244, 245, 246, 247, 248, 249, 495, 496, 497, 822, 823, 824, 825, 826, 827, 828, 829, 830, 831, 832, 833, 834, 835, 836, 837, 838, 839, 840, 841, 842] (by decide +kernel) (by decide +kernel)
set_option maxRecDepth 20000 in
theorem gL_law_X6_chance : GoodIn wsL_law (wsV RL 118 RX6 yX6_chance wsX6_chance) := goodIn_app (goodIn_of _ (by decide +kernel)) ggL_law_X6_chance
set_option maxRecDepth 20000 in
theorem ggL_law_X5_year : GoodIn wsL_law wsX5_year := goodIn_r _ [760, 22, 18, 143, 144, 2, 145, 316, 317, 318, 21, 319, 109, 110, 111, 112, 47, 48, 49, 50, 51, 52, 54, 761, 762, 763, 764, 765, 766, 767, 768, 769, 770, 771, 138, 139, 140, 141, 142, 146, 147, 148, 149, 150, 151, 152, 153, 154, 155, 156, 157, 158, 159, 772, 459, 460, 461, 421, 422, 423, 424, 426, 427, 428, 429, 409, 410, 411, 412, 413, 414, 415, 416, 417, 418, 419, 420, 425, 384, 385, 386, 463, 464, 465, 466, 467, 468, 469, 470, 471, 347, 348, 349, 472, 473, 474, 475, 476, 477, 478, 813, 814, 815, 816, 817, 818, 819, 820, 821, 844, 845, 846, 847, 848, 849, 850, 851, 852, 853, 854] (by decide +kernel) (by decide +kernel)
set_option maxRecDepth 20000 in
theorem gL_law_X5_year : GoodIn wsL_law (wsV RL 119 RX5 yX5_year wsX5_year) := goodIn_app (goodIn_of _ (by decide +kernel)) ggL_law_X5_year
set_option maxRecDepth 20000 in
theorem ggL_law_X6_year : GoodIn wsL_law wsX6_year := goodIn_r _ [776, 443, 777, 778, 779, 204, 260, 261, 5, 262, 363, 364, 365, 366, 197, 229, 230, 231, 232, 233, 234, 235, 236, 237, 238, 239, 240, 241, 242, 243, 244, 245, 246, 247, 248, 249, 483, 484, 485, 486, 225, 487, 488, 489, 490, 438, 439, 440, 441, 442, 391, 392, 393, 394, 491, 492, 493, 494, 495, 496, 497, 822, 823, 824, 825, 826, 827, 828, 829, 830, 831, 832, 833, 834, 835, 836, 837, 838, 839, 840, 841, 842] (by decide +kernel) (by decide +kernel)
set_option maxRecDepth 20000 in
theorem gL_law_X6_year : GoodIn wsL_law (wsV RL 122 RX6 yX6_year wsX6_year) := goodIn_app (goodIn_of _ (by decide +kernel)) ggL_law_X6_year
set_option maxRecDepth 20000 in
theorem ggL_law_X5_keep : GoodIn wsL_law wsX5_keep := goodIn_r _ [783, 27, 511, 18, 400, 401, 402, 25, 403, 181, 324, 404, 405, 406, 407, 408, 317, 318, 21, 319, 109, 110, 111, 112, 47, 48, 49, 50, 51, 52, 54, 813, 814, 815, 816, 817, 818, 819, 820, 821, 855, 856, 844, 845, 846, 847, 848, 849, 850, 851, 852, 853, 854] (by decide +kernel) (by decide +kernel)
set_option maxRecDepth 20000 in
theorem gL_law_X5_keep : GoodIn wsL_law (wsV RL 123 RX5 yX5_keep wsX5_keep) := goodIn_app (goodIn_of _ (by decide +kernel)) ggL_law_X5_keep
set_option maxRecDepth 20000 in
theorem ggL_law_X6_keep : GoodIn wsL_law wsX6_keep := goodIn_r _ [787, 227, 199, 197, 229, 230, 5, 231, 822, 823, 824, 825, 826, 827, 828, 829, 830, 831, 832, 833, 834, 835, 836, 837, 838, 839, 840, 841, 842] (by decide +kernel) (by decide +kernel)
set_option maxRecDepth 20000 in
theorem gL_law_X6_keep : GoodIn wsL_law (wsV RL 126 RX6 yX6_keep wsX6_keep) := goodIn_app (goodIn_of _ (by decide +kernel)) ggL_law_X6_keep
set_option maxRecDepth 20000 in
theorem ggL_law_X5_back : GoodIn wsL_law wsX5_back := goodIn_r _ [791, 27, 18, 26, 511, 512, 513, 514, 25, 515, 324, 181, 408, 317, 318, 21, 319, 109, 110, 111, 112, 47, 48, 49, 50, 51, 52, 54, 320, 321, 322, 323, 813, 814, 815, 816, 817, 818, 819, 820, 821, 855, 856, 844, 845, 846, 847, 848, 849, 850, 851, 852, 853, 854] (by decide +kernel) (by decide +kernel)
set_option maxRecDepth 20000 in
theorem gL_law_X5_back : GoodIn wsL_law (wsV RL 127 RX5 yX5_back wsX5_back) := goodIn_app (goodIn_of _ (by decide +kernel)) ggL_law_X5_back
set_option maxRecDepth 20000 in
theorem ggL_law_X6_back : GoodIn wsL_law wsX6_back := goodIn_r _ [795, 227, 197, 199, 226, 229, 230, 5, 231, 822, 823, 824, 825, 826, 827, 828, 829, 830, 831, 832, 833, 834, 835, 836, 837, 838, 839, 840, 841, 842] (by decide +kernel) (by decide +kernel)
set_option maxRecDepth 20000 in
theorem gL_law_X6_back : GoodIn wsL_law (wsV RL 130 RX6 yX6_back wsX6_back) := goodIn_app (goodIn_of _ (by decide +kernel)) ggL_law_X6_back
set_option maxRecDepth 20000 in
theorem ggL_law_X5_count : GoodIn wsL_law wsX5_count := goodIn_r _ [799, 18, 315, 800, 399, 343, 31, 677, 26, 511, 27, 254, 742, 473, 474, 475, 476, 477, 478, 463, 464, 465, 21, 466, 109, 467, 468, 469, 470, 110, 154, 155, 156, 157, 111, 471, 347, 348, 349, 54, 146, 147, 148, 149, 158, 2, 159, 472, 801, 802, 803, 804, 421, 422, 423, 424, 52, 47, 150, 151, 152, 153, 351, 352, 813, 814, 815, 816, 817, 818, 819, 820, 821, 844, 845, 846, 847, 848, 849, 850, 851, 852, 853, 854, 857, 858, 859, 855, 856] (by decide +kernel) (by decide +kernel)
set_option maxRecDepth 20000 in
theorem gL_law_X5_count : GoodIn wsL_law (wsV RL 131 RX5 yX5_count wsX5_count) := goodIn_app (goodIn_of _ (by decide +kernel)) ggL_law_X5_count
set_option maxRecDepth 20000 in
theorem ggL_law_X6_count : GoodIn wsL_law wsX6_count := goodIn_r _ [808, 197, 228, 226, 227, 259, 363, 364, 365, 5, 366, 204, 229, 230, 231, 495, 496, 497, 491, 492, 493, 494, 809, 810, 811, 812, 225, 822, 823, 824, 825, 826, 827, 828, 829, 830, 831, 832, 833, 834, 835, 836, 837, 838, 839, 840, 841, 842] (by decide +kernel) (by decide +kernel)
set_option maxRecDepth 20000 in
theorem gL_law_X6_count : GoodIn wsL_law (wsV RL 134 RX6 yX6_count wsX6_count) := goodIn_app (goodIn_of _ (by decide +kernel)) ggL_law_X6_count
theorem dL_law_0 : decode cL_law 0 = .ok (.new 7, 3) := by decide +kernel
theorem dL_law_3 : decode cL_law 3 = .ok (.dup, 1) := by decide +kernel
theorem dL_law_4 : decode cL_law 4 = .ok (.invokespecial 9, 3) := by decide +kernel
theorem dL_law_7 : decode cL_law 7 = .ok (.astore_n 1, 1) := by decide +kernel
theorem dL_law_8 : decode cL_law 8 = .ok (.new 10, 3) := by decide +kernel
theorem dL_law_11 : decode cL_law 11 = .ok (.dup, 1) := by decide +kernel
theorem dL_law_12 : decode cL_law 12 = .ok (.invokespecial 12, 3) := by decide +kernel
theorem dL_law_15 : decode cL_law 15 = .ok (.astore_n 2, 1) := by decide +kernel
theorem dL_law_16 : decode cL_law 16 = .ok (.iconst 0, 1) := by decide +kernel
theorem dL_law_17 : decode cL_law 17 = .ok (.istore_n 3, 1) := by decide +kernel
theorem dL_law_18 : decode cL_law 18 = .ok (.iload_n 3, 1) := by decide +kernel
theorem dL_law_19 : decode cL_law 19 = .ok (.aload_n 0, 1) := by decide +kernel
theorem dL_law_20 : decode cL_law 20 = .ok (.arraylength, 1) := by decide +kernel
theorem dL_law_21 : decode cL_law 21 = .ok (.iconst 5, 1) := by decide +kernel
theorem dL_law_22 : decode cL_law 22 = .ok (.isub, 1) := by decide +kernel
theorem dL_law_23 : decode cL_law 23 = .ok (.if_icmp .gt 840, 3) := by decide +kernel
theorem dL_law_26 : decode cL_law 26 = .ok (.aload_n 0, 1) := by decide +kernel
theorem dL_law_27 : decode cL_law 27 = .ok (.iload_n 3, 1) := by decide +kernel
theorem dL_law_28 : decode cL_law 28 = .ok (.iaload, 1) := by decide +kernel
theorem dL_law_29 : decode cL_law 29 = .ok (.bipush 31, 2) := by decide +kernel
theorem dL_law_31 : decode cL_law 31 = .ok (.iand, 1) := by decide +kernel
theorem dL_law_32 : decode cL_law 32 = .ok (.tableswitch 825 0 28 #[132, 155, 168, 181, 194, 227, 250, 283, 306, 359, 382, 405, 418, 441, 464, 477, 490, 513, 526, 559, 608, 621, 644, 667, 690, 733, 776, 789, 802], 132) := by decide +kernel
theorem dL_law_164 : decode cL_law 164 = .ok (.aload_n 1, 1) := by decide +kernel
theorem dL_law_165 : decode cL_law 165 = .ok (.aload_n 0, 1) := by decide +kernel
theorem dL_law_166 : decode cL_law 166 = .ok (.iload_n 3, 1) := by decide +kernel
theorem dL_law_167 : decode cL_law 167 = .ok (.iconst 1, 1) := by decide +kernel
theorem dL_law_168 : decode cL_law 168 = .ok (.iadd, 1) := by decide +kernel
theorem dL_law_169 : decode cL_law 169 = .ok (.iaload, 1) := by decide +kernel
theorem dL_law_170 : decode cL_law 170 = .ok (.invokevirtual 13, 3) := by decide +kernel
theorem dL_law_173 : decode cL_law 173 = .ok (.aload_n 2, 1) := by decide +kernel
theorem dL_law_174 : decode cL_law 174 = .ok (.aload_n 0, 1) := by decide +kernel
theorem dL_law_175 : decode cL_law 175 = .ok (.iload_n 3, 1) := by decide +kernel
theorem dL_law_176 : decode cL_law 176 = .ok (.iconst 1, 1) := by decide +kernel
theorem dL_law_177 : decode cL_law 177 = .ok (.iadd, 1) := by decide +kernel
theorem dL_law_178 : decode cL_law 178 = .ok (.iaload, 1) := by decide +kernel
theorem dL_law_179 : decode cL_law 179 = .ok (.invokevirtual 17, 3) := by decide +kernel
theorem dL_law_182 : decode cL_law 182 = .ok (.if_icmp .eq 675, 3) := by decide +kernel
theorem dL_law_185 : decode cL_law 185 = .ok (.iconst 0, 1) := by decide +kernel
theorem dL_law_186 : decode cL_law 186 = .ok (.ireturn, 1) := by decide +kernel
theorem dL_law_187 : decode cL_law 187 = .ok (.aload_n 1, 1) := by decide +kernel
theorem dL_law_188 : decode cL_law 188 = .ok (.invokevirtual 18, 3) := by decide +kernel
theorem dL_law_191 : decode cL_law 191 = .ok (.aload_n 2, 1) := by decide +kernel
theorem dL_law_192 : decode cL_law 192 = .ok (.invokevirtual 22, 3) := by decide +kernel
theorem dL_law_195 : decode cL_law 195 = .ok (.if_icmp .eq 662, 3) := by decide +kernel
theorem dL_law_198 : decode cL_law 198 = .ok (.iconst 0, 1) := by decide +kernel
theorem dL_law_199 : decode cL_law 199 = .ok (.ireturn, 1) := by decide +kernel
theorem dL_law_200 : decode cL_law 200 = .ok (.aload_n 1, 1) := by decide +kernel
theorem dL_law_201 : decode cL_law 201 = .ok (.invokevirtual 23, 3) := by decide +kernel
theorem dL_law_204 : decode cL_law 204 = .ok (.aload_n 2, 1) := by decide +kernel
theorem dL_law_205 : decode cL_law 205 = .ok (.invokevirtual 26, 3) := by decide +kernel
theorem dL_law_208 : decode cL_law 208 = .ok (.if_icmp .eq 649, 3) := by decide +kernel
theorem dL_law_211 : decode cL_law 211 = .ok (.iconst 0, 1) := by decide +kernel
theorem dL_law_212 : decode cL_law 212 = .ok (.ireturn, 1) := by decide +kernel
theorem dL_law_213 : decode cL_law 213 = .ok (.aload_n 1, 1) := by decide +kernel
theorem dL_law_214 : decode cL_law 214 = .ok (.invokevirtual 27, 3) := by decide +kernel
theorem dL_law_217 : decode cL_law 217 = .ok (.aload_n 2, 1) := by decide +kernel
theorem dL_law_218 : decode cL_law 218 = .ok (.invokevirtual 30, 3) := by decide +kernel
theorem dL_law_221 : decode cL_law 221 = .ok (.if_icmp .eq 636, 3) := by decide +kernel
theorem dL_law_224 : decode cL_law 224 = .ok (.iconst 0, 1) := by decide +kernel
theorem dL_law_225 : decode cL_law 225 = .ok (.ireturn, 1) := by decide +kernel
theorem dL_law_226 : decode cL_law 226 = .ok (.aload_n 1, 1) := by decide +kernel
theorem dL_law_227 : decode cL_law 227 = .ok (.aload_n 0, 1) := by decide +kernel
theorem dL_law_228 : decode cL_law 228 = .ok (.iload_n 3, 1) := by decide +kernel
theorem dL_law_229 : decode cL_law 229 = .ok (.iconst 1, 1) := by decide +kernel
theorem dL_law_230 : decode cL_law 230 = .ok (.iadd, 1) := by decide +kernel
theorem dL_law_231 : decode cL_law 231 = .ok (.iaload, 1) := by decide +kernel
theorem dL_law_232 : decode cL_law 232 = .ok (.aload_n 0, 1) := by decide +kernel
theorem dL_law_233 : decode cL_law 233 = .ok (.iload_n 3, 1) := by decide +kernel
theorem dL_law_234 : decode cL_law 234 = .ok (.iconst 2, 1) := by decide +kernel
theorem dL_law_235 : decode cL_law 235 = .ok (.iadd, 1) := by decide +kernel
theorem dL_law_236 : decode cL_law 236 = .ok (.iaload, 1) := by decide +kernel
theorem dL_law_237 : decode cL_law 237 = .ok (.invokevirtual 31, 3) := by decide +kernel
theorem dL_law_240 : decode cL_law 240 = .ok (.aload_n 2, 1) := by decide +kernel
theorem dL_law_241 : decode cL_law 241 = .ok (.aload_n 0, 1) := by decide +kernel
theorem dL_law_242 : decode cL_law 242 = .ok (.iload_n 3, 1) := by decide +kernel
theorem dL_law_243 : decode cL_law 243 = .ok (.iconst 1, 1) := by decide +kernel
theorem dL_law_244 : decode cL_law 244 = .ok (.iadd, 1) := by decide +kernel
theorem dL_law_245 : decode cL_law 245 = .ok (.iaload, 1) := by decide +kernel
theorem dL_law_246 : decode cL_law 246 = .ok (.aload_n 0, 1) := by decide +kernel
theorem dL_law_247 : decode cL_law 247 = .ok (.iload_n 3, 1) := by decide +kernel
theorem dL_law_248 : decode cL_law 248 = .ok (.iconst 2, 1) := by decide +kernel
theorem dL_law_249 : decode cL_law 249 = .ok (.iadd, 1) := by decide +kernel
theorem dL_law_250 : decode cL_law 250 = .ok (.iaload, 1) := by decide +kernel
theorem dL_law_251 : decode cL_law 251 = .ok (.invokevirtual 35, 3) := by decide +kernel
theorem dL_law_254 : decode cL_law 254 = .ok (.if_icmp .eq 603, 3) := by decide +kernel
theorem dL_law_257 : decode cL_law 257 = .ok (.iconst 0, 1) := by decide +kernel
theorem dL_law_258 : decode cL_law 258 = .ok (.ireturn, 1) := by decide +kernel
theorem dL_law_259 : decode cL_law 259 = .ok (.aload_n 1, 1) := by decide +kernel
theorem dL_law_260 : decode cL_law 260 = .ok (.aload_n 0, 1) := by decide +kernel
theorem dL_law_261 : decode cL_law 261 = .ok (.iload_n 3, 1) := by decide +kernel
theorem dL_law_262 : decode cL_law 262 = .ok (.iconst 1, 1) := by decide +kernel
theorem dL_law_263 : decode cL_law 263 = .ok (.iadd, 1) := by decide +kernel
theorem dL_law_264 : decode cL_law 264 = .ok (.iaload, 1) := by decide +kernel
theorem dL_law_265 : decode cL_law 265 = .ok (.invokevirtual 36, 3) := by decide +kernel
theorem dL_law_268 : decode cL_law 268 = .ok (.aload_n 2, 1) := by decide +kernel
theorem dL_law_269 : decode cL_law 269 = .ok (.aload_n 0, 1) := by decide +kernel
theorem dL_law_270 : decode cL_law 270 = .ok (.iload_n 3, 1) := by decide +kernel
theorem dL_law_271 : decode cL_law 271 = .ok (.iconst 1, 1) := by decide +kernel
theorem dL_law_272 : decode cL_law 272 = .ok (.iadd, 1) := by decide +kernel
theorem dL_law_273 : decode cL_law 273 = .ok (.iaload, 1) := by decide +kernel
theorem dL_law_274 : decode cL_law 274 = .ok (.invokevirtual 39, 3) := by decide +kernel
theorem dL_law_277 : decode cL_law 277 = .ok (.if_icmp .eq 580, 3) := by decide +kernel
theorem dL_law_280 : decode cL_law 280 = .ok (.iconst 0, 1) := by decide +kernel
theorem dL_law_281 : decode cL_law 281 = .ok (.ireturn, 1) := by decide +kernel
theorem dL_law_282 : decode cL_law 282 = .ok (.aload_n 1, 1) := by decide +kernel
theorem dL_law_283 : decode cL_law 283 = .ok (.aload_n 0, 1) := by decide +kernel
theorem dL_law_284 : decode cL_law 284 = .ok (.iload_n 3, 1) := by decide +kernel
theorem dL_law_285 : decode cL_law 285 = .ok (.iconst 1, 1) := by decide +kernel
theorem dL_law_286 : decode cL_law 286 = .ok (.iadd, 1) := by decide +kernel
theorem dL_law_287 : decode cL_law 287 = .ok (.iaload, 1) := by decide +kernel
