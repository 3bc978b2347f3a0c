set_option maxRecDepth 20000 in
theorem gL_law_X6_init : GoodIn wsL_law (wsX6_init) := ggL_law_X6_init
set_option maxRecDepth 20000 in
theorem ggL_law_X7_init : GoodIn wsL_law wsX7_init := goodIn_r _ [84, 85, 10, 11, 31, 86, 87, 88, 89, 90, 91, 92, 93, 94, 95, 96, 97, 98, 99, 100, 736, 737, 738, 739, 740, 741, 742, 743, 744, 745, 746, 747, 748, 749, 750, 751, 752, 753, 754, 755, 756, 757, 758, 759, 760, 761, 762, 763, 764] (by decide +kernel) (by decide +kernel)
set_option maxRecDepth 20000 in
theorem gL_law_X7_init : GoodIn wsL_law (wsX7_init) := ggL_law_X7_init
set_option maxRecDepth 20000 in
theorem ggL_law_X6_mine : GoodIn wsL_law wsX6_mine := goodIn_r _ [104, 39, 13, 105, 17, 106, 107, 108, 2, 109, 110, 111, 112, 113, 114, 115, 41, 116, 78, 79, 117, 118, 119, 120, 81, 121, 122, 123, 124, 125, 126, 127, 128, 129, 130, 131, 132, 133, 134, 135, 136, 137, 138, 139, 140, 141, 142, 143, 144, 145, 146, 147, 148, 149, 150, 151, 21, 152, 153, 154, 37, 25, 155, 156, 157, 158, 159, 725, 726, 727, 728, 729, 730, 731, 732, 733, 734, 735, 783, 784, 785, 786, 765, 766, 767, 768, 769, 770, 771, 772, 773, 774, 775, 776] (by decide +kernel) (by decide +kernel)
set_option maxRecDepth 20000 in
theorem gL_law_X6_mine : GoodIn wsL_law (wsV RL 13 RX6 yX6_mine wsX6_mine) := goodIn_app (goodIn_of _ (by decide +kernel)) ggL_law_X6_mine
set_option maxRecDepth 20000 in
theorem ggL_law_X7_mine : GoodIn wsL_law wsX7_mine := goodIn_r _ [163, 164, 165, 166, 167, 168, 5, 169, 170, 171, 172, 173, 174, 175, 176, 177, 178, 179, 86, 87, 180, 181, 182, 183, 184, 185, 186, 187, 188, 189, 190, 191, 192, 88, 193, 194, 195, 196, 197, 93, 198, 199, 200, 201, 202, 203, 204, 205, 94, 206, 207, 208, 209, 210, 89, 211, 90, 91, 92, 212, 213, 214, 736, 737, 738, 739, 740, 741, 742, 743, 744, 745, 746, 747, 748, 749, 750, 751, 752, 753, 754, 755, 756, 757, 758, 759, 760, 761, 762, 763, 764] (by decide +kernel) (by decide +kernel)
set_option maxRecDepth 20000 in
theorem gL_law_X7_mine : GoodIn wsL_law (wsV RL 17 RX7 yX7_mine wsX7_mine) := goodIn_app (goodIn_of _ (by decide +kernel)) ggL_law_X7_mine
set_option maxRecDepth 20000 in
theorem ggL_law_X6_ofGallery : GoodIn wsL_law wsX6_ofGallery := goodIn_r _ [218, 17, 151, 21, 152, 153, 154, 150, 219, 220, 221, 2, 222, 106, 223, 224, 225, 16, 226, 48, 49, 227, 228, 156, 157, 158, 159, 725, 726, 727, 728, 729, 730, 731, 732, 733, 734, 735, 765, 766, 767, 768, 769, 770, 771, 772] (by decide +kernel) (by decide +kernel)
set_option maxRecDepth 20000 in
theorem gL_law_X6_ofGallery : GoodIn wsL_law (wsV RL 18 RX6 yX6_ofGallery wsX6_ofGallery) := goodIn_app (goodIn_of _ (by decide +kernel)) ggL_law_X6_ofGallery
set_option maxRecDepth 20000 in
theorem ggL_law_X7_ofGallery : GoodIn wsL_law wsX7_ofGallery := goodIn_r _ [232, 90, 91, 92, 213, 211, 233, 234, 235, 5, 236, 166, 237, 238, 239, 240, 241, 242, 243, 244, 245, 246, 247, 736, 737, 738, 739, 740, 741, 742, 743, 744, 745, 746, 747, 748, 749, 750, 751, 752, 753, 754, 755, 756, 757, 758, 759, 760, 761, 762, 763, 764] (by decide +kernel) (by decide +kernel)
set_option maxRecDepth 20000 in
theorem gL_law_X7_ofGallery : GoodIn wsL_law (wsV RL 22 RX7 yX7_ofGallery wsX7_ofGallery) := goodIn_app (goodIn_of _ (by decide +kernel)) ggL_law_X7_ofGallery
set_option maxRecDepth 20000 in
theorem ggL_law_X6_bad : GoodIn wsL_law wsX6_bad := goodIn_r _ [251, 17, 145, 252, 253, 254, 2, 255, 144, 725, 726, 727, 728, 729, 730, 731, 732, 733, 734, 735, 765, 766, 767, 768, 769, 770] (by decide +kernel) (by decide +kernel)
set_option maxRecDepth 20000 in
theorem gL_law_X6_bad : GoodIn wsL_law (wsV RL 23 RX6 yX6_bad wsX6_bad) := goodIn_app (goodIn_of _ (by decide +kernel)) ggL_law_X6_bad
set_option maxRecDepth 20000 in
theorem ggL_law_X7_bad : GoodIn wsL_law wsX7_bad := goodIn_r _ [259, 89, 260, 261, 262, 5, 263, 210, 736, 737, 738, 739, 740, 741, 742, 743, 744, 745, 746, 747, 748, 749, 750, 751, 752, 753, 754, 755, 756, 757, 758, 759, 760, 761, 762, 763, 764] (by decide +kernel) (by decide +kernel)
set_option maxRecDepth 20000 in
theorem gL_law_X7_bad : GoodIn wsL_law (wsV RL 27 RX7 yX7_bad wsX7_bad) := goodIn_app (goodIn_of _ (by decide +kernel)) ggL_law_X7_bad
set_option maxRecDepth 20000 in
theorem ggL_law_X6_foul : GoodIn wsL_law wsX6_foul := goodIn_r _ [267, 21, 152, 219, 220, 221, 2, 222, 17, 106, 268, 269, 270, 725, 726, 727, 728, 729, 730, 731, 732, 733, 734, 735, 771, 772, 765, 766, 767, 768, 769, 770] (by decide +kernel) (by decide +kernel)
set_option maxRecDepth 20000 in
theorem gL_law_X6_foul : GoodIn wsL_law (wsV RL 28 RX6 yX6_foul wsX6_foul) := goodIn_app (goodIn_of _ (by decide +kernel)) ggL_law_X6_foul
set_option maxRecDepth 20000 in
theorem ggL_law_X7_foul : GoodIn wsL_law wsX7_foul := goodIn_r _ [274, 91, 233, 234, 235, 5, 236, 166, 170, 171, 172, 736, 737, 738, 739, 740, 741, 742, 743, 744, 745, 746, 747, 748, 749, 750, 751, 752, 753, 754, 755, 756, 757, 758, 759, 760, 761, 762, 763, 764] (by decide +kernel) (by decide +kernel)
set_option maxRecDepth 20000 in
theorem gL_law_X7_foul : GoodIn wsL_law (wsV RL 31 RX7 yX7_foul wsX7_foul) := goodIn_app (goodIn_of _ (by decide +kernel)) ggL_law_X7_foul
set_option maxRecDepth 20000 in
theorem ggL_law_X6_breed : GoodIn wsL_law wsX6_breed := goodIn_r _ [278, 17, 153, 219, 220, 221, 2, 222, 106, 725, 726, 727, 728, 729, 730, 731, 732, 733, 734, 735, 765, 766, 767, 768, 769, 770] (by decide +kernel) (by decide +kernel)
set_option maxRecDepth 20000 in
theorem gL_law_X6_breed : GoodIn wsL_law (wsV RL 32 RX6 yX6_breed wsX6_breed) := goodIn_app (goodIn_of _ (by decide +kernel)) ggL_law_X6_breed
set_option maxRecDepth 20000 in
theorem ggL_law_X7_breed : GoodIn wsL_law wsX7_breed := goodIn_r _ [282, 92, 233, 234, 235, 5, 236, 166, 170, 171, 172, 736, 737, 738, 739, 740, 741, 742, 743, 744, 745, 746, 747, 748, 749, 750, 751, 752, 753, 754, 755, 756, 757, 758, 759, 760, 761, 762, 763, 764] (by decide +kernel) (by decide +kernel)
set_option maxRecDepth 20000 in
theorem gL_law_X7_breed : GoodIn wsL_law (wsV RL 35 RX7 yX7_breed wsX7_breed) := goodIn_app (goodIn_of _ (by decide +kernel)) ggL_law_X7_breed
set_option maxRecDepth 20000 in
theorem ggL_law_X6_door : GoodIn wsL_law wsX6_door := goodIn_r _ [286, 17, 150, 156, 157, 158, 2, 159, 106, 725, 726, 727, 728, 729, 730, 731, 732, 733, 734, 735, 765, 766, 767, 768, 769, 770] (by decide +kernel) (by decide +kernel)
set_option maxRecDepth 20000 in
theorem gL_law_X6_door : GoodIn wsL_law (wsV RL 36 RX6 yX6_door wsX6_door) := goodIn_app (goodIn_of _ (by decide +kernel)) ggL_law_X6_door
set_option maxRecDepth 20000 in
theorem ggL_law_X7_door : GoodIn wsL_law wsX7_door := goodIn_r _ [290, 211, 244, 245, 246, 5, 247, 166, 170, 171, 172, 736, 737, 738, 739, 740, 741, 742, 743, 744, 745, 746, 747, 748, 749, 750, 751, 752, 753, 754, 755, 756, 757, 758, 759, 760, 761, 762, 763, 764] (by decide +kernel) (by decide +kernel)
set_option maxRecDepth 20000 in
theorem gL_law_X7_door : GoodIn wsL_law (wsV RL 39 RX7 yX7_door wsX7_door) := goodIn_app (goodIn_of _ (by decide +kernel)) ggL_law_X7_door
set_option maxRecDepth 20000 in
theorem ggL_law_X6_say : GoodIn wsL_law wsX6_say := goodIn_r _ [294, 37, 17, 21, 150, 219, 220, 221, 2, 222, 106, 252, 253, 254, 255, 144, 295, 296, 297, 16, 298, 299, 47, 300, 147, 148, 149, 301, 302, 303, 304, 305, 306, 307, 308, 309, 310, 311, 45, 312, 313, 314, 315, 316, 317, 318, 319, 320, 321, 322, 20, 323, 55, 324, 224, 225, 226, 48, 49, 227, 228, 725, 726, 727, 728, 729, 730, 731, 732, 733, 734, 735, 765, 766, 767, 768, 769, 770, 771, 772] (by decide +kernel) (by decide +kernel)
set_option maxRecDepth 20000 in
theorem gL_law_X6_say : GoodIn wsL_law (wsV RL 40 RX6 yX6_say wsX6_say) := goodIn_app (goodIn_of _ (by decide +kernel)) ggL_law_X6_say
set_option maxRecDepth 20000 in
theorem ggL_law_X7_say : GoodIn wsL_law wsX7_say := goodIn_r _ [328, 212, 233, 234, 235, 5, 236, 166, 260, 261, 262, 263, 210, 329, 330, 331, 332, 333, 334, 335, 336, 91, 89, 337, 338, 339, 340, 211, 341, 342, 343, 344, 345, 346, 347, 213, 237, 238, 239, 240, 90, 92, 241, 242, 243, 736, 737, 738, 739, 740, 741, 742, 743, 744, 745, 746, 747, 748, 749, 750, 751, 752, 753, 754, 755, 756, 757, 758, 759, 760, 761, 762, 763, 764] (by decide +kernel) (by decide +kernel)
set_option maxRecDepth 20000 in
theorem gL_law_X7_say : GoodIn wsL_law (wsV RL 43 RX7 yX7_say wsX7_say) := goodIn_app (goodIn_of _ (by decide +kernel)) ggL_law_X7_say
set_option maxRecDepth 20000 in
theorem ggL_law_X6_hush : GoodIn wsL_law wsX6_hush := goodIn_r _ [351, 17, 21, 150, 37, 352, 353, 354, 2, 355, 106, 356, 305, 306, 16, 307, 308, 309, 310, 311, 45, 299, 312, 313, 148, 314, 315, 316, 317, 318, 319, 320, 321, 322, 20, 323, 55, 324, 224, 225, 226, 48, 49, 227, 228, 725, 726, 727, 728, 729, 730, 731, 732, 733, 734, 735, 765, 766, 767, 768, 769, 770, 771, 772] (by decide +kernel) (by decide +kernel)
set_option maxRecDepth 20000 in
theorem gL_law_X6_hush : GoodIn wsL_law (wsV RL 44 RX6 yX6_hush wsX6_hush) := goodIn_app (goodIn_of _ (by decide +kernel)) ggL_law_X6_hush
set_option maxRecDepth 20000 in
theorem ggL_law_X7_hush : GoodIn wsL_law wsX7_hush := goodIn_r _ [360, 166, 212, 170, 171, 5, 172, 337, 338, 339, 340, 91, 211, 341, 342, 343, 344, 345, 346, 347, 213, 237, 238, 239, 240, 90, 92, 241, 242, 243, 736, 737, 738, 739, 740, 741, 742, 743, 744, 745, 746, 747, 748, 749, 750, 751, 752, 753, 754, 755, 756, 757, 758, 759, 760, 761, 762, 763, 764] (by decide +kernel) (by decide +kernel)
set_option maxRecDepth 20000 in
theorem gL_law_X7_hush : GoodIn wsL_law (wsV RL 47 RX7 yX7_hush wsX7_hush) := goodIn_app (goodIn_of _ (by decide +kernel)) ggL_law_X7_hush
set_option maxRecDepth 20000 in
theorem ggL_law_X6_blow : GoodIn wsL_law wsX6_blow := goodIn_r _ [364, 21, 152, 17, 154, 219, 220, 221, 2, 222, 106, 365, 321, 322, 20, 323, 55, 223, 224, 225, 16, 226, 48, 49, 227, 228, 366, 367, 368, 369, 370, 371, 372, 725, 726, 727, 728, 729, 730, 731, 732, 733, 734, 735, 771, 772, 765, 766, 767, 768, 769, 770] (by decide +kernel) (by decide +kernel)
set_option maxRecDepth 20000 in
theorem gL_law_X6_blow : GoodIn wsL_law (wsV RL 48 RX6 yX6_blow wsX6_blow) := goodIn_app (goodIn_of _ (by decide +kernel)) ggL_law_X6_blow
set_option maxRecDepth 20000 in
theorem ggL_law_X7_blow : GoodIn wsL_law wsX7_blow := goodIn_r _ [376, 213, 91, 233, 234, 235, 5, 236, 166, 341, 342, 343, 237, 238, 239, 240, 90, 92, 241, 242, 243, 377, 378, 379, 736, 737, 738, 739, 740, 741, 742, 743, 744, 745, 746, 747, 748, 749, 750, 751, 752, 753, 754, 755, 756, 757, 758, 759, 760, 761, 762, 763, 764] (by decide +kernel) (by decide +kernel)
set_option maxRecDepth 20000 in
theorem gL_law_X7_blow : GoodIn wsL_law (wsV RL 51 RX7 yX7_blow wsX7_blow) := goodIn_app (goodIn_of _ (by decide +kernel)) ggL_law_X7_blow
set_option maxRecDepth 20000 in
theorem ggL_law_X6_shift : GoodIn wsL_law wsX6_shift := goodIn_r _ [383, 39, 13, 30, 21, 29, 384, 17, 150, 385, 386, 154, 152, 107, 108, 2, 109, 110, 111, 112, 387, 388, 389, 390, 391, 392, 393, 105, 113, 114, 115, 41, 116, 78, 79, 117, 118, 119, 120, 81, 121, 122, 123, 124, 352, 353, 354, 355, 106, 219, 220, 221, 222, 252, 253, 254, 255, 144, 394, 395, 396, 20, 397, 54, 398, 399, 400, 401, 55, 295, 296, 297, 16, 298, 299, 47, 300, 147, 148, 149, 301, 302, 303, 304, 305, 306, 307, 308, 309, 310, 311, 45, 312, 313, 314, 315, 316, 317, 318, 319, 320, 321, 322, 323, 324, 224, 225, 226, 48, 49, 227, 228, 366, 367, 368, 369, 370, 371, 372, 402, 403, 404, 405, 725, 726, 727, 728, 729, 730, 731, 732, 733, 734, 735, 777, 778, 779, 765, 766, 767, 768, 769, 770, 771, 772, 783, 784, 785, 786] (by decide +kernel) (by decide +kernel)
set_option maxRecDepth 20000 in
theorem gL_law_X6_shift : GoodIn wsL_law (wsV RL 52 RX6 yX6_shift wsX6_shift) := goodIn_app (goodIn_of _ (by decide +kernel)) ggL_law_X6_shift
set_option maxRecDepth 20000 in
theorem ggL_law_X7_shift : GoodIn wsL_law wsX7_shift := goodIn_r _ [409, 164, 170, 171, 5, 172, 410, 411, 412, 413, 166, 167, 168, 169, 173, 174, 175, 176, 177, 178, 179, 86, 87, 180, 181, 182, 183, 414, 415, 416, 417, 88, 233, 234, 235, 236, 260, 261, 262, 263, 210, 418, 419, 420, 421, 213, 422, 95, 91, 423, 424, 425, 426, 427, 428, 329, 330, 331, 332, 333, 334, 335, 336, 89, 337, 338, 339, 340, 211, 341, 342, 343, 344, 345, 346, 347, 237, 238, 239, 240, 90, 92, 241, 242, 243, 377, 378, 379, 429, 430, 431, 432, 433, 434, 435, 436, 736, 737, 738, 739, 740, 741, 742, 743, 744, 745, 746, 747, 748, 749, 750, 751, 752, 753, 754, 755, 756, 757, 758, 759, 760, 761, 762, 763, 764] (by decide +kernel) (by decide +kernel)
set_option maxRecDepth 20000 in
theorem gL_law_X7_shift : GoodIn wsL_law (wsV RL 56 RX7 yX7_shift wsX7_shift) := goodIn_app (goodIn_of _ (by decide +kernel)) ggL_law_X7_shift
set_option maxRecDepth 20000 in
theorem ggL_law_X6_order : GoodIn wsL_law wsX6_order := goodIn_r _ [440, 39, 13, 29, 384, 30, 21, 17, 32, 107, 108, 2, 109, 110, 111, 112, 390, 391, 392, 393, 105, 385, 386, 113, 114, 115, 41, 116, 78, 79, 117, 118, 119, 120, 81, 121, 122, 123, 124, 352, 353, 354, 355, 106, 219, 220, 221, 222, 252, 253, 254, 255, 144, 394, 395, 396, 20, 397, 54, 398, 399, 400, 401, 55, 441, 442, 443, 150, 295, 296, 297, 16, 298, 299, 47, 300, 147, 148, 149, 301, 302, 303, 304, 305, 306, 307, 308, 309, 310, 311, 45, 312, 313, 314, 315, 316, 317, 318, 319, 320, 321, 322, 323, 324, 224, 225, 226, 48, 49, 227, 228, 725, 726, 727, 728, 729, 730, 731, 732, 733, 734, 735, 777, 778, 779, 783, 784, 785, 786, 765, 766, 767, 768, 769, 770, 771, 772] (by decide +kernel) (by decide +kernel)
set_option maxRecDepth 20000 in
theorem gL_law_X6_order : GoodIn wsL_law (wsV RL 57 RX6 yX6_order wsX6_order) := goodIn_app (goodIn_of _ (by decide +kernel)) ggL_law_X6_order
set_option maxRecDepth 20000 in
theorem ggL_law_X7_order : GoodIn wsL_law wsX7_order := goodIn_r _ [447, 164, 96, 170, 171, 5, 172, 410, 411, 412, 413, 166, 167, 168, 169, 173, 174, 175, 176, 177, 178, 179, 86, 87, 180, 181, 182, 183, 414, 415, 416, 417, 88, 233, 234, 235, 236, 260, 261, 262, 263, 210, 448, 449, 450, 451, 452, 453, 454, 341, 342, 343, 455, 456, 457, 458, 418, 419, 420, 421, 213, 422, 95, 91, 329, 330, 331, 332, 333, 334, 335, 336, 89, 337, 338, 339, 340, 211, 344, 345, 346, 347, 237, 238, 239, 240, 90, 92, 241, 242, 243, 433, 434, 435, 436, 736, 737, 738, 739, 740, 741, 742, 743, 744, 745, 746, 747, 748, 749, 750, 751, 752, 753, 754, 755, 756, 757, 758, 759, 760, 761, 762, 763, 764] (by decide +kernel) (by decide +kernel)
set_option maxRecDepth 20000 in
theorem gL_law_X7_order : GoodIn wsL_law (wsV RL 60 RX7 yX7_order wsX7_order) := goodIn_app (goodIn_of _ (by decide +kernel)) ggL_law_X7_order
set_option maxRecDepth 20000 in
theorem ggL_law_X6_shut : GoodIn wsL_law wsX6_shut := goodIn_r _ [462, 39, 13, 17, 106, 107, 108, 2, 109, 110, 111, 112, 390, 391, 392, 393, 105, 29, 385, 386, 384, 113, 114, 115, 41, 116, 78, 79, 117, 118, 119, 120, 81, 121, 122, 123, 124, 352, 353, 354, 355, 219, 220, 221, 222, 252, 253, 254, 255, 144, 463, 464, 465, 466, 30, 21, 394, 395, 396, 20, 397, 54, 398, 399, 400, 401, 55, 295, 296, 297, 16, 298, 299, 47, 300, 147, 148, 149, 301, 302, 303, 304, 305, 306, 307, 308, 309, 310, 311, 45, 312, 313, 314, 315, 316, 317, 318, 319, 320, 321, 322, 323, 324, 224, 225, 226, 48, 49, 227, 228, 366, 367, 368, 369, 370, 371, 372, 725, 726, 727, 728, 729, 730, 731, 732, 733, 734, 735, 765, 766, 767, 768, 769, 770, 783, 784, 785, 786, 777, 778, 779, 771, 772] (by decide +kernel) (by decide +kernel)
set_option maxRecDepth 20000 in
theorem gL_law_X6_shut : GoodIn wsL_law (wsV RL 61 RX6 yX6_shut wsX6_shut) := goodIn_app (goodIn_of _ (by decide +kernel)) ggL_law_X6_shut
set_option maxRecDepth 20000 in
theorem ggL_law_X7_shut : GoodIn wsL_law wsX7_shut := goodIn_r _ [470, 164, 211, 166, 427, 170, 171, 5, 172, 410, 411, 412, 413, 167, 168, 169, 173, 174, 175, 176, 177, 178, 179, 86, 87, 180, 181, 182, 183, 414, 415, 416, 417, 88, 233, 234, 235, 236, 260, 261, 262, 263, 210, 418, 419, 420, 421, 213, 422, 95, 91, 423, 424, 425, 426, 428, 329, 330, 331, 332, 333, 334, 335, 336, 89, 337, 338, 339, 340, 341, 342, 343, 344, 345, 346, 347, 237, 238, 239, 240, 90, 92, 241, 242, 243, 377, 378, 379, 433, 434, 435, 436, 736, 737, 738, 739, 740, 741, 742, 743, 744, 745, 746, 747, 748, 749, 750, 751, 752, 753, 754, 755, 756, 757, 758, 759, 760, 761, 762, 763, 764] (by decide +kernel) (by decide +kernel)
set_option maxRecDepth 20000 in
theorem gL_law_X7_shut : GoodIn wsL_law (wsV RL 64 RX7 yX7_shut wsX7_shut) := goodIn_app (goodIn_of _ (by decide +kernel)) ggL_law_X7_shut
set_option maxRecDepth 20000 in
theorem ggL_law_X6_rests : GoodIn wsL_law wsX6_rests := goodIn_r _ [474, 30, 21, 17, 150, 352, 353, 354, 2, 355, 106, 394, 395, 396, 20, 397, 54, 398, 399, 400, 401, 55, 475, 309, 310, 16, 311, 45, 299, 312, 313, 148, 314, 725, 726, 727, 728, 729, 730, 731, 732, 733, 734, 735, 765, 766, 767, 768, 769, 770, 771, 772] (by decide +kernel) (by decide +kernel)
set_option maxRecDepth 20000 in
theorem gL_law_X6_rests : GoodIn wsL_law (wsV RL 65 RX6 yX6_rests wsX6_rests) := goodIn_app (goodIn_of _ (by decide +kernel)) ggL_law_X6_rests
set_option maxRecDepth 20000 in
theorem ggL_law_X7_rests : GoodIn wsL_law wsX7_rests := goodIn_r _ [479, 166, 418, 419, 420, 5, 421, 213, 422, 95, 91, 337, 338, 339, 340, 211, 341, 342, 343, 433, 434, 435, 436, 736, 737, 738, 739, 740, 741, 742, 743, 744, 745, 746, 747, 748, 749, 750, 751, 752, 753, 754, 755, 756, 757, 758, 759, 760, 761, 762, 763, 764] (by decide +kernel) (by decide +kernel)
set_option maxRecDepth 20000 in
theorem gL_law_X7_rests : GoodIn wsL_law (wsV RL 69 RX7 yX7_rests wsX7_rests) := goodIn_app (goodIn_of _ (by decide +kernel)) ggL_law_X7_rests
set_option maxRecDepth 20000 in
theorem ggL_law_X6_clears : GoodIn wsL_law wsX6_clears := goodIn_r _ [483, 30, 21, 152, 17, 150, 219, 220, 221, 2, 222, 106, 268, 269, 270, 394, 395, 396, 20, 397, 54, 398, 399, 400, 401, 55, 475, 309, 310, 16, 311, 45, 299, 312, 313, 148, 314, 725, 726, 727, 728, 729, 730, 731, 732, 733, 734, 735, 771, 772, 765, 766, 767, 768, 769, 770] (by decide +kernel) (by decide +kernel)
set_option maxRecDepth 20000 in
theorem gL_law_X6_clears : GoodIn wsL_law (wsV RL 70 RX6 yX6_clears wsX6_clears) := goodIn_app (goodIn_of _ (by decide +kernel)) ggL_law_X6_clears
set_option maxRecDepth 20000 in
theorem ggL_law_X7_clears : GoodIn wsL_law wsX7_clears := goodIn_r _ [487, 91, 233, 234, 235, 5, 236, 166, 170, 171, 172, 418, 419, 420, 421, 213, 422, 95, 337, 338, 339, 340, 211, 341, 342, 343, 433, 434, 435, 436, 736, 737, 738, 739, 740, 741, 742, 743, 744, 745, 746, 747, 748, 749, 750, 751, 752, 753, 754, 755, 756, 757, 758, 759, 760, 761, 762, 763, 764] (by decide +kernel) (by decide +kernel)
set_option maxRecDepth 20000 in
theorem gL_law_X7_clears : GoodIn wsL_law (wsV RL 73 RX7 yX7_clears wsX7_clears) := goodIn_app (goodIn_of _ (by decide +kernel)) ggL_law_X7_clears
set_option maxRecDepth 20000 in
theorem ggL_law_X6_perches : GoodIn wsL_law wsX6_perches := goodIn_r _ [491, 17, 106, 36, 492, 21, 493, 352, 353, 354, 2, 355, 494, 495, 496, 497, 152, 498, 499, 500, 35, 501, 74, 72, 73, 502, 399, 400, 401, 223, 224, 225, 16, 226, 48, 49, 227, 228, 725, 726, 727, 728, 729, 730, 731, 732, 733, 734, 735, 765, 766, 767, 768, 769, 770, 780, 781, 782, 771, 772] (by decide +kernel) (by decide +kernel)
set_option maxRecDepth 20000 in
theorem gL_law_X6_perches : GoodIn wsL_law (wsV RL 74 RX6 yX6_perches wsX6_perches) := goodIn_app (goodIn_of _ (by decide +kernel)) ggL_law_X6_perches
set_option maxRecDepth 20000 in
theorem ggL_law_X7_perches : GoodIn wsL_law wsX7_perches := goodIn_r _ [506, 166, 97, 170, 171, 5, 172, 507, 508, 509, 510, 91, 96, 448, 449, 450, 451, 452, 453, 454, 341, 342, 343, 237, 238, 239, 240, 90, 92, 241, 242, 243, 233, 234, 235, 236, 736, 737, 738, 739, 740, 741, 742, 743, 744, 745, 746, 747, 748, 749, 750, 751, 752, 753, 754, 755, 756, 757, 758, 759, 760, 761, 762, 763, 764] (by decide +kernel) (by decide +kernel)
set_option maxRecDepth 20000 in
theorem gL_law_X7_perches : GoodIn wsL_law (wsV RL 77 RX7 yX7_perches wsX7_perches) := goodIn_app (goodIn_of _ (by decide +kernel)) ggL_law_X7_perches
set_option maxRecDepth 20000 in
theorem ggL_law_X6_found : GoodIn wsL_law wsX6_found := goodIn_r _ [514, 39, 13, 17, 106, 144, 105, 107, 108, 2, 109, 110, 111, 112, 352, 353, 354, 355, 113, 114, 115, 41, 116, 78, 79, 117, 118, 119, 120, 81, 121, 122, 123, 124, 515, 516, 517, 518, 30, 21, 150, 394, 395, 396, 20, 397, 54, 398, 399, 400, 401, 55, 295, 296, 297, 16, 298, 299, 47, 300, 147, 148, 149, 301, 302, 303, 304, 305, 306, 307, 308, 309, 310, 311, 45, 312, 313, 314, 315, 316, 317, 318, 319, 320, 321, 322, 323, 324, 224, 225, 226, 48, 49, 227, 228, 519, 520, 521, 522, 152, 725, 726, 727, 728, 729, 730, 731, 732, 733, 734, 735, 765, 766, 767, 768, 769, 770, 783, 784, 785, 786, 771, 772] (by decide +kernel) (by decide +kernel)
set_option maxRecDepth 20000 in
theorem gL_law_X6_found : GoodIn wsL_law (wsV RL 78 RX6 yX6_found wsX6_found) := goodIn_app (goodIn_of _ (by decide +kernel)) ggL_law_X6_found
set_option maxRecDepth 20000 in
theorem ggL_law_X7_found : GoodIn wsL_law wsX7_found := goodIn_r _ [526, 164, 166, 210, 167, 168, 5, 169, 170, 171, 172, 173, 174, 175, 176, 177, 178, 179, 86, 87, 180, 181, 182, 183, 527, 528, 529, 530, 91, 88, 418, 419, 420, 421, 213, 422, 95, 329, 330, 331, 332, 333, 334, 335, 336, 89, 337, 338, 339, 340, 211, 341, 342, 343, 344, 345, 346, 347, 237, 238, 239, 240, 90, 92, 241, 242, 243, 433, 434, 435, 436, 736, 737, 738, 739, 740, 741, 742, 743, 744, 745, 746, 747, 748, 749, 750, 751, 752, 753, 754, 755, 756, 757, 758, 759, 760, 761, 762, 763, 764] (by decide +kernel) (by decide +kernel)
set_option maxRecDepth 20000 in
theorem gL_law_X7_found : GoodIn wsL_law (wsV RL 81 RX7 yX7_found wsX7_found) := goodIn_app (goodIn_of _ (by decide +kernel)) ggL_law_X7_found
set_option maxRecDepth 20000 in
theorem ggL_law_X6_reading : GoodIn wsL_law wsX6_reading := goodIn_r _ [534, 25, 155, 219, 220, 221, 2, 222, 17, 106, 268, 269, 270, 535, 536, 537, 24, 538, 59, 60, 61, 62, 725, 726, 727, 728, 729, 730, 731, 732, 733, 734, 735, 773, 774, 775, 776, 765, 766, 767, 768, 769, 770] (by decide +kernel) (by decide +kernel)
set_option maxRecDepth 20000 in
theorem gL_law_X6_reading : GoodIn wsL_law (wsV RL 82 RX6 yX6_reading wsX6_reading) := goodIn_app (goodIn_of _ (by decide +kernel)) ggL_law_X6_reading
set_option maxRecDepth 20000 in
theorem ggL_law_X7_reading : GoodIn wsL_law wsX7_reading := goodIn_r _ [542, 214, 98, 99, 100, 233, 234, 235, 5, 236, 166, 170, 171, 172, 736, 737, 738, 739, 740, 741, 742, 743, 744, 745, 746, 747, 748, 749, 750, 751, 752, 753, 754, 755, 756, 757, 758, 759, 760, 761, 762, 763, 764] (by decide +kernel) (by decide +kernel)
set_option maxRecDepth 20000 in
theorem gL_law_X7_reading : GoodIn wsL_law (wsV RL 86 RX7 yX7_reading wsX7_reading) := goodIn_app (goodIn_of _ (by decide +kernel)) ggL_law_X7_reading
set_option maxRecDepth 20000 in
theorem ggL_law_X6_back : GoodIn wsL_law wsX6_back := goodIn_r _ [546, 25, 155, 725, 726, 727, 728, 729, 730, 731, 732, 733, 734, 735, 773, 774, 775, 776] (by decide +kernel) (by decide +kernel)
set_option maxRecDepth 20000 in
theorem gL_law_X6_back : GoodIn wsL_law (wsV RL 87 RX6 yX6_back wsX6_back) := goodIn_app (goodIn_of _ (by decide +kernel)) ggL_law_X6_back
set_option maxRecDepth 20000 in
theorem ggL_law_X7_back : GoodIn wsL_law wsX7_back := goodIn_r _ [550, 214, 170, 171, 5, 172, 736, 737, 738, 739, 740, 741, 742, 743, 744, 745, 746, 747, 748, 749, 750, 751, 752, 753, 754, 755, 756, 757, 758, 759, 760, 761, 762, 763, 764] (by decide +kernel) (by decide +kernel)
set_option maxRecDepth 20000 in
theorem gL_law_X7_back : GoodIn wsL_law (wsV RL 90 RX7 yX7_back wsX7_back) := goodIn_app (goodIn_of _ (by decide +kernel)) ggL_law_X7_back
set_option maxRecDepth 20000 in
theorem ggL_law_X6_strengths : GoodIn wsL_law wsX6_strengths := goodIn_r _ [554, 25, 17, 151, 219, 220, 221, 2, 222, 106, 555, 227, 228, 556, 557, 558, 24, 559, 59, 60, 61, 62, 560, 224, 225, 16, 226, 48, 49, 725, 726, 727, 728, 729, 730, 731, 732, 733, 734, 735, 765, 766, 767, 768, 769, 770, 773, 774, 775, 776] (by decide +kernel) (by decide +kernel)
set_option maxRecDepth 20000 in
theorem gL_law_X6_strengths : GoodIn wsL_law (wsV RL 91 RX6 yX6_strengths wsX6_strengths) := goodIn_app (goodIn_of _ (by decide +kernel)) ggL_law_X6_strengths
set_option maxRecDepth 20000 in
theorem ggL_law_X7_strengths : GoodIn wsL_law wsX7_strengths := goodIn_r _ [564, 92, 233, 234, 235, 5, 236, 166, 565, 566, 567, 568, 214, 99, 98, 100, 237, 238, 239, 240, 90, 241, 242, 243, 736, 737, 738, 739, 740, 741, 742, 743, 744, 745, 746, 747, 748, 749, 750, 751, 752, 753, 754, 755, 756, 757, 758, 759, 760, 761, 762, 763, 764] (by decide +kernel) (by decide +kernel)
set_option maxRecDepth 20000 in
theorem gL_law_X7_strengths : GoodIn wsL_law (wsV RL 94 RX7 yX7_strengths wsX7_strengths) := goodIn_app (goodIn_of _ (by decide +kernel)) ggL_law_X7_strengths
set_option maxRecDepth 20000 in
theorem ggL_law_X6_kinds : GoodIn wsL_law wsX6_kinds := goodIn_r _ [572, 25, 17, 153, 219, 220, 221, 2, 222, 106, 555, 227, 228, 556, 557, 558, 24, 559, 59, 60, 61, 62, 560, 224, 225, 16, 226, 48, 49, 725, 726, 727, 728, 729, 730, 731, 732, 733, 734, 735, 765, 766, 767, 768, 769, 770, 773, 774, 775, 776] (by decide +kernel) (by decide +kernel)
set_option maxRecDepth 20000 in
theorem gL_law_X6_kinds : GoodIn wsL_law (wsV RL 95 RX6 yX6_kinds wsX6_kinds) := goodIn_app (goodIn_of _ (by decide +kernel)) ggL_law_X6_kinds
set_option maxRecDepth 20000 in
theorem ggL_law_X7_kinds : GoodIn wsL_law wsX7_kinds := goodIn_r _ [576, 90, 233, 234, 235, 5, 236, 166, 565, 566, 567, 568, 214, 99, 98, 100, 237, 238, 239, 240, 92, 241, 242, 243, 736, 737, 738, 739, 740, 741, 742, 743, 744, 745, 746, 747, 748, 749, 750, 751, 752, 753, 754, 755, 756, 757, 758, 759, 760, 761, 762, 763, 764] (by decide +kernel) (by decide +kernel)
set_option maxRecDepth 20000 in
theorem gL_law_X7_kinds : GoodIn wsL_law (wsV RL 98 RX7 yX7_kinds wsX7_kinds) := goodIn_app (goodIn_of _ (by decide +kernel)) ggL_law_X7_kinds
set_option maxRecDepth 20000 in
theorem ggL_law_X6_odds : GoodIn wsL_law wsX6_odds := goodIn_r _ [580, 581, 17, 106, 144, 219, 220, 221, 2, 222, 515, 516, 517, 518, 30, 21, 150, 394, 395, 396, 20, 397, 54, 398, 399, 400, 401, 55, 295, 296, 297, 16, 298, 299, 47, 300, 147, 148, 149, 301, 302, 303, 304, 305, 306, 307, 308, 309, 310, 311, 45, 312, 313, 314, 315, 316, 317, 318, 319, 320, 321, 322, 323, 324, 224, 225, 226, 48, 49, 227, 228, 365, 582, 583, 584, 725, 726, 727, 728, 729, 730, 731, 732, 733, 734, 735, 765, 766, 767, 768, 769, 770, 771, 772] (by decide +kernel) (by decide +kernel)
set_option maxRecDepth 20000 in
theorem gL_law_X6_odds : GoodIn wsL_law (wsV RL 99 RX6 yX6_odds wsX6_odds) := goodIn_app (goodIn_of _ (by decide +kernel)) ggL_law_X6_odds
set_option maxRecDepth 20000 in
theorem ggL_law_X7_odds : GoodIn wsL_law wsX7_odds := goodIn_r _ [588, 589, 166, 210, 213, 233, 234, 235, 5, 236, 170, 171, 172, 418, 419, 420, 421, 422, 95, 91, 329, 330, 331, 332, 333, 334, 335, 336, 89, 337, 338, 339, 340, 211, 341, 342, 343, 344, 345, 346, 347, 237, 238, 239, 240, 90, 92, 241, 242, 243, 433, 434, 435, 436, 590, 591, 592, 736, 737, 738, 739, 740, 741, 742, 743, 744, 745, 746, 747, 748, 749, 750, 751, 752, 753, 754, 755, 756, 757, 758, 759, 760, 761, 762, 763, 764] (by decide +kernel) (by decide +kernel)
set_option maxRecDepth 20000 in
theorem gL_law_X7_odds : GoodIn wsL_law (wsV RL 103 RX7 yX7_odds wsX7_odds) := goodIn_app (goodIn_of _ (by decide +kernel)) ggL_law_X7_odds
set_option maxRecDepth 20000 in
theorem ggL_law_X6_sheet : GoodIn wsL_law wsX6_sheet := goodIn_r _ [596, 39, 13, 107, 108, 2, 109, 110, 111, 112, 121, 122, 123, 124, 597, 598, 599, 41, 600, 78, 79, 81, 80, 725, 726, 727, 728, 729, 730, 731, 732, 733, 734, 735, 783, 784, 785, 786] (by decide +kernel) (by decide +kernel)
set_option maxRecDepth 20000 in
theorem gL_law_X6_sheet : GoodIn wsL_law (wsV RL 104 RX6 yX6_sheet wsX6_sheet) := goodIn_app (goodIn_of _ (by decide +kernel)) ggL_law_X6_sheet
set_option maxRecDepth 20000 in
theorem ggL_law_X7_sheet : GoodIn wsL_law wsX7_sheet := goodIn_r _ [604, 164, 86, 87, 88, 167, 168, 5, 169, 170, 171, 172, 173, 174, 175, 180, 181, 182, 183, 736, 737, 738, 739, 740, 741, 742, 743, 744, 745, 746, 747, 748, 749, 750, 751, 752, 753, 754, 755, 756, 757, 758, 759, 760, 761, 762, 763, 764] (by decide +kernel) (by decide +kernel)
set_option maxRecDepth 20000 in
theorem gL_law_X7_sheet : GoodIn wsL_law (wsV RL 107 RX7 yX7_sheet wsX7_sheet) := goodIn_app (goodIn_of _ (by decide +kernel)) ggL_law_X7_sheet
set_option maxRecDepth 20000 in
theorem ggL_law_X6_lose : GoodIn wsL_law wsX6_lose := goodIn_r _ [608, 13, 609, 107, 108, 2, 109, 725, 726, 727, 728, 729, 730, 731, 732, 733, 734, 735, 783, 784, 785, 786] (by decide +kernel) (by decide +kernel)
set_option maxRecDepth 20000 in
theorem gL_law_X6_lose : GoodIn wsL_law (wsV RL 108 RX6 yX6_lose wsX6_lose) := goodIn_app (goodIn_of _ (by decide +kernel)) ggL_law_X6_lose
set_option maxRecDepth 20000 in
theorem ggL_law_X7_lose : GoodIn wsL_law wsX7_lose := goodIn_r _ [613, 86, 167, 168, 5, 169, 170, 171, 172, 736, 737, 738, 739, 740, 741, 742, 743, 744, 745, 746, 747, 748, 749, 750, 751, 752, 753, 754, 755, 756, 757, 758, 759, 760, 761, 762, 763, 764] (by decide +kernel) (by decide +kernel)
set_option maxRecDepth 20000 in
theorem gL_law_X7_lose : GoodIn wsL_law (wsV RL 111 RX7 yX7_lose wsX7_lose) := goodIn_app (goodIn_of _ (by decide +kernel)) ggL_law_X7_lose
set_option maxRecDepth 20000 in
theorem ggL_law_X6_put : GoodIn wsL_law wsX6_put := goodIn_r _ [617, 39, 13, 618, 105, 107, 108, 2, 109, 113, 114, 115, 41, 116, 78, 79, 117, 118, 119, 120, 81, 121, 122, 123, 124, 619, 620, 621, 725, 726, 727, 728, 729, 730, 731, 732, 733, 734, 735, 783, 784, 785, 786] (by decide +kernel) (by decide +kernel)
set_option maxRecDepth 20000 in
theorem gL_law_X6_put : GoodIn wsL_law (wsV RL 112 RX6 yX6_put wsX6_put) := goodIn_app (goodIn_of _ (by decide +kernel)) ggL_law_X6_put
set_option maxRecDepth 20000 in
theorem ggL_law_X7_put : GoodIn wsL_law wsX7_put := goodIn_r _ [625, 164, 86, 87, 88, 167, 168, 5, 169, 170, 171, 172, 180, 181, 182, 183, 736, 737, 738, 739, 740, 741, 742, 743, 744, 745, 746, 747, 748, 749, 750, 751, 752, 753, 754, 755, 756, 757, 758, 759, 760, 761, 762, 763, 764] (by decide +kernel) (by decide +kernel)
set_option maxRecDepth 20000 in
theorem gL_law_X7_put : GoodIn wsL_law (wsV RL 115 RX7 yX7_put wsX7_put) := goodIn_app (goodIn_of _ (by decide +kernel)) ggL_law_X7_put
set_option maxRecDepth 20000 in
theorem ggL_law_X6_cell : GoodIn wsL_law wsX6_cell := goodIn_r _ [629, 39, 581, 13, 105, 107, 108, 2, 109, 110, 111, 112, 113, 114, 115, 41, 116, 78, 79, 117, 118, 119, 120, 81, 121, 122, 123, 124, 725, 726, 727, 728, 729, 730, 731, 732, 733, 734, 735, 783, 784, 785, 786] (by decide +kernel) (by decide +kernel)
set_option maxRecDepth 20000 in
theorem gL_law_X6_cell : GoodIn wsL_law (wsV RL 116 RX6 yX6_cell wsX6_cell) := goodIn_app (goodIn_of _ (by decide +kernel)) ggL_law_X6_cell
set_option maxRecDepth 20000 in
theorem ggL_law_X7_cell : GoodIn wsL_law wsX7_cell := goodIn_r _ [633, 164, 589, 86, 87, 88, 167, 168, 5, 169, 170, 171, 172, 173, 174, 175, 634, 635, 636, 637, 736, 737, 738, 739, 740, 741, 742, 743, 744, 745, 746, 747, 748, 749, 750, 751, 752, 753, 754, 755, 756, 757, 758, 759, 760, 761, 762, 763, 764] (by decide +kernel) (by decide +kernel)
set_option maxRecDepth 20000 in
theorem gL_law_X7_cell : GoodIn wsL_law (wsV RL 120 RX7 yX7_cell wsX7_cell) := goodIn_app (goodIn_of _ (by decide +kernel)) ggL_law_X7_cell
set_option maxRecDepth 20000 in
theorem ggL_law_X6_copy : GoodIn wsL_law wsX6_copy := goodIn_r _ [641, 39, 13, 609, 618, 105, 642, 399, 400, 401, 107, 108, 2, 109, 121, 122, 123, 124, 643, 118, 119, 41, 120, 81, 725, 726, 727, 728, 729, 730, 731, 732, 733, 734, 735, 783, 784, 785, 786] (by decide +kernel) (by decide +kernel)
set_option maxRecDepth 20000 in
theorem gL_law_X6_copy : GoodIn wsL_law (wsV RL 121 RX6 yX6_copy wsX6_copy) := goodIn_app (goodIn_of _ (by decide +kernel)) ggL_law_X6_copy
set_option maxRecDepth 20000 in
theorem ggL_law_X7_copy : GoodIn wsL_law wsX7_copy := goodIn_r _ [647, 164, 86, 87, 88, 167, 168, 5, 169, 170, 171, 172, 180, 181, 182, 183, 736, 737, 738, 739, 740, 741, 742, 743, 744, 745, 746, 747, 748, 749, 750, 751, 752, 753, 754, 755, 756, 757, 758, 759, 760, 761, 762, 763, 764] (by decide +kernel) (by decide +kernel)
set_option maxRecDepth 20000 in
theorem gL_law_X7_copy : GoodIn wsL_law (wsV RL 124 RX7 yX7_copy wsX7_copy) := goodIn_app (goodIn_of _ (by decide +kernel)) ggL_law_X7_copy
set_option maxRecDepth 20000 in
theorem ggL_law_X6_tell : GoodIn wsL_law wsX6_tell := goodIn_r _ [651, 17, 151, 219, 220, 221, 2, 222, 106, 652, 653, 654, 655, 656, 657, 658, 659, 38, 660, 661, 662, 663, 664, 665, 666, 667, 153, 725, 726, 727, 728, 729, 730, 731, 732, 733, 734, 735, 765, 766, 767, 768, 769, 770] (by decide +kernel) (by decide +kernel)
set_option maxRecDepth 20000 in
theorem gL_law_X6_tell : GoodIn wsL_law (wsV RL 125 RX6 yX6_tell wsX6_tell) := goodIn_app (goodIn_of _ (by decide +kernel)) ggL_law_X6_tell
set_option maxRecDepth 20000 in
theorem ggL_law_X7_tell : GoodIn wsL_law wsX7_tell := goodIn_r _ [671, 92, 90, 233, 234, 235, 5, 236, 166, 672, 673, 674, 675, 676, 736, 737, 738, 739, 740, 741, 742, 743, 744, 745, 746, 747, 748, 749, 750, 751, 752, 753, 754, 755, 756, 757, 758, 759, 760, 761, 762, 763, 764] (by decide +kernel) (by decide +kernel)
set_option maxRecDepth 20000 in
theorem gL_law_X7_tell : GoodIn wsL_law (wsV RL 128 RX7 yX7_tell wsX7_tell) := goodIn_app (goodIn_of _ (by decide +kernel)) ggL_law_X7_tell
set_option maxRecDepth 20000 in
theorem ggL_law_X6_sign : GoodIn wsL_law wsX6_sign := goodIn_r _ [680, 17, 151, 219, 220, 221, 2, 222, 106, 681, 682, 683, 684, 656, 657, 658, 659, 38, 685, 686, 687, 688, 725, 726, 727, 728, 729, 730, 731, 732, 733, 734, 735, 765, 766, 767, 768, 769, 770] (by decide +kernel) (by decide +kernel)
set_option maxRecDepth 20000 in
theorem gL_law_X6_sign : GoodIn wsL_law (wsV RL 129 RX6 yX6_sign wsX6_sign) := goodIn_app (goodIn_of _ (by decide +kernel)) ggL_law_X6_sign
set_option maxRecDepth 20000 in
theorem ggL_law_X7_sign : GoodIn wsL_law wsX7_sign := goodIn_r _ [692, 90, 233, 234, 235, 5, 236, 166, 672, 673, 674, 675, 676, 736, 737, 738, 739, 740, 741, 742, 743, 744, 745, 746, 747, 748, 749, 750, 751, 752, 753, 754, 755, 756, 757, 758, 759, 760, 761, 762, 763, 764] (by decide +kernel) (by decide +kernel)
set_option maxRecDepth 20000 in
theorem gL_law_X7_sign : GoodIn wsL_law (wsV RL 132 RX7 yX7_sign wsX7_sign) := goodIn_app (goodIn_of _ (by decide +kernel)) ggL_law_X7_sign
set_option maxRecDepth 20000 in
theorem ggL_law_X6_as : GoodIn wsL_law wsX6_as := goodIn_r _ [696, 39, 17, 151, 219, 220, 221, 2, 222, 106, 121, 122, 123, 124, 725, 726, 727, 728, 729, 730, 731, 732, 733, 734, 735, 765, 766, 767, 768, 769, 770] (by decide +kernel) (by decide +kernel)
set_option maxRecDepth 20000 in
theorem gL_law_X6_as : GoodIn wsL_law (wsV RL 133 RX6 yX6_as wsX6_as) := goodIn_app (goodIn_of _ (by decide +kernel)) ggL_law_X6_as
set_option maxRecDepth 20000 in
theorem ggL_law_X7_as : GoodIn wsL_law wsX7_as := goodIn_r _ [700, 164, 90, 233, 234, 235, 5, 236, 166, 170, 171, 172, 180, 181, 182, 183, 736, 737, 738, 739, 740, 741, 742, 743, 744, 745, 746, 747, 748, 749, 750, 751, 752, 753, 754, 755, 756, 757, 758, 759, 760, 761, 762, 763, 764] (by decide +kernel) (by decide +kernel)
set_option maxRecDepth 20000 in
theorem gL_law_X7_as : GoodIn wsL_law (wsV RL 136 RX7 yX7_as wsX7_as) := goodIn_app (goodIn_of _ (by decide +kernel)) ggL_law_X7_as
set_option maxRecDepth 20000 in
theorem ggL_law_X6_trace : GoodIn wsL_law wsX6_trace := goodIn_r _ [704, 38, 725, 726, 727, 728, 729, 730, 731, 732, 733, 734, 735] (by decide +kernel) (by decide +kernel)
set_option maxRecDepth 20000 in
theorem gL_law_X6_trace : GoodIn wsL_law (wsV RL 137 RX6 yX6_trace wsX6_trace) := goodIn_app (goodIn_of _ (by decide +kernel)) ggL_law_X6_trace
set_option maxRecDepth 20000 in
theorem ggL_law_X7_trace : GoodIn wsL_law wsX7_trace := goodIn_r _ [708, 676, 736, 737, 738, 739, 740, 741, 742, 743, 744, 745, 746, 747, 748, 749, 750, 751, 752, 753, 754, 755, 756, 757, 758, 759, 760, 761, 762, 763, 764] (by decide +kernel) (by decide +kernel)
set_option maxRecDepth 20000 in
theorem gL_law_X7_trace : GoodIn wsL_law (wsV RL 140 RX7 yX7_trace wsX7_trace) := goodIn_app (goodIn_of _ (by decide +kernel)) ggL_law_X7_trace
set_option maxRecDepth 20000 in
theorem ggL_law_X6_fault : GoodIn wsL_law wsX6_fault := goodIn_r _ [712, 39, 725, 726, 727, 728, 729, 730, 731, 732, 733, 734, 735] (by decide +kernel) (by decide +kernel)
set_option maxRecDepth 20000 in
theorem gL_law_X6_fault : GoodIn wsL_law (wsV RL 141 RX6 yX6_fault wsX6_fault) := goodIn_app (goodIn_of _ (by decide +kernel)) ggL_law_X6_fault
set_option maxRecDepth 20000 in
theorem ggL_law_X7_fault : GoodIn wsL_law wsX7_fault := goodIn_r _ [716, 164, 736, 737, 738, 739, 740, 741, 742, 743, 744, 745, 746, 747, 748, 749, 750, 751, 752, 753, 754, 755, 756, 757, 758, 759, 760, 761, 762, 763, 764] (by decide +kernel) (by decide +kernel)
set_option maxRecDepth 20000 in
theorem gL_law_X7_fault : GoodIn wsL_law (wsV RL 144 RX7 yX7_fault wsX7_fault) := goodIn_app (goodIn_of _ (by decide +kernel)) ggL_law_X7_fault
set_option maxRecDepth 20000 in
theorem ggL_law_X6_many : GoodIn wsL_law wsX6_many := goodIn_r _ [720, 17, 106, 144, 37, 21, 154, 25, 155, 366, 367, 368, 369, 370, 371, 372, 725, 726, 727, 728, 729, 730, 731, 732, 733, 734, 735, 765, 766, 767, 768, 769, 770, 771, 772, 773, 774, 775, 776] (by decide +kernel) (by decide +kernel)
set_option maxRecDepth 20000 in
theorem gL_law_X6_many : GoodIn wsL_law (wsV RL 145 RX6 yX6_many wsX6_many) := goodIn_app (goodIn_of _ (by decide +kernel)) ggL_law_X6_many
set_option maxRecDepth 20000 in
theorem ggL_law_X7_many : GoodIn wsL_law wsX7_many := goodIn_r _ [724, 166, 210, 212, 213, 214, 377, 378, 5, 379, 736, 737, 738, 739, 740, 741, 742, 743, 744, 745, 746, 747, 748, 749, 750, 751, 752, 753, 754, 755, 756, 757, 758, 759, 760, 761, 762, 763, 764] (by decide +kernel) (by decide +kernel)
set_option maxRecDepth 20000 in
theorem gL_law_X7_many : GoodIn wsL_law (wsV RL 148 RX7 yX7_many wsX7_many) := goodIn_app (goodIn_of _ (by decide +kernel)) ggL_law_X7_many
theorem dL_law_0 : decode cL_law 0 = .ok (.new 7, 3) := by decide +kernel
theorem dL_law_3 : decode cL_law 3 = .ok (.dup, 1) := by decide +kernel
theorem dL_law_4 : decode cL_law 4 = .ok (.invokespecial 9, 3) := by decide +kernel
theorem dL_law_7 : decode cL_law 7 = .ok (.astore_n 1, 1) := by decide +kernel
theorem dL_law_8 : decode cL_law 8 = .ok (.new 10, 3) := by decide +kernel
theorem dL_law_11 : decode cL_law 11 = .ok (.dup, 1) := by decide +kernel
theorem dL_law_12 : decode cL_law 12 = .ok (.invokespecial 12, 3) := by decide +kernel
theorem dL_law_15 : decode cL_law 15 = .ok (.astore_n 2, 1) := by decide +kernel
theorem dL_law_16 : decode cL_law 16 = .ok (.iconst 0, 1) := by decide +kernel
theorem dL_law_17 : decode cL_law 17 = .ok (.istore_n 3, 1) := by decide +kernel
