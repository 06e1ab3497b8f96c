set_option maxRecDepth 20000 in
theorem lwinG_X0 : GoodIn lw_tbl wsX00 := goodIn_r _ [109] (by decide +kernel) (by decide +kernel)
theorem lwin_X0 : ∀ w ∈ wsX00, w ∈ lw_tbl := fun w h => (lwinG_X0 w h).1
set_option maxRecDepth 20000 in
theorem lwinG_X1 : GoodIn lw_tbl wsX10 := goodIn_r _ [164, 166, 168, 170] (by decide +kernel) (by decide +kernel)
theorem lwin_X1 : ∀ w ∈ wsX10, w ∈ lw_tbl := fun w h => (lwinG_X1 w h).1
set_option maxRecDepth 20000 in
theorem lwinG_X2 : GoodIn lw_tbl wsX20 := goodIn_r _ [204, 206, 208, 210, 212] (by decide +kernel) (by decide +kernel)
theorem lwin_X2 : ∀ w ∈ wsX20, w ∈ lw_tbl := fun w h => (lwinG_X2 w h).1
set_option maxRecDepth 20000 in
theorem lwinG_X3 : GoodIn lw_tbl wsX30 := goodIn_r _ [134, 136, 138, 140, 142, 144] (by decide +kernel) (by decide +kernel)
theorem lwin_X3 : ∀ w ∈ wsX30, w ∈ lw_tbl := fun w h => (lwinG_X3 w h).1
set_option maxRecDepth 20000 in
theorem lwinG_X4 : GoodIn lw_tbl wsX40 := goodIn_r _ [240, 242, 244, 246, 248, 250, 252, 254, 256, 258, 260, 262] (by decide +kernel) (by decide +kernel)
theorem lwin_X4 : ∀ w ∈ wsX40, w ∈ lw_tbl := fun w h => (lwinG_X4 w h).1
set_option maxRecDepth 20000 in
theorem lwinG_X5 : GoodIn lw_tbl wsX50 := goodIn_r _ [182, 184, 186] (by decide +kernel) (by decide +kernel)
theorem lwin_X5 : ∀ w ∈ wsX50, w ∈ lw_tbl := fun w h => (lwinG_X5 w h).1
set_option maxRecDepth 20000 in
theorem lwinG_X6 : GoodIn lw_tbl wsX60 := goodIn_r _ [272, 274, 276, 278, 280, 282, 284] (by decide +kernel) (by decide +kernel)
theorem lwin_X6 : ∀ w ∈ wsX60, w ∈ lw_tbl := fun w h => (lwinG_X6 w h).1
set_option maxRecDepth 20000 in
theorem lwinG_X7 : GoodIn lw_tbl wsX70 := goodIn_r _ [771, 773, 775, 777, 779, 781, 783, 785, 787, 789, 791, 793, 795, 797, 799, 801, 803, 805, 807, 809, 811, 813, 815, 817, 819, 821] (by decide +kernel) (by decide +kernel)
theorem lwin_X7 : ∀ w ∈ wsX70, w ∈ lw_tbl := fun w h => (lwinG_X7 w h).1
set_option maxRecDepth 20000 in
theorem gq_X6_init : GoodIn lw_tbl wsX6_init := goodIn_r _ [98, 99, 100, 101, 102, 103, 81, 265, 113, 114, 82, 266, 148, 149, 83, 267, 173, 174, 84, 268, 189, 190, 85, 269, 215, 216, 86, 270, 104, 105, 106, 107, 112, 108, 116, 117, 118, 119, 121, 147, 123, 129, 120, 151, 152, 153, 154, 156, 155, 175, 176, 177, 178, 180, 179, 191, 192, 193, 194, 195, 198, 197, 200, 201, 202, 203, 196, 217, 218, 219, 220, 230, 221, 222, 223, 109, 272, 274, 276, 278, 280, 282, 284, 134, 136, 138, 140, 142, 144, 164, 166, 168, 170, 182, 184, 186, 204, 206, 208, 210, 212, 240, 242, 244, 246, 248, 250, 252, 254, 256, 258, 260, 262] (by decide +kernel) (by decide +kernel)
set_option maxRecDepth 20000 in
theorem gq_X7_init : GoodIn lw_tbl wsX7_init := goodIn_r _ [742, 743, 100, 101, 533, 746, 744, 747, 748, 749, 147, 755, 824, 759, 760, 764, 767, 769, 771, 773, 775, 777, 779, 781, 783, 785, 787, 789, 791, 793, 795, 797, 799, 801, 803, 805, 807, 809, 811, 813, 815, 817, 819, 821] (by decide +kernel) (by decide +kernel)
set_option maxRecDepth 20000 in
theorem gq_X6_feed : GoodIn lw_tbl (wsV RL 24 RX6 yX6_feed wsX6_feed) := goodIn_app (goodIn_of _ (by decide +kernel)) (goodIn_r _ [290, 271, 291, 293, 0, 80, 294, 265, 295, 296, 297, 81, 298, 108, 299, 300, 272, 274, 276, 278, 280, 282, 284, 109] (by decide +kernel) (by decide +kernel))
set_option maxRecDepth 20000 in
theorem gq_X7_feed : GoodIn lw_tbl (wsV RL 28 RX7 yX7_feed wsX7_feed) := goodIn_app (goodIn_of _ (by decide +kernel)) (goodIn_r _ [1019, 745, 770, 769, 771, 773, 775, 777, 779, 781, 783, 785, 787, 789, 791, 793, 795, 797, 799, 801, 803, 805, 807, 809, 811, 813, 815, 817, 819, 821] (by decide +kernel) (by decide +kernel))
set_option maxRecDepth 20000 in
theorem gq_X6_end : GoodIn lw_tbl (wsV RL 29 RX6 yX6_end wsX6_end) := goodIn_app (goodIn_of _ (by decide +kernel)) (goodIn_r _ [304, 271, 272, 274, 276, 278, 280, 282, 284] (by decide +kernel) (by decide +kernel))
set_option maxRecDepth 20000 in
theorem gq_X7_end : GoodIn lw_tbl (wsV RL 32 RX7 yX7_end wsX7_end) := goodIn_app (goodIn_of _ (by decide +kernel)) (goodIn_r _ [1023, 745, 770, 833, 834, 87, 835, 771, 773, 775, 777, 779, 781, 783, 785, 787, 789, 791, 793, 795, 797, 799, 801, 803, 805, 807, 809, 811, 813, 815, 817, 819, 821] (by decide +kernel) (by decide +kernel))
set_option maxRecDepth 20000 in
theorem gq_X6_load : GoodIn lw_tbl (wsV RL 33 RX6 yX6_load wsX6_load) := goodIn_app (goodIn_of _ (by decide +kernel)) (goodIn_r _ [308, 271, 265, 309, 310, 80, 311, 312, 313, 314, 315, 81, 316, 108, 317, 319, 1, 320, 269, 199, 266, 122, 267, 157, 295, 296, 297, 298, 299, 300, 321, 322, 323, 85, 324, 325, 326, 202, 203, 327, 328, 329, 82, 330, 129, 123, 125, 121, 127, 331, 332, 333, 334, 335, 336, 337, 338, 339, 83, 340, 162, 158, 341, 156, 160, 343, 342, 344, 346, 2, 347, 200, 349, 197, 350, 201, 348, 272, 274, 276, 278, 280, 282, 284, 109, 204, 206, 208, 210, 212, 134, 136, 138, 140, 142, 144, 164, 166, 168, 170] (by decide +kernel) (by decide +kernel))
set_option maxRecDepth 20000 in
theorem gq_X7_load : GoodIn lw_tbl (wsV RL 37 RX7 yX7_load wsX7_load) := goodIn_app (goodIn_of _ (by decide +kernel)) (goodIn_r _ [1027, 745, 744, 770, 746, 769, 748, 749, 833, 834, 87, 835, 894, 896, 49, 897, 878, 747, 879, 880, 857, 858, 859, 860, 861, 898, 900, 50, 901, 750, 751, 753, 758, 756, 902, 904, 51, 905, 752, 755, 866, 868, 43, 869, 870, 872, 44, 873, 757, 771, 773, 775, 777, 779, 781, 783, 785, 787, 789, 791, 793, 795, 797, 799, 801, 803, 805, 807, 809, 811, 813, 815, 817, 819, 821] (by decide +kernel) (by decide +kernel))
set_option maxRecDepth 20000 in
theorem gq_X6_reset : GoodIn lw_tbl (wsV RL 38 RX6 yX6_reset wsX6_reset) := goodIn_app (goodIn_of _ (by decide +kernel)) (goodIn_r _ [354, 270, 355, 356, 357, 86, 358, 221, 389, 226, 224, 228, 230, 236, 359, 360, 361, 85, 362, 363, 364, 365, 366, 367, 325, 326, 202, 203, 368, 369, 370, 82, 371, 131, 129, 372, 373, 374, 375, 127, 121, 125, 331, 314, 315, 81, 316, 108, 376, 377, 378, 83, 379, 158, 162, 380, 381, 382, 383, 160, 156, 343, 342, 384, 385, 386, 387, 198, 200, 349, 197, 350, 201, 388, 272, 274, 276, 278, 280, 282, 284, 240, 242, 244, 246, 248, 250, 252, 254, 256, 258, 260, 262, 204, 206, 208, 210, 212, 134, 136, 138, 140, 142, 144, 109, 164, 166, 168, 170] (by decide +kernel) (by decide +kernel))
set_option maxRecDepth 20000 in
theorem gq_X7_reset : GoodIn lw_tbl (wsV RL 41 RX7 yX7_reset wsX7_reset) := goodIn_app (goodIn_of _ (by decide +kernel)) (goodIn_r _ [1031, 745, 852, 762, 761, 763, 764, 768, 767, 1032, 1034, 78, 87, 1035, 857, 858, 859, 860, 861, 833, 834, 835, 874, 876, 45, 877, 746, 878, 747, 879, 880, 771, 773, 775, 777, 779, 781, 783, 785, 787, 789, 791, 793, 795, 797, 799, 801, 803, 805, 807, 809, 811, 813, 815, 817, 819, 821] (by decide +kernel) (by decide +kernel))
set_option maxRecDepth 20000 in
theorem gq_X7_run : GoodIn lw_tbl (wsV RL 47 RX7 yX7_run wq_X7_run) := goodIn_app (goodIn_of _ (by decide +kernel)) (goodIn_r _ [832, 745, 764, 833, 834, 87, 835, 771, 773, 775, 777, 779, 781, 783, 785, 787, 789, 791, 793, 795, 797, 799, 801, 803, 805, 807, 809, 811, 813, 815, 817, 819, 821] (by decide +kernel) (by decide +kernel))
set_option maxRecDepth 20000 in
theorem gq_X7_thrown : GoodIn lw_tbl (wsV RL 48 RX7 yX7_thrown wsX7_thrown) := goodIn_app (goodIn_of _ (by decide +kernel)) (goodIn_r _ [828, 745, 771, 773, 775, 777, 779, 781, 783, 785, 787, 789, 791, 793, 795, 797, 799, 801, 803, 805, 807, 809, 811, 813, 815, 817, 819, 821] (by decide +kernel) (by decide +kernel))
set_option maxRecDepth 20000 in
theorem gq_X6_state : GoodIn lw_tbl (wsV RL 52 RX6 yX6_state wsX6_state) := goodIn_app (goodIn_of _ (by decide +kernel)) (goodIn_r _ [393, 270, 225, 227, 229, 231, 233, 235, 269, 394, 360, 361, 85, 362, 363, 364, 365, 366, 367, 325, 326, 202, 203, 368, 369, 370, 82, 371, 131, 129, 372, 373, 374, 375, 127, 121, 125, 331, 314, 315, 81, 316, 108, 376, 377, 378, 83, 379, 158, 162, 380, 381, 382, 383, 160, 156, 343, 342, 384, 385, 386, 387, 198, 200, 349, 197, 350, 201, 388, 272, 274, 276, 278, 280, 282, 284, 240, 242, 244, 246, 248, 250, 252, 254, 256, 258, 260, 262, 204, 206, 208, 210, 212, 134, 136, 138, 140, 142, 144, 109, 164, 166, 168, 170] (by decide +kernel) (by decide +kernel))
set_option maxRecDepth 20000 in
theorem gq_X7_state : GoodIn lw_tbl (wsV RL 55 RX7 yX7_state wsX7_state) := goodIn_app (goodIn_of _ (by decide +kernel)) (goodIn_r _ [1039, 745, 761, 762, 763, 764, 765, 766, 833, 834, 87, 835, 886, 888, 47, 889, 881, 1032, 1034, 78, 1035, 857, 858, 859, 860, 861, 874, 876, 45, 877, 746, 878, 747, 879, 880, 771, 773, 775, 777, 779, 781, 783, 785, 787, 789, 791, 793, 795, 797, 799, 801, 803, 805, 807, 809, 811, 813, 815, 817, 819, 821] (by decide +kernel) (by decide +kernel))
set_option maxRecDepth 20000 in
theorem gq_X6_peek : GoodIn lw_tbl (wsV RL 56 RX6 yX6_peek wsX6_peek) := goodIn_app (goodIn_of _ (by decide +kernel)) (goodIn_r _ [398, 312, 269, 399, 385, 386, 85, 387, 198, 200, 349, 197, 350, 201, 388, 314, 315, 81, 316, 108, 272, 274, 276, 278, 280, 282, 284, 204, 206, 208, 210, 212, 109] (by decide +kernel) (by decide +kernel))
set_option maxRecDepth 20000 in
theorem gq_X7_peek : GoodIn lw_tbl (wsV RL 59 RX7 yX7_peek wsX7_peek) := goodIn_app (goodIn_of _ (by decide +kernel)) (goodIn_r _ [1043, 745, 881, 833, 834, 87, 835, 874, 876, 45, 877, 746, 878, 747, 879, 880, 771, 773, 775, 777, 779, 781, 783, 785, 787, 789, 791, 793, 795, 797, 799, 801, 803, 805, 807, 809, 811, 813, 815, 817, 819, 821] (by decide +kernel) (by decide +kernel))
set_option maxRecDepth 20000 in
theorem gq_X6_set : GoodIn lw_tbl (wsV RL 60 RX6 yX6_set wsX6_set) := goodIn_app (goodIn_of _ (by decide +kernel)) (goodIn_r _ [403, 270, 404, 225, 227, 405, 229, 231, 272, 274, 276, 278, 280, 282, 284, 240, 242, 244, 246, 248, 250, 252, 254, 256, 258, 260, 262] (by decide +kernel) (by decide +kernel))
set_option maxRecDepth 20000 in
theorem gq_X7_set : GoodIn lw_tbl (wsV RL 64 RX7 yX7_set wsX7_set) := goodIn_app (goodIn_of _ (by decide +kernel)) (goodIn_r _ [1047, 745, 852, 761, 762, 1015, 763, 764, 833, 834, 87, 835, 771, 773, 775, 777, 779, 781, 783, 785, 787, 789, 791, 793, 795, 797, 799, 801, 803, 805, 807, 809, 811, 813, 815, 817, 819, 821] (by decide +kernel) (by decide +kernel))
set_option maxRecDepth 20000 in
theorem gq_X6_picture : GoodIn lw_tbl (wsV RL 65 RX6 yX6_picture wsX6_picture) := goodIn_app (goodIn_of _ (by decide +kernel)) (goodIn_r _ [409, 266, 126, 128, 130, 133, 124, 272, 274, 276, 278, 280, 282, 284, 134, 136, 138, 140, 142, 144] (by decide +kernel) (by decide +kernel))
set_option maxRecDepth 20000 in
theorem gq_X7_picture : GoodIn lw_tbl (wsV RL 68 RX7 yX7_picture wsX7_picture) := goodIn_app (goodIn_of _ (by decide +kernel)) (goodIn_r _ [1051, 745, 755, 750, 751, 753, 754, 833, 834, 87, 835, 771, 773, 775, 777, 779, 781, 783, 785, 787, 789, 791, 793, 795, 797, 799, 801, 803, 805, 807, 809, 811, 813, 815, 817, 819, 821] (by decide +kernel) (by decide +kernel))
set_option maxRecDepth 20000 in
theorem gq_X7_vram : GoodIn lw_tbl (wsV RL 71 RX7 yX7_vram wsX7_vram) := goodIn_app (goodIn_of _ (by decide +kernel)) (goodIn_r _ [1055, 745, 748, 833, 834, 87, 835, 771, 773, 775, 777, 779, 781, 783, 785, 787, 789, 791, 793, 795, 797, 799, 801, 803, 805, 807, 809, 811, 813, 815, 817, 819, 821] (by decide +kernel) (by decide +kernel))
set_option maxRecDepth 20000 in
theorem gq_X6_grom : GoodIn lw_tbl (wsV RL 72 RX6 yX6_grom wsX6_grom) := goodIn_app (goodIn_of _ (by decide +kernel)) (goodIn_r _ [413, 267, 159, 161, 163, 272, 274, 276, 278, 280, 282, 284, 164, 166, 168, 170] (by decide +kernel) (by decide +kernel))
set_option maxRecDepth 20000 in
theorem gq_X7_grom : GoodIn lw_tbl (wsV RL 75 RX7 yX7_grom wsX7_grom) := goodIn_app (goodIn_of _ (by decide +kernel)) (goodIn_r _ [1059, 745, 756, 757, 758, 771, 773, 775, 777, 779, 781, 783, 785, 787, 789, 791, 793, 795, 797, 799, 801, 803, 805, 807, 809, 811, 813, 815, 817, 819, 821] (by decide +kernel) (by decide +kernel))
set_option maxRecDepth 20000 in
theorem gq_X6_frame : GoodIn lw_tbl (wsV RL 76 RX6 yX6_frame wsX6_frame) := goodIn_app (goodIn_of _ (by decide +kernel)) (goodIn_r _ [417, 266, 133, 272, 274, 276, 278, 280, 282, 284, 134, 136, 138, 140, 142, 144] (by decide +kernel) (by decide +kernel))
set_option maxRecDepth 20000 in
theorem gq_X7_frame : GoodIn lw_tbl (wsV RL 79 RX7 yX7_frame wsX7_frame) := goodIn_app (goodIn_of _ (by decide +kernel)) (goodIn_r _ [1063, 745, 754, 771, 773, 775, 777, 779, 781, 783, 785, 787, 789, 791, 793, 795, 797, 799, 801, 803, 805, 807, 809, 811, 813, 815, 817, 819, 821] (by decide +kernel) (by decide +kernel))
set_option maxRecDepth 20000 in
theorem gq_X6_interrupt : GoodIn lw_tbl (wsV RL 80 RX6 yX6_interrupt wsX6_interrupt) := goodIn_app (goodIn_of _ (by decide +kernel)) (goodIn_r _ [421, 270, 237, 272, 274, 276, 278, 280, 282, 284, 240, 242, 244, 246, 248, 250, 252, 254, 256, 258, 260, 262] (by decide +kernel) (by decide +kernel))
set_option maxRecDepth 20000 in
theorem gq_X7_interrupt : GoodIn lw_tbl (wsV RL 84 RX7 yX7_interrupt wsX7_interrupt) := goodIn_app (goodIn_of _ (by decide +kernel)) (goodIn_r _ [1067, 745, 767, 833, 834, 87, 835, 771, 773, 775, 777, 779, 781, 783, 785, 787, 789, 791, 793, 795, 797, 799, 801, 803, 805, 807, 809, 811, 813, 815, 817, 819, 821] (by decide +kernel) (by decide +kernel))
set_option maxRecDepth 20000 in
theorem gq_X6_key : GoodIn lw_tbl (wsV RL 85 RX6 yX6_key wsX6_key) := goodIn_app (goodIn_of _ (by decide +kernel)) (goodIn_r _ [425, 268, 426, 427, 428, 84, 429, 181, 430, 272, 274, 276, 278, 280, 282, 284, 182, 184, 186] (by decide +kernel) (by decide +kernel))
set_option maxRecDepth 20000 in
theorem gq_X7_key : GoodIn lw_tbl (wsV RL 89 RX7 yX7_key wsX7_key) := goodIn_app (goodIn_of _ (by decide +kernel)) (goodIn_r _ [1071, 745, 760, 833, 834, 87, 835, 771, 773, 775, 777, 779, 781, 783, 785, 787, 789, 791, 793, 795, 797, 799, 801, 803, 805, 807, 809, 811, 813, 815, 817, 819, 821] (by decide +kernel) (by decide +kernel))
set_option maxRecDepth 20000 in
theorem gq_X6_out : GoodIn lw_tbl (wsV RL 90 RX6 yX6_out wsX6_out) := goodIn_app (goodIn_of _ (by decide +kernel)) (goodIn_r _ [434, 268, 435, 436, 84, 437, 438, 439, 440, 441, 180, 272, 274, 276, 278, 280, 282, 284, 182, 184, 186] (by decide +kernel) (by decide +kernel))
set_option maxRecDepth 20000 in
theorem gq_X7_out : GoodIn lw_tbl (wsV RL 93 RX7 yX7_out wsX7_out) := goodIn_app (goodIn_of _ (by decide +kernel)) (goodIn_r _ [1075, 745, 759, 833, 834, 87, 835, 771, 773, 775, 777, 779, 781, 783, 785, 787, 789, 791, 793, 795, 797, 799, 801, 803, 805, 807, 809, 811, 813, 815, 817, 819, 821] (by decide +kernel) (by decide +kernel))
set_option maxRecDepth 20000 in
theorem gq_X6_in : GoodIn lw_tbl (wsV RL 94 RX6 yX6_in wsX6_in) := goodIn_app (goodIn_of _ (by decide +kernel)) (goodIn_r _ [445, 268, 435, 436, 84, 437, 446, 447, 448, 449, 179, 132, 181, 450, 439, 440, 441, 180, 272, 274, 276, 278, 280, 282, 284, 182, 184, 186, 134, 136, 138, 140, 142, 144] (by decide +kernel) (by decide +kernel))
set_option maxRecDepth 20000 in
theorem gq_X7_in_ : GoodIn lw_tbl (wsV RL 97 RX7 yX7_in_ wsX7_in_) := goodIn_app (goodIn_of _ (by decide +kernel)) (goodIn_r _ [1079, 745, 833, 834, 87, 835, 969, 971, 67, 972, 754, 759, 760, 771, 773, 775, 777, 779, 781, 783, 785, 787, 789, 791, 793, 795, 797, 799, 801, 803, 805, 807, 809, 811, 813, 815, 817, 819, 821] (by decide +kernel) (by decide +kernel))
set_option maxRecDepth 20000 in
theorem gq_X6_pixel : GoodIn lw_tbl (wsV RL 98 RX6 yX6_pixel wsX6_pixel) := goodIn_app (goodIn_of _ (by decide +kernel)) (goodIn_r _ [454, 266, 455, 456, 457, 82, 458, 123, 121, 331, 314, 315, 81, 316, 108, 272, 274, 276, 278, 280, 282, 284, 134, 136, 138, 140, 142, 144, 109] (by decide +kernel) (by decide +kernel))
set_option maxRecDepth 20000 in
theorem gq_X7_pixel : GoodIn lw_tbl (wsV RL 101 RX7 yX7_pixel wsX7_pixel) := goodIn_app (goodIn_of _ (by decide +kernel)) (goodIn_r _ [1083, 745, 755, 748, 833, 834, 87, 835, 771, 773, 775, 777, 779, 781, 783, 785, 787, 789, 791, 793, 795, 797, 799, 801, 803, 805, 807, 809, 811, 813, 815, 817, 819, 821] (by decide +kernel) (by decide +kernel))
