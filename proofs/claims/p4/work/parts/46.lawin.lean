set_option maxRecDepth 20000 in
theorem lwinG_X0 : GoodIn lw_tbl wsX00 := goodIn_r _ [109] (by decide +kernel) (by decide +kernel)
theorem lwin_X0 : ∀ w ∈ wsX00, w ∈ lw_tbl := fun w h => (lwinG_X0 w h).1
set_option maxRecDepth 20000 in
theorem lwinG_X1 : GoodIn lw_tbl wsX10 := goodIn_r _ [164, 166, 168, 170] (by decide +kernel) (by decide +kernel)
theorem lwin_X1 : ∀ w ∈ wsX10, w ∈ lw_tbl := fun w h => (lwinG_X1 w h).1
set_option maxRecDepth 20000 in
theorem lwinG_X2 : GoodIn lw_tbl wsX20 := goodIn_r _ [204, 206, 208, 210, 212] (by decide +kernel) (by decide +kernel)
theorem lwin_X2 : ∀ w ∈ wsX20, w ∈ lw_tbl := fun w h => (lwinG_X2 w h).1
set_option maxRecDepth 20000 in
theorem lwinG_X3 : GoodIn lw_tbl wsX30 := goodIn_r _ [134, 136, 138, 140, 142, 144] (by decide +kernel) (by decide +kernel)
theorem lwin_X3 : ∀ w ∈ wsX30, w ∈ lw_tbl := fun w h => (lwinG_X3 w h).1
set_option maxRecDepth 20000 in
theorem lwinG_X4 : GoodIn lw_tbl wsX40 := goodIn_r _ [240, 242, 244, 246, 248, 250, 252, 254, 256, 258, 260, 262] (by decide +kernel) (by decide +kernel)
theorem lwin_X4 : ∀ w ∈ wsX40, w ∈ lw_tbl := fun w h => (lwinG_X4 w h).1
set_option maxRecDepth 20000 in
theorem lwinG_X5 : GoodIn lw_tbl wsX50 := goodIn_r _ [182, 184, 186] (by decide +kernel) (by decide +kernel)
theorem lwin_X5 : ∀ w ∈ wsX50, w ∈ lw_tbl := fun w h => (lwinG_X5 w h).1
set_option maxRecDepth 20000 in
theorem lwinG_X6 : GoodIn lw_tbl wsX60 := goodIn_r _ [272, 274, 276, 278, 280, 282, 284] (by decide +kernel) (by decide +kernel)
theorem lwin_X6 : ∀ w ∈ wsX60, w ∈ lw_tbl := fun w h => (lwinG_X6 w h).1
set_option maxRecDepth 20000 in
theorem lwinG_X7 : GoodIn lw_tbl wsX70 := goodIn_r _ [771, 773, 775, 777, 779, 781, 783, 785, 787, 789, 791, 793, 795, 797, 799, 801, 803, 805, 807, 809, 811, 813, 815, 817, 819, 821] (by decide +kernel) (by decide +kernel)
theorem lwin_X7 : ∀ w ∈ wsX70, w ∈ lw_tbl := fun w h => (lwinG_X7 w h).1
set_option maxRecDepth 20000 in
theorem gq_X6_init : GoodIn lw_tbl wsX6_init := goodIn_r _ [98, 99, 100, 101, 102, 103, 81, 265, 113, 114, 82, 266, 148, 149, 83, 267, 173, 174, 84, 268, 189, 190, 85, 269, 215, 216, 86, 270, 104, 105, 106, 107, 112, 108, 116, 117, 118, 119, 121, 147, 123, 129, 120, 151, 152, 153, 154, 156, 155, 175, 176, 177, 178, 180, 179, 191, 192, 193, 194, 195, 198, 197, 200, 201, 202, 203, 196, 217, 218, 219, 220, 230, 221, 222, 223, 109, 272, 274, 276, 278, 280, 282, 284, 134, 136, 138, 140, 142, 144, 164, 166, 168, 170, 182, 184, 186, 204, 206, 208, 210, 212, 240, 242, 244, 246, 248, 250, 252, 254, 256, 258, 260, 262] (by decide +kernel) (by decide +kernel)
set_option maxRecDepth 20000 in
theorem gq_X7_init : GoodIn lw_tbl wsX7_init := goodIn_r _ [742, 743, 100, 101, 533, 746, 744, 747, 748, 749, 147, 755, 824, 759, 760, 764, 767, 769, 771, 773, 775, 777, 779, 781, 783, 785, 787, 789, 791, 793, 795, 797, 799, 801, 803, 805, 807, 809, 811, 813, 815, 817, 819, 821] (by decide +kernel) (by decide +kernel)
