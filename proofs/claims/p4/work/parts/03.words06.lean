set_option maxRecDepth 20000 in
theorem inz_X0 : ∀ w ∈ wsX00, w ∈ wq_all := fun w h => (goodIn_r (big := wq_all) wsX00 [109] (by decide +kernel) (by decide +kernel) w h).1
set_option maxRecDepth 20000 in
theorem inz_X1 : ∀ w ∈ wsX10, w ∈ wq_all := fun w h => (goodIn_r (big := wq_all) wsX10 [162, 164, 166, 168] (by decide +kernel) (by decide +kernel) w h).1
set_option maxRecDepth 20000 in
theorem inz_X2 : ∀ w ∈ wsX20, w ∈ wq_all := fun w h => (goodIn_r (big := wq_all) wsX20 [202, 204, 206, 208, 210] (by decide +kernel) (by decide +kernel) w h).1
set_option maxRecDepth 20000 in
theorem inz_X3 : ∀ w ∈ wsX30, w ∈ wq_all := fun w h => (goodIn_r (big := wq_all) wsX30 [133, 135, 137, 139, 141, 143] (by decide +kernel) (by decide +kernel) w h).1
set_option maxRecDepth 20000 in
theorem inz_X4 : ∀ w ∈ wsX40, w ∈ wq_all := fun w h => (goodIn_r (big := wq_all) wsX40 [238, 240, 242, 244, 246, 248, 250, 252, 254, 256, 258, 260] (by decide +kernel) (by decide +kernel) w h).1
set_option maxRecDepth 20000 in
theorem inz_X5 : ∀ w ∈ wsX50, w ∈ wq_all := fun w h => (goodIn_r (big := wq_all) wsX50 [180, 182, 184] (by decide +kernel) (by decide +kernel) w h).1
set_option maxRecDepth 20000 in
theorem inz_X6 : ∀ w ∈ wsX60, w ∈ wq_all := fun w h => (goodIn_r (big := wq_all) wsX60 [270, 272, 274, 276, 278, 280, 282] (by decide +kernel) (by decide +kernel) w h).1
set_option maxRecDepth 20000 in
theorem inz_X7 : ∀ w ∈ wsX70, w ∈ wq_all := fun w h => (goodIn_r (big := wq_all) wsX70 [719, 721, 723, 725, 727, 729, 731, 733, 735, 737, 739, 741, 743, 745, 747, 749, 751, 753, 755, 757, 759, 761, 763, 765, 767, 769] (by decide +kernel) (by decide +kernel) w h).1

