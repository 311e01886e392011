set_option maxRecDepth 20000 in
theorem wi_wsX6 : GoodIn lw_tbl wsX60 := goodIn_r _ [200, 202, 204, 206, 208, 210, 212, 214, 216, 218, 220] (by decide +kernel) (by decide +kernel)
theorem inX6 : ∀ w ∈ wsX60, w ∈ lw_tbl := fun w h => (wi_wsX6 w h).1
set_option maxRecDepth 20000 in
theorem wi_wsX7 : GoodIn lw_tbl wsX70 := goodIn_r _ [715, 717, 719, 721, 723, 725, 727, 729, 731, 733, 735, 737, 739, 741, 743, 745, 747, 749, 751, 753, 755, 757, 759, 761, 763, 765, 767, 769, 771, 773, 775, 777, 779, 781, 783, 785, 787, 789, 791, 793, 795, 797] (by decide +kernel) (by decide +kernel)
theorem inX7 : ∀ w ∈ wsX70, w ∈ lw_tbl := fun w h => (wi_wsX7 w h).1
set_option maxRecDepth 20000 in
theorem wi_wsJx4a65c : GoodIn lw_tbl wsJx4a65c0 := goodIn_r _ [99, 95, 97] (by decide +kernel) (by decide +kernel)
theorem inJx4a65c : ∀ w ∈ wsJx4a65c0, w ∈ lw_tbl := fun w h => (wi_wsJx4a65c w h).1
set_option maxRecDepth 20000 in
theorem wi_wsX5 : GoodIn lw_tbl wsX50 := goodIn_r _ [114, 116] (by decide +kernel) (by decide +kernel)
theorem inX5 : ∀ w ∈ wsX50, w ∈ lw_tbl := fun w h => (wi_wsX5 w h).1
set_option maxRecDepth 20000 in
theorem wi_wsX4 : GoodIn lw_tbl wsX40 := goodIn_r _ [129, 131, 133] (by decide +kernel) (by decide +kernel)
theorem inX4 : ∀ w ∈ wsX40, w ∈ lw_tbl := fun w h => (wi_wsX4 w h).1
set_option maxRecDepth 20000 in
theorem wi_wsX1 : GoodIn lw_tbl wsX10 := goodIn_r _ [150, 152, 154, 156] (by decide +kernel) (by decide +kernel)
theorem inX1 : ∀ w ∈ wsX10, w ∈ lw_tbl := fun w h => (wi_wsX1 w h).1
set_option maxRecDepth 20000 in
theorem wi_wsX0 : GoodIn lw_tbl wsX00 := goodIn_r _ [174, 176, 178, 180, 182] (by decide +kernel) (by decide +kernel)
theorem inX0 : ∀ w ∈ wsX00, w ∈ lw_tbl := fun w h => (wi_wsX0 w h).1
set_option maxRecDepth 20000 in
theorem wi_wsX2 : GoodIn lw_tbl wsX20 := goodIn_r _ [359, 361, 363, 365, 367, 369] (by decide +kernel) (by decide +kernel)
theorem inX2 : ∀ w ∈ wsX20, w ∈ lw_tbl := fun w h => (wi_wsX2 w h).1
set_option maxRecDepth 20000 in
theorem wi_wsX3 : GoodIn lw_tbl wsX30 := goodIn_r _ [476, 478] (by decide +kernel) (by decide +kernel)
theorem inX3 : ∀ w ∈ wsX30, w ∈ lw_tbl := fun w h => (wi_wsX3 w h).1
