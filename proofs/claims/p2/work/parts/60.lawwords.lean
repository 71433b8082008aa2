theorem zgm_X0 : GoodIn lw_tbl wsX00 := goodIn_r _ [224, 226, 228, 230, 232, 234, 236, 238, 240, 242, 244, 246, 248, 250, 252, 254, 256] (by decide +kernel) (by decide +kernel)
theorem zgm_X2 : GoodIn lw_tbl wsX20 := goodIn_r _ [153, 155, 157, 159, 161] (by decide +kernel) (by decide +kernel)
theorem zgm_X3 : GoodIn lw_tbl wsX30 := goodIn_r _ [139, 141, 143, 145] (by decide +kernel) (by decide +kernel)
theorem zgm_X4 : GoodIn lw_tbl wsX40 := goodIn_r _ [109, 111, 113, 115, 117, 119] (by decide +kernel) (by decide +kernel)
theorem zgm_X5 : GoodIn lw_tbl wsX50 := goodIn_r _ [511, 513, 515, 517, 519] (by decide +kernel) (by decide +kernel)
theorem zgm_X6 : GoodIn lw_tbl wsX60 := goodIn_r _ [171, 173, 175, 177, 179, 181, 183] (by decide +kernel) (by decide +kernel)
theorem zgm_X7 : GoodIn lw_tbl wsX70 := goodIn_r _ [798, 800, 802, 804, 806, 808, 810, 812, 814, 816, 818, 820, 822, 824, 826, 828, 830, 832, 834, 836, 838, 840, 842, 844, 846, 848, 850, 852, 854, 856, 858, 860, 862, 864, 866, 868, 870, 872, 874, 876, 878, 880, 882, 884, 886, 888] (by decide +kernel) (by decide +kernel)
theorem zin_X0 : ∀ w ∈ wsX00, w ∈ lw_tbl := fun w h => (zgm_X0 w h).1
theorem zin_X2 : ∀ w ∈ wsX20, w ∈ lw_tbl := fun w h => (zgm_X2 w h).1
theorem zin_X3 : ∀ w ∈ wsX30, w ∈ lw_tbl := fun w h => (zgm_X3 w h).1
theorem zin_X4 : ∀ w ∈ wsX40, w ∈ lw_tbl := fun w h => (zgm_X4 w h).1
theorem zin_X5 : ∀ w ∈ wsX50, w ∈ lw_tbl := fun w h => (zgm_X5 w h).1
theorem zin_X6 : ∀ w ∈ wsX60, w ∈ lw_tbl := fun w h => (zgm_X6 w h).1
theorem zin_X7 : ∀ w ∈ wsX70, w ∈ lw_tbl := fun w h => (zgm_X7 w h).1
