/-! ===== words of the law, 1 ===== -/
set_option maxRecDepth 20000 in
theorem inX0 : ∀ w ∈ wsX00, w ∈ lw_tbl := mem_r _ [241, 243, 245] (by decide +kernel)
set_option maxRecDepth 20000 in
theorem inX1 : ∀ w ∈ wsX10, w ∈ lw_tbl := mem_r _ [141, 143, 145, 147, 149, 151, 153, 155, 157, 159] (by decide +kernel)
set_option maxRecDepth 20000 in
theorem inX2 : ∀ w ∈ wsX20, w ∈ lw_tbl := mem_r _ [261, 263, 265, 267, 269] (by decide +kernel)
set_option maxRecDepth 20000 in
theorem inX3 : ∀ w ∈ wsX30, w ∈ lw_tbl := mem_r _ [226, 228] (by decide +kernel)
set_option maxRecDepth 20000 in
theorem inX4 : ∀ w ∈ wsX40, w ∈ lw_tbl := mem_r _ [165, 167] (by decide +kernel)
set_option maxRecDepth 20000 in
theorem inX6 : ∀ w ∈ wsX60, w ∈ lw_tbl := mem_r _ [98, 100, 102, 104, 106] (by decide +kernel)
set_option maxRecDepth 20000 in
theorem inX7 : ∀ w ∈ wsX70, w ∈ lw_tbl := mem_r _ [208, 210, 212, 214] (by decide +kernel)
set_option maxRecDepth 20000 in
theorem inX8 : ∀ w ∈ wsX80, w ∈ lw_tbl := mem_r _ [184, 186, 188, 190, 192] (by decide +kernel)
set_option maxRecDepth 20000 in
theorem inX9 : ∀ w ∈ wsX90, w ∈ lw_tbl := mem_r _ [287, 289, 291] (by decide +kernel)
set_option maxRecDepth 20000 in
theorem inX10 : ∀ w ∈ wsX100, w ∈ lw_tbl := mem_r _ [74, 76] (by decide +kernel)
set_option maxRecDepth 20000 in
theorem inX11 : ∀ w ∈ wsX110, w ∈ lw_tbl := mem_r _ [303, 305, 307, 309, 311, 313, 315, 317, 319] (by decide +kernel)
set_option maxRecDepth 20000 in
theorem inX12 : ∀ w ∈ wsX120, w ∈ lw_tbl := mem_r _ [833, 835, 837, 839, 841, 843, 845, 847, 849, 851, 853, 855, 857, 859, 861, 863, 865, 867, 869, 871, 873, 875, 877, 879, 881, 883, 885, 887, 889, 891, 893] (by decide +kernel)
set_option maxRecDepth 20000 in
theorem gT_X11_init : GoodIn lw_tbl (wsX11_init) := goodIn_r _ [59, 60, 61, 62, 63, 64, 41, 294, 80, 81, 42, 295, 109, 110, 43, 296, 170, 171, 45, 297, 196, 298, 198, 199, 46, 299, 217, 218, 47, 300, 232, 233, 48, 301, 248, 249, 49, 302, 272, 50, 66, 67, 68, 79, 69, 71, 82, 83, 84, 85, 86, 87, 90, 94, 96, 111, 112, 113, 114, 115, 162, 163, 117, 44, 119, 120, 121, 122, 124, 126, 128, 130, 132, 134, 138, 139, 140, 173, 174, 175, 176, 195, 177, 178, 180, 182, 201, 202, 203, 204, 205, 206, 207, 220, 221, 222, 231, 223, 224, 235, 236, 237, 238, 239, 240, 251, 252, 253, 254, 255, 256, 257, 259, 274, 275, 276, 277, 281, 279, 283, 285, 278, 74, 76, 303, 305, 307, 309, 311, 313, 315, 317, 319, 98, 100, 102, 104, 106, 165, 167, 184, 186, 188, 190, 192, 208, 210, 212, 214, 226, 228, 241, 243, 245, 261, 263, 265, 267, 269, 287, 289, 291, 141, 143, 145, 147, 149, 151, 153, 155, 157, 159] (by decide +kernel) (by decide +kernel)
set_option maxRecDepth 20000 in
theorem gT_X12_init : GoodIn lw_tbl (wsX12_init) := goodIn_r _ [800, 801, 61, 62, 79, 802, 805, 810, 813, 814, 818, 231, 819, 821, 822, 825, 195, 826, 827, 828, 829, 830, 831, 832, 806, 807, 808, 809, 833, 835, 837, 839, 841, 843, 845, 847, 849, 851, 853, 855, 857, 859, 861, 863, 865, 867, 869, 871, 873, 875, 877, 879, 881, 883, 885, 887, 889, 891, 893] (by decide +kernel) (by decide +kernel)
set_option maxRecDepth 20000 in
theorem gT_X11_write : GoodIn lw_tbl (wsV RL 15 RX11 yX11_write wsX11_write) := goodIn_r _ [322, 323, 324, 40, 325, 294, 326, 327, 328, 41, 329, 71, 69, 330, 303, 305, 307, 309, 311, 313, 315, 317, 319, 74, 76] (by decide +kernel) (by decide +kernel)
set_option maxRecDepth 20000 in
theorem gT_X12_write : GoodIn lw_tbl (wsV RL 19 RX12 yX12_write wsX12_write) := goodIn_r _ [896, 897, 898, 51, 899, 900, 811, 810, 904, 901, 902, 51, 903, 833, 835, 837, 839, 841, 843, 845, 847, 849, 851, 853, 855, 857, 859, 861, 863, 865, 867, 869, 871, 873, 875, 877, 879, 881, 883, 885, 887, 889, 891, 893] (by decide +kernel) (by decide +kernel)
set_option maxRecDepth 20000 in
theorem gT_X11_wipe : GoodIn lw_tbl (wsV RL 20 RX11 yX11_wipe wsX11_wipe) := goodIn_r _ [331, 332, 333, 40, 334, 294, 72, 303, 305, 307, 309, 311, 313, 315, 317, 319, 74, 76] (by decide +kernel) (by decide +kernel)
set_option maxRecDepth 20000 in
theorem gT_X12_wipe : GoodIn lw_tbl (wsV RL 24 RX12 yX12_wipe wsX12_wipe) := goodIn_r _ [905, 906, 907, 51, 908, 811, 833, 835, 837, 839, 841, 843, 845, 847, 849, 851, 853, 855, 857, 859, 861, 863, 865, 867, 869, 871, 873, 875, 877, 879, 881, 883, 885, 887, 889, 891, 893] (by decide +kernel) (by decide +kernel)
