/-! ===== words of the law, 2 ===== -/
set_option maxRecDepth 20000 in
theorem gT_X11_fault : GoodIn lw_tbl (wsV RL 25 RX11 yX11_fault wsX11_fault) := goodIn_r _ [335, 336, 337, 40, 338, 294, 339, 340, 341, 41, 342, 71, 69, 343, 344, 345, 346, 347, 42, 348, 303, 305, 307, 309, 311, 313, 315, 317, 319, 74, 76] (by decide +kernel) (by decide +kernel)
set_option maxRecDepth 20000 in
theorem gT_X12_fault : GoodIn lw_tbl (wsV RL 28 RX12 yX12_fault wsX12_fault) := goodIn_r _ [909, 910, 911, 51, 912, 913, 915, 12, 51, 916, 803, 804, 811, 810, 802, 917, 918, 919, 920, 921, 901, 902, 903, 833, 835, 837, 839, 841, 843, 845, 847, 849, 851, 853, 855, 857, 859, 861, 863, 865, 867, 869, 871, 873, 875, 877, 879, 881, 883, 885, 887, 889, 891, 893] (by decide +kernel) (by decide +kernel)
set_option maxRecDepth 20000 in
theorem gT_X11_gutter : GoodIn lw_tbl (wsV RL 29 RX11 yX11_gutter wsX11_gutter) := goodIn_r _ [349, 350, 351, 40, 352, 294, 295, 89, 93, 339, 340, 341, 41, 342, 71, 69, 343, 344, 345, 346, 347, 42, 348, 353, 354, 355, 356, 73, 70, 86, 87, 90, 357, 303, 305, 307, 309, 311, 313, 315, 317, 319, 98, 100, 102, 104, 106, 74, 76] (by decide +kernel) (by decide +kernel)
set_option maxRecDepth 20000 in
theorem gT_X12_gutter : GoodIn lw_tbl (wsV RL 32 RX12 yX12_gutter wsX12_gutter) := goodIn_r _ [922, 923, 924, 51, 925, 805, 802, 803, 806, 804, 807, 913, 915, 12, 51, 916, 811, 810, 917, 918, 919, 920, 921, 901, 902, 903, 833, 835, 837, 839, 841, 843, 845, 847, 849, 851, 853, 855, 857, 859, 861, 863, 865, 867, 869, 871, 873, 875, 877, 879, 881, 883, 885, 887, 889, 891, 893] (by decide +kernel) (by decide +kernel)
set_option maxRecDepth 20000 in
theorem gT_X11_place : GoodIn lw_tbl (wsV RL 33 RX11 yX11_place wsX11_place) := goodIn_r _ [358, 359, 360, 40, 361, 295, 362, 363, 364, 42, 365, 90, 366, 367, 368, 369, 87, 370, 371, 372, 373, 86, 374, 303, 305, 307, 309, 311, 313, 315, 317, 319, 98, 100, 102, 104, 106] (by decide +kernel) (by decide +kernel)
set_option maxRecDepth 20000 in
theorem gT_X12_place : GoodIn lw_tbl (wsV RL 37 RX12 yX12_place wsX12_place) := goodIn_r _ [926, 927, 928, 51, 929, 805, 930, 932, 13, 51, 933, 806, 901, 902, 903, 934, 936, 14, 937, 807, 833, 835, 837, 839, 841, 843, 845, 847, 849, 851, 853, 855, 857, 859, 861, 863, 865, 867, 869, 871, 873, 875, 877, 879, 881, 883, 885, 887, 889, 891, 893] (by decide +kernel) (by decide +kernel)
set_option maxRecDepth 20000 in
theorem gT_X11_mishap : GoodIn lw_tbl (wsV RL 38 RX11 yX11_mishap wsX11_mishap) := goodIn_r _ [375, 376, 377, 40, 378, 295, 95, 97, 379, 380, 40, 381, 303, 305, 307, 309, 311, 313, 315, 317, 319, 98, 100, 102, 104, 106] (by decide +kernel) (by decide +kernel)
set_option maxRecDepth 20000 in
theorem gT_X12_mishap : GoodIn lw_tbl (wsV RL 41 RX12 yX12_mishap wsX12_mishap) := goodIn_r _ [938, 939, 940, 51, 941, 942, 808, 809, 901, 902, 51, 903, 833, 835, 837, 839, 841, 843, 845, 847, 849, 851, 853, 855, 857, 859, 861, 863, 865, 867, 869, 871, 873, 875, 877, 879, 881, 883, 885, 887, 889, 891, 893] (by decide +kernel) (by decide +kernel)
set_option maxRecDepth 20000 in
theorem gT_X11_boat : GoodIn lw_tbl (wsV RL 42 RX11 yX11_boat wsX11_boat) := goodIn_r _ [382, 383, 384, 40, 385, 296, 379, 380, 40, 381, 386, 387, 388, 389, 390, 391, 43, 392, 163, 162, 393, 394, 395, 44, 396, 122, 124, 126, 128, 130, 132, 134, 303, 305, 307, 309, 311, 313, 315, 317, 319, 165, 167, 141, 143, 145, 147, 149, 151, 153, 155, 157, 159] (by decide +kernel) (by decide +kernel)
set_option maxRecDepth 20000 in
theorem gT_X12_boat : GoodIn lw_tbl (wsV RL 46 RX12 yX12_boat wsX12_boat) := goodIn_r _ [943, 944, 945, 51, 946, 947, 948, 942, 812, 813, 901, 902, 51, 903, 949, 950, 951, 833, 835, 837, 839, 841, 843, 845, 847, 849, 851, 853, 855, 857, 859, 861, 863, 865, 867, 869, 871, 873, 875, 877, 879, 881, 883, 885, 887, 889, 891, 893] (by decide +kernel) (by decide +kernel)
set_option maxRecDepth 20000 in
theorem gT_X11_wax : GoodIn lw_tbl (wsV RL 47 RX11 yX11_wax wsX11_wax) := goodIn_r _ [397, 398, 399, 40, 400, 296, 133, 131, 401, 402, 403, 43, 404, 163, 162, 379, 380, 40, 381, 303, 305, 307, 309, 311, 313, 315, 317, 319, 141, 143, 145, 147, 149, 151, 153, 155, 157, 159, 165, 167] (by decide +kernel) (by decide +kernel)
set_option maxRecDepth 20000 in
theorem gT_X12_wax : GoodIn lw_tbl (wsV RL 51 RX12 yX12_wax wsX12_wax) := goodIn_r _ [952, 953, 954, 51, 955, 960, 942, 813, 956, 958, 15, 51, 959, 812, 901, 902, 903, 833, 835, 837, 839, 841, 843, 845, 847, 849, 851, 853, 855, 857, 859, 861, 863, 865, 867, 869, 871, 873, 875, 877, 879, 881, 883, 885, 887, 889, 891, 893] (by decide +kernel) (by decide +kernel)
set_option maxRecDepth 20000 in
theorem gT_X11_coin : GoodIn lw_tbl (wsV RL 52 RX11 yX11_coin wsX11_coin) := goodIn_r _ [405, 406, 407, 40, 408, 296, 401, 402, 403, 43, 404, 163, 162, 409, 410, 411, 44, 412, 122, 128, 379, 380, 40, 381, 413, 414, 415, 416, 124, 417, 418, 419, 420, 134, 138, 139, 140, 303, 305, 307, 309, 311, 313, 315, 317, 319, 165, 167, 141, 143, 145, 147, 149, 151, 153, 155, 157, 159] (by decide +kernel) (by decide +kernel)
set_option maxRecDepth 20000 in
theorem gT_X12_coin : GoodIn lw_tbl (wsV RL 55 RX12 yX12_coin wsX12_coin) := goodIn_r _ [961, 962, 963, 51, 964, 960, 813, 814, 956, 958, 15, 51, 959, 812, 901, 902, 903, 965, 967, 16, 968, 833, 835, 837, 839, 841, 843, 845, 847, 849, 851, 853, 855, 857, 859, 861, 863, 865, 867, 869, 871, 873, 875, 877, 879, 881, 883, 885, 887, 889, 891, 893] (by decide +kernel) (by decide +kernel)
set_option maxRecDepth 20000 in
theorem gT_X11_empty : GoodIn lw_tbl (wsV RL 56 RX11 yX11_empty wsX11_empty) := goodIn_r _ [421, 422, 423, 40, 424, 296, 137, 401, 402, 403, 43, 404, 163, 162, 303, 305, 307, 309, 311, 313, 315, 317, 319, 141, 143, 145, 147, 149, 151, 153, 155, 157, 159, 165, 167] (by decide +kernel) (by decide +kernel)
set_option maxRecDepth 20000 in
theorem gT_X12_empty : GoodIn lw_tbl (wsV RL 60 RX12 yX12_empty wsX12_empty) := goodIn_r _ [969, 970, 971, 51, 972, 813, 956, 958, 15, 51, 959, 812, 901, 902, 903, 833, 835, 837, 839, 841, 843, 845, 847, 849, 851, 853, 855, 857, 859, 861, 863, 865, 867, 869, 871, 873, 875, 877, 879, 881, 883, 885, 887, 889, 891, 893] (by decide +kernel) (by decide +kernel)
set_option maxRecDepth 20000 in
theorem gT_X11_about : GoodIn lw_tbl (wsV RL 61 RX11 yX11_about wsX11_about) := goodIn_r _ [425, 426, 427, 40, 428, 296, 123, 125, 127, 129, 131, 133, 137, 429, 401, 402, 403, 43, 404, 163, 162, 409, 410, 411, 44, 412, 122, 128, 413, 414, 415, 416, 124, 430, 431, 432, 433, 134, 434, 435, 436, 437, 140, 138, 438, 439, 440, 441, 442, 443, 444, 445, 446, 139, 447, 303, 305, 307, 309, 311, 313, 315, 317, 319, 141, 143, 145, 147, 149, 151, 153, 155, 157, 159, 165, 167] (by decide +kernel) (by decide +kernel)
set_option maxRecDepth 20000 in
theorem gT_X12_about : GoodIn lw_tbl (wsV RL 64 RX12 yX12_about wsX12_about) := goodIn_r _ [973, 974, 975, 51, 976, 813, 985, 816, 817, 956, 958, 15, 51, 959, 812, 901, 902, 903, 977, 979, 17, 980, 981, 983, 18, 984, 815, 814, 965, 967, 16, 968, 833, 835, 837, 839, 841, 843, 845, 847, 849, 851, 853, 855, 857, 859, 861, 863, 865, 867, 869, 871, 873, 875, 877, 879, 881, 883, 885, 887, 889, 891, 893] (by decide +kernel) (by decide +kernel)
