theorem inlX0 : ∀ w ∈ wsX00, w ∈ wsL_law := fun _ h => List.mem_append_left _ (List.mem_append_right _ h)
theorem inX0 : ∀ w ∈ wsX00, w ∈ lw_tbl := fun w h => wsL_law_in w (inlX0 w h)
theorem inlX1 : ∀ w ∈ wsX10, w ∈ wsL_law := fun _ h => List.mem_append_left _ (List.mem_append_left _ (List.mem_append_left _ (List.mem_append_left _ (List.mem_append_left _ (List.mem_append_left _ (List.mem_append_left _ (List.mem_append_right _ h)))))))
theorem inX1 : ∀ w ∈ wsX10, w ∈ lw_tbl := fun w h => wsL_law_in w (inlX1 w h)
theorem inlX2 : ∀ w ∈ wsX20, w ∈ wsL_law := fun _ h => List.mem_append_left _ (List.mem_append_left _ (List.mem_append_left _ (List.mem_append_left _ (List.mem_append_left _ (List.mem_append_left _ (List.mem_append_left _ (List.mem_append_left _ (List.mem_append_right _ h))))))))
theorem inX2 : ∀ w ∈ wsX20, w ∈ lw_tbl := fun w h => wsL_law_in w (inlX2 w h)
theorem inlX3 : ∀ w ∈ wsX30, w ∈ wsL_law := fun _ h => List.mem_append_left _ (List.mem_append_left _ (List.mem_append_left _ (List.mem_append_left _ (List.mem_append_right _ h))))
theorem inX3 : ∀ w ∈ wsX30, w ∈ lw_tbl := fun w h => wsL_law_in w (inlX3 w h)
theorem inlX4 : ∀ w ∈ wsX40, w ∈ wsL_law := fun _ h => List.mem_append_left _ (List.mem_append_left _ (List.mem_append_left _ (List.mem_append_left _ (List.mem_append_left _ (List.mem_append_right _ h)))))
theorem inX4 : ∀ w ∈ wsX40, w ∈ lw_tbl := fun w h => wsL_law_in w (inlX4 w h)
theorem inlX5 : ∀ w ∈ wsX50, w ∈ wsL_law := fun _ h => List.mem_append_left _ (List.mem_append_left _ (List.mem_append_right _ h))
theorem inX5 : ∀ w ∈ wsX50, w ∈ lw_tbl := fun w h => wsL_law_in w (inlX5 w h)
theorem inlX6 : ∀ w ∈ wsX60, w ∈ wsL_law := fun _ h => List.mem_append_left _ (List.mem_append_left _ (List.mem_append_left _ (List.mem_append_left _ (List.mem_append_left _ (List.mem_append_left _ (List.mem_append_left _ (List.mem_append_left _ (List.mem_append_left _ (List.mem_append_right _ h)))))))))
theorem inX6 : ∀ w ∈ wsX60, w ∈ lw_tbl := fun w h => wsL_law_in w (inlX6 w h)
theorem inlX7 : ∀ w ∈ wsX70, w ∈ wsL_law := fun _ h => List.mem_append_left _ (List.mem_append_left _ (List.mem_append_left _ (List.mem_append_left _ (List.mem_append_left _ (List.mem_append_left _ (List.mem_append_right _ h))))))
theorem inX7 : ∀ w ∈ wsX70, w ∈ lw_tbl := fun w h => wsL_law_in w (inlX7 w h)
theorem inlX8 : ∀ w ∈ wsX80, w ∈ wsL_law := fun _ h => List.mem_append_left _ (List.mem_append_left _ (List.mem_append_left _ (List.mem_append_right _ h)))
theorem inX8 : ∀ w ∈ wsX80, w ∈ lw_tbl := fun w h => wsL_law_in w (inlX8 w h)
theorem inlX9 : ∀ w ∈ wsX90, w ∈ wsL_law := fun _ h => List.mem_append_left _ (List.mem_append_left _ (List.mem_append_left _ (List.mem_append_left _ (List.mem_append_left _ (List.mem_append_left _ (List.mem_append_left _ (List.mem_append_left _ (List.mem_append_left _ (List.mem_append_left _ (List.mem_append_right _ h))))))))))
theorem inX9 : ∀ w ∈ wsX90, w ∈ lw_tbl := fun w h => wsL_law_in w (inlX9 w h)
theorem inlX10 : ∀ w ∈ wsX100, w ∈ wsL_law := fun _ h => List.mem_append_left _ (List.mem_append_left _ (List.mem_append_left _ (List.mem_append_left _ (List.mem_append_left _ (List.mem_append_left _ (List.mem_append_left _ (List.mem_append_left _ (List.mem_append_left _ (List.mem_append_left _ (List.mem_append_left _ (List.mem_append_left _ (List.mem_append_right _ h))))))))))))
theorem inX10 : ∀ w ∈ wsX100, w ∈ lw_tbl := fun w h => wsL_law_in w (inlX10 w h)
theorem inlX11 : ∀ w ∈ wsX110, w ∈ wsL_law := fun _ h => List.mem_append_left _ (List.mem_append_left _ (List.mem_append_left _ (List.mem_append_left _ (List.mem_append_left _ (List.mem_append_left _ (List.mem_append_left _ (List.mem_append_left _ (List.mem_append_left _ (List.mem_append_left _ (List.mem_append_left _ (List.mem_append_right _ h)))))))))))
theorem inX11 : ∀ w ∈ wsX110, w ∈ lw_tbl := fun w h => wsL_law_in w (inlX11 w h)
theorem inJ6 : ∀ w ∈ wsJ60, w ∈ lw_tbl := by decide +kernel
theorem inJ9 : ∀ w ∈ wsJ90, w ∈ lw_tbl := by decide +kernel
theorem inJ0 : ∀ w ∈ wsJ00, w ∈ lw_tbl := by decide +kernel
theorem inJ1 : ∀ w ∈ wsJ10, w ∈ lw_tbl := by decide +kernel
theorem inJ2 : ∀ w ∈ wsJ20, w ∈ lw_tbl := by decide +kernel
theorem inJ10 : ∀ w ∈ wsJ100, w ∈ lw_tbl := by decide +kernel
theorem inJ3 : ∀ w ∈ wsJ30, w ∈ lw_tbl := by decide +kernel
set_option maxRecDepth 20000 in
theorem ggL_law_X10_init : GoodIn wsL_law wsX10_init := goodIn_r _ [8, 9, 10, 11, 12, 13, 14, 15, 16, 17, 18, 19, 20, 21, 22, 23, 24, 25, 26, 27, 28, 29, 30, 31, 32, 33, 34, 35, 36, 37, 38, 39, 40, 41, 42, 43, 44, 45, 46, 47, 48, 49, 50, 51, 52, 53, 54, 55, 56, 57, 58, 59, 60, 61, 62, 63, 64, 65, 66, 67, 68, 69, 70, 71, 72, 73, 74, 75, 76, 77, 78, 79, 80, 81, 82, 83, 84, 85, 86, 87, 88, 89, 90, 91, 92, 93, 94, 95, 96, 97, 1001, 1002, 1003, 1004, 1005, 1006, 1007, 1008, 1009, 1010, 1011, 1012, 1013, 1014, 964, 965, 966, 967, 968, 969, 970, 971, 972, 973, 974, 975, 976, 977, 978, 979, 980, 1015, 1016, 1017, 1018, 1019, 1020, 1021, 1022, 1023, 1024, 1025, 1026, 1027, 1028, 1029, 1030, 1031, 1032, 1033] (by decide +kernel) (by decide +kernel)
set_option maxRecDepth 20000 in
theorem gL_law_X10_init : GoodIn wsL_law (wsX10_init) := ggL_law_X10_init
set_option maxRecDepth 20000 in
theorem ggL_law_X11_init : GoodIn wsL_law wsX11_init := goodIn_r _ [100, 101, 10, 11, 33, 102, 103, 104, 105, 106, 107, 108, 109, 110, 111, 981, 982, 983, 984, 985, 986, 987, 988, 989, 990, 991, 992, 993, 994, 995, 996, 997, 998, 999, 1000] (by decide +kernel) (by decide +kernel)
set_option maxRecDepth 20000 in
theorem gL_law_X11_init : GoodIn wsL_law (wsX11_init) := ggL_law_X11_init
set_option maxRecDepth 20000 in
theorem ggL_law_X10_tongue : GoodIn wsL_law wsX10_tongue := goodIn_r _ [115, 15, 116, 117, 118, 119, 14, 120, 121, 122, 123, 124, 125, 62, 964, 965, 966, 967, 968, 969, 970, 971, 972, 973, 974, 975, 976, 977, 978, 979, 980, 1001, 1002, 1003, 1004, 1005, 1006, 1007, 1008, 1009, 1010, 1011, 1012, 1013, 1014] (by decide +kernel) (by decide +kernel)
set_option maxRecDepth 20000 in
theorem gL_law_X10_tongue : GoodIn wsL_law (wsV RL 13 RX10 yX10_tongue wsX10_tongue) := goodIn_app (goodIn_of _ (by decide +kernel)) ggL_law_X10_tongue
set_option maxRecDepth 20000 in
theorem ggL_law_X11_tongue : GoodIn wsL_law wsX11_tongue := goodIn_r _ [129, 130, 103, 981, 982, 983, 984, 985, 986, 987, 988, 989, 990, 991, 992, 993, 994, 995, 996, 997, 998, 999, 1000] (by decide +kernel) (by decide +kernel)
set_option maxRecDepth 20000 in
theorem gL_law_X11_tongue : GoodIn wsL_law (wsV RL 17 RX11 yX11_tongue wsX11_tongue) := goodIn_app (goodIn_of _ (by decide +kernel)) ggL_law_X11_tongue
set_option maxRecDepth 20000 in
theorem ggL_law_X10_word : GoodIn wsL_law wsX10_word := goodIn_r _ [134, 15, 116, 135, 136, 2, 137, 138, 139, 140, 141, 142, 143, 144, 145, 146, 147, 14, 148, 121, 59, 60, 61, 124, 964, 965, 966, 967, 968, 969, 970, 971, 972, 973, 974, 975, 976, 977, 978, 979, 980, 1001, 1002, 1003, 1004, 1005, 1006, 1007, 1008, 1009, 1010, 1011, 1012, 1013, 1014] (by decide +kernel) (by decide +kernel)
set_option maxRecDepth 20000 in
theorem gL_law_X10_word : GoodIn wsL_law (wsV RL 18 RX10 yX10_word wsX10_word) := goodIn_app (goodIn_of _ (by decide +kernel)) ggL_law_X10_word
set_option maxRecDepth 20000 in
theorem ggL_law_X11_word : GoodIn wsL_law wsX11_word := goodIn_r _ [152, 130, 153, 154, 103, 155, 156, 5, 157, 158, 159, 160, 161, 162, 163, 164, 165, 166, 167, 168, 102, 169, 170, 171, 172, 173, 174, 175, 981, 982, 983, 984, 985, 986, 987, 988, 989, 990, 991, 992, 993, 994, 995, 996, 997, 998, 999, 1000] (by decide +kernel) (by decide +kernel)
set_option maxRecDepth 20000 in
theorem gL_law_X11_word : GoodIn wsL_law (wsV RL 22 RX11 yX11_word wsX11_word) := goodIn_app (goodIn_of _ (by decide +kernel)) ggL_law_X11_word
set_option maxRecDepth 20000 in
theorem ggL_law_X10_alike : GoodIn wsL_law wsX10_alike := goodIn_r _ [179, 15, 135, 136, 2, 137, 138, 139, 140, 141, 142, 143, 144, 180, 181, 182, 14, 183, 62, 184, 185, 186, 187, 964, 965, 966, 967, 968, 969, 970, 971, 972, 973, 974, 975, 976, 977, 978, 979, 980, 1001, 1002, 1003, 1004, 1005, 1006, 1007, 1008, 1009, 1010, 1011, 1012, 1013, 1014] (by decide +kernel) (by decide +kernel)
set_option maxRecDepth 20000 in
theorem gL_law_X10_alike : GoodIn wsL_law (wsV RL 23 RX10 yX10_alike wsX10_alike) := goodIn_app (goodIn_of _ (by decide +kernel)) ggL_law_X10_alike
set_option maxRecDepth 20000 in
theorem ggL_law_X11_alike : GoodIn wsL_law wsX11_alike := goodIn_r _ [191, 130, 103, 155, 156, 5, 157, 153, 158, 159, 160, 161, 162, 163, 164, 165, 166, 167, 168, 102, 192, 193, 194, 981, 982, 983, 984, 985, 986, 987, 988, 989, 990, 991, 992, 993, 994, 995, 996, 997, 998, 999, 1000] (by decide +kernel) (by decide +kernel)
set_option maxRecDepth 20000 in
theorem gL_law_X11_alike : GoodIn wsL_law (wsV RL 26 RX11 yX11_alike wsX11_alike) := goodIn_app (goodIn_of _ (by decide +kernel)) ggL_law_X11_alike
set_option maxRecDepth 20000 in
theorem ggL_law_X10_person : GoodIn wsL_law wsX10_person := goodIn_r _ [198, 15, 199, 135, 136, 2, 137, 138, 139, 140, 141, 142, 143, 144, 200, 201, 202, 14, 203, 122, 63, 64, 964, 965, 966, 967, 968, 969, 970, 971, 972, 973, 974, 975, 976, 977, 978, 979, 980, 1001, 1002, 1003, 1004, 1005, 1006, 1007, 1008, 1009, 1010, 1011, 1012, 1013, 1014] (by decide +kernel) (by decide +kernel)
set_option maxRecDepth 20000 in
theorem gL_law_X10_person : GoodIn wsL_law (wsV RL 27 RX10 yX10_person wsX10_person) := goodIn_app (goodIn_of _ (by decide +kernel)) ggL_law_X10_person
set_option maxRecDepth 20000 in
theorem ggL_law_X11_person : GoodIn wsL_law wsX11_person := goodIn_r _ [207, 130, 208, 153, 103, 158, 159, 5, 160, 161, 162, 163, 164, 165, 166, 167, 168, 102, 169, 170, 171, 172, 209, 210, 211, 981, 982, 983, 984, 985, 986, 987, 988, 989, 990, 991, 992, 993, 994, 995, 996, 997, 998, 999, 1000] (by decide +kernel) (by decide +kernel)
set_option maxRecDepth 20000 in
theorem gL_law_X11_person : GoodIn wsL_law (wsV RL 31 RX11 yX11_person wsX11_person) := goodIn_app (goodIn_of _ (by decide +kernel)) ggL_law_X11_person
set_option maxRecDepth 20000 in
theorem ggL_law_X10_type : GoodIn wsL_law wsX10_type := goodIn_r _ [215, 23, 216, 135, 136, 2, 137, 138, 139, 140, 141, 142, 143, 144, 217, 218, 219, 22, 220, 221, 71, 964, 965, 966, 967, 968, 969, 970, 971, 972, 973, 974, 975, 976, 977, 978, 979, 980, 1015, 1016, 1017, 1018, 1019, 1020, 1021] (by decide +kernel) (by decide +kernel)
set_option maxRecDepth 20000 in
theorem gL_law_X10_type : GoodIn wsL_law (wsV RL 32 RX10 yX10_type wsX10_type) := goodIn_app (goodIn_of _ (by decide +kernel)) ggL_law_X10_type
set_option maxRecDepth 20000 in
theorem ggL_law_X11_type : GoodIn wsL_law wsX11_type := goodIn_r _ [225, 130, 226, 227, 108, 158, 159, 5, 160, 161, 162, 163, 164, 165, 166, 167, 168, 102, 169, 170, 171, 172, 981, 982, 983, 984, 985, 986, 987, 988, 989, 990, 991, 992, 993, 994, 995, 996, 997, 998, 999, 1000] (by decide +kernel) (by decide +kernel)
set_option maxRecDepth 20000 in
theorem gL_law_X11_type : GoodIn wsL_law (wsV RL 36 RX11 yX11_type wsX11_type) := goodIn_app (goodIn_of _ (by decide +kernel)) ggL_law_X11_type
set_option maxRecDepth 20000 in
theorem ggL_law_X10_clear : GoodIn wsL_law wsX10_clear := goodIn_r _ [231, 23, 216, 964, 965, 966, 967, 968, 969, 970, 971, 972, 973, 974, 975, 976, 977, 978, 979, 980, 1015, 1016, 1017, 1018, 1019, 1020, 1021] (by decide +kernel) (by decide +kernel)
set_option maxRecDepth 20000 in
theorem gL_law_X10_clear : GoodIn wsL_law (wsV RL 37 RX10 yX10_clear wsX10_clear) := goodIn_app (goodIn_of _ (by decide +kernel)) ggL_law_X10_clear
set_option maxRecDepth 20000 in
theorem ggL_law_X11_clear : GoodIn wsL_law wsX11_clear := goodIn_r _ [235, 130, 227, 981, 982, 983, 984, 985, 986, 987, 988, 989, 990, 991, 992, 993, 994, 995, 996, 997, 998, 999, 1000] (by decide +kernel) (by decide +kernel)
set_option maxRecDepth 20000 in
theorem gL_law_X11_clear : GoodIn wsL_law (wsV RL 40 RX11 yX11_clear wsX11_clear) := goodIn_app (goodIn_of _ (by decide +kernel)) ggL_law_X11_clear
set_option maxRecDepth 20000 in
theorem ggL_law_X10_read : GoodIn wsL_law wsX10_read := goodIn_r _ [239, 23, 16, 15, 240, 241, 242, 243, 22, 244, 245, 246, 247, 248, 249, 118, 119, 14, 120, 121, 122, 123, 124, 125, 62, 250, 251, 252, 253, 221, 71, 254, 255, 256, 257, 258, 259, 260, 261, 262, 263, 264, 265, 266, 267, 268, 269, 270, 271, 272, 273, 274, 275, 276, 277, 278, 279, 280, 281, 282, 283, 284, 285, 286, 287, 288, 289, 290, 291, 292, 293, 294, 295, 296, 297, 298, 299, 300, 301, 302, 303, 304, 305, 306, 307, 308, 309, 310, 311, 312, 313, 314, 315, 316, 317, 318, 319, 320, 321, 322, 323, 324, 325, 326, 327, 328, 329, 330, 331, 332, 333, 146, 147, 148, 59, 60, 61, 334, 335, 336, 337, 338, 185, 186, 187, 339, 340, 341, 342, 343, 201, 202, 203, 63, 64, 344, 345, 346, 347, 348, 349, 350, 351, 65, 66, 67, 964, 965, 966, 967, 968, 969, 970, 971, 972, 973, 974, 975, 976, 977, 978, 979, 980, 1015, 1016, 1017, 1018, 1019, 1020, 1021, 1001, 1002, 1003, 1004, 1005, 1006, 1007, 1008, 1009, 1010, 1011, 1012, 1013, 1014] (by decide +kernel) (by decide +kernel)
set_option maxRecDepth 20000 in
theorem gL_law_X10_read : GoodIn wsL_law (wsV RL 41 RX10 yX10_read wsX10_read) := goodIn_app (goodIn_of _ (by decide +kernel)) ggL_law_X10_read
set_option maxRecDepth 20000 in
theorem ggL_law_X11_read : GoodIn wsL_law wsX11_read := goodIn_r _ [355, 130, 104, 356, 357, 358, 359, 360, 103, 361, 362, 363, 5, 364, 227, 108, 365, 366, 367, 368, 369, 370, 371, 372, 373, 374, 375, 376, 158, 159, 160, 377, 378, 379, 380, 381, 382, 383, 384, 385, 386, 387, 388, 389, 390, 391, 392, 393, 394, 395, 396, 397, 398, 399, 400, 173, 174, 175, 192, 193, 194, 209, 210, 211, 981, 982, 983, 984, 985, 986, 987, 988, 989, 990, 991, 992, 993, 994, 995, 996, 997, 998, 999, 1000] (by decide +kernel) (by decide +kernel)
set_option maxRecDepth 20000 in
theorem gL_law_X11_read : GoodIn wsL_law (wsV RL 44 RX11 yX11_read wsX11_read) := goodIn_app (goodIn_of _ (by decide +kernel)) ggL_law_X11_read
set_option maxRecDepth 20000 in
theorem ggL_law_X10_ask : GoodIn wsL_law wsX10_ask := goodIn_r _ [404, 15, 405, 406, 407, 408, 2, 409, 199, 135, 136, 137, 410, 411, 412, 413, 116, 138, 139, 140, 141, 142, 143, 144, 414, 415, 416, 417, 19, 418, 419, 420, 421, 422, 423, 424, 425, 55, 426, 427, 428, 429, 430, 43, 431, 432, 433, 434, 435, 436, 40, 437, 438, 439, 440, 441, 14, 442, 121, 59, 443, 444, 445, 446, 447, 60, 448, 449, 46, 450, 451, 452, 453, 454, 455, 52, 456, 457, 458, 459, 460, 461, 462, 463, 464, 49, 465, 466, 467, 468, 469, 470, 471, 472, 124, 65, 348, 349, 350, 351, 123, 964, 965, 966, 967, 968, 969, 970, 971, 972, 973, 974, 975, 976, 977, 978, 979, 980, 1001, 1002, 1003, 1004, 1005, 1006, 1007, 1008, 1009, 1010, 1011, 1012, 1013, 1014] (by decide +kernel) (by decide +kernel)
set_option maxRecDepth 20000 in
theorem gL_law_X10_ask : GoodIn wsL_law (wsV RL 45 RX10 yX10_ask wsX10_ask) := goodIn_app (goodIn_of _ (by decide +kernel)) ggL_law_X10_ask
set_option maxRecDepth 20000 in
theorem ggL_law_X11_ask : GoodIn wsL_law wsX11_ask := goodIn_r _ [476, 130, 103, 477, 478, 479, 5, 480, 158, 159, 160, 481, 482, 483, 484, 161, 162, 163, 164, 165, 166, 167, 168, 102, 485, 486, 487, 488, 489, 490, 491, 492, 493, 494, 495, 496, 497, 498, 499, 500, 501, 502, 503, 504, 505, 506, 507, 508, 509, 510, 511, 512, 513, 514, 515, 516, 517, 518, 519, 520, 521, 522, 523, 524, 525, 526, 527, 528, 529, 530, 531, 981, 982, 983, 984, 985, 986, 987, 988, 989, 990, 991, 992, 993, 994, 995, 996, 997, 998, 999, 1000] (by decide +kernel) (by decide +kernel)
set_option maxRecDepth 20000 in
theorem gL_law_X11_ask : GoodIn wsL_law (wsV RL 48 RX11 yX11_ask wsX11_ask) := goodIn_app (goodIn_of _ (by decide +kernel)) ggL_law_X11_ask
set_option maxRecDepth 20000 in
theorem ggL_law_X10_rest : GoodIn wsL_law wsX10_rest := goodIn_r _ [535, 15, 420, 536, 537, 538, 539, 540, 541, 542, 543, 964, 965, 966, 967, 968, 969, 970, 971, 972, 973, 974, 975, 976, 977, 978, 979, 980, 1001, 1002, 1003, 1004, 1005, 1006, 1007, 1008, 1009, 1010, 1011, 1012, 1013, 1014] (by decide +kernel) (by decide +kernel)
set_option maxRecDepth 20000 in
theorem gL_law_X10_rest : GoodIn wsL_law (wsV RL 49 RX10 yX10_rest wsX10_rest) := goodIn_app (goodIn_of _ (by decide +kernel)) ggL_law_X10_rest
set_option maxRecDepth 20000 in
theorem ggL_law_X11_rest : GoodIn wsL_law wsX11_rest := goodIn_r _ [547, 130, 103, 548, 549, 5, 550, 981, 982, 983, 984, 985, 986, 987, 988, 989, 990, 991, 992, 993, 994, 995, 996, 997, 998, 999, 1000] (by decide +kernel) (by decide +kernel)
set_option maxRecDepth 20000 in
theorem gL_law_X11_rest : GoodIn wsL_law (wsV RL 52 RX11 yX11_rest wsX11_rest) := goodIn_app (goodIn_of _ (by decide +kernel)) ggL_law_X11_rest
set_option maxRecDepth 20000 in
theorem ggL_law_X10_undo : GoodIn wsL_law wsX10_undo := goodIn_r _ [554, 15, 536, 420, 138, 139, 140, 2, 141, 142, 143, 144, 555, 556, 557, 14, 558, 124, 65, 123, 537, 538, 539, 540, 541, 542, 543, 964, 965, 966, 967, 968, 969, 970, 971, 972, 973, 974, 975, 976, 977, 978, 979, 980, 1001, 1002, 1003, 1004, 1005, 1006, 1007, 1008, 1009, 1010, 1011, 1012, 1013, 1014] (by decide +kernel) (by decide +kernel)
set_option maxRecDepth 20000 in
theorem gL_law_X10_undo : GoodIn wsL_law (wsV RL 53 RX10 yX10_undo wsX10_undo) := goodIn_app (goodIn_of _ (by decide +kernel)) ggL_law_X10_undo
set_option maxRecDepth 20000 in
theorem ggL_law_X11_undo : GoodIn wsL_law wsX11_undo := goodIn_r _ [562, 130, 103, 528, 529, 530, 5, 531, 165, 166, 167, 168, 102, 548, 549, 550, 981, 982, 983, 984, 985, 986, 987, 988, 989, 990, 991, 992, 993, 994, 995, 996, 997, 998, 999, 1000] (by decide +kernel) (by decide +kernel)
set_option maxRecDepth 20000 in
theorem gL_law_X11_undo : GoodIn wsL_law (wsV RL 56 RX11 yX11_undo wsX11_undo) := goodIn_app (goodIn_of _ (by decide +kernel)) ggL_law_X11_undo
set_option maxRecDepth 20000 in
theorem ggL_law_X10_of : GoodIn wsL_law wsX10_of := goodIn_r _ [566, 15, 567, 405, 568, 420, 410, 411, 412, 2, 413, 116, 135, 136, 137, 138, 139, 140, 141, 142, 143, 144, 964, 965, 966, 967, 968, 969, 970, 971, 972, 973, 974, 975, 976, 977, 978, 979, 980, 1001, 1002, 1003, 1004, 1005, 1006, 1007, 1008, 1009, 1010, 1011, 1012, 1013, 1014] (by decide +kernel) (by decide +kernel)
set_option maxRecDepth 20000 in
theorem gL_law_X10_of : GoodIn wsL_law (wsV RL 57 RX10 yX10_of wsX10_of) := goodIn_app (goodIn_of _ (by decide +kernel)) ggL_law_X10_of
set_option maxRecDepth 20000 in
theorem ggL_law_X11_of : GoodIn wsL_law wsX11_of := goodIn_r _ [572, 130, 573, 103, 481, 482, 483, 5, 484, 158, 159, 160, 161, 162, 163, 164, 165, 166, 167, 168, 102, 981, 982, 983, 984, 985, 986, 987, 988, 989, 990, 991, 992, 993, 994, 995, 996, 997, 998, 999, 1000] (by decide +kernel) (by decide +kernel)
set_option maxRecDepth 20000 in
theorem gL_law_X11_of : GoodIn wsL_law (wsV RL 60 RX11 yX11_of wsX11_of) := goodIn_app (goodIn_of _ (by decide +kernel)) ggL_law_X11_of
set_option maxRecDepth 20000 in
theorem ggL_law_X10_about : GoodIn wsL_law wsX10_about := goodIn_r _ [577, 15, 418, 419, 406, 407, 408, 2, 409, 199, 135, 136, 137, 138, 139, 140, 141, 142, 143, 144, 964, 965, 966, 967, 968, 969, 970, 971, 972, 973, 974, 975, 976, 977, 978, 979, 980, 1001, 1002, 1003, 1004, 1005, 1006, 1007, 1008, 1009, 1010, 1011, 1012, 1013, 1014] (by decide +kernel) (by decide +kernel)
set_option maxRecDepth 20000 in
theorem gL_law_X10_about : GoodIn wsL_law (wsV RL 61 RX10 yX10_about wsX10_about) := goodIn_app (goodIn_of _ (by decide +kernel)) ggL_law_X10_about
set_option maxRecDepth 20000 in
theorem ggL_law_X11_about : GoodIn wsL_law wsX11_about := goodIn_r _ [581, 130, 103, 477, 478, 479, 5, 480, 158, 159, 160, 161, 162, 163, 164, 165, 166, 167, 168, 102, 981, 982, 983, 984, 985, 986, 987, 988, 989, 990, 991, 992, 993, 994, 995, 996, 997, 998, 999, 1000] (by decide +kernel) (by decide +kernel)
set_option maxRecDepth 20000 in
theorem gL_law_X11_about : GoodIn wsL_law (wsV RL 64 RX11 yX11_about wsX11_about) := goodIn_app (goodIn_of _ (by decide +kernel)) ggL_law_X11_about
set_option maxRecDepth 20000 in
theorem ggL_law_X10_answers : GoodIn wsL_law wsX10_answers := goodIn_r _ [585, 19, 15, 418, 419, 406, 407, 408, 2, 409, 199, 135, 136, 137, 410, 411, 412, 413, 116, 138, 139, 140, 141, 142, 143, 144, 421, 422, 423, 424, 425, 55, 426, 427, 428, 429, 430, 43, 431, 432, 433, 434, 435, 436, 40, 437, 438, 439, 440, 441, 14, 442, 121, 59, 443, 444, 445, 446, 447, 60, 448, 449, 46, 450, 451, 452, 453, 454, 455, 52, 456, 457, 458, 459, 460, 461, 462, 463, 464, 49, 465, 466, 467, 468, 414, 415, 416, 417, 420, 586, 587, 588, 589, 590, 591, 592, 593, 964, 965, 966, 967, 968, 969, 970, 971, 972, 973, 974, 975, 976, 977, 978, 979, 980, 1001, 1002, 1003, 1004, 1005, 1006, 1007, 1008, 1009, 1010, 1011, 1012, 1013, 1014] (by decide +kernel) (by decide +kernel)
set_option maxRecDepth 20000 in
theorem gL_law_X10_answers : GoodIn wsL_law (wsV RL 65 RX10 yX10_answers wsX10_answers) := goodIn_app (goodIn_of _ (by decide +kernel)) ggL_law_X10_answers
set_option maxRecDepth 20000 in
theorem ggL_law_X11_answers : GoodIn wsL_law wsX11_answers := goodIn_r _ [597, 130, 598, 477, 478, 479, 5, 480, 103, 158, 159, 160, 481, 482, 483, 484, 161, 162, 163, 164, 165, 166, 167, 168, 102, 489, 490, 491, 492, 493, 494, 495, 496, 497, 498, 499, 500, 501, 502, 503, 504, 505, 506, 507, 508, 509, 510, 511, 512, 513, 514, 515, 516, 517, 518, 519, 520, 521, 522, 523, 524, 525, 526, 527, 485, 486, 487, 488, 599, 600, 601, 602, 603, 604, 605, 606, 981, 982, 983, 984, 985, 986, 987, 988, 989, 990, 991, 992, 993, 994, 995, 996, 997, 998, 999, 1000] (by decide +kernel) (by decide +kernel)
set_option maxRecDepth 20000 in
theorem gL_law_X11_answers : GoodIn wsL_law (wsV RL 68 RX11 yX11_answers wsX11_answers) := goodIn_app (goodIn_of _ (by decide +kernel)) ggL_law_X11_answers
set_option maxRecDepth 20000 in
theorem ggL_law_X10_asks : GoodIn wsL_law wsX10_asks := goodIn_r _ [610, 15, 116, 406, 407, 408, 2, 409, 199, 135, 136, 137, 138, 139, 140, 141, 142, 143, 144, 586, 587, 588, 589, 414, 415, 416, 417, 19, 418, 419, 420, 421, 422, 423, 424, 425, 55, 426, 427, 428, 429, 430, 43, 431, 432, 433, 434, 435, 436, 40, 437, 438, 439, 440, 441, 14, 442, 121, 59, 443, 444, 445, 446, 447, 60, 448, 449, 46, 450, 451, 452, 453, 454, 455, 52, 456, 457, 458, 459, 460, 461, 462, 463, 464, 49, 465, 466, 467, 468, 590, 591, 592, 593, 964, 965, 966, 967, 968, 969, 970, 971, 972, 973, 974, 975, 976, 977, 978, 979, 980, 1001, 1002, 1003, 1004, 1005, 1006, 1007, 1008, 1009, 1010, 1011, 1012, 1013, 1014] (by decide +kernel) (by decide +kernel)
set_option maxRecDepth 20000 in
theorem gL_law_X10_asks : GoodIn wsL_law (wsV RL 69 RX10 yX10_asks wsX10_asks) := goodIn_app (goodIn_of _ (by decide +kernel)) ggL_law_X10_asks
set_option maxRecDepth 20000 in
theorem ggL_law_X11_asks : GoodIn wsL_law wsX11_asks := goodIn_r _ [614, 130, 153, 103, 477, 478, 479, 5, 480, 158, 159, 160, 161, 162, 163, 164, 165, 166, 167, 168, 102, 599, 600, 601, 602, 485, 486, 487, 488, 489, 490, 491, 492, 493, 494, 495, 496, 497, 498, 499, 500, 501, 502, 503, 504, 505, 506, 507, 508, 509, 510, 511, 512, 513, 514, 515, 516, 517, 518, 519, 520, 521, 522, 523, 524, 525, 526, 527, 603, 604, 605, 606, 981, 982, 983, 984, 985, 986, 987, 988, 989, 990, 991, 992, 993, 994, 995, 996, 997, 998, 999, 1000] (by decide +kernel) (by decide +kernel)
set_option maxRecDepth 20000 in
theorem gL_law_X11_asks : GoodIn wsL_law (wsV RL 72 RX11 yX11_asks wsX11_asks) := goodIn_app (goodIn_of _ (by decide +kernel)) ggL_law_X11_asks
set_option maxRecDepth 20000 in
theorem ggL_law_X10_fewest : GoodIn wsL_law wsX10_fewest := goodIn_r _ [618, 15, 116, 31, 619, 620, 406, 407, 408, 2, 409, 199, 135, 136, 137, 138, 139, 140, 141, 142, 143, 144, 586, 587, 588, 589, 414, 415, 416, 417, 19, 418, 419, 420, 421, 422, 423, 424, 425, 55, 426, 427, 428, 429, 430, 43, 431, 432, 433, 434, 435, 436, 40, 437, 438, 439, 440, 441, 14, 442, 121, 59, 443, 444, 445, 446, 447, 60, 448, 449, 46, 450, 451, 452, 453, 454, 455, 52, 456, 457, 458, 459, 460, 461, 462, 463, 464, 49, 465, 466, 467, 468, 590, 591, 592, 593, 621, 622, 623, 30, 624, 625, 626, 627, 628, 83, 81, 84, 82, 629, 630, 539, 631, 632, 964, 965, 966, 967, 968, 969, 970, 971, 972, 973, 974, 975, 976, 977, 978, 979, 980, 1001, 1002, 1003, 1004, 1005, 1006, 1007, 1008, 1009, 1010, 1011, 1012, 1013, 1014, 1030, 1031, 1032, 1033] (by decide +kernel) (by decide +kernel)
set_option maxRecDepth 20000 in
theorem gL_law_X10_fewest : GoodIn wsL_law (wsV RL 73 RX10 yX10_fewest wsX10_fewest) := goodIn_app (goodIn_of _ (by decide +kernel)) ggL_law_X10_fewest
set_option maxRecDepth 20000 in
theorem ggL_law_X11_fewest : GoodIn wsL_law wsX11_fewest := goodIn_r _ [636, 130, 103, 109, 477, 478, 479, 5, 480, 158, 159, 160, 637, 638, 639, 640, 161, 162, 163, 164, 165, 166, 167, 168, 102, 599, 600, 601, 602, 485, 486, 487, 488, 489, 490, 491, 492, 493, 494, 495, 496, 497, 498, 499, 500, 501, 502, 503, 504, 505, 506, 507, 508, 509, 510, 511, 512, 513, 514, 515, 516, 517, 518, 519, 520, 521, 522, 523, 524, 525, 526, 527, 603, 604, 605, 606, 641, 642, 643, 644, 548, 549, 550, 981, 982, 983, 984, 985, 986, 987, 988, 989, 990, 991, 992, 993, 994, 995, 996, 997, 998, 999, 1000] (by decide +kernel) (by decide +kernel)
set_option maxRecDepth 20000 in
theorem gL_law_X11_fewest : GoodIn wsL_law (wsV RL 76 RX11 yX11_fewest wsX11_fewest) := goodIn_app (goodIn_of _ (by decide +kernel)) ggL_law_X11_fewest
set_option maxRecDepth 20000 in
theorem ggL_law_X10_errand : GoodIn wsL_law wsX10_errand := goodIn_r _ [648, 15, 116, 31, 620, 568, 619, 199, 135, 136, 2, 137, 138, 139, 140, 141, 142, 143, 144, 586, 587, 588, 589, 414, 415, 416, 417, 19, 418, 419, 420, 421, 422, 423, 424, 425, 55, 426, 427, 428, 429, 430, 43, 431, 432, 433, 434, 435, 436, 40, 437, 438, 439, 440, 441, 14, 442, 121, 59, 443, 444, 445, 446, 447, 60, 448, 449, 46, 450, 451, 452, 453, 454, 455, 52, 456, 457, 458, 459, 460, 461, 462, 463, 464, 49, 465, 466, 467, 468, 590, 591, 592, 593, 621, 622, 623, 30, 624, 625, 626, 627, 628, 83, 81, 84, 82, 629, 630, 539, 631, 632, 649, 650, 651, 652, 61, 964, 965, 966, 967, 968, 969, 970, 971, 972, 973, 974, 975, 976, 977, 978, 979, 980, 1001, 1002, 1003, 1004, 1005, 1006, 1007, 1008, 1009, 1010, 1011, 1012, 1013, 1014, 1030, 1031, 1032, 1033] (by decide +kernel) (by decide +kernel)
set_option maxRecDepth 20000 in
theorem gL_law_X10_errand : GoodIn wsL_law (wsV RL 77 RX10 yX10_errand wsX10_errand) := goodIn_app (goodIn_of _ (by decide +kernel)) ggL_law_X10_errand
set_option maxRecDepth 20000 in
theorem ggL_law_X11_errand : GoodIn wsL_law wsX11_errand := goodIn_r _ [656, 130, 103, 109, 637, 638, 5, 639, 640, 158, 159, 160, 657, 658, 659, 660, 165, 166, 167, 168, 102, 599, 600, 601, 602, 485, 486, 487, 488, 489, 490, 491, 492, 493, 494, 495, 496, 497, 498, 499, 500, 501, 502, 503, 504, 505, 506, 507, 508, 509, 510, 511, 512, 513, 514, 515, 516, 517, 518, 519, 520, 521, 522, 523, 524, 525, 526, 527, 603, 604, 605, 606, 641, 642, 643, 644, 981, 982, 983, 984, 985, 986, 987, 988, 989, 990, 991, 992, 993, 994, 995, 996, 997, 998, 999, 1000] (by decide +kernel) (by decide +kernel)
set_option maxRecDepth 20000 in
theorem gL_law_X11_errand : GoodIn wsL_law (wsV RL 80 RX11 yX11_errand wsX11_errand) := goodIn_app (goodIn_of _ (by decide +kernel)) ggL_law_X11_errand
set_option maxRecDepth 20000 in
theorem ggL_law_X10_hear : GoodIn wsL_law wsX10_hear := goodIn_r _ [664, 15, 665, 410, 411, 412, 2, 413, 116, 135, 136, 137, 138, 139, 140, 141, 142, 143, 144, 666, 667, 668, 14, 669, 125, 66, 67, 964, 965, 966, 967, 968, 969, 970, 971, 972, 973, 974, 975, 976, 977, 978, 979, 980, 1001, 1002, 1003, 1004, 1005, 1006, 1007, 1008, 1009, 1010, 1011, 1012, 1013, 1014] (by decide +kernel) (by decide +kernel)
set_option maxRecDepth 20000 in
theorem gL_law_X10_hear : GoodIn wsL_law (wsV RL 81 RX10 yX10_hear wsX10_hear) := goodIn_app (goodIn_of _ (by decide +kernel)) ggL_law_X10_hear
set_option maxRecDepth 20000 in
theorem ggL_law_X11_hear : GoodIn wsL_law wsX11_hear := goodIn_r _ [673, 130, 103, 481, 482, 483, 5, 484, 158, 159, 160, 161, 162, 163, 164, 165, 166, 167, 168, 102, 169, 170, 171, 172, 981, 982, 983, 984, 985, 986, 987, 988, 989, 990, 991, 992, 993, 994, 995, 996, 997, 998, 999, 1000] (by decide +kernel) (by decide +kernel)
set_option maxRecDepth 20000 in
theorem gL_law_X11_hear : GoodIn wsL_law (wsV RL 84 RX11 yX11_hear wsX11_hear) := goodIn_app (goodIn_of _ (by decide +kernel)) ggL_law_X11_hear
set_option maxRecDepth 20000 in
theorem ggL_law_X10_forget : GoodIn wsL_law wsX10_forget := goodIn_r _ [677, 15, 665, 964, 965, 966, 967, 968, 969, 970, 971, 972, 973, 974, 975, 976, 977, 978, 979, 980, 1001, 1002, 1003, 1004, 1005, 1006, 1007, 1008, 1009, 1010, 1011, 1012, 1013, 1014] (by decide +kernel) (by decide +kernel)
set_option maxRecDepth 20000 in
theorem gL_law_X10_forget : GoodIn wsL_law (wsV RL 85 RX10 yX10_forget wsX10_forget) := goodIn_app (goodIn_of _ (by decide +kernel)) ggL_law_X10_forget
set_option maxRecDepth 20000 in
theorem ggL_law_X11_forget : GoodIn wsL_law wsX11_forget := goodIn_r _ [681, 130, 103, 981, 982, 983, 984, 985, 986, 987, 988, 989, 990, 991, 992, 993, 994, 995, 996, 997, 998, 999, 1000] (by decide +kernel) (by decide +kernel)
set_option maxRecDepth 20000 in
theorem gL_law_X11_forget : GoodIn wsL_law (wsV RL 88 RX11 yX11_forget wsX11_forget) := goodIn_app (goodIn_of _ (by decide +kernel)) ggL_law_X11_forget
set_option maxRecDepth 20000 in
theorem ggL_law_X10_wants : GoodIn wsL_law wsX10_wants := goodIn_r _ [685, 135, 136, 2, 137, 138, 139, 140, 141, 142, 143, 144, 686, 687, 688, 689, 15, 665, 690, 691, 692, 693, 694, 695, 19, 421, 422, 423, 424, 425, 55, 426, 427, 428, 429, 430, 43, 431, 432, 433, 434, 435, 436, 40, 437, 438, 439, 440, 441, 14, 442, 121, 59, 443, 444, 445, 446, 447, 60, 448, 449, 46, 450, 451, 452, 453, 454, 455, 52, 456, 457, 458, 459, 460, 461, 462, 463, 464, 49, 465, 466, 467, 468, 696, 697, 698, 699, 964, 965, 966, 967, 968, 969, 970, 971, 972, 973, 974, 975, 976, 977, 978, 979, 980, 1001, 1002, 1003, 1004, 1005, 1006, 1007, 1008, 1009, 1010, 1011, 1012, 1013, 1014] (by decide +kernel) (by decide +kernel)
set_option maxRecDepth 20000 in
theorem gL_law_X10_wants : GoodIn wsL_law (wsV RL 89 RX10 yX10_wants wsX10_wants) := goodIn_app (goodIn_of _ (by decide +kernel)) ggL_law_X10_wants
set_option maxRecDepth 20000 in
theorem ggL_law_X11_wants : GoodIn wsL_law wsX11_wants := goodIn_r _ [703, 130, 208, 158, 159, 5, 160, 704, 705, 706, 707, 103, 708, 709, 710, 711, 501, 502, 503, 504, 505, 506, 507, 508, 509, 510, 511, 512, 513, 514, 515, 516, 517, 518, 519, 520, 521, 522, 523, 524, 525, 526, 527, 161, 162, 163, 164, 165, 166, 167, 168, 102, 981, 982, 983, 984, 985, 986, 987, 988, 989, 990, 991, 992, 993, 994, 995, 996, 997, 998, 999, 1000] (by decide +kernel) (by decide +kernel)
set_option maxRecDepth 20000 in
theorem gL_law_X11_wants : GoodIn wsL_law (wsV RL 92 RX11 yX11_wants wsX11_wants) := goodIn_app (goodIn_of _ (by decide +kernel)) ggL_law_X11_wants
set_option maxRecDepth 20000 in
theorem ggL_law_X10_next : GoodIn wsL_law wsX10_next := goodIn_r _ [715, 15, 116, 135, 136, 2, 137, 138, 139, 140, 141, 142, 143, 144, 686, 687, 688, 689, 665, 690, 691, 692, 693, 694, 695, 19, 421, 422, 423, 424, 425, 55, 426, 427, 428, 429, 430, 43, 431, 432, 433, 434, 435, 436, 40, 437, 438, 439, 440, 441, 14, 442, 121, 59, 443, 444, 445, 446, 447, 60, 448, 449, 46, 450, 451, 452, 453, 454, 455, 52, 456, 457, 458, 459, 460, 461, 462, 463, 464, 49, 465, 466, 467, 468, 696, 697, 698, 699, 716, 717, 718, 719, 35, 720, 721, 627, 722, 964, 965, 966, 967, 968, 969, 970, 971, 972, 973, 974, 975, 976, 977, 978, 979, 980, 1001, 1002, 1003, 1004, 1005, 1006, 1007, 1008, 1009, 1010, 1011, 1012, 1013, 1014] (by decide +kernel) (by decide +kernel)
set_option maxRecDepth 20000 in
theorem gL_law_X10_next : GoodIn wsL_law (wsV RL 93 RX10 yX10_next wsX10_next) := goodIn_app (goodIn_of _ (by decide +kernel)) ggL_law_X10_next
set_option maxRecDepth 20000 in
theorem ggL_law_X11_next_ : GoodIn wsL_law wsX11_next_ := goodIn_r _ [726, 130, 208, 103, 158, 159, 5, 160, 161, 162, 163, 164, 165, 166, 167, 168, 102, 704, 705, 706, 707, 708, 709, 710, 711, 501, 502, 503, 504, 505, 506, 507, 508, 509, 510, 511, 512, 513, 514, 515, 516, 517, 518, 519, 520, 521, 522, 523, 524, 525, 526, 527, 727, 728, 729, 730, 981, 982, 983, 984, 985, 986, 987, 988, 989, 990, 991, 992, 993, 994, 995, 996, 997, 998, 999, 1000] (by decide +kernel) (by decide +kernel)
set_option maxRecDepth 20000 in
theorem gL_law_X11_next_ : GoodIn wsL_law (wsV RL 96 RX11 yX11_next_ wsX11_next_) := goodIn_app (goodIn_of _ (by decide +kernel)) ggL_law_X11_next_
set_option maxRecDepth 20000 in
theorem ggL_law_X10_two : GoodIn wsL_law wsX10_two := goodIn_r _ [734, 15, 116, 27, 735, 19, 418, 419, 736, 420, 737, 738, 406, 407, 408, 2, 409, 199, 135, 136, 137, 410, 411, 412, 413, 138, 139, 140, 141, 142, 143, 144, 421, 422, 423, 424, 425, 55, 426, 427, 428, 429, 430, 43, 431, 432, 433, 434, 435, 436, 40, 437, 438, 439, 440, 441, 14, 442, 121, 59, 443, 444, 445, 446, 447, 60, 448, 449, 46, 450, 451, 452, 453, 454, 455, 52, 456, 457, 458, 459, 460, 461, 462, 463, 464, 49, 465, 466, 467, 468, 739, 740, 741, 26, 742, 743, 626, 627, 628, 744, 745, 746, 747, 748, 749, 750, 77, 751, 752, 753, 754, 75, 76, 755, 756, 757, 758, 759, 538, 539, 540, 541, 542, 543, 760, 761, 762, 763, 764, 765, 766, 767, 768, 769, 770, 771, 772, 773, 774, 721, 722, 964, 965, 966, 967, 968, 969, 970, 971, 972, 973, 974, 975, 976, 977, 978, 979, 980, 1001, 1002, 1003, 1004, 1005, 1006, 1007, 1008, 1009, 1010, 1011, 1012, 1013, 1014, 1022, 1023, 1024, 1025, 1026, 1027, 1028, 1029] (by decide +kernel) (by decide +kernel)
set_option maxRecDepth 20000 in
theorem gL_law_X10_two : GoodIn wsL_law (wsV RL 97 RX10 yX10_two wsX10_two) := goodIn_app (goodIn_of _ (by decide +kernel)) ggL_law_X10_two
set_option maxRecDepth 20000 in
theorem ggL_law_X11_two : GoodIn wsL_law wsX11_two := goodIn_r _ [778, 130, 598, 103, 110, 477, 478, 479, 5, 480, 158, 159, 160, 481, 482, 483, 484, 161, 162, 163, 164, 165, 166, 167, 168, 102, 779, 780, 781, 782, 783, 784, 785, 489, 490, 491, 492, 493, 494, 495, 496, 497, 498, 499, 500, 501, 502, 503, 504, 505, 506, 507, 508, 509, 510, 511, 512, 513, 514, 515, 516, 517, 518, 519, 520, 521, 522, 523, 524, 525, 526, 527, 981, 982, 983, 984, 985, 986, 987, 988, 989, 990, 991, 992, 993, 994, 995, 996, 997, 998, 999, 1000] (by decide +kernel) (by decide +kernel)
set_option maxRecDepth 20000 in
theorem gL_law_X11_two : GoodIn wsL_law (wsV RL 101 RX11 yX11_two wsX11_two) := goodIn_app (goodIn_of _ (by decide +kernel)) ggL_law_X11_two
set_option maxRecDepth 20000 in
theorem ggL_law_X10_will : GoodIn wsL_law wsX10_will := goodIn_r _ [789, 15, 116, 135, 136, 2, 137, 138, 139, 140, 141, 142, 143, 144, 790, 791, 792, 793, 34, 19, 421, 422, 423, 424, 425, 55, 426, 427, 428, 429, 430, 43, 431, 432, 433, 434, 435, 436, 40, 437, 438, 439, 440, 441, 14, 442, 121, 59, 443, 444, 445, 446, 447, 60, 448, 449, 46, 450, 451, 452, 453, 454, 455, 52, 456, 457, 458, 459, 460, 461, 462, 463, 464, 49, 465, 466, 467, 468, 537, 538, 539, 540, 541, 542, 543, 794, 795, 796, 797, 964, 965, 966, 967, 968, 969, 970, 971, 972, 973, 974, 975, 976, 977, 978, 979, 980, 1001, 1002, 1003, 1004, 1005, 1006, 1007, 1008, 1009, 1010, 1011, 1012, 1013, 1014] (by decide +kernel) (by decide +kernel)
set_option maxRecDepth 20000 in
theorem gL_law_X10_will : GoodIn wsL_law (wsV RL 102 RX10 yX10_will wsX10_will) := goodIn_app (goodIn_of _ (by decide +kernel)) ggL_law_X10_will
set_option maxRecDepth 20000 in
theorem ggL_law_X11_will : GoodIn wsL_law wsX11_will := goodIn_r _ [801, 130, 208, 153, 103, 158, 159, 5, 160, 161, 162, 163, 164, 165, 166, 167, 168, 102, 548, 549, 550, 517, 518, 519, 501, 502, 503, 504, 505, 506, 507, 508, 509, 510, 511, 512, 513, 514, 515, 516, 520, 521, 522, 523, 524, 525, 526, 527, 981, 982, 983, 984, 985, 986, 987, 988, 989, 990, 991, 992, 993, 994, 995, 996, 997, 998, 999, 1000] (by decide +kernel) (by decide +kernel)
set_option maxRecDepth 20000 in
theorem gL_law_X11_will : GoodIn wsL_law (wsV RL 105 RX11 yX11_will wsX11_will) := goodIn_app (goodIn_of _ (by decide +kernel)) ggL_law_X11_will
set_option maxRecDepth 20000 in
theorem ggL_law_X10_worst : GoodIn wsL_law wsX10_worst := goodIn_r _ [805, 15, 116, 406, 407, 408, 2, 409, 199, 135, 136, 137, 138, 139, 140, 141, 142, 143, 144, 586, 587, 588, 589, 414, 415, 416, 417, 19, 418, 419, 420, 421, 422, 423, 424, 425, 55, 426, 427, 428, 429, 430, 43, 431, 432, 433, 434, 435, 436, 40, 437, 438, 439, 440, 441, 14, 442, 121, 59, 443, 444, 445, 446, 447, 60, 448, 449, 46, 450, 451, 452, 453, 454, 455, 52, 456, 457, 458, 459, 460, 461, 462, 463, 464, 49, 465, 466, 467, 468, 590, 591, 592, 593, 537, 538, 539, 540, 541, 542, 543, 964, 965, 966, 967, 968, 969, 970, 971, 972, 973, 974, 975, 976, 977, 978, 979, 980, 1001, 1002, 1003, 1004, 1005, 1006, 1007, 1008, 1009, 1010, 1011, 1012, 1013, 1014] (by decide +kernel) (by decide +kernel)
set_option maxRecDepth 20000 in
theorem gL_law_X10_worst : GoodIn wsL_law (wsV RL 106 RX10 yX10_worst wsX10_worst) := goodIn_app (goodIn_of _ (by decide +kernel)) ggL_law_X10_worst
set_option maxRecDepth 20000 in
theorem ggL_law_X11_worst : GoodIn wsL_law wsX11_worst := goodIn_r _ [809, 130, 103, 477, 478, 479, 5, 480, 158, 159, 160, 161, 162, 163, 164, 165, 166, 167, 168, 102, 599, 600, 601, 602, 485, 486, 487, 488, 489, 490, 491, 492, 493, 494, 495, 496, 497, 498, 499, 500, 501, 502, 503, 504, 505, 506, 507, 508, 509, 510, 511, 512, 513, 514, 515, 516, 517, 518, 519, 520, 521, 522, 523, 524, 525, 526, 527, 603, 604, 605, 606, 548, 549, 550, 981, 982, 983, 984, 985, 986, 987, 988, 989, 990, 991, 992, 993, 994, 995, 996, 997, 998, 999, 1000] (by decide +kernel) (by decide +kernel)
set_option maxRecDepth 20000 in
theorem gL_law_X11_worst : GoodIn wsL_law (wsV RL 109 RX11 yX11_worst wsX11_worst) := goodIn_app (goodIn_of _ (by decide +kernel)) ggL_law_X11_worst
set_option maxRecDepth 20000 in
theorem ggL_law_X10_allow : GoodIn wsL_law wsX10_allow := goodIn_r _ [813, 15, 38, 406, 407, 408, 2, 409, 199, 135, 136, 137, 138, 139, 140, 141, 142, 143, 144, 814, 815, 816, 817, 16, 36, 37, 344, 345, 346, 14, 347, 59, 348, 349, 350, 351, 60, 61, 121, 62, 63, 64, 122, 123, 65, 124, 66, 67, 125, 180, 181, 182, 183, 184, 185, 186, 187, 818, 819, 820, 821, 19, 418, 116, 419, 420, 421, 422, 423, 424, 425, 55, 426, 427, 428, 429, 430, 43, 431, 432, 433, 434, 435, 436, 40, 437, 438, 439, 440, 441, 442, 443, 444, 445, 446, 447, 448, 449, 46, 450, 451, 452, 453, 454, 455, 52, 456, 457, 458, 459, 460, 461, 462, 463, 464, 49, 465, 466, 467, 468, 590, 591, 592, 593, 822, 823, 824, 825, 964, 965, 966, 967, 968, 969, 970, 971, 972, 973, 974, 975, 976, 977, 978, 979, 980, 1001, 1002, 1003, 1004, 1005, 1006, 1007, 1008, 1009, 1010, 1011, 1012, 1013, 1014] (by decide +kernel) (by decide +kernel)
set_option maxRecDepth 20000 in
theorem gL_law_X10_allow : GoodIn wsL_law (wsV RL 110 RX10 yX10_allow wsX10_allow) := goodIn_app (goodIn_of _ (by decide +kernel)) ggL_law_X10_allow
set_option maxRecDepth 20000 in
theorem ggL_law_X11_allow : GoodIn wsL_law wsX11_allow := goodIn_r _ [829, 130, 830, 831, 832, 477, 478, 479, 5, 480, 103, 158, 159, 160, 637, 638, 639, 640, 657, 658, 659, 660, 165, 166, 167, 168, 102, 833, 834, 835, 836, 837, 838, 839, 840, 599, 600, 601, 602, 485, 486, 487, 488, 489, 490, 491, 492, 493, 494, 495, 496, 497, 498, 499, 500, 501, 502, 503, 504, 505, 506, 507, 508, 509, 510, 511, 512, 513, 514, 515, 516, 517, 518, 519, 520, 521, 522, 523, 524, 525, 526, 527, 603, 604, 605, 606, 841, 842, 843, 844, 845, 846, 847, 848, 192, 193, 194, 981, 982, 983, 984, 985, 986, 987, 988, 989, 990, 991, 992, 993, 994, 995, 996, 997, 998, 999, 1000] (by decide +kernel) (by decide +kernel)
set_option maxRecDepth 20000 in
theorem gL_law_X11_allow : GoodIn wsL_law (wsV RL 113 RX11 yX11_allow wsX11_allow) := goodIn_app (goodIn_of _ (by decide +kernel)) ggL_law_X11_allow
set_option maxRecDepth 20000 in
theorem ggL_law_X10_misheard : GoodIn wsL_law wsX10_misheard := goodIn_r _ [852, 15, 116, 406, 407, 408, 2, 409, 199, 135, 136, 137, 410, 411, 412, 413, 138, 139, 140, 141, 142, 143, 144, 586, 587, 588, 589, 414, 415, 416, 417, 19, 418, 419, 420, 421, 422, 423, 424, 425, 55, 426, 427, 428, 429, 430, 43, 431, 432, 433, 434, 435, 436, 40, 437, 438, 439, 440, 441, 14, 442, 121, 59, 443, 444, 445, 446, 447, 60, 448, 449, 46, 450, 451, 452, 453, 454, 455, 52, 456, 457, 458, 459, 460, 461, 462, 463, 464, 49, 465, 466, 467, 468, 590, 591, 592, 593, 853, 854, 855, 856, 857, 858, 32, 964, 965, 966, 967, 968, 969, 970, 971, 972, 973, 974, 975, 976, 977, 978, 979, 980, 1001, 1002, 1003, 1004, 1005, 1006, 1007, 1008, 1009, 1010, 1011, 1012, 1013, 1014] (by decide +kernel) (by decide +kernel)
set_option maxRecDepth 20000 in
theorem gL_law_X10_misheard : GoodIn wsL_law (wsV RL 114 RX10 yX10_misheard wsX10_misheard) := goodIn_app (goodIn_of _ (by decide +kernel)) ggL_law_X10_misheard
set_option maxRecDepth 20000 in
theorem ggL_law_X11_misheard : GoodIn wsL_law wsX11_misheard := goodIn_r _ [862, 130, 153, 369, 103, 863, 111, 477, 478, 479, 5, 480, 158, 159, 160, 481, 482, 483, 484, 161, 162, 163, 164, 165, 166, 167, 168, 102, 599, 600, 601, 602, 485, 486, 487, 488, 489, 490, 491, 492, 493, 494, 495, 496, 497, 498, 499, 500, 501, 502, 503, 504, 505, 506, 507, 508, 509, 510, 511, 512, 513, 514, 515, 516, 517, 518, 519, 520, 521, 522, 523, 524, 525, 526, 527, 603, 604, 605, 606, 981, 982, 983, 984, 985, 986, 987, 988, 989, 990, 991, 992, 993, 994, 995, 996, 997, 998, 999, 1000] (by decide +kernel) (by decide +kernel)
set_option maxRecDepth 20000 in
theorem gL_law_X11_misheard : GoodIn wsL_law (wsV RL 117 RX11 yX11_misheard wsX11_misheard) := goodIn_app (goodIn_of _ (by decide +kernel)) ggL_law_X11_misheard
set_option maxRecDepth 20000 in
theorem ggL_law_X10_talks : GoodIn wsL_law wsX10_talks := goodIn_r _ [867, 868, 15, 116, 199, 420, 869, 870, 871, 872, 19, 418, 419, 135, 136, 2, 137, 138, 139, 140, 141, 142, 143, 144, 421, 422, 423, 424, 425, 55, 426, 427, 428, 429, 430, 43, 431, 432, 433, 434, 435, 436, 40, 437, 438, 439, 440, 441, 14, 442, 121, 59, 443, 444, 445, 446, 447, 60, 448, 449, 46, 450, 451, 452, 453, 454, 455, 52, 456, 457, 458, 459, 460, 461, 462, 463, 464, 49, 465, 466, 467, 468, 696, 697, 698, 699, 964, 965, 966, 967, 968, 969, 970, 971, 972, 973, 974, 975, 976, 977, 978, 979, 980, 1001, 1002, 1003, 1004, 1005, 1006, 1007, 1008, 1009, 1010, 1011, 1012, 1013, 1014] (by decide +kernel) (by decide +kernel)
set_option maxRecDepth 20000 in
theorem gL_law_X10_talks : GoodIn wsL_law (wsV RL 118 RX10 yX10_talks wsX10_talks) := goodIn_app (goodIn_of _ (by decide +kernel)) ggL_law_X10_talks
set_option maxRecDepth 20000 in
theorem ggL_law_X11_talks : GoodIn wsL_law wsX11_talks := goodIn_r _ [876, 130, 877, 878, 103, 879, 880, 881, 882, 158, 159, 5, 160, 161, 162, 163, 164, 165, 166, 167, 168, 102, 485, 486, 487, 488, 489, 490, 491, 492, 493, 494, 495, 496, 497, 498, 499, 500, 501, 502, 503, 504, 505, 506, 507, 508, 509, 510, 511, 512, 513, 514, 515, 516, 517, 518, 519, 520, 521, 522, 523, 524, 525, 526, 527, 981, 982, 983, 984, 985, 986, 987, 988, 989, 990, 991, 992, 993, 994, 995, 996, 997, 998, 999, 1000] (by decide +kernel) (by decide +kernel)
set_option maxRecDepth 20000 in
theorem gL_law_X11_talks : GoodIn wsL_law (wsV RL 121 RX11 yX11_talks wsX11_talks) := goodIn_app (goodIn_of _ (by decide +kernel)) ggL_law_X11_talks
set_option maxRecDepth 20000 in
theorem ggL_law_X10_part : GoodIn wsL_law wsX10_part := goodIn_r _ [886, 857, 32, 135, 136, 2, 137, 138, 139, 140, 141, 142, 143, 144, 964, 965, 966, 967, 968, 969, 970, 971, 972, 973, 974, 975, 976, 977, 978, 979, 980] (by decide +kernel) (by decide +kernel)
set_option maxRecDepth 20000 in
theorem gL_law_X10_part : GoodIn wsL_law (wsV RL 122 RX10 yX10_part wsX10_part) := goodIn_app (goodIn_of _ (by decide +kernel)) ggL_law_X10_part
set_option maxRecDepth 20000 in
theorem ggL_law_X11_part : GoodIn wsL_law wsX11_part := goodIn_r _ [890, 130, 863, 111, 161, 162, 163, 5, 164, 165, 166, 167, 168, 102, 981, 982, 983, 984, 985, 986, 987, 988, 989, 990, 991, 992, 993, 994, 995, 996, 997, 998, 999, 1000] (by decide +kernel) (by decide +kernel)
set_option maxRecDepth 20000 in
theorem gL_law_X11_part : GoodIn wsL_law (wsV RL 126 RX11 yX11_part wsX11_part) := goodIn_app (goodIn_of _ (by decide +kernel)) ggL_law_X11_part
set_option maxRecDepth 20000 in
theorem ggL_law_X10_image : GoodIn wsL_law wsX10_image := goodIn_r _ [894, 17, 15, 895, 135, 136, 2, 137, 138, 139, 140, 141, 142, 143, 144, 344, 345, 346, 14, 347, 59, 348, 349, 350, 351, 60, 61, 121, 62, 63, 64, 122, 123, 65, 124, 66, 67, 125, 964, 965, 966, 967, 968, 969, 970, 971, 972, 973, 974, 975, 976, 977, 978, 979, 980, 1001, 1002, 1003, 1004, 1005, 1006, 1007, 1008, 1009, 1010, 1011, 1012, 1013, 1014] (by decide +kernel) (by decide +kernel)
set_option maxRecDepth 20000 in
theorem gL_law_X10_image : GoodIn wsL_law (wsV RL 127 RX10 yX10_image wsX10_image) := goodIn_app (goodIn_of _ (by decide +kernel)) ggL_law_X10_image
set_option maxRecDepth 20000 in
theorem ggL_law_X11_image : GoodIn wsL_law wsX11_image := goodIn_r _ [899, 130, 105, 103, 107, 158, 159, 5, 160, 161, 162, 163, 164, 165, 166, 167, 168, 102, 981, 982, 983, 984, 985, 986, 987, 988, 989, 990, 991, 992, 993, 994, 995, 996, 997, 998, 999, 1000] (by decide +kernel) (by decide +kernel)
set_option maxRecDepth 20000 in
theorem gL_law_X11_image : GoodIn wsL_law (wsV RL 130 RX11 yX11_image wsX11_image) := goodIn_app (goodIn_of _ (by decide +kernel)) ggL_law_X11_image
set_option maxRecDepth 20000 in
theorem ggL_law_X10_from : GoodIn wsL_law wsX10_from := goodIn_r _ [903, 895, 15, 17, 135, 136, 2, 137, 138, 139, 140, 141, 142, 143, 144, 344, 345, 346, 14, 347, 59, 348, 349, 350, 351, 60, 61, 121, 62, 63, 64, 122, 123, 65, 124, 66, 67, 125, 964, 965, 966, 967, 968, 969, 970, 971, 972, 973, 974, 975, 976, 977, 978, 979, 980, 1001, 1002, 1003, 1004, 1005, 1006, 1007, 1008, 1009, 1010, 1011, 1012, 1013, 1014] (by decide +kernel) (by decide +kernel)
set_option maxRecDepth 20000 in
theorem gL_law_X10_from : GoodIn wsL_law (wsV RL 131 RX10 yX10_from wsX10_from) := goodIn_app (goodIn_of _ (by decide +kernel)) ggL_law_X10_from
set_option maxRecDepth 20000 in
theorem ggL_law_X11_from : GoodIn wsL_law wsX11_from := goodIn_r _ [907, 130, 107, 103, 105, 158, 159, 5, 160, 161, 162, 163, 164, 165, 166, 167, 168, 102, 528, 529, 530, 531, 981, 982, 983, 984, 985, 986, 987, 988, 989, 990, 991, 992, 993, 994, 995, 996, 997, 998, 999, 1000] (by decide +kernel) (by decide +kernel)
set_option maxRecDepth 20000 in
theorem gL_law_X11_from : GoodIn wsL_law (wsV RL 134 RX11 yX11_from wsX11_from) := goodIn_app (goodIn_of _ (by decide +kernel)) ggL_law_X11_from
set_option maxRecDepth 20000 in
theorem ggL_law_X10_status : GoodIn wsL_law wsX10_status := goodIn_r _ [911, 142, 143, 144, 138, 139, 140, 2, 141, 964, 965, 966, 967, 968, 969, 970, 971, 972, 973, 974, 975, 976, 977, 978, 979, 980] (by decide +kernel) (by decide +kernel)
set_option maxRecDepth 20000 in
theorem gL_law_X10_status : GoodIn wsL_law (wsV RL 135 RX10 yX10_status wsX10_status) := goodIn_app (goodIn_of _ (by decide +kernel)) ggL_law_X10_status
set_option maxRecDepth 20000 in
theorem ggL_law_X11_status : GoodIn wsL_law wsX11_status := goodIn_r _ [915, 130, 598, 102, 158, 159, 5, 160, 165, 166, 167, 168, 981, 982, 983, 984, 985, 986, 987, 988, 989, 990, 991, 992, 993, 994, 995, 996, 997, 998, 999, 1000] (by decide +kernel) (by decide +kernel)
set_option maxRecDepth 20000 in
theorem gL_law_X11_status : GoodIn wsL_law (wsV RL 138 RX11 yX11_status wsX11_status) := goodIn_app (goodIn_of _ (by decide +kernel)) ggL_law_X11_status
set_option maxRecDepth 20000 in
theorem ggL_law_X10_count : GoodIn wsL_law wsX10_count := goodIn_r _ [919, 135, 136, 2, 137, 138, 139, 140, 141, 142, 143, 144, 920, 921, 922, 923, 15, 116, 199, 420, 665, 536, 23, 216, 924, 925, 926, 14, 927, 62, 928, 538, 539, 540, 541, 542, 543, 537, 964, 965, 966, 967, 968, 969, 970, 971, 972, 973, 974, 975, 976, 977, 978, 979, 980, 1001, 1002, 1003, 1004, 1005, 1006, 1007, 1008, 1009, 1010, 1011, 1012, 1013, 1014, 1015, 1016, 1017, 1018, 1019, 1020, 1021] (by decide +kernel) (by decide +kernel)
set_option maxRecDepth 20000 in
theorem gL_law_X10_count : GoodIn wsL_law (wsV RL 139 RX10 yX10_count wsX10_count) := goodIn_app (goodIn_of _ (by decide +kernel)) ggL_law_X10_count
set_option maxRecDepth 20000 in
theorem ggL_law_X11_count : GoodIn wsL_law wsX11_count := goodIn_r _ [932, 130, 933, 158, 159, 5, 160, 934, 935, 936, 937, 103, 227, 938, 939, 940, 941, 548, 549, 550, 161, 162, 163, 164, 165, 166, 167, 168, 102, 981, 982, 983, 984, 985, 986, 987, 988, 989, 990, 991, 992, 993, 994, 995, 996, 997, 998, 999, 1000] (by decide +kernel) (by decide +kernel)
set_option maxRecDepth 20000 in
theorem gL_law_X11_count : GoodIn wsL_law (wsV RL 142 RX11 yX11_count wsX11_count) := goodIn_app (goodIn_of _ (by decide +kernel)) ggL_law_X11_count
set_option maxRecDepth 20000 in
theorem ggL_law_X10_digest : GoodIn wsL_law wsX10_digest := goodIn_r _ [945, 946, 947, 15, 857, 32, 920, 921, 922, 2, 923, 116, 199, 420, 665, 536, 23, 216, 924, 925, 926, 14, 927, 62, 928, 538, 539, 540, 541, 542, 543, 537, 948, 949, 950, 951, 121, 952, 59, 60, 61, 123, 122, 63, 64, 125, 66, 67, 953, 181, 182, 183, 964, 965, 966, 967, 968, 969, 970, 971, 972, 973, 974, 975, 976, 977, 978, 979, 980, 1001, 1002, 1003, 1004, 1005, 1006, 1007, 1008, 1009, 1010, 1011, 1012, 1013, 1014, 1015, 1016, 1017, 1018, 1019, 1020, 1021] (by decide +kernel) (by decide +kernel)
set_option maxRecDepth 20000 in
theorem gL_law_X10_digest : GoodIn wsL_law (wsV RL 143 RX10 yX10_digest wsX10_digest) := goodIn_app (goodIn_of _ (by decide +kernel)) ggL_law_X10_digest
set_option maxRecDepth 20000 in
theorem ggL_law_X11_digest : GoodIn wsL_law wsX11_digest := goodIn_r _ [957, 130, 958, 103, 863, 111, 934, 935, 936, 5, 937, 227, 938, 939, 940, 941, 548, 549, 550, 959, 960, 961, 962, 963, 981, 982, 983, 984, 985, 986, 987, 988, 989, 990, 991, 992, 993, 994, 995, 996, 997, 998, 999, 1000] (by decide +kernel) (by decide +kernel)
set_option maxRecDepth 20000 in
theorem gL_law_X11_digest : GoodIn wsL_law (wsV RL 147 RX11 yX11_digest wsX11_digest) := goodIn_app (goodIn_of _ (by decide +kernel)) ggL_law_X11_digest
theorem dL_law_0 : decode cL_law 0 = .ok (.new 7, 3) := by decide +kernel
theorem dL_law_3 : decode cL_law 3 = .ok (.dup, 1) := by decide +kernel
theorem dL_law_4 : decode cL_law 4 = .ok (.invokespecial 9, 3) := by decide +kernel
theorem dL_law_7 : decode cL_law 7 = .ok (.astore_n 1, 1) := by decide +kernel
theorem dL_law_8 : decode cL_law 8 = .ok (.new 10, 3) := by decide +kernel
theorem dL_law_11 : decode cL_law 11 = .ok (.dup, 1) := by decide +kernel
