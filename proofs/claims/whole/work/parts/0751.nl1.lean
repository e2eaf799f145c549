theorem wsL_law_x0 : ∀ w ∈ (vx_atS RX6 69 "java/lang/IllegalArgumentException" ["java/lang/RuntimeException", "java/lang/Exception"]).filter goodWord, w ∈ lw_tbl := by decide +kernel
theorem wsL_law_x1 : ∀ w ∈ (vx_atS RX6 92 "java/lang/IllegalStateException" ["java/lang/RuntimeException", "java/lang/Exception"]).filter goodWord, w ∈ lw_tbl := by decide +kernel
theorem wsL_law_x2 : ∀ w ∈ (vx_atS RX6 104 "java/lang/IndexOutOfBoundsException" ["java/lang/RuntimeException", "java/lang/Exception"]).filter goodWord, w ∈ lw_tbl := by decide +kernel
theorem wsL_law_in : ∀ w ∈ wsL_law, w ∈ lw_tbl := fun w h => (List.mem_append.mp h).elim (fun h => (List.mem_append.mp h).elim (fun h => (List.mem_append.mp h).elim (fun h => wsL_law_in0 w h) (fun h => wsL_law_x0 w h)) (fun h => wsL_law_x1 w h)) (fun h => wsL_law_x2 w h)
theorem inlX0 : ∀ w ∈ wsX00, w ∈ wsL_law := fun _ h => List.mem_append_left _ (List.mem_append_left _ (List.mem_append_left _ (List.mem_append_left _ (List.mem_append_left _ (List.mem_append_left _ (List.mem_append_right _ h))))))
theorem inX0 : ∀ w ∈ wsX00, w ∈ lw_tbl := fun w h => wsL_law_in w (inlX0 w h)
theorem inlX1 : ∀ w ∈ wsX10, w ∈ wsL_law := fun _ h => List.mem_append_left _ (List.mem_append_left _ (List.mem_append_left _ (List.mem_append_left _ (List.mem_append_left _ (List.mem_append_left _ (List.mem_append_left _ (List.mem_append_right _ h)))))))
theorem inX1 : ∀ w ∈ wsX10, w ∈ lw_tbl := fun w h => wsL_law_in w (inlX1 w h)
theorem inlX2 : ∀ w ∈ wsX20, w ∈ wsL_law := fun _ h => List.mem_append_left _ (List.mem_append_left _ (List.mem_append_left _ (List.mem_append_left _ (List.mem_append_left _ (List.mem_append_right _ h)))))
theorem inX2 : ∀ w ∈ wsX20, w ∈ lw_tbl := fun w h => wsL_law_in w (inlX2 w h)
theorem inlX3 : ∀ w ∈ wsX30, w ∈ wsL_law := fun _ h => List.mem_append_left _ (List.mem_append_left _ (List.mem_append_left _ (List.mem_append_left _ (List.mem_append_left _ (List.mem_append_left _ (List.mem_append_left _ (List.mem_append_left _ (List.mem_append_right _ h))))))))
theorem inX3 : ∀ w ∈ wsX30, w ∈ lw_tbl := fun w h => wsL_law_in w (inlX3 w h)
theorem inlX4 : ∀ w ∈ wsX40, w ∈ wsL_law := fun _ h => List.mem_append_left _ (List.mem_append_left _ (List.mem_append_left _ (List.mem_append_left _ (List.mem_append_left _ (List.mem_append_left _ (List.mem_append_left _ (List.mem_append_left _ (List.mem_append_left _ (List.mem_append_right _ h)))))))))
theorem inX4 : ∀ w ∈ wsX40, w ∈ lw_tbl := fun w h => wsL_law_in w (inlX4 w h)
theorem inlX5 : ∀ w ∈ wsX50, w ∈ wsL_law := fun _ h => List.mem_append_left _ (List.mem_append_left _ (List.mem_append_left _ (List.mem_append_left _ (List.mem_append_right _ h))))
theorem inX5 : ∀ w ∈ wsX50, w ∈ lw_tbl := fun w h => wsL_law_in w (inlX5 w h)
theorem inlX6 : ∀ w ∈ wsX60, w ∈ wsL_law := fun _ h => List.mem_append_left _ (List.mem_append_left _ (List.mem_append_left _ (List.mem_append_left _ (List.mem_append_left _ (List.mem_append_left _ (List.mem_append_left _ (List.mem_append_left _ (List.mem_append_left _ (List.mem_append_left _ (List.mem_append_left _ (List.mem_append_right _ h)))))))))))
theorem inX6 : ∀ w ∈ wsX60, w ∈ lw_tbl := fun w h => wsL_law_in w (inlX6 w h)
theorem inlX7 : ∀ w ∈ wsX70, w ∈ wsL_law := fun _ h => List.mem_append_left _ (List.mem_append_left _ (List.mem_append_left _ (List.mem_append_left _ (List.mem_append_left _ (List.mem_append_left _ (List.mem_append_left _ (List.mem_append_left _ (List.mem_append_left _ (List.mem_append_left _ (List.mem_append_right _ h))))))))))
theorem inX7 : ∀ w ∈ wsX70, w ∈ lw_tbl := fun w h => wsL_law_in w (inlX7 w h)
theorem inJxe99ae : ∀ w ∈ wsJxe99ae0, w ∈ lw_tbl := by decide +kernel
theorem inJ0 : ∀ w ∈ wsJ00, w ∈ lw_tbl := by decide +kernel
set_option maxRecDepth 20000 in
theorem ggL_law_X6_init : GoodIn wsL_law wsX6_init := goodIn_r _ [9, 10, 11, 12, 13, 14, 15, 16, 17, 18, 19, 20, 21, 22, 23, 24, 25, 26, 27, 28, 29, 30, 31, 32, 33, 34, 35, 36, 37, 38, 39, 40, 41, 6, 42, 43, 44, 45, 46, 47, 48, 49, 50, 51, 52, 53, 54, 55, 56, 57, 58, 59, 60, 61, 62, 63, 64, 65, 66, 67, 68, 69, 70, 71, 72, 73, 74, 75, 2, 76, 77, 78, 79, 80, 81, 82, 83, 84, 85, 86, 87, 88, 89, 90, 91, 92, 93, 94, 95, 96, 97, 98, 99, 100, 871, 872, 873, 874, 875, 876, 877, 878, 879, 880, 852, 853, 854, 855, 856, 857, 858, 881, 882, 883, 884, 885, 886, 887, 888, 889, 890] (by decide +kernel) (by decide +kernel)
set_option maxRecDepth 20000 in
theorem gL_law_X6_init : GoodIn wsL_law (wsX6_init) := ggL_law_X6_init
set_option maxRecDepth 20000 in
theorem ggL_law_X7_init : GoodIn wsL_law wsX7_init := goodIn_r _ [103, 104, 11, 12, 6, 105, 106, 107, 44, 108, 109, 110, 111, 112, 113, 114, 115, 5, 116, 117, 118, 119, 120, 121, 122, 123, 124, 125, 859, 860, 861, 862, 863, 864, 865, 866, 867, 868, 869, 870] (by decide +kernel) (by decide +kernel)
set_option maxRecDepth 20000 in
theorem gL_law_X7_init : GoodIn wsL_law (wsX7_init) := ggL_law_X7_init
set_option maxRecDepth 20000 in
theorem ggL_law_L_begin : GoodIn wsL_law wsL_begin := goodIn_ca (goodIn_r _ [129, 130, 131, 132, 133, 2, 134, 135, 136, 20, 16, 137, 138, 139, 19, 140, 141, 64, 142, 143, 144, 145, 146, 147, 148, 15, 149, 150, 151, 152, 41, 153, 42, 43, 45, 47, 49, 154, 155, 156, 31, 157, 53, 158, 159, 160, 36, 161, 57, 58, 162, 73, 74, 75, 76, 28, 77, 78, 79, 80, 81, 82, 83, 27, 84, 85, 86, 87, 88, 89, 90, 91, 92, 72, 93, 94, 95, 96, 97, 98, 99, 100, 852, 853, 854, 855, 856, 857, 858, 871, 872, 873, 874, 875, 876, 877, 878, 879, 880, 881, 882, 887, 888, 889, 890, 885, 886] (by decide +kernel) (by decide +kernel)) (goodIn_sub (fun _ h => List.mem_append_left _ (List.mem_append_left _ (List.mem_append_right _ h))) (by decide +kernel))
set_option maxRecDepth 20000 in
theorem gL_law_L_begin : GoodIn wsL_law (va_wsS RL 80 yL_begin wsL_begin) := goodIn_app (goodIn_of _ (by decide +kernel)) ggL_law_L_begin
set_option maxRecDepth 20000 in
theorem ggL_law_X7_begin : GoodIn wsL_law wsX7_begin := goodIn_r _ [166, 167, 111, 168, 105, 169, 170, 5, 171, 172, 173, 174, 175, 176, 177, 178, 179, 180, 107, 114, 115, 116, 117, 118, 119, 120, 121, 122, 123, 124, 125, 859, 860, 861, 862, 863, 864, 865, 866, 867, 868, 869, 870] (by decide +kernel) (by decide +kernel)
set_option maxRecDepth 20000 in
theorem gL_law_X7_begin : GoodIn wsL_law (wsV RL 85 RX7 yX7_begin wsX7_begin) := goodIn_app (goodIn_of _ (by decide +kernel)) ggL_law_X7_begin
set_option maxRecDepth 20000 in
theorem ggL_law_X7_thrown : GoodIn wsL_law wsX7_thrown := goodIn_r _ [184, 167, 859, 860, 861, 862, 863, 864, 865, 866, 867, 868, 869, 870] (by decide +kernel) (by decide +kernel)
set_option maxRecDepth 20000 in
theorem gL_law_X7_thrown : GoodIn wsL_law (wsV RL 86 RX7 yX7_thrown wsX7_thrown) := goodIn_app (goodIn_of _ (by decide +kernel)) ggL_law_X7_thrown
set_option maxRecDepth 20000 in
theorem ggL_law_L_print : GoodIn wsL_law wsL_print := goodIn_ca (goodIn_ca (goodIn_r _ [187, 130, 188, 189, 190, 191, 2, 192, 135, 136, 193, 194, 16, 20, 195, 196, 197, 15, 198, 152, 137, 138, 139, 19, 140, 141, 64, 142, 143, 144, 145, 146, 147, 148, 149, 150, 151, 41, 153, 42, 43, 45, 47, 49, 154, 155, 156, 31, 157, 53, 158, 159, 160, 36, 161, 57, 58, 162, 199, 200, 201, 202, 203, 204, 205, 206, 207, 208, 209, 210, 211, 87, 88, 212, 213, 214, 215, 216, 852, 853, 854, 855, 856, 857, 858, 871, 872, 873, 874, 875, 876, 877, 878, 879, 880, 881, 882, 887, 888, 889, 890] (by decide +kernel) (by decide +kernel)) (goodIn_sub (fun _ h => List.mem_append_left _ (List.mem_append_left _ (List.mem_append_right _ h))) (by decide +kernel))) (goodIn_sub (fun _ h => List.mem_append_left _ (List.mem_append_right _ h)) (by decide +kernel))
set_option maxRecDepth 20000 in
theorem gL_law_L_print : GoodIn wsL_law (va_wsS RL 89 yL_print wsL_print) := goodIn_app (goodIn_of _ (by decide +kernel)) ggL_law_L_print
set_option maxRecDepth 20000 in
theorem ggL_law_X7_print : GoodIn wsL_law wsX7_print := goodIn_r _ [220, 167, 221, 222, 223, 5, 224, 225, 105, 169, 170, 171, 176, 177, 178, 179, 180, 107, 226, 227, 228, 229, 230, 231, 232, 233, 234, 235, 236, 859, 860, 861, 862, 863, 864, 865, 866, 867, 868, 869, 870] (by decide +kernel) (by decide +kernel)
set_option maxRecDepth 20000 in
theorem gL_law_X7_print : GoodIn wsL_law (wsV RL 92 RX7 yX7_print wsX7_print) := goodIn_app (goodIn_of _ (by decide +kernel)) ggL_law_X7_print
set_option maxRecDepth 20000 in
theorem ggL_law_L_slip : GoodIn wsL_law wsL_slip := goodIn_ca (goodIn_ca (goodIn_ca (goodIn_r _ [239, 240, 130, 188, 241, 242, 243, 2, 244, 245, 246, 135, 136, 193, 194, 16, 20, 247, 248, 249, 250, 251, 252, 253, 254, 255, 256, 31, 257, 53, 258, 259, 137, 138, 139, 19, 140, 141, 64, 142, 143, 144, 145, 146, 147, 148, 15, 149, 150, 151, 152, 41, 153, 42, 43, 45, 47, 49, 154, 155, 156, 157, 158, 159, 160, 36, 161, 57, 58, 162, 260, 261, 262, 263, 852, 853, 854, 855, 856, 857, 858, 871, 872, 873, 874, 875, 876, 877, 878, 879, 880, 887, 881, 882, 888, 889, 890] (by decide +kernel) (by decide +kernel)) (goodIn_sub (fun _ h => List.mem_append_right _ h) (by decide +kernel))) (goodIn_sub (fun _ h => List.mem_append_left _ (List.mem_append_left _ (List.mem_append_right _ h))) (by decide +kernel))) (goodIn_sub (fun _ h => List.mem_append_left _ (List.mem_append_right _ h)) (by decide +kernel))
set_option maxRecDepth 20000 in
theorem gL_law_L_slip : GoodIn wsL_law (va_wsS RL 93 yL_slip wsL_slip) := goodIn_app (goodIn_of _ (by decide +kernel)) ggL_law_L_slip
set_option maxRecDepth 20000 in
theorem ggL_law_X7_slip : GoodIn wsL_law wsX7_slip := goodIn_r _ [267, 167, 105, 268, 269, 270, 5, 271, 111, 272, 273, 274, 275, 169, 170, 171, 276, 277, 278, 236, 176, 177, 178, 179, 180, 107, 859, 860, 861, 862, 863, 864, 865, 866, 867, 868, 869, 870] (by decide +kernel) (by decide +kernel)
set_option maxRecDepth 20000 in
theorem gL_law_X7_slip : GoodIn wsL_law (wsV RL 96 RX7 yX7_slip wsX7_slip) := goodIn_app (goodIn_of _ (by decide +kernel)) ggL_law_X7_slip
set_option maxRecDepth 20000 in
theorem ggL_law_X6_correct : GoodIn wsL_law wsX6_correct := goodIn_r _ [282, 20, 16, 137, 138, 139, 19, 140, 141, 64, 142, 143, 144, 145, 146, 147, 148, 15, 149, 150, 151, 152, 41, 153, 42, 43, 45, 47, 49, 154, 155, 156, 31, 157, 53, 158, 159, 160, 36, 161, 57, 58, 162, 283, 284, 285, 2, 286, 32, 73, 74, 75, 76, 28, 77, 78, 79, 80, 81, 82, 83, 27, 84, 85, 86, 87, 88, 89, 90, 91, 92, 72, 93, 94, 95, 96, 97, 98, 99, 100, 287, 288, 289, 290, 852, 853, 854, 855, 856, 857, 858, 871, 872, 873, 874, 875, 876, 877, 878, 879, 880, 881, 882, 887, 888, 889, 890, 885, 886] (by decide +kernel) (by decide +kernel)
set_option maxRecDepth 20000 in
theorem gL_law_X6_correct : GoodIn wsL_law (wsV RL 97 RX6 yX6_correct wsX6_correct) := goodIn_app (goodIn_of _ (by decide +kernel)) ggL_law_X6_correct
set_option maxRecDepth 20000 in
theorem ggL_law_X7_correct : GoodIn wsL_law wsX7_correct := goodIn_r _ [294, 167, 105, 176, 177, 178, 5, 179, 180, 107, 114, 115, 116, 117, 118, 119, 120, 121, 122, 123, 124, 125, 859, 860, 861, 862, 863, 864, 865, 866, 867, 868, 869, 870] (by decide +kernel) (by decide +kernel)
set_option maxRecDepth 20000 in
theorem gL_law_X7_correct : GoodIn wsL_law (wsV RL 100 RX7 yX7_correct wsX7_correct) := goodIn_app (goodIn_of _ (by decide +kernel)) ggL_law_X7_correct
set_option maxRecDepth 20000 in
theorem ggL_law_L_strike : GoodIn wsL_law wsL_strike := goodIn_ca (goodIn_r _ [297, 240, 298, 299, 300, 2, 301, 245, 246, 16, 20, 302, 303, 304, 15, 305, 152, 137, 138, 139, 19, 140, 141, 64, 142, 143, 144, 145, 146, 147, 148, 149, 150, 151, 41, 153, 42, 43, 45, 47, 49, 154, 155, 156, 31, 157, 53, 158, 159, 160, 36, 161, 57, 58, 162, 306, 307, 308, 309, 212, 213, 214, 215, 216, 852, 853, 854, 855, 856, 857, 858, 871, 872, 873, 874, 875, 876, 877, 878, 879, 880, 881, 882, 887, 888, 889, 890] (by decide +kernel) (by decide +kernel)) (goodIn_sub (fun _ h => List.mem_append_right _ h) (by decide +kernel))
set_option maxRecDepth 20000 in
theorem gL_law_L_strike : GoodIn wsL_law (va_wsS RL 101 yL_strike wsL_strike) := goodIn_app (goodIn_of _ (by decide +kernel)) ggL_law_L_strike
set_option maxRecDepth 20000 in
theorem ggL_law_X7_strike : GoodIn wsL_law wsX7_strike := goodIn_r _ [313, 167, 105, 314, 315, 316, 5, 317, 169, 170, 171, 172, 173, 174, 175, 176, 177, 178, 179, 180, 107, 123, 124, 125, 233, 234, 235, 236, 859, 860, 861, 862, 863, 864, 865, 866, 867, 868, 869, 870] (by decide +kernel) (by decide +kernel)
set_option maxRecDepth 20000 in
theorem gL_law_X7_strike : GoodIn wsL_law (wsV RL 103 RX7 yX7_strike wsX7_strike) := goodIn_app (goodIn_of _ (by decide +kernel)) ggL_law_X7_strike
set_option maxRecDepth 20000 in
theorem ggL_law_L_renew : GoodIn wsL_law wsL_renew := goodIn_ca (goodIn_r _ [320, 240, 321, 322, 323, 2, 324, 245, 246, 20, 16, 325, 326, 327, 137, 138, 139, 19, 140, 141, 64, 142, 143, 144, 145, 146, 147, 148, 15, 149, 150, 151, 152, 41, 153, 42, 43, 45, 47, 49, 154, 155, 156, 31, 157, 53, 158, 159, 160, 36, 161, 57, 58, 162, 328, 329, 330, 331, 852, 853, 854, 855, 856, 857, 858, 871, 872, 873, 874, 875, 876, 877, 878, 879, 880, 881, 882, 887, 888, 889, 890] (by decide +kernel) (by decide +kernel)) (goodIn_sub (fun _ h => List.mem_append_right _ h) (by decide +kernel))
set_option maxRecDepth 20000 in
theorem gL_law_L_renew : GoodIn wsL_law (va_wsS RL 104 yL_renew wsL_renew) := goodIn_app (goodIn_of _ (by decide +kernel)) ggL_law_L_renew
set_option maxRecDepth 20000 in
theorem ggL_law_X7_renew : GoodIn wsL_law wsX7_renew := goodIn_r _ [335, 167, 272, 169, 170, 5, 171, 172, 173, 174, 175, 176, 177, 178, 179, 180, 107, 105, 336, 337, 338, 339, 859, 860, 861, 862, 863, 864, 865, 866, 867, 868, 869, 870] (by decide +kernel) (by decide +kernel)
set_option maxRecDepth 20000 in
theorem gL_law_X7_renew : GoodIn wsL_law (wsV RL 106 RX7 yX7_renew wsX7_renew) := goodIn_app (goodIn_of _ (by decide +kernel)) ggL_law_X7_renew
set_option maxRecDepth 20000 in
theorem ggL_law_L_set : GoodIn wsL_law wsL_set := goodIn_ca (goodIn_ca (goodIn_r _ [342, 240, 130, 343, 344, 345, 2, 346, 245, 246, 135, 136, 20, 16, 347, 348, 349, 137, 138, 139, 19, 140, 141, 64, 142, 143, 144, 145, 146, 147, 148, 15, 149, 150, 151, 152, 41, 153, 42, 43, 45, 47, 49, 154, 155, 156, 31, 157, 53, 158, 159, 160, 36, 161, 57, 58, 162, 350, 351, 352, 353, 852, 853, 854, 855, 856, 857, 858, 871, 872, 873, 874, 875, 876, 877, 878, 879, 880, 888, 889, 890, 881, 882, 887] (by decide +kernel) (by decide +kernel)) (goodIn_sub (fun _ h => List.mem_append_right _ h) (by decide +kernel))) (goodIn_sub (fun _ h => List.mem_append_left _ (List.mem_append_left _ (List.mem_append_right _ h))) (by decide +kernel))
set_option maxRecDepth 20000 in
theorem gL_law_L_set : GoodIn wsL_law (va_wsS RL 107 yL_set wsL_set) := goodIn_app (goodIn_of _ (by decide +kernel)) ggL_law_L_set
set_option maxRecDepth 20000 in
theorem ggL_law_X7_set : GoodIn wsL_law wsX7_set := goodIn_r _ [357, 167, 358, 359, 169, 170, 5, 171, 172, 173, 174, 175, 176, 177, 178, 179, 180, 107, 105, 336, 337, 338, 339, 859, 860, 861, 862, 863, 864, 865, 866, 867, 868, 869, 870] (by decide +kernel) (by decide +kernel)
set_option maxRecDepth 20000 in
theorem gL_law_X7_set : GoodIn wsL_law (wsV RL 109 RX7 yX7_set wsX7_set) := goodIn_app (goodIn_of _ (by decide +kernel)) ggL_law_X7_set
set_option maxRecDepth 20000 in
theorem ggL_law_L_append : GoodIn wsL_law wsL_append := goodIn_ca (goodIn_ca (goodIn_r _ [362, 130, 188, 363, 364, 365, 2, 366, 135, 136, 193, 194, 24, 367, 368, 23, 369, 370, 371, 372, 373, 374, 375, 376, 377, 378, 68, 852, 853, 854, 855, 856, 857, 858, 883, 884] (by decide +kernel) (by decide +kernel)) (goodIn_sub (fun _ h => List.mem_append_left _ (List.mem_append_left _ (List.mem_append_right _ h))) (by decide +kernel))) (goodIn_sub (fun _ h => List.mem_append_left _ (List.mem_append_right _ h)) (by decide +kernel))
set_option maxRecDepth 20000 in
theorem gL_law_L_append : GoodIn wsL_law (va_wsS RL 110 yL_append wsL_append) := goodIn_app (goodIn_of _ (by decide +kernel)) ggL_law_L_append
set_option maxRecDepth 20000 in
theorem ggL_law_X7_append : GoodIn wsL_law wsX7_append := goodIn_r _ [382, 167, 383, 384, 385, 108, 169, 170, 5, 171, 172, 173, 174, 175, 859, 860, 861, 862, 863, 864, 865, 866, 867, 868, 869, 870] (by decide +kernel) (by decide +kernel)
set_option maxRecDepth 20000 in
theorem gL_law_X7_append : GoodIn wsL_law (wsV RL 112 RX7 yX7_append wsX7_append) := goodIn_app (goodIn_of _ (by decide +kernel)) ggL_law_X7_append
set_option maxRecDepth 20000 in
theorem ggL_law_X6_clearBuffer : GoodIn wsL_law wsX6_clearBuffer := goodIn_r _ [389, 24, 852, 853, 854, 855, 856, 857, 858, 883, 884] (by decide +kernel) (by decide +kernel)
set_option maxRecDepth 20000 in
theorem gL_law_X6_clearBuffer : GoodIn wsL_law (wsV RL 113 RX6 yX6_clearBuffer wsX6_clearBuffer) := goodIn_app (goodIn_of _ (by decide +kernel)) ggL_law_X6_clearBuffer
set_option maxRecDepth 20000 in
theorem ggL_law_X7_clearBuffer : GoodIn wsL_law wsX7_clearBuffer := goodIn_r _ [393, 167, 385, 859, 860, 861, 862, 863, 864, 865, 866, 867, 868, 869, 870] (by decide +kernel) (by decide +kernel)
set_option maxRecDepth 20000 in
theorem gL_law_X7_clearBuffer : GoodIn wsL_law (wsV RL 116 RX7 yX7_clearBuffer wsX7_clearBuffer) := goodIn_app (goodIn_of _ (by decide +kernel)) ggL_law_X7_clearBuffer
set_option maxRecDepth 20000 in
theorem ggL_law_X6_firstError : GoodIn wsL_law wsX6_firstError := goodIn_r _ [397, 24, 398, 399, 400, 23, 401, 374, 68, 402, 403, 404, 405, 406, 407, 408, 409, 410, 411, 412, 413, 414, 415, 416, 852, 853, 854, 855, 856, 857, 858, 883, 884] (by decide +kernel) (by decide +kernel)
set_option maxRecDepth 20000 in
theorem gL_law_X6_firstError : GoodIn wsL_law (wsV RL 117 RX6 yX6_firstError wsX6_firstError) := goodIn_app (goodIn_of _ (by decide +kernel)) ggL_law_X6_firstError
set_option maxRecDepth 20000 in
theorem ggL_law_X7_firstError : GoodIn wsL_law wsX7_firstError := goodIn_r _ [420, 167, 421, 422, 385, 423, 424, 425, 5, 426, 427, 428, 429, 430, 431, 108, 109, 432, 433, 434, 435, 436, 437, 438, 439, 440, 441, 442, 443, 169, 170, 171, 444, 445, 446, 447, 448, 449, 450, 451, 859, 860, 861, 862, 863, 864, 865, 866, 867, 868, 869, 870] (by decide +kernel) (by decide +kernel)
set_option maxRecDepth 20000 in
theorem gL_law_X7_firstError : GoodIn wsL_law (wsV RL 120 RX7 yX7_firstError wsX7_firstError) := goodIn_app (goodIn_of _ (by decide +kernel)) ggL_law_X7_firstError
set_option maxRecDepth 20000 in
theorem ggL_law_L_obey : GoodIn wsL_law wsL_obey := goodIn_ca (goodIn_r _ [454, 130, 455, 456, 457, 2, 458, 135, 136, 24, 20, 16, 459, 460, 461, 23, 462, 374, 68, 402, 403, 404, 405, 406, 407, 408, 409, 410, 411, 412, 413, 414, 415, 416, 137, 138, 139, 19, 140, 141, 64, 142, 143, 144, 145, 146, 147, 148, 15, 149, 150, 151, 152, 41, 153, 42, 43, 45, 47, 49, 154, 155, 156, 31, 157, 53, 158, 159, 160, 36, 161, 57, 58, 162, 463, 464, 465, 466, 467, 468, 469, 470, 471, 472, 473, 474, 475, 476, 477, 478, 479, 480, 481, 482, 483, 484, 485, 486, 487, 195, 196, 197, 198, 199, 200, 201, 202, 203, 204, 205, 206, 207, 208, 209, 210, 211, 87, 88, 212, 213, 214, 215, 216, 488, 489, 490, 491, 492, 250, 251, 252, 253, 247, 248, 249, 254, 255, 256, 257, 258, 259, 260, 261, 262, 263, 73, 74, 75, 76, 28, 77, 78, 79, 80, 81, 82, 83, 27, 84, 85, 86, 89, 90, 91, 92, 72, 93, 94, 95, 96, 97, 98, 99, 100, 328, 329, 330, 331, 852, 853, 854, 855, 856, 857, 858, 883, 884, 881, 882, 871, 872, 873, 874, 875, 876, 877, 878, 879, 880, 887, 888, 889, 890, 885, 886] (by decide +kernel) (by decide +kernel)) (goodIn_sub (fun _ h => List.mem_append_left _ (List.mem_append_left _ (List.mem_append_right _ h))) (by decide +kernel))
set_option maxRecDepth 20000 in
theorem gL_law_L_obey : GoodIn wsL_law (va_wsS RL 121 yL_obey wsL_obey) := goodIn_app (goodIn_of _ (by decide +kernel)) ggL_law_L_obey
set_option maxRecDepth 20000 in
theorem ggL_law_X7_obey : GoodIn wsL_law wsX7_obey := goodIn_r _ [496, 167, 385, 427, 423, 424, 425, 5, 426, 422, 421, 428, 429, 430, 431, 108, 109, 432, 433, 434, 435, 436, 437, 438, 439, 440, 441, 442, 443, 169, 170, 171, 444, 445, 446, 447, 448, 449, 450, 451, 172, 173, 174, 175, 176, 177, 178, 179, 180, 107, 105, 497, 498, 499, 500, 221, 222, 223, 224, 225, 226, 227, 228, 229, 230, 231, 232, 233, 234, 235, 236, 268, 269, 270, 271, 111, 272, 273, 274, 275, 276, 277, 278, 114, 115, 116, 117, 118, 119, 120, 121, 122, 123, 124, 125, 859, 860, 861, 862, 863, 864, 865, 866, 867, 868, 869, 870] (by decide +kernel) (by decide +kernel)
set_option maxRecDepth 20000 in
theorem gL_law_X7_obey : GoodIn wsL_law (wsV RL 124 RX7 yX7_obey wsX7_obey) := goodIn_app (goodIn_of _ (by decide +kernel)) ggL_law_X7_obey
set_option maxRecDepth 20000 in
theorem ggL_law_L_undo : GoodIn wsL_law wsL_undo := goodIn_ca (goodIn_r _ [503, 188, 504, 505, 506, 2, 507, 193, 194, 20, 16, 508, 509, 510, 19, 511, 141, 64, 146, 147, 148, 15, 149, 150, 151, 152, 41, 153, 42, 43, 45, 47, 49, 154, 155, 156, 31, 157, 53, 158, 159, 160, 36, 161, 57, 58, 162, 852, 853, 854, 855, 856, 857, 858, 881, 882, 871, 872, 873, 874, 875, 876, 877, 878, 879, 880, 887, 888, 889, 890] (by decide +kernel) (by decide +kernel)) (goodIn_sub (fun _ h => List.mem_append_left _ (List.mem_append_right _ h)) (by decide +kernel))
set_option maxRecDepth 20000 in
theorem gL_law_L_undo : GoodIn wsL_law (va_wsS RL 125 yL_undo wsL_undo) := goodIn_app (goodIn_of _ (by decide +kernel)) ggL_law_L_undo
set_option maxRecDepth 20000 in
theorem ggL_law_X7_undo : GoodIn wsL_law wsX7_undo := goodIn_r _ [515, 167, 180, 105, 107, 172, 173, 174, 5, 175, 859, 860, 861, 862, 863, 864, 865, 866, 867, 868, 869, 870] (by decide +kernel) (by decide +kernel)
