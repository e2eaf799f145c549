theorem lw_ck {ws : List Cond} (ps : List Nat) (hp : ws = ps.filterMap (fun i => lw_tbl[i]?)) : ∀ w ∈ ws, w ∈ lw_tbl := by
  intro w hw
  rw [hp] at hw
  obtain ⟨i, -, hi⟩ := List.mem_filterMap.mp hw
  exact List.mem_of_getElem? hi

theorem wsL_law0_r1_in : ∀ w ∈ wsL_law0_r1, w ∈ lw_tbl := lw_ck [64, 65, 49, 802, 803, 56, 89, 66, 67, 68, 69, 70, 71, 72, 73, 50, 226, 151, 152, 53, 227, 168, 169, 54] (by decide +kernel)
theorem wsL_law0_r2_in : ∀ w ∈ wsL_law0_r2, w ∈ lw_tbl := lw_ck [228, 182, 183, 55, 229, 195, 79, 51, 230, 231, 197, 92, 52, 232, 75, 76, 77, 116, 120, 122, 90, 124, 78, 126] (by decide +kernel)
theorem wsL_law0_r3_in : ∀ w ∈ wsL_law0_r3, w ∈ lw_tbl := lw_ck [91, 128, 81, 82, 83, 84, 94, 95, 96, 97, 99, 153, 154, 155, 156, 157, 160, 171, 172, 173, 174, 185, 186, 187] (by decide +kernel)
theorem wsL_law0_r4_in : ∀ w ∈ wsL_law0_r4, w ∈ lw_tbl := lw_ck [188, 199, 201, 0, 202, 203, 204, 205, 206, 207, 208, 209, 210, 189, 211, 212, 213, 214, 215, 216, 217, 218, 219, 220] (by decide +kernel)
theorem wsL_law0_r5_in : ∀ w ∈ wsL_law0_r5, w ∈ lw_tbl := lw_ck [221, 222, 223, 224, 225, 804, 805, 806, 807, 823, 824, 825, 827, 832, 834, 808, 809, 810, 811, 812, 813, 814, 815, 816] (by decide +kernel)
theorem wsL_law0_r6_in : ∀ w ∈ wsL_law0_r6, w ∈ lw_tbl := lw_ck [817, 818, 819, 820, 821, 822, 576, 577, 48, 578, 579, 580, 581, 582, 583, 364, 60, 252, 253, 254, 255, 161, 256, 258] (by decide +kernel)
theorem wsL_law0_r7_in : ∀ w ∈ wsL_law0_r7, w ∈ lw_tbl := lw_ck [1, 259, 260, 261, 262, 263, 111, 112, 114, 118, 264, 265, 266, 267, 268, 269, 270, 271, 101, 872, 873, 874, 875, 829] (by decide +kernel)
theorem wsL_law0_r8_in : ∀ w ∈ wsL_law0_r8, w ∈ lw_tbl := lw_ck [879, 876, 877, 878, 868, 870, 17, 871, 880, 882, 18, 883, 826, 860, 861, 862, 863, 585, 586, 587, 588, 589, 590, 591] (by decide +kernel)
theorem wsL_law0_r9_in : ∀ w ∈ wsL_law0_r9, w ∈ lw_tbl := lw_ck [592, 598, 61, 594, 595, 596, 597, 614, 615, 616, 617, 618, 546, 547, 548, 619, 555, 556, 557, 558, 620, 550, 551, 552] (by decide +kernel)
theorem wsL_law0_r10_in : ∀ w ∈ wsL_law0_r10, w ∈ lw_tbl := lw_ck [553, 884, 885, 886, 887, 888, 890, 19, 891, 892, 893, 895, 20, 896, 897, 898, 899, 900, 901, 902, 903, 621, 622, 623] (by decide +kernel)
theorem wsL_law0_r11_in : ∀ w ∈ wsL_law0_r11, w ∈ lw_tbl := lw_ck [624, 625, 626, 627, 628, 470, 62, 629, 630, 631, 634, 635, 636, 637, 638, 639, 640, 641, 642, 643, 645, 646, 647, 648] (by decide +kernel)
theorem wsL_law0_r12_in : ∀ w ∈ wsL_law0_r12, w ∈ lw_tbl := lw_ck [904, 905, 906, 907, 908, 910, 21, 911, 912, 913, 917, 918, 914, 915, 916, 248, 249, 250, 251, 272, 274, 2, 275, 276] (by decide +kernel)
theorem wsL_law0_r13_in : ∀ w ∈ wsL_law0_r13, w ∈ lw_tbl := lw_ck [277, 278, 279, 919, 920, 921, 922, 649, 650, 651, 652, 653, 654, 655, 466, 467, 468, 469, 656, 657, 658, 659, 923, 924] (by decide +kernel)
theorem wsL_law0_r14_in : ∀ w ∈ wsL_law0_r14, w ∈ lw_tbl := lw_ck [925, 926, 927, 929, 22, 930, 660, 661, 662, 663, 664, 665, 666, 667, 668, 669, 671, 672, 673, 674, 931, 932, 933, 934] (by decide +kernel)
theorem wsL_law0_r15_in : ∀ w ∈ wsL_law0_r15, w ∈ lw_tbl := lw_ck [935, 937, 23, 938, 675, 676, 677, 678, 679, 680, 681, 682, 683, 684, 450, 452, 5, 453, 939, 940, 941, 942, 943, 944] (by decide +kernel)
theorem wsL_law0_r16_in : ∀ w ∈ wsL_law0_r16, w ∈ lw_tbl := lw_ck [687, 688, 689, 690, 691, 692, 693, 694, 695, 696, 698, 699, 700, 701, 175, 703, 704, 705, 706, 945, 946, 947, 948, 949] (by decide +kernel)
theorem wsL_law0_r17_in : ∀ w ∈ wsL_law0_r17, w ∈ lw_tbl := lw_ck [950, 828, 280, 281, 282, 283, 951, 952, 953, 954, 284, 285, 286, 287, 288, 289, 290, 291, 292, 293, 294, 295, 296, 297] (by decide +kernel)
theorem wsL_law0_r18_in : ∀ w ∈ wsL_law0_r18, w ∈ lw_tbl := lw_ck [298, 299, 300, 301, 302, 303, 304, 305, 306, 955, 956, 957, 958, 831, 830, 959, 961, 24, 962, 833, 963, 965, 25, 966] (by decide +kernel)
theorem wsL_law0_r19_in : ∀ w ∈ wsL_law0_r19, w ∈ lw_tbl := lw_ck [967, 969, 26, 970, 971, 973, 27, 974, 975, 977, 28, 978, 979, 981, 29, 982, 983, 985, 30, 986, 707, 708, 709, 710] (by decide +kernel)
theorem wsL_law0_r20_in : ∀ w ∈ wsL_law0_r20, w ∈ lw_tbl := lw_ck [711, 712, 713, 714, 715, 716, 717, 719, 720, 721, 722, 723, 573, 574, 575, 724, 726, 14, 727, 572, 728, 729, 730, 731] (by decide +kernel)
theorem wsL_law0_r21_in : ∀ w ∈ wsL_law0_r21, w ∈ lw_tbl := lw_ck [732, 733, 734, 735, 736, 738, 15, 739, 740, 742, 16, 743, 744, 987, 988, 989, 990, 991, 993, 31, 994, 745, 746, 747] (by decide +kernel)
theorem wsL_law0_r22_in : ∀ w ∈ wsL_law0_r22, w ∈ lw_tbl := lw_ck [748, 749, 750, 751, 753, 754, 755, 756, 864, 865, 866, 867, 757, 758, 759, 760, 463, 464, 465, 487, 488, 489, 490, 995] (by decide +kernel)
theorem wsL_law0_r23_in : ∀ w ∈ wsL_law0_r23, w ∈ lw_tbl := lw_ck [996, 997, 998, 999, 1000, 1002, 32, 1003, 1004, 1006, 33, 1007, 761, 762, 763, 764, 765, 766, 767, 1008, 1009, 1010, 1011, 768] (by decide +kernel)
theorem wsL_law0_r24_in : ∀ w ∈ wsL_law0_r24, w ∈ lw_tbl := lw_ck [769, 770, 771, 496, 497, 498, 437, 316, 317, 318, 500, 332, 333, 334, 501, 336, 337, 338, 502, 328, 329, 330, 331, 335] (by decide +kernel)
theorem wsL_law0_r25_in : ∀ w ∈ wsL_law0_r25, w ∈ lw_tbl := lw_ck [432, 320, 321, 322, 323, 324, 325, 326, 1012, 1013, 1014, 1015, 1016, 1017, 1019, 34, 1020, 1021, 1023, 35, 1024, 772, 773, 774] (by decide +kernel)
theorem wsL_law0_r26_in : ∀ w ∈ wsL_law0_r26, w ∈ lw_tbl := lw_ck [775, 508, 509, 510, 512, 513, 514, 515, 1025, 1026, 1027, 1028, 1029, 1031, 36, 1032, 776, 777, 778, 779, 780, 781, 782, 1033] (by decide +kernel)
theorem wsL_law0_r27_in : ∀ w ∈ wsL_law0_r27, w ∈ lw_tbl := lw_ck [1034, 1035, 1036, 783, 784, 785, 786, 361, 362, 363, 433, 434, 435, 436, 438, 439, 440, 441, 315, 327, 442, 443, 444, 445] (by decide +kernel)
theorem wsL_law0_r28_in : ∀ w ∈ wsL_law0_r28, w ∈ lw_tbl := lw_ck [1037, 1038, 1039, 1040, 1041, 1042, 1044, 37, 1045, 1046, 1048, 38, 1049, 1050, 1052, 39, 1053, 1054, 1056, 40, 1057, 787, 788, 789] (by decide +kernel)
theorem wsL_law0_r29_in : ∀ w ∈ wsL_law0_r29, w ∈ lw_tbl := lw_ck [790, 791, 792, 793, 1058, 1059, 1060, 1061, 794, 795, 796, 797, 525, 526, 527, 537, 529, 531, 12, 532, 533, 534, 535, 536] (by decide +kernel)
theorem wsL_law0_r30_in : ∀ w ∈ wsL_law0_r30, w ∈ lw_tbl := lw_ck [1062, 1063, 1064, 1065, 1066, 1068, 41, 1069, 1074, 1070, 1072, 42, 1073, 798, 799, 800, 801, 539, 540, 541, 543, 544, 545, 549] (by decide +kernel)
theorem wsL_law0_r31_in : ∀ w ∈ wsL_law0_r31, w ∈ lw_tbl := lw_ck [554, 1075, 1076, 1077, 1078, 1079, 1081, 43, 1082, 307, 308, 309, 310, 311, 312, 313, 314, 319, 1083, 1084, 1085, 1086, 1087, 1089] (by decide +kernel)
theorem wsL_law0_r32_in : ∀ w ∈ wsL_law0_r32, w ∈ lw_tbl := lw_ck [44, 1090, 1091, 1093, 45, 1094, 339, 340, 341, 342, 1095, 1096, 1097, 1098, 1099, 1101, 46, 1102, 343, 344, 345, 346, 347, 348] (by decide +kernel)
theorem wsL_law0_r33_in : ∀ w ∈ wsL_law0_r33, w ∈ lw_tbl := lw_ck [349, 350, 1103, 1104, 1105, 1106, 1107, 1109, 47, 1110, 351, 352, 353, 354, 355, 356, 358, 3, 359, 360, 446, 447, 448, 449] (by decide +kernel)
theorem wsL_law0_r34_in : ∀ w ∈ wsL_law0_r34, w ∈ lw_tbl := lw_ck [454, 456, 6, 457, 458, 460, 7, 461, 462, 491, 493, 8, 494, 495, 503, 505, 9, 506, 507, 516, 518, 10, 519, 520] (by decide +kernel)
theorem wsL_law0_r35_in : ∀ w ∈ wsL_law0_r35, w ∈ lw_tbl := lw_ck [522, 11, 523, 524, 538, 559, 560, 561, 562, 563, 564, 565, 566, 567, 568, 570, 13, 571, 1111, 1112, 1113, 1114, 1115, 1116] (by decide +kernel)
theorem wsL_law0_r36_in : ∀ w ∈ wsL_law0_r36, w ∈ lw_tbl := lw_ck [1117, 1118, 63, 1119, 1123, 1125, 1124, 63, 1126, 1120, 1121, 1122] (by decide +kernel)
theorem wsX60_in : ∀ w ∈ wsX60, w ∈ lw_tbl := by decide +kernel
theorem wsX70_in : ∀ w ∈ wsX70, w ∈ lw_tbl := by decide +kernel
theorem wsX40_in : ∀ w ∈ wsX40, w ∈ lw_tbl := by decide +kernel
theorem wsX30_in : ∀ w ∈ wsX30, w ∈ lw_tbl := by decide +kernel
theorem wsX10_in : ∀ w ∈ wsX10, w ∈ lw_tbl := by decide +kernel
theorem wsX00_in : ∀ w ∈ wsX00, w ∈ lw_tbl := by decide +kernel
theorem wsX20_in : ∀ w ∈ wsX20, w ∈ lw_tbl := by decide +kernel
theorem wsX50_in : ∀ w ∈ wsX50, w ∈ lw_tbl := by decide +kernel
set_option maxRecDepth 20000 in
theorem wsL_law_in0 : ∀ w ∈ wsL_law0, w ∈ lw_tbl := List.forall_mem_append.mpr ⟨List.forall_mem_append.mpr ⟨List.forall_mem_append.mpr ⟨List.forall_mem_append.mpr ⟨List.forall_mem_append.mpr ⟨List.forall_mem_append.mpr ⟨List.forall_mem_append.mpr ⟨List.forall_mem_append.mpr ⟨List.forall_mem_append.mpr ⟨List.forall_mem_append.mpr ⟨wsL_law0_r1_in, List.forall_mem_append.mpr ⟨wsL_law0_r2_in, List.forall_mem_append.mpr ⟨wsL_law0_r3_in, List.forall_mem_append.mpr ⟨wsL_law0_r4_in, List.forall_mem_append.mpr ⟨wsL_law0_r5_in, List.forall_mem_append.mpr ⟨wsL_law0_r6_in, List.forall_mem_append.mpr ⟨wsL_law0_r7_in, List.forall_mem_append.mpr ⟨wsL_law0_r8_in, List.forall_mem_append.mpr ⟨wsL_law0_r9_in, List.forall_mem_append.mpr ⟨wsL_law0_r10_in, List.forall_mem_append.mpr ⟨wsL_law0_r11_in, List.forall_mem_append.mpr ⟨wsL_law0_r12_in, List.forall_mem_append.mpr ⟨wsL_law0_r13_in, List.forall_mem_append.mpr ⟨wsL_law0_r14_in, List.forall_mem_append.mpr ⟨wsL_law0_r15_in, List.forall_mem_append.mpr ⟨wsL_law0_r16_in, List.forall_mem_append.mpr ⟨wsL_law0_r17_in, List.forall_mem_append.mpr ⟨wsL_law0_r18_in, List.forall_mem_append.mpr ⟨wsL_law0_r19_in, List.forall_mem_append.mpr ⟨wsL_law0_r20_in, List.forall_mem_append.mpr ⟨wsL_law0_r21_in, List.forall_mem_append.mpr ⟨wsL_law0_r22_in, List.forall_mem_append.mpr ⟨wsL_law0_r23_in, List.forall_mem_append.mpr ⟨wsL_law0_r24_in, List.forall_mem_append.mpr ⟨wsL_law0_r25_in, List.forall_mem_append.mpr ⟨wsL_law0_r26_in, List.forall_mem_append.mpr ⟨wsL_law0_r27_in, List.forall_mem_append.mpr ⟨wsL_law0_r28_in, List.forall_mem_append.mpr ⟨wsL_law0_r29_in, List.forall_mem_append.mpr ⟨wsL_law0_r30_in, List.forall_mem_append.mpr ⟨wsL_law0_r31_in, List.forall_mem_append.mpr ⟨wsL_law0_r32_in, List.forall_mem_append.mpr ⟨wsL_law0_r33_in, List.forall_mem_append.mpr ⟨wsL_law0_r34_in, List.forall_mem_append.mpr ⟨wsL_law0_r35_in, wsL_law0_r36_in⟩⟩⟩⟩⟩⟩⟩⟩⟩⟩⟩⟩⟩⟩⟩⟩⟩⟩⟩⟩⟩⟩⟩⟩⟩⟩⟩⟩⟩⟩⟩⟩⟩⟩⟩, wsX60_in⟩, wsX70_in⟩, wsX40_in⟩, wsX30_in⟩, wsX10_in⟩, wsX00_in⟩, wsX20_in⟩, wsX50_in⟩, fun _ h => nomatch h⟩
