set_option maxRecDepth 100000 in
theorem wt_0 : w_all_0 = [96, 72, 73, 89, 90, 151, 92, 54, 95, 94, 153, 167, 168, 170, 181, 185, 188, 191, 213, 194, 182, 196, 184, 218, 221, 223, 224, 219, 225, 220, 250, 254, 244, 263, 266, 268, 245, 246, 59, 249, 248, 274, 262, 299, 311, 300, 312, 302, 315, 304, 305, 306, 307, 308, 309, 71, 74, 342, 76, 343, 78, 344, 80, 345, 82, 346, 84, 85, 53, 86, 88, 87, 347, 163, 55, 166, 165, 177, 56, 178].filterMap (fun i => lw_tbl[i]?) := by decide +kernel
set_option maxRecDepth 100000 in
theorem wt_1 : w_all_1 = [180, 179, 214, 57, 215, 217, 216, 240, 58, 241, 243, 242, 295, 60, 296, 298, 297, 169, 171, 369, 370, 62, 371, 365, 367, 0, 52, 368, 372, 373, 374, 264, 97, 102, 105, 108, 112, 115, 118, 121, 124, 127, 154, 391, 392, 393, 394, 265, 270, 272, 273, 387, 388, 389, 390, 113, 379, 380, 381, 382, 383, 384, 385, 386, 267, 251, 420, 226, 421, 419, 590, 596, 422, 412, 413, 414, 255, 275, 411, 271].filterMap (fun i => lw_tbl[i]?) := by decide +kernel
set_option maxRecDepth 100000 in
theorem wt_2 : w_all_2 = [269, 415, 416, 417, 418, 256, 426, 431, 399, 401, 1, 402, 406, 403, 404, 405, 407, 409, 2, 410, 423, 424, 425, 427, 428, 429, 430, 440, 441, 442, 443, 253, 110, 122, 125, 448, 449, 450, 451, 456, 457, 458, 459, 468, 464, 465, 466, 467, 155, 485, 477, 478, 479, 480, 152, 481, 482, 483, 484, 594, 197, 591, 106, 99, 128, 499, 501, 3, 502, 498, 109, 116, 100, 119, 523, 524, 526, 528, 313, 314].filterMap (fun i => lw_tbl[i]?) := by decide +kernel
set_option maxRecDepth 100000 in
theorem wt_3 : w_all_3 = [519, 63, 103, 114, 520, 522, 521, 540, 117, 525, 527, 529, 111, 545, 547, 7, 548, 530, 549, 551, 8, 552, 553, 555, 9, 556, 120, 123, 577, 569, 571, 13, 572, 126, 573, 575, 14, 576, 588, 589, 593, 595, 607, 608, 610, 612, 614, 609, 592, 129, 582, 64, 583, 584, 65, 585, 587, 586, 604, 606, 605, 316, 624, 626, 16, 627, 565, 567, 12, 568, 561, 563, 11, 564, 578, 580, 15, 581, 611, 613].filterMap (fun i => lw_tbl[i]?) := by decide +kernel
set_option maxRecDepth 100000 in
theorem wt_4 : w_all_4 = [636, 638, 19, 639, 98, 515, 517, 5, 518, 628, 630, 17, 631, 632, 634, 18, 635, 541, 543, 6, 544, 557, 559, 10, 560, 490, 491, 492, 493, 101, 104, 494, 495, 496, 497, 107, 507, 509, 4, 510, 511, 512, 513, 514, 503, 504, 505, 506, 655, 656, 657, 658, 659, 660, 661, 662, 663, 187, 222, 652, 653, 654, 664, 666, 21, 667, 668, 670, 22, 671, 648, 650, 20, 651, 688, 689, 690, 252, 186, 189].filterMap (fun i => lw_tbl[i]?) := by decide +kernel
set_option maxRecDepth 100000 in
theorem wt_5 : w_all_5 = [195, 684, 686, 23, 687, 691, 692, 693, 694, 192, 699, 695, 697, 24, 698, 680, 681, 682, 683, 704, 705, 706, 707, 193, 720, 721, 722, 723, 724, 725, 726, 727, 190, 712, 714, 25, 715, 716, 718, 26, 719, 736, 732, 733, 734, 735, 745, 741, 742, 743, 744, 750, 751, 752, 753, 310, 762, 763, 764, 765, 771, 772, 941, 773, 774, 775, 776, 777, 778, 779, 780, 781, 782, 783, 784, 785, 786, 787, 788, 789].filterMap (fun i => lw_tbl[i]?) := by decide +kernel
set_option maxRecDepth 100000 in
theorem wt_6 : w_all_6 = [790, 791, 792, 793, 794, 795, 796, 797, 798, 799, 800, 801, 802, 803, 804, 805, 806, 807, 808, 809, 810, 811, 812, 813, 814, 815, 816, 817, 818, 820, 821, 822, 823, 824, 825, 826, 827, 819, 959, 961, 28, 61, 962, 950, 955, 957, 27, 958, 971, 973, 30, 974, 999, 1001, 37, 1002, 1003, 1005, 38, 1006, 995, 997, 36, 998, 1011, 1013, 40, 1014, 1007, 1009, 39, 1010, 991, 993, 35, 994, 987, 989, 34, 990].filterMap (fun i => lw_tbl[i]?) := by decide +kernel
set_option maxRecDepth 100000 in
theorem wt_7 : w_all_7 = [983, 985, 33, 986, 979, 981, 32, 982, 975, 977, 31, 978, 967, 969, 29, 970, 1019, 1021, 41, 1022, 1035, 1036, 1037, 1038, 1040, 42, 1041, 1042, 1044, 43, 1045, 1068, 1069, 1067, 1054, 1056, 44, 1057, 1058, 1059, 1061, 45, 1062, 1063, 1065, 46, 1066, 1094, 1096, 47, 1097, 1098, 1100, 48, 1101, 1106, 1108, 49, 1109, 1114, 1116, 50, 1117, 1126, 361, 362, 363, 364, 1031, 1032, 1033, 1034, 375, 376, 377, 378, 1046, 1047, 1048, 1049].filterMap (fun i => lw_tbl[i]?) := by decide +kernel
set_option maxRecDepth 100000 in
theorem wt_8 : w_all_8 = [395, 396, 397, 398, 1050, 1051, 1052, 1053, 432, 433, 434, 435, 1070, 1071, 1072, 1073, 436, 437, 438, 439, 1074, 1075, 1076, 1077, 444, 445, 446, 447, 1078, 1079, 1080, 1081, 452, 453, 454, 455, 1082, 1083, 1084, 1085, 460, 461, 462, 463, 1086, 1087, 1088, 1089, 469, 470, 471, 472, 942, 943, 944, 945, 473, 474, 475, 476, 946, 947, 948, 949, 486, 487, 488, 489, 963, 964, 965, 966, 640, 641, 642, 643, 951, 952, 953, 954].filterMap (fun i => lw_tbl[i]?) := by decide +kernel
set_option maxRecDepth 100000 in
theorem wt_9 : w_all_9 = [644, 645, 646, 647, 1110, 1111, 1112, 1113, 672, 673, 674, 675, 1118, 1119, 1120, 1121, 676, 677, 678, 679, 1090, 1091, 1092, 1093, 700, 701, 702, 703, 1015, 1016, 1017, 1018, 708, 709, 710, 711, 1102, 1103, 1104, 1105, 728, 729, 730, 731, 1122, 1123, 1124, 1125, 737, 738, 739, 740, 1127, 1128, 1129, 1130, 746, 747, 748, 749, 1023, 1024, 1025, 1026, 754, 755, 756, 757, 1027, 1028, 1029, 1030, 758, 759, 760, 761, 1131, 1132, 1133, 1134].filterMap (fun i => lw_tbl[i]?) := by decide +kernel
set_option maxRecDepth 100000 in
theorem wt_10 : w_all_10 = [348, 350, 352, 354, 356, 358, 67, 172, 174, 257, 259, 597, 599, 601, 130, 132, 134, 136, 138, 140, 142, 144, 146, 148, 156, 158, 160, 531, 533, 535, 537, 615, 617, 619, 621, 317, 319, 321, 323, 325, 327, 329, 331, 333, 335, 337, 339, 198, 200, 202, 204, 206, 208, 210, 227, 229, 231, 233, 235, 237, 276, 278, 280, 282, 284, 286, 288, 290, 292, 828, 830, 832, 834, 836, 838, 840, 842, 844, 846, 848].filterMap (fun i => lw_tbl[i]?) := by decide +kernel
set_option maxRecDepth 100000 in
theorem wt_11 : w_all_11 = [850, 852, 854, 856, 858, 860, 862, 864, 866, 868, 870, 872, 874, 876, 878, 880, 882, 884, 886, 888, 890, 892, 894, 896, 898, 900, 902, 904, 906, 908, 910, 912, 914, 916, 918, 920, 922, 924, 926, 928, 930, 932, 934, 936, 938, 767, 51].filterMap (fun i => lw_tbl[i]?) := by decide +kernel
theorem wt_m {ws : List Cond} {ps : List Nat} (h : ws = ps.filterMap (fun i => lw_tbl[i]?)) : ∀ w ∈ ws, w ∈ lw_tbl := fun w hw => by
  rw [h] at hw
  obtain ⟨i, -, hi⟩ := List.mem_filterMap.mp hw
  exact List.mem_of_getElem? hi
theorem w_sub : ∀ w ∈ w_all, w ∈ lw_tbl := by
  intro w h
  simp only [w_all, List.mem_append] at h
  rcases h with h | h | h | h | h | h | h | h | h | h | h | h
  · exact wt_m wt_0 w h
  · exact wt_m wt_1 w h
  · exact wt_m wt_2 w h
  · exact wt_m wt_3 w h
  · exact wt_m wt_4 w h
  · exact wt_m wt_5 w h
  · exact wt_m wt_6 w h
  · exact wt_m wt_7 w h
  · exact wt_m wt_8 w h
  · exact wt_m wt_9 w h
  · exact wt_m wt_10 w h
  · exact wt_m wt_11 w h
theorem wn_0 : Cond.methodLinkNest Rn_Line 17 y_Message_init "EpochStore" ∈ lw_tbl := List.mem_of_getElem? (i := 93) (by decide +kernel)
theorem wn_1 : Cond.methodLinkNest Rn_ES 46 y_Coordinator_init "EpochStore" ∈ lw_tbl := List.mem_of_getElem? (i := 164) (by decide +kernel)
theorem wn_2 : Cond.methodLinkNest Rn_Client 23 y_Writes_init "EpochStore" ∈ lw_tbl := List.mem_of_getElem? (i := 247) (by decide +kernel)
theorem wo_0 : Cond.arrayOver (.object Rn_Coordinator) ∈ lw_tbl := List.mem_of_getElem? (i := 75) (by decide +kernel)
theorem wo_1 : Cond.arrayOver (.object Rn_Log) ∈ lw_tbl := List.mem_of_getElem? (i := 77) (by decide +kernel)
theorem wo_2 : Cond.arrayOver (.object Rn_Storage) ∈ lw_tbl := List.mem_of_getElem? (i := 79) (by decide +kernel)
theorem wo_3 : Cond.arrayOver (.object Rn_Client) ∈ lw_tbl := List.mem_of_getElem? (i := 81) (by decide +kernel)
theorem wo_4 : Cond.arrayOver (.object Rn_Master) ∈ lw_tbl := List.mem_of_getElem? (i := 83) (by decide +kernel)
theorem wo_5 : Cond.arrayOver (.object Rn_Message) ∈ lw_tbl := List.mem_of_getElem? (i := 91) (by decide +kernel)
theorem wo_6 : Cond.arrayOver (.object Rn_Entry) ∈ lw_tbl := List.mem_of_getElem? (i := 183) (by decide +kernel)
theorem wo_7 : Cond.arrayOver (.object Rn_Question) ∈ lw_tbl := List.mem_of_getElem? (i := 301) (by decide +kernel)
theorem wo_8 : Cond.arrayOver (.object Rn_OnWay) ∈ lw_tbl := List.mem_of_getElem? (i := 303) (by decide +kernel)
