theorem dL_law_665 : decode cL_law 665 = .ok (.aload_n 1, 1) := by decide +kernel
theorem dL_law_666 : decode cL_law 666 = .ok (.aload_n 0, 1) := by decide +kernel
theorem dL_law_667 : decode cL_law 667 = .ok (.iload 4, 2) := by decide +kernel
theorem dL_law_669 : decode cL_law 669 = .ok (.iconst 1, 1) := by decide +kernel
theorem dL_law_670 : decode cL_law 670 = .ok (.iadd, 1) := by decide +kernel
theorem dL_law_671 : decode cL_law 671 = .ok (.iaload, 1) := by decide +kernel
theorem dL_law_672 : decode cL_law 672 = .ok (.aload_n 0, 1) := by decide +kernel
theorem dL_law_673 : decode cL_law 673 = .ok (.iload 4, 2) := by decide +kernel
theorem dL_law_675 : decode cL_law 675 = .ok (.iconst 2, 1) := by decide +kernel
theorem dL_law_676 : decode cL_law 676 = .ok (.iadd, 1) := by decide +kernel
theorem dL_law_677 : decode cL_law 677 = .ok (.iaload, 1) := by decide +kernel
set_option maxRecDepth 100000 in
theorem ggL_law_X11_safe : GoodIn wsL_law2 wsX11_safe := goodIn_r _ [616, 51, 31, 322, 323, 15, 324, 617, 618, 619, 620, 621, 622, 623, 624, 341, 342, 343, 344, 345, 346, 347, 348, 58, 59, 349, 350, 351, 57, 352, 65, 1005, 1006, 1007, 1008, 1009, 1010, 1011, 1012, 1013, 1014, 1015, 1016, 1057, 1058, 1119, 1120, 1121, 1122] rfl (by decide +kernel)
set_option maxRecDepth 20000 in
theorem gL_law_X11_safe : GoodIn wsL_law2 (wsV RL 84 RX11 yX11_safe wsX11_safe) := goodIn_app (goodIn_of _ (by decide +kernel)) ggL_law_X11_safe
theorem dL_law_678 : decode cL_law 678 = .ok (.invokevirtual 84, 3) := by decide +kernel
theorem dL_law_681 : decode cL_law 681 = .ok (.aload_n 2, 1) := by decide +kernel
theorem dL_law_682 : decode cL_law 682 = .ok (.aload_n 0, 1) := by decide +kernel
theorem dL_law_683 : decode cL_law 683 = .ok (.iload 4, 2) := by decide +kernel
theorem dL_law_685 : decode cL_law 685 = .ok (.iconst 1, 1) := by decide +kernel
theorem dL_law_686 : decode cL_law 686 = .ok (.iadd, 1) := by decide +kernel
theorem dL_law_687 : decode cL_law 687 = .ok (.iaload, 1) := by decide +kernel
theorem dL_law_688 : decode cL_law 688 = .ok (.aload_n 0, 1) := by decide +kernel
theorem dL_law_689 : decode cL_law 689 = .ok (.iload 4, 2) := by decide +kernel
theorem dL_law_691 : decode cL_law 691 = .ok (.iconst 2, 1) := by decide +kernel
theorem dL_law_692 : decode cL_law 692 = .ok (.iadd, 1) := by decide +kernel
theorem dL_law_693 : decode cL_law 693 = .ok (.iaload, 1) := by decide +kernel
set_option maxRecDepth 100000 in
theorem ggL_law_X12_safe : GoodIn wsL_law2 wsX12_safe := goodIn_r _ [628, 240, 214, 201, 383, 384, 5, 385, 629, 630, 631, 632, 1017, 1018, 1019, 1020, 1021, 1022, 1023, 1024, 1025, 1026, 1027, 1028, 1029, 1030, 1031, 1032, 1033, 1034, 1035, 1036, 1037, 1038, 1039, 1040, 1041, 1042, 1043, 1044, 1045, 1046, 1047, 1048, 1049, 1050, 1051, 1052, 1053, 1054, 1055, 1056] rfl (by decide +kernel)
set_option maxRecDepth 20000 in
theorem gL_law_X12_safe : GoodIn wsL_law2 (wsV RL 87 RX12 yX12_safe wsX12_safe) := goodIn_app (goodIn_of _ (by decide +kernel)) ggL_law_X12_safe
theorem dL_law_694 : decode cL_law 694 = .ok (.invokevirtual 87, 3) := by decide +kernel
theorem dL_law_697 : decode cL_law 697 = .ok (.if_icmp .eq 353, 3) := by decide +kernel
theorem dL_law_702 : decode cL_law 702 = .ok (.aload_n 1, 1) := by decide +kernel
set_option maxRecDepth 100000 in
theorem ggL_law_X11_back : GoodIn wsL_law2 wsX11_back := goodIn_r _ [636, 38, 29, 50, 637, 638, 639, 37, 640, 115, 114, 113, 112, 641, 247, 248, 27, 249, 90, 642, 233, 234, 235, 89, 297, 298, 299, 49, 300, 187, 454, 455, 456, 457, 1005, 1006, 1007, 1008, 1009, 1010, 1011, 1012, 1013, 1014, 1015, 1016, 1071, 1072, 1073, 1074, 1069, 1070, 1099, 1100, 1101, 1102, 1103, 1104, 1105, 1106, 1107, 1108, 1109, 1110, 1111, 1112, 1113, 1114, 1115, 1116, 1117, 1118] rfl (by decide +kernel)
set_option maxRecDepth 20000 in
theorem gL_law_X11_back : GoodIn wsL_law2 (wsV RL 88 RX11 yX11_back wsX11_back) := goodIn_app (goodIn_of _ (by decide +kernel)) ggL_law_X11_back
theorem dL_law_703 : decode cL_law 703 = .ok (.invokevirtual 88, 3) := by decide +kernel
theorem dL_law_706 : decode cL_law 706 = .ok (.aload_n 2, 1) := by decide +kernel
set_option maxRecDepth 100000 in
theorem ggL_law_X12_back : GoodIn wsL_law2 wsX12_back := goodIn_r _ [646, 240, 315, 316, 199, 200, 317, 1017, 1018, 1019, 1020, 1021, 1022, 1023, 1024, 1025, 1026, 1027, 1028, 1029, 1030, 1031, 1032, 1033, 1034, 1035, 1036, 1037, 1038, 1039, 1040, 1041, 1042, 1043, 1044, 1045, 1046, 1047, 1048, 1049, 1050, 1051, 1052, 1053, 1054, 1055, 1056] rfl (by decide +kernel)
set_option maxRecDepth 20000 in
theorem gL_law_X12_back : GoodIn wsL_law2 (wsV RL 91 RX12 yX12_back wsX12_back) := goodIn_app (goodIn_of _ (by decide +kernel)) ggL_law_X12_back
theorem dL_law_707 : decode cL_law 707 = .ok (.invokevirtual 91, 3) := by decide +kernel
theorem dL_law_710 : decode cL_law 710 = .ok (.if_icmp .eq 340, 3) := by decide +kernel
theorem dL_law_715 : decode cL_law 715 = .ok (.aload_n 1, 1) := by decide +kernel
theorem dL_law_716 : decode cL_law 716 = .ok (.aload_n 0, 1) := by decide +kernel
theorem dL_law_717 : decode cL_law 717 = .ok (.iload 4, 2) := by decide +kernel
theorem dL_law_719 : decode cL_law 719 = .ok (.iconst 1, 1) := by decide +kernel
theorem dL_law_720 : decode cL_law 720 = .ok (.iadd, 1) := by decide +kernel
theorem dL_law_721 : decode cL_law 721 = .ok (.iaload, 1) := by decide +kernel
theorem dL_law_722 : decode cL_law 722 = .ok (.aload_n 0, 1) := by decide +kernel
theorem dL_law_723 : decode cL_law 723 = .ok (.iload 4, 2) := by decide +kernel
theorem dL_law_725 : decode cL_law 725 = .ok (.iconst 2, 1) := by decide +kernel
theorem dL_law_726 : decode cL_law 726 = .ok (.iadd, 1) := by decide +kernel
theorem dL_law_727 : decode cL_law 727 = .ok (.iaload, 1) := by decide +kernel
set_option maxRecDepth 100000 in
theorem ggL_law_X11_list : GoodIn wsL_law2 wsX11_list := goodIn_r _ [650, 51, 33, 50, 322, 323, 15, 324, 651, 652, 653, 21, 654, 98, 95, 96, 297, 298, 299, 49, 300, 187, 450, 451, 452, 453, 1005, 1006, 1007, 1008, 1009, 1010, 1011, 1012, 1013, 1014, 1015, 1016, 1062, 1063, 1064, 1065, 1099, 1100, 1101, 1102, 1103, 1104, 1105, 1106, 1107, 1108, 1109, 1110, 1111, 1112, 1113, 1114, 1115, 1116, 1117, 1118] rfl (by decide +kernel)
set_option maxRecDepth 20000 in
theorem gL_law_X11_list : GoodIn wsL_law2 (wsV RL 92 RX11 yX11_list wsX11_list) := goodIn_app (goodIn_of _ (by decide +kernel)) ggL_law_X11_list
theorem dL_law_728 : decode cL_law 728 = .ok (.invokevirtual 92, 3) := by decide +kernel
theorem dL_law_731 : decode cL_law 731 = .ok (.aload_n 2, 1) := by decide +kernel
theorem dL_law_732 : decode cL_law 732 = .ok (.aload_n 0, 1) := by decide +kernel
theorem dL_law_733 : decode cL_law 733 = .ok (.iload 4, 2) := by decide +kernel
theorem dL_law_735 : decode cL_law 735 = .ok (.iconst 1, 1) := by decide +kernel
theorem dL_law_736 : decode cL_law 736 = .ok (.iadd, 1) := by decide +kernel
theorem dL_law_737 : decode cL_law 737 = .ok (.iaload, 1) := by decide +kernel
theorem dL_law_738 : decode cL_law 738 = .ok (.aload_n 0, 1) := by decide +kernel
theorem dL_law_739 : decode cL_law 739 = .ok (.iload 4, 2) := by decide +kernel
theorem dL_law_741 : decode cL_law 741 = .ok (.iconst 2, 1) := by decide +kernel
theorem dL_law_742 : decode cL_law 742 = .ok (.iadd, 1) := by decide +kernel
theorem dL_law_743 : decode cL_law 743 = .ok (.iaload, 1) := by decide +kernel
set_option maxRecDepth 100000 in
theorem ggL_law_X12_list : GoodIn wsL_law2 wsX12_list := goodIn_r _ [658, 240, 214, 475, 206, 207, 317, 383, 384, 5, 385, 1017, 1018, 1019, 1020, 1021, 1022, 1023, 1024, 1025, 1026, 1027, 1028, 1029, 1030, 1031, 1032, 1033, 1034, 1035, 1036, 1037, 1038, 1039, 1040, 1041, 1042, 1043, 1044, 1045, 1046, 1047, 1048, 1049, 1050, 1051, 1052, 1053, 1054, 1055, 1056] rfl (by decide +kernel)
set_option maxRecDepth 20000 in
theorem gL_law_X12_list : GoodIn wsL_law2 (wsV RL 95 RX12 yX12_list wsX12_list) := goodIn_app (goodIn_of _ (by decide +kernel)) ggL_law_X12_list
theorem dL_law_744 : decode cL_law 744 = .ok (.invokevirtual 95, 3) := by decide +kernel
theorem dL_law_747 : decode cL_law 747 = .ok (.if_icmp .eq 303, 3) := by decide +kernel
theorem dL_law_752 : decode cL_law 752 = .ok (.aload_n 1, 1) := by decide +kernel
set_option maxRecDepth 100000 in
theorem ggL_law_X11_unlist : GoodIn wsL_law2 wsX11_unlist := goodIn_r _ [662, 33, 50, 450, 451, 452, 21, 453, 98, 663, 664, 665, 666, 297, 298, 299, 49, 300, 187, 1005, 1006, 1007, 1008, 1009, 1010, 1011, 1012, 1013, 1014, 1015, 1016, 1062, 1063, 1064, 1065, 1099, 1100, 1101, 1102, 1103, 1104, 1105, 1106, 1107, 1108, 1109, 1110, 1111, 1112, 1113, 1114, 1115, 1116, 1117, 1118] rfl (by decide +kernel)
set_option maxRecDepth 20000 in
theorem gL_law_X11_unlist : GoodIn wsL_law2 (wsV RL 96 RX11 yX11_unlist wsX11_unlist) := goodIn_app (goodIn_of _ (by decide +kernel)) ggL_law_X11_unlist
theorem dL_law_753 : decode cL_law 753 = .ok (.invokevirtual 96, 3) := by decide +kernel
theorem dL_law_756 : decode cL_law 756 = .ok (.aload_n 2, 1) := by decide +kernel
set_option maxRecDepth 100000 in
theorem ggL_law_X12_unlist : GoodIn wsL_law2 wsX12_unlist := goodIn_r _ [670, 240, 475, 317, 1017, 1018, 1019, 1020, 1021, 1022, 1023, 1024, 1025, 1026, 1027, 1028, 1029, 1030, 1031, 1032, 1033, 1034, 1035, 1036, 1037, 1038, 1039, 1040, 1041, 1042, 1043, 1044, 1045, 1046, 1047, 1048, 1049, 1050, 1051, 1052, 1053, 1054, 1055, 1056] rfl (by decide +kernel)
set_option maxRecDepth 20000 in
theorem gL_law_X12_unlist : GoodIn wsL_law2 (wsV RL 99 RX12 yX12_unlist wsX12_unlist) := goodIn_app (goodIn_of _ (by decide +kernel)) ggL_law_X12_unlist
theorem dL_law_757 : decode cL_law 757 = .ok (.invokevirtual 99, 3) := by decide +kernel
theorem dL_law_760 : decode cL_law 760 = .ok (.if_icmp .eq 290, 3) := by decide +kernel
theorem dL_law_765 : decode cL_law 765 = .ok (.aload_n 1, 1) := by decide +kernel
theorem dL_law_766 : decode cL_law 766 = .ok (.aload_n 0, 1) := by decide +kernel
theorem dL_law_767 : decode cL_law 767 = .ok (.iload 4, 2) := by decide +kernel
theorem dL_law_769 : decode cL_law 769 = .ok (.iconst 1, 1) := by decide +kernel
theorem dL_law_770 : decode cL_law 770 = .ok (.iadd, 1) := by decide +kernel
theorem dL_law_771 : decode cL_law 771 = .ok (.iaload, 1) := by decide +kernel
set_option maxRecDepth 100000 in
theorem ggL_law_X11_rows : GoodIn wsL_law2 wsX11_rows := goodIn_r _ [674, 51, 42, 29, 675, 676, 677, 41, 678, 124, 130, 121, 122, 123, 134, 70, 71, 72, 679, 451, 452, 21, 453, 98, 680, 681, 682, 683, 97, 96, 95, 684, 570, 571, 18, 572, 78, 573, 509, 510, 511, 80, 79, 334, 247, 248, 27, 249, 90, 335, 229, 230, 231, 512, 263, 264, 265, 89, 513, 514, 515, 15, 516, 517, 233, 234, 235, 518, 519, 520, 362, 363, 364, 521, 522, 523, 345, 346, 347, 348, 58, 59, 524, 414, 415, 57, 416, 67, 417, 418, 419, 420, 421, 66, 574, 330, 331, 332, 333, 86, 87, 88, 336, 337, 338, 339, 340, 341, 342, 343, 344, 349, 350, 351, 352, 65, 353, 354, 355, 356, 357, 358, 267, 2, 268, 269, 270, 271, 359, 360, 361, 365, 366, 367, 368, 369, 370, 371, 685, 686, 687, 688, 131, 125, 689, 690, 691, 24, 692, 693, 694, 695, 696, 697, 698, 105, 104, 699, 700, 701, 702, 703, 103, 704, 705, 706, 707, 708, 709, 710, 711, 712, 713, 714, 715, 716, 717, 126, 718, 719, 720, 721, 132, 127, 128, 129, 1005, 1006, 1007, 1008, 1009, 1010, 1011, 1012, 1013, 1014, 1015, 1016, 1075, 1076, 1077, 1078, 1079, 1080, 1081, 1082, 1083, 1084, 1085, 1086, 1062, 1063, 1064, 1065, 1059, 1060, 1061, 1069, 1070, 1057, 1058, 1119, 1120, 1121, 1122, 1066, 1067, 1068] rfl (by decide +kernel)
set_option maxRecDepth 20000 in
theorem gL_law_X11_rows : GoodIn wsL_law2 (wsV RL 100 RX11 yX11_rows wsX11_rows) := goodIn_app (goodIn_of _ (by decide +kernel)) ggL_law_X11_rows
theorem dL_law_772 : decode cL_law 772 = .ok (.invokevirtual 100, 3) := by decide +kernel
theorem dL_law_775 : decode cL_law 775 = .ok (.aload_n 2, 1) := by decide +kernel
theorem dL_law_776 : decode cL_law 776 = .ok (.aload_n 0, 1) := by decide +kernel
theorem dL_law_777 : decode cL_law 777 = .ok (.iload 4, 2) := by decide +kernel
theorem dL_law_779 : decode cL_law 779 = .ok (.iconst 1, 1) := by decide +kernel
theorem dL_law_780 : decode cL_law 780 = .ok (.iadd, 1) := by decide +kernel
theorem dL_law_781 : decode cL_law 781 = .ok (.iaload, 1) := by decide +kernel
set_option maxRecDepth 100000 in
theorem ggL_law_X12_rows : GoodIn wsL_law2 wsX12_rows := goodIn_r _ [725, 240, 214, 726, 475, 208, 217, 604, 727, 728, 5, 729, 730, 731, 732, 733, 206, 207, 605, 606, 607, 608, 199, 200, 609, 610, 611, 612, 382, 218, 216, 381, 579, 580, 581, 582, 380, 533, 534, 535, 536, 537, 538, 539, 540, 204, 308, 541, 542, 543, 544, 215, 386, 387, 388, 389, 390, 391, 392, 393, 394, 395, 201, 396, 397, 398, 399, 400, 401, 402, 305, 306, 307, 309, 310, 734, 735, 736, 737, 738, 739, 740, 741, 476, 209, 210, 211, 742, 743, 744, 1017, 1018, 1019, 1020, 1021, 1022, 1023, 1024, 1025, 1026, 1027, 1028, 1029, 1030, 1031, 1032, 1033, 1034, 1035, 1036, 1037, 1038, 1039, 1040, 1041, 1042, 1043, 1044, 1045, 1046, 1047, 1048, 1049, 1050, 1051, 1052, 1053, 1054, 1055, 1056] rfl (by decide +kernel)
set_option maxRecDepth 20000 in
theorem gL_law_X12_rows : GoodIn wsL_law2 (wsV RL 103 RX12 yX12_rows wsX12_rows) := goodIn_app (goodIn_of _ (by decide +kernel)) ggL_law_X12_rows
theorem dL_law_782 : decode cL_law 782 = .ok (.invokevirtual 103, 3) := by decide +kernel
theorem dL_law_785 : decode cL_law 785 = .ok (.if_icmp .eq 265, 3) := by decide +kernel
theorem dL_law_790 : decode cL_law 790 = .ok (.aload_n 1, 1) := by decide +kernel
theorem dL_law_791 : decode cL_law 791 = .ok (.aload_n 0, 1) := by decide +kernel
theorem dL_law_792 : decode cL_law 792 = .ok (.iload 4, 2) := by decide +kernel
theorem dL_law_794 : decode cL_law 794 = .ok (.iconst 1, 1) := by decide +kernel
theorem dL_law_795 : decode cL_law 795 = .ok (.iadd, 1) := by decide +kernel
theorem dL_law_796 : decode cL_law 796 = .ok (.iaload, 1) := by decide +kernel
theorem dL_law_797 : decode cL_law 797 = .ok (.aload_n 0, 1) := by decide +kernel
theorem dL_law_798 : decode cL_law 798 = .ok (.iload 4, 2) := by decide +kernel
theorem dL_law_800 : decode cL_law 800 = .ok (.iconst 2, 1) := by decide +kernel
theorem dL_law_801 : decode cL_law 801 = .ok (.iadd, 1) := by decide +kernel
theorem dL_law_802 : decode cL_law 802 = .ok (.iaload, 1) := by decide +kernel
set_option maxRecDepth 100000 in
theorem ggL_law_X11_row : GoodIn wsL_law2 wsX11_row := goodIn_r _ [748, 42, 749, 750, 751, 41, 752, 132, 129, 127, 128, 1005, 1006, 1007, 1008, 1009, 1010, 1011, 1012, 1013, 1014, 1015, 1016, 1075, 1076, 1077, 1078, 1079, 1080, 1081, 1082, 1083, 1084, 1085, 1086] rfl (by decide +kernel)
set_option maxRecDepth 20000 in
theorem gL_law_X11_row : GoodIn wsL_law2 (wsV RL 104 RX11 yX11_row wsX11_row) := goodIn_app (goodIn_of _ (by decide +kernel)) ggL_law_X11_row
theorem dL_law_803 : decode cL_law 803 = .ok (.invokevirtual 104, 3) := by decide +kernel
theorem dL_law_806 : decode cL_law 806 = .ok (.aload_n 2, 1) := by decide +kernel
theorem dL_law_807 : decode cL_law 807 = .ok (.aload_n 0, 1) := by decide +kernel
theorem dL_law_808 : decode cL_law 808 = .ok (.iload 4, 2) := by decide +kernel
theorem dL_law_810 : decode cL_law 810 = .ok (.iconst 1, 1) := by decide +kernel
theorem dL_law_811 : decode cL_law 811 = .ok (.iadd, 1) := by decide +kernel
theorem dL_law_812 : decode cL_law 812 = .ok (.iaload, 1) := by decide +kernel
theorem dL_law_813 : decode cL_law 813 = .ok (.aload_n 0, 1) := by decide +kernel
theorem dL_law_814 : decode cL_law 814 = .ok (.iload 4, 2) := by decide +kernel
theorem dL_law_816 : decode cL_law 816 = .ok (.iconst 2, 1) := by decide +kernel
theorem dL_law_817 : decode cL_law 817 = .ok (.iadd, 1) := by decide +kernel
theorem dL_law_818 : decode cL_law 818 = .ok (.iaload, 1) := by decide +kernel
set_option maxRecDepth 100000 in
theorem ggL_law_X12_row : GoodIn wsL_law2 wsX12_row := goodIn_r _ [756, 240, 726, 208, 1017, 1018, 1019, 1020, 1021, 1022, 1023, 1024, 1025, 1026, 1027, 1028, 1029, 1030, 1031, 1032, 1033, 1034, 1035, 1036, 1037, 1038, 1039, 1040, 1041, 1042, 1043, 1044, 1045, 1046, 1047, 1048, 1049, 1050, 1051, 1052, 1053, 1054, 1055, 1056] rfl (by decide +kernel)
set_option maxRecDepth 20000 in
theorem gL_law_X12_row : GoodIn wsL_law2 (wsV RL 107 RX12 yX12_row wsX12_row) := goodIn_app (goodIn_of _ (by decide +kernel)) ggL_law_X12_row
theorem dL_law_819 : decode cL_law 819 = .ok (.invokevirtual 107, 3) := by decide +kernel
theorem dL_law_822 : decode cL_law 822 = .ok (.if_icmp .eq 228, 3) := by decide +kernel
theorem dL_law_827 : decode cL_law 827 = .ok (.aload_n 1, 1) := by decide +kernel
theorem dL_law_828 : decode cL_law 828 = .ok (.aload_n 0, 1) := by decide +kernel
theorem dL_law_829 : decode cL_law 829 = .ok (.iload 4, 2) := by decide +kernel
theorem dL_law_831 : decode cL_law 831 = .ok (.iconst 1, 1) := by decide +kernel
theorem dL_law_832 : decode cL_law 832 = .ok (.iadd, 1) := by decide +kernel
theorem dL_law_833 : decode cL_law 833 = .ok (.iaload, 1) := by decide +kernel
theorem dL_law_834 : decode cL_law 834 = .ok (.aload_n 0, 1) := by decide +kernel
theorem dL_law_835 : decode cL_law 835 = .ok (.iload 4, 2) := by decide +kernel
theorem dL_law_837 : decode cL_law 837 = .ok (.iconst 2, 1) := by decide +kernel
theorem dL_law_838 : decode cL_law 838 = .ok (.iadd, 1) := by decide +kernel
theorem dL_law_839 : decode cL_law 839 = .ok (.iaload, 1) := by decide +kernel
theorem dL_law_840 : decode cL_law 840 = .ok (.aload_n 0, 1) := by decide +kernel
theorem dL_law_841 : decode cL_law 841 = .ok (.iload 4, 2) := by decide +kernel
theorem dL_law_843 : decode cL_law 843 = .ok (.iconst 3, 1) := by decide +kernel
theorem dL_law_844 : decode cL_law 844 = .ok (.iadd, 1) := by decide +kernel
theorem dL_law_845 : decode cL_law 845 = .ok (.iaload, 1) := by decide +kernel
set_option maxRecDepth 100000 in
theorem ggL_law_X11_cost : GoodIn wsL_law2 wsX11_cost := goodIn_r _ [760, 34, 50, 266, 267, 2, 268, 269, 270, 271, 761, 762, 763, 24, 764, 104, 105, 103, 699, 700, 701, 702, 703, 704, 705, 706, 297, 298, 299, 49, 300, 187, 1005, 1006, 1007, 1008, 1009, 1010, 1011, 1012, 1013, 1014, 1015, 1016, 1066, 1067, 1068, 1099, 1100, 1101, 1102, 1103, 1104, 1105, 1106, 1107, 1108, 1109, 1110, 1111, 1112, 1113, 1114, 1115, 1116, 1117, 1118] rfl (by decide +kernel)
set_option maxRecDepth 20000 in
theorem gL_law_X11_cost : GoodIn wsL_law2 (wsV RL 108 RX11 yX11_cost wsX11_cost) := goodIn_app (goodIn_of _ (by decide +kernel)) ggL_law_X11_cost
theorem dL_law_846 : decode cL_law 846 = .ok (.invokevirtual 108, 3) := by decide +kernel
theorem dL_law_849 : decode cL_law 849 = .ok (.aload_n 2, 1) := by decide +kernel
theorem dL_law_850 : decode cL_law 850 = .ok (.aload_n 0, 1) := by decide +kernel
theorem dL_law_851 : decode cL_law 851 = .ok (.iload 4, 2) := by decide +kernel
theorem dL_law_853 : decode cL_law 853 = .ok (.iconst 1, 1) := by decide +kernel
theorem dL_law_854 : decode cL_law 854 = .ok (.iadd, 1) := by decide +kernel
theorem dL_law_855 : decode cL_law 855 = .ok (.iaload, 1) := by decide +kernel
theorem dL_law_856 : decode cL_law 856 = .ok (.aload_n 0, 1) := by decide +kernel
theorem dL_law_857 : decode cL_law 857 = .ok (.iload 4, 2) := by decide +kernel
theorem dL_law_859 : decode cL_law 859 = .ok (.iconst 2, 1) := by decide +kernel
theorem dL_law_860 : decode cL_law 860 = .ok (.iadd, 1) := by decide +kernel
theorem dL_law_861 : decode cL_law 861 = .ok (.iaload, 1) := by decide +kernel
theorem dL_law_862 : decode cL_law 862 = .ok (.aload_n 0, 1) := by decide +kernel
theorem dL_law_863 : decode cL_law 863 = .ok (.iload 4, 2) := by decide +kernel
theorem dL_law_865 : decode cL_law 865 = .ok (.iconst 3, 1) := by decide +kernel
theorem dL_law_866 : decode cL_law 866 = .ok (.iadd, 1) := by decide +kernel
theorem dL_law_867 : decode cL_law 867 = .ok (.iaload, 1) := by decide +kernel
set_option maxRecDepth 100000 in
theorem ggL_law_X12_cost : GoodIn wsL_law2 wsX12_cost := goodIn_r _ [768, 240, 476, 209, 210, 211, 317, 305, 306, 5, 307, 308, 309, 310, 1017, 1018, 1019, 1020, 1021, 1022, 1023, 1024, 1025, 1026, 1027, 1028, 1029, 1030, 1031, 1032, 1033, 1034, 1035, 1036, 1037, 1038, 1039, 1040, 1041, 1042, 1043, 1044, 1045, 1046, 1047, 1048, 1049, 1050, 1051, 1052, 1053, 1054, 1055, 1056] rfl (by decide +kernel)
set_option maxRecDepth 20000 in
theorem gL_law_X12_cost : GoodIn wsL_law2 (wsV RL 112 RX12 yX12_cost wsX12_cost) := goodIn_app (goodIn_of _ (by decide +kernel)) ggL_law_X12_cost
theorem dL_law_868 : decode cL_law 868 = .ok (.invokevirtual 112, 3) := by decide +kernel
theorem dL_law_871 : decode cL_law 871 = .ok (.if_icmp .eq 179, 3) := by decide +kernel
theorem dL_law_876 : decode cL_law 876 = .ok (.aload_n 1, 1) := by decide +kernel
set_option maxRecDepth 100000 in
theorem ggL_law_X11_worth : GoodIn wsL_law2 wsX11_worth := goodIn_r _ [772, 34, 29, 773, 690, 691, 24, 692, 693, 229, 230, 27, 231, 90, 694, 263, 264, 265, 89, 695, 696, 697, 698, 105, 104, 699, 700, 701, 702, 703, 103, 704, 705, 706, 707, 708, 709, 710, 711, 712, 1005, 1006, 1007, 1008, 1009, 1010, 1011, 1012, 1013, 1014, 1015, 1016, 1069, 1070, 1066, 1067, 1068] rfl (by decide +kernel)
set_option maxRecDepth 20000 in
theorem gL_law_X11_worth : GoodIn wsL_law2 (wsV RL 113 RX11 yX11_worth wsX11_worth) := goodIn_app (goodIn_of _ (by decide +kernel)) ggL_law_X11_worth
theorem dL_law_877 : decode cL_law 877 = .ok (.invokevirtual 113, 3) := by decide +kernel
theorem dL_law_880 : decode cL_law 880 = .ok (.aload_n 2, 1) := by decide +kernel
set_option maxRecDepth 100000 in
theorem ggL_law_X12_worth : GoodIn wsL_law2 wsX12_worth := goodIn_r _ [777, 240, 200, 199, 734, 735, 736, 5, 737, 738, 739, 740, 741, 476, 209, 210, 211, 742, 743, 744, 1017, 1018, 1019, 1020, 1021, 1022, 1023, 1024, 1025, 1026, 1027, 1028, 1029, 1030, 1031, 1032, 1033, 1034, 1035, 1036, 1037, 1038, 1039, 1040, 1041, 1042, 1043, 1044, 1045, 1046, 1047, 1048, 1049, 1050, 1051, 1052, 1053, 1054, 1055, 1056] rfl (by decide +kernel)
set_option maxRecDepth 20000 in
theorem gL_law_X12_worth : GoodIn wsL_law2 (wsV RL 116 RX12 yX12_worth wsX12_worth) := goodIn_app (goodIn_of _ (by decide +kernel)) ggL_law_X12_worth
theorem dL_law_881 : decode cL_law 881 = .ok (.invokevirtual 116, 3) := by decide +kernel
theorem dL_law_884 : decode cL_law 884 = .ok (.if_icmp .eq 166, 3) := by decide +kernel
theorem dL_law_889 : decode cL_law 889 = .ok (.aload_n 1, 1) := by decide +kernel
theorem dL_law_890 : decode cL_law 890 = .ok (.aload_n 0, 1) := by decide +kernel
theorem dL_law_891 : decode cL_law 891 = .ok (.iload 4, 2) := by decide +kernel
theorem dL_law_893 : decode cL_law 893 = .ok (.iconst 1, 1) := by decide +kernel
theorem dL_law_894 : decode cL_law 894 = .ok (.iadd, 1) := by decide +kernel
theorem dL_law_895 : decode cL_law 895 = .ok (.iaload, 1) := by decide +kernel
theorem dL_law_896 : decode cL_law 896 = .ok (.aload_n 0, 1) := by decide +kernel
theorem dL_law_897 : decode cL_law 897 = .ok (.iload 4, 2) := by decide +kernel
theorem dL_law_899 : decode cL_law 899 = .ok (.iconst 2, 1) := by decide +kernel
theorem dL_law_900 : decode cL_law 900 = .ok (.iadd, 1) := by decide +kernel
theorem dL_law_901 : decode cL_law 901 = .ok (.iaload, 1) := by decide +kernel
set_option maxRecDepth 100000 in
theorem ggL_law_X11_mend : GoodIn wsL_law2 wsX11_mend := goodIn_r _ [781, 51, 782, 42, 29, 34, 30, 675, 676, 677, 41, 678, 124, 130, 121, 122, 123, 134, 70, 71, 72, 679, 451, 452, 21, 453, 98, 680, 681, 682, 683, 97, 96, 95, 684, 570, 571, 18, 572, 78, 573, 509, 510, 511, 80, 79, 334, 247, 248, 27, 249, 90, 335, 229, 230, 231, 512, 263, 264, 265, 89, 513, 514, 515, 15, 516, 517, 233, 234, 235, 518, 519, 520, 362, 363, 364, 521, 522, 523, 345, 346, 347, 348, 58, 59, 524, 414, 415, 57, 416, 67, 417, 418, 419, 420, 421, 66, 574, 330, 331, 332, 333, 86, 87, 88, 336, 337, 338, 339, 340, 341, 342, 343, 344, 349, 350, 351, 352, 65, 353, 354, 355, 356, 357, 358, 267, 2, 268, 269, 270, 271, 359, 360, 361, 365, 366, 367, 368, 369, 370, 371, 685, 686, 687, 688, 131, 125, 689, 690, 691, 24, 692, 693, 694, 695, 696, 697, 698, 105, 104, 699, 700, 701, 702, 703, 103, 704, 705, 706, 707, 708, 709, 710, 711, 712, 713, 714, 715, 716, 717, 126, 783, 784, 785, 786, 773, 787, 788, 789, 790, 791, 792, 793, 794, 795, 273, 274, 275, 276, 277, 278, 279, 280, 281, 282, 283, 284, 285, 286, 287, 38, 50, 288, 289, 290, 37, 291, 292, 293, 294, 112, 114, 113, 115, 295, 296, 272, 297, 298, 299, 49, 300, 187, 228, 796, 797, 798, 799, 1005, 1006, 1007, 1008, 1009, 1010, 1011, 1012, 1013, 1014, 1015, 1016, 1075, 1076, 1077, 1078, 1079, 1080, 1081, 1082, 1083, 1084, 1085, 1086, 1062, 1063, 1064, 1065, 1059, 1060, 1061, 1069, 1070, 1057, 1058, 1119, 1120, 1121, 1122, 1066, 1067, 1068, 1071, 1072, 1073, 1074, 1099, 1100, 1101, 1102, 1103, 1104, 1105, 1106, 1107, 1108, 1109, 1110, 1111, 1112, 1113, 1114, 1115, 1116, 1117, 1118] rfl (by decide +kernel)
set_option maxRecDepth 20000 in
theorem gL_law_X11_mend : GoodIn wsL_law2 (wsV RL 117 RX11 yX11_mend wsX11_mend) := goodIn_app (goodIn_of _ (by decide +kernel)) ggL_law_X11_mend
theorem dL_law_902 : decode cL_law 902 = .ok (.invokevirtual 117, 3) := by decide +kernel
theorem dL_law_905 : decode cL_law 905 = .ok (.aload_n 2, 1) := by decide +kernel
theorem dL_law_906 : decode cL_law 906 = .ok (.aload_n 0, 1) := by decide +kernel
theorem dL_law_907 : decode cL_law 907 = .ok (.iload 4, 2) := by decide +kernel
theorem dL_law_909 : decode cL_law 909 = .ok (.iconst 1, 1) := by decide +kernel
theorem dL_law_910 : decode cL_law 910 = .ok (.iadd, 1) := by decide +kernel
theorem dL_law_911 : decode cL_law 911 = .ok (.iaload, 1) := by decide +kernel
theorem dL_law_912 : decode cL_law 912 = .ok (.aload_n 0, 1) := by decide +kernel
theorem dL_law_913 : decode cL_law 913 = .ok (.iload 4, 2) := by decide +kernel
theorem dL_law_915 : decode cL_law 915 = .ok (.iconst 2, 1) := by decide +kernel
theorem dL_law_916 : decode cL_law 916 = .ok (.iadd, 1) := by decide +kernel
theorem dL_law_917 : decode cL_law 917 = .ok (.iaload, 1) := by decide +kernel
set_option maxRecDepth 100000 in
theorem ggL_law_X12_mend : GoodIn wsL_law2 wsX12_mend := goodIn_r _ [803, 240, 214, 804, 475, 217, 604, 200, 199, 727, 728, 5, 729, 730, 731, 732, 733, 206, 207, 605, 606, 607, 608, 609, 610, 611, 612, 382, 218, 216, 381, 579, 580, 581, 582, 380, 533, 534, 535, 536, 537, 538, 539, 540, 204, 308, 541, 542, 543, 544, 215, 386, 387, 388, 389, 390, 391, 392, 393, 394, 395, 201, 396, 397, 398, 399, 400, 401, 402, 305, 306, 307, 309, 310, 734, 735, 736, 737, 738, 739, 740, 741, 476, 209, 210, 211, 742, 743, 744, 311, 312, 313, 314, 315, 316, 317, 1017, 1018, 1019, 1020, 1021, 1022, 1023, 1024, 1025, 1026, 1027, 1028, 1029, 1030, 1031, 1032, 1033, 1034, 1035, 1036, 1037, 1038, 1039, 1040, 1041, 1042, 1043, 1044, 1045, 1046, 1047, 1048, 1049, 1050, 1051, 1052, 1053, 1054, 1055, 1056] rfl (by decide +kernel)
set_option maxRecDepth 20000 in
theorem gL_law_X12_mend : GoodIn wsL_law2 (wsV RL 120 RX12 yX12_mend wsX12_mend) := goodIn_app (goodIn_of _ (by decide +kernel)) ggL_law_X12_mend
theorem dL_law_918 : decode cL_law 918 = .ok (.invokevirtual 120, 3) := by decide +kernel
theorem dL_law_921 : decode cL_law 921 = .ok (.if_icmp .eq 129, 3) := by decide +kernel
theorem dL_law_926 : decode cL_law 926 = .ok (.aload_n 1, 1) := by decide +kernel
theorem dL_law_927 : decode cL_law 927 = .ok (.aload_n 0, 1) := by decide +kernel
theorem dL_law_928 : decode cL_law 928 = .ok (.iload 4, 2) := by decide +kernel
theorem dL_law_930 : decode cL_law 930 = .ok (.iconst 1, 1) := by decide +kernel
theorem dL_law_931 : decode cL_law 931 = .ok (.iadd, 1) := by decide +kernel
theorem dL_law_932 : decode cL_law 932 = .ok (.iaload, 1) := by decide +kernel
set_option maxRecDepth 100000 in
theorem ggL_law_X11_parts : GoodIn wsL_law2 wsX11_parts := goodIn_r _ [808, 51, 29, 46, 30, 228, 229, 230, 27, 231, 90, 809, 810, 811, 45, 812, 154, 813, 293, 87, 294, 143, 144, 148, 814, 815, 816, 817, 818, 149, 819, 263, 264, 265, 89, 820, 696, 697, 24, 698, 105, 104, 699, 700, 701, 702, 703, 103, 704, 705, 706, 707, 708, 709, 710, 711, 712, 821, 822, 823, 824, 145, 146, 825, 826, 827, 828, 829, 451, 452, 21, 453, 98, 830, 831, 832, 833, 153, 140, 147, 834, 835, 836, 152, 837, 162, 163, 164, 165, 838, 247, 248, 249, 839, 840, 841, 842, 96, 843, 514, 515, 15, 516, 517, 233, 234, 235, 518, 519, 520, 362, 363, 364, 521, 522, 523, 345, 346, 347, 348, 58, 59, 524, 414, 415, 57, 416, 67, 417, 418, 419, 420, 421, 66, 844, 845, 846, 847, 95, 848, 849, 850, 851, 852, 853, 854, 855, 160, 161, 856, 86, 88, 857, 337, 338, 339, 340, 341, 342, 343, 344, 349, 350, 351, 352, 65, 353, 354, 355, 356, 357, 358, 267, 2, 268, 269, 270, 271, 359, 360, 361, 858, 366, 367, 859, 860, 370, 371, 861, 862, 863, 864, 865, 866, 867, 868, 869, 870, 871, 872, 873, 874, 875, 876, 141, 142, 877, 878, 879, 273, 274, 275, 276, 277, 278, 279, 280, 281, 282, 283, 880, 681, 682, 683, 97, 684, 570, 571, 18, 572, 78, 573, 509, 510, 511, 80, 79, 334, 335, 512, 513, 574, 330, 331, 332, 333, 336, 365, 368, 369, 881, 284, 285, 286, 287, 38, 50, 288, 289, 290, 37, 291, 292, 112, 114, 113, 115, 295, 296, 272, 297, 298, 299, 49, 300, 187, 882, 883, 884, 885, 1005, 1006, 1007, 1008, 1009, 1010, 1011, 1012, 1013, 1014, 1015, 1016, 1069, 1070, 1087, 1088, 1089, 1090, 1091, 1092, 1093, 1094, 1095, 1096, 1097, 1098, 1066, 1067, 1068, 1062, 1063, 1064, 1065, 1123, 1124, 1125, 1126, 1127, 1128, 1057, 1058, 1119, 1120, 1121, 1122, 1059, 1060, 1061, 1071, 1072, 1073, 1074, 1099, 1100, 1101, 1102, 1103, 1104, 1105, 1106, 1107, 1108, 1109, 1110, 1111, 1112, 1113, 1114, 1115, 1116, 1117, 1118] rfl (by decide +kernel)
set_option maxRecDepth 20000 in
theorem gL_law_X11_parts : GoodIn wsL_law2 (wsV RL 121 RX11 yX11_parts wsX11_parts) := goodIn_app (goodIn_of _ (by decide +kernel)) ggL_law_X11_parts
theorem dL_law_933 : decode cL_law 933 = .ok (.invokevirtual 121, 3) := by decide +kernel
theorem dL_law_936 : decode cL_law 936 = .ok (.aload_n 2, 1) := by decide +kernel
theorem dL_law_937 : decode cL_law 937 = .ok (.aload_n 0, 1) := by decide +kernel
theorem dL_law_938 : decode cL_law 938 = .ok (.iload 4, 2) := by decide +kernel
theorem dL_law_940 : decode cL_law 940 = .ok (.iconst 1, 1) := by decide +kernel
theorem dL_law_941 : decode cL_law 941 = .ok (.iadd, 1) := by decide +kernel
theorem dL_law_942 : decode cL_law 942 = .ok (.iaload, 1) := by decide +kernel
set_option maxRecDepth 100000 in
theorem ggL_law_X12_parts : GoodIn wsL_law2 wsX12_parts := goodIn_r _ [889, 240, 214, 199, 220, 475, 217, 604, 219, 221, 222, 223, 890, 891, 892, 5, 893, 200, 206, 207, 609, 610, 611, 612, 382, 218, 216, 381, 579, 580, 581, 582, 380, 533, 534, 535, 536, 537, 538, 539, 540, 204, 308, 541, 542, 543, 544, 215, 386, 387, 388, 389, 390, 391, 392, 393, 394, 395, 201, 396, 397, 398, 399, 400, 401, 402, 305, 306, 307, 309, 310, 734, 735, 736, 737, 738, 739, 740, 741, 476, 209, 210, 211, 742, 743, 744, 311, 312, 313, 314, 315, 316, 317, 1017, 1018, 1019, 1020, 1021, 1022, 1023, 1024, 1025, 1026, 1027, 1028, 1029, 1030, 1031, 1032, 1033, 1034, 1035, 1036, 1037, 1038, 1039, 1040, 1041, 1042, 1043, 1044, 1045, 1046, 1047, 1048, 1049, 1050, 1051, 1052, 1053, 1054, 1055, 1056] rfl (by decide +kernel)
set_option maxRecDepth 20000 in
theorem gL_law_X12_parts : GoodIn wsL_law2 (wsV RL 124 RX12 yX12_parts wsX12_parts) := goodIn_app (goodIn_of _ (by decide +kernel)) ggL_law_X12_parts
theorem dL_law_943 : decode cL_law 943 = .ok (.invokevirtual 124, 3) := by decide +kernel
theorem dL_law_946 : decode cL_law 946 = .ok (.if_icmp .eq 104, 3) := by decide +kernel
theorem dL_law_951 : decode cL_law 951 = .ok (.aload_n 1, 1) := by decide +kernel
theorem dL_law_952 : decode cL_law 952 = .ok (.aload_n 0, 1) := by decide +kernel
theorem dL_law_953 : decode cL_law 953 = .ok (.iload 4, 2) := by decide +kernel
theorem dL_law_955 : decode cL_law 955 = .ok (.iconst 1, 1) := by decide +kernel
theorem dL_law_956 : decode cL_law 956 = .ok (.iadd, 1) := by decide +kernel
theorem dL_law_957 : decode cL_law 957 = .ok (.iaload, 1) := by decide +kernel
theorem dL_law_958 : decode cL_law 958 = .ok (.aload_n 0, 1) := by decide +kernel
theorem dL_law_959 : decode cL_law 959 = .ok (.iload 4, 2) := by decide +kernel
theorem dL_law_961 : decode cL_law 961 = .ok (.iconst 2, 1) := by decide +kernel
theorem dL_law_962 : decode cL_law 962 = .ok (.iadd, 1) := by decide +kernel
theorem dL_law_963 : decode cL_law 963 = .ok (.iaload, 1) := by decide +kernel
set_option maxRecDepth 100000 in
theorem ggL_law_X11_choices : GoodIn wsL_law2 wsX11_choices := goodIn_r _ [897, 51, 29, 50, 458, 459, 2, 460, 461, 228, 229, 230, 27, 231, 90, 262, 263, 264, 265, 89, 322, 323, 15, 324, 898, 899, 900, 49, 901, 171, 190, 191, 902, 179, 903, 247, 248, 249, 904, 905, 906, 233, 234, 235, 907, 514, 515, 516, 517, 518, 519, 520, 362, 363, 364, 521, 522, 523, 345, 346, 347, 348, 58, 59, 524, 414, 415, 57, 416, 67, 417, 418, 419, 420, 421, 66, 908, 909, 910, 911, 188, 189, 185, 186, 182, 183, 187, 912, 913, 914, 915, 916, 293, 87, 294, 172, 173, 174, 180, 917, 337, 338, 339, 340, 341, 342, 343, 344, 349, 350, 351, 352, 65, 353, 354, 355, 356, 357, 358, 267, 268, 269, 270, 271, 359, 360, 361, 918, 370, 371, 919, 366, 367, 920, 696, 697, 24, 698, 105, 104, 699, 700, 701, 702, 703, 103, 704, 705, 706, 707, 708, 709, 710, 711, 712, 921, 835, 836, 152, 837, 162, 163, 164, 165, 922, 849, 850, 851, 852, 853, 854, 855, 160, 161, 856, 86, 88, 857, 858, 859, 860, 923, 924, 925, 926, 927, 928, 929, 930, 931, 932, 933, 934, 935, 936, 937, 938, 939, 940, 941, 942, 943, 184, 944, 866, 867, 868, 945, 946, 862, 863, 864, 947, 870, 871, 872, 948, 949, 950, 951, 177, 175, 176, 178, 1005, 1006, 1007, 1008, 1009, 1010, 1011, 1012, 1013, 1014, 1015, 1016, 1069, 1070, 1099, 1100, 1101, 1102, 1103, 1104, 1105, 1106, 1107, 1108, 1109, 1110, 1111, 1112, 1113, 1114, 1115, 1116, 1117, 1118, 1057, 1058, 1119, 1120, 1121, 1122, 1066, 1067, 1068, 1123, 1124, 1125, 1126, 1127, 1128] rfl (by decide +kernel)
set_option maxRecDepth 20000 in
theorem gL_law_X11_choices : GoodIn wsL_law2 (wsV RL 125 RX11 yX11_choices wsX11_choices) := goodIn_app (goodIn_of _ (by decide +kernel)) ggL_law_X11_choices
theorem dL_law_964 : decode cL_law 964 = .ok (.invokevirtual 125, 3) := by decide +kernel
theorem dL_law_967 : decode cL_law 967 = .ok (.aload_n 2, 1) := by decide +kernel
theorem dL_law_968 : decode cL_law 968 = .ok (.aload_n 0, 1) := by decide +kernel
theorem dL_law_969 : decode cL_law 969 = .ok (.iload 4, 2) := by decide +kernel
theorem dL_law_971 : decode cL_law 971 = .ok (.iconst 1, 1) := by decide +kernel
theorem dL_law_972 : decode cL_law 972 = .ok (.iadd, 1) := by decide +kernel
theorem dL_law_973 : decode cL_law 973 = .ok (.iaload, 1) := by decide +kernel
theorem dL_law_974 : decode cL_law 974 = .ok (.aload_n 0, 1) := by decide +kernel
theorem dL_law_975 : decode cL_law 975 = .ok (.iload 4, 2) := by decide +kernel
theorem dL_law_977 : decode cL_law 977 = .ok (.iconst 2, 1) := by decide +kernel
theorem dL_law_978 : decode cL_law 978 = .ok (.iadd, 1) := by decide +kernel
theorem dL_law_979 : decode cL_law 979 = .ok (.iaload, 1) := by decide +kernel
set_option maxRecDepth 100000 in
theorem ggL_law_X12_choices : GoodIn wsL_law2 wsX12_choices := goodIn_r _ [955, 240, 214, 199, 381, 217, 604, 212, 956, 957, 958, 317, 213, 477, 478, 479, 5, 480, 200, 390, 383, 384, 385, 959, 960, 961, 962, 380, 541, 542, 543, 544, 215, 537, 538, 539, 540, 204, 308, 963, 964, 965, 966, 392, 393, 394, 395, 391, 201, 396, 397, 398, 399, 400, 401, 402, 305, 306, 307, 309, 310, 967, 968, 969, 970, 382, 216, 386, 387, 388, 389, 533, 534, 535, 536, 734, 735, 736, 737, 738, 739, 740, 741, 476, 209, 210, 211, 742, 743, 744, 1017, 1018, 1019, 1020, 1021, 1022, 1023, 1024, 1025, 1026, 1027, 1028, 1029, 1030, 1031, 1032, 1033, 1034, 1035, 1036, 1037, 1038, 1039, 1040, 1041, 1042, 1043, 1044, 1045, 1046, 1047, 1048, 1049, 1050, 1051, 1052, 1053, 1054, 1055, 1056] rfl (by decide +kernel)
set_option maxRecDepth 20000 in
theorem gL_law_X12_choices : GoodIn wsL_law2 (wsV RL 128 RX12 yX12_choices wsX12_choices) := goodIn_app (goodIn_of _ (by decide +kernel)) ggL_law_X12_choices
theorem dL_law_980 : decode cL_law 980 = .ok (.invokevirtual 128, 3) := by decide +kernel
theorem dL_law_983 : decode cL_law 983 = .ok (.if_icmp .eq 67, 3) := by decide +kernel
theorem dL_law_988 : decode cL_law 988 = .ok (.aload_n 1, 1) := by decide +kernel
theorem dL_law_989 : decode cL_law 989 = .ok (.aload_n 0, 1) := by decide +kernel
theorem dL_law_990 : decode cL_law 990 = .ok (.iload 4, 2) := by decide +kernel
theorem dL_law_992 : decode cL_law 992 = .ok (.iconst 1, 1) := by decide +kernel
theorem dL_law_993 : decode cL_law 993 = .ok (.iadd, 1) := by decide +kernel
theorem dL_law_994 : decode cL_law 994 = .ok (.iaload, 1) := by decide +kernel
theorem dL_law_995 : decode cL_law 995 = .ok (.aload_n 0, 1) := by decide +kernel
theorem dL_law_996 : decode cL_law 996 = .ok (.iload 4, 2) := by decide +kernel
theorem dL_law_998 : decode cL_law 998 = .ok (.iconst 2, 1) := by decide +kernel
theorem dL_law_999 : decode cL_law 999 = .ok (.iadd, 1) := by decide +kernel
theorem dL_law_1000 : decode cL_law 1000 = .ok (.iaload, 1) := by decide +kernel
set_option maxRecDepth 100000 in
theorem ggL_law_X11_choice : GoodIn wsL_law2 wsX11_choice := goodIn_r _ [974, 50, 975, 976, 977, 49, 978, 185, 175, 176, 177, 178, 1005, 1006, 1007, 1008, 1009, 1010, 1011, 1012, 1013, 1014, 1015, 1016, 1099, 1100, 1101, 1102, 1103, 1104, 1105, 1106, 1107, 1108, 1109, 1110, 1111, 1112, 1113, 1114, 1115, 1116, 1117, 1118] rfl (by decide +kernel)
set_option maxRecDepth 20000 in
theorem gL_law_X11_choice : GoodIn wsL_law2 (wsV RL 129 RX11 yX11_choice wsX11_choice) := goodIn_app (goodIn_of _ (by decide +kernel)) ggL_law_X11_choice
theorem dL_law_1001 : decode cL_law 1001 = .ok (.invokevirtual 129, 3) := by decide +kernel
theorem dL_law_1004 : decode cL_law 1004 = .ok (.aload_n 2, 1) := by decide +kernel
theorem dL_law_1005 : decode cL_law 1005 = .ok (.aload_n 0, 1) := by decide +kernel
theorem dL_law_1006 : decode cL_law 1006 = .ok (.iload 4, 2) := by decide +kernel
theorem dL_law_1008 : decode cL_law 1008 = .ok (.iconst 1, 1) := by decide +kernel
theorem dL_law_1009 : decode cL_law 1009 = .ok (.iadd, 1) := by decide +kernel
theorem dL_law_1010 : decode cL_law 1010 = .ok (.iaload, 1) := by decide +kernel
theorem dL_law_1011 : decode cL_law 1011 = .ok (.aload_n 0, 1) := by decide +kernel
theorem dL_law_1012 : decode cL_law 1012 = .ok (.iload 4, 2) := by decide +kernel
theorem dL_law_1014 : decode cL_law 1014 = .ok (.iconst 2, 1) := by decide +kernel
theorem dL_law_1015 : decode cL_law 1015 = .ok (.iadd, 1) := by decide +kernel
theorem dL_law_1016 : decode cL_law 1016 = .ok (.iaload, 1) := by decide +kernel
set_option maxRecDepth 100000 in
theorem ggL_law_X12_choice : GoodIn wsL_law2 wsX12_choice := goodIn_r _ [982, 240, 212, 983, 984, 985, 5, 986, 956, 1017, 1018, 1019, 1020, 1021, 1022, 1023, 1024, 1025, 1026, 1027, 1028, 1029, 1030, 1031, 1032, 1033, 1034, 1035, 1036, 1037, 1038, 1039, 1040, 1041, 1042, 1043, 1044, 1045, 1046, 1047, 1048, 1049, 1050, 1051, 1052, 1053, 1054, 1055, 1056] rfl (by decide +kernel)
set_option maxRecDepth 20000 in
theorem gL_law_X12_choice : GoodIn wsL_law2 (wsV RL 132 RX12 yX12_choice wsX12_choice) := goodIn_app (goodIn_of _ (by decide +kernel)) ggL_law_X12_choice
theorem dL_law_1017 : decode cL_law 1017 = .ok (.invokevirtual 132, 3) := by decide +kernel
theorem dL_law_1020 : decode cL_law 1020 = .ok (.if_icmp .eq 30, 3) := by decide +kernel
theorem dL_law_1025 : decode cL_law 1025 = .ok (.aload_n 1, 1) := by decide +kernel
theorem dL_law_1026 : decode cL_law 1026 = .ok (.aload_n 0, 1) := by decide +kernel
theorem dL_law_1027 : decode cL_law 1027 = .ok (.iload 4, 2) := by decide +kernel
theorem dL_law_1029 : decode cL_law 1029 = .ok (.iconst 1, 1) := by decide +kernel
theorem dL_law_1030 : decode cL_law 1030 = .ok (.iadd, 1) := by decide +kernel
theorem dL_law_1031 : decode cL_law 1031 = .ok (.iaload, 1) := by decide +kernel
set_option maxRecDepth 100000 in
theorem ggL_law_X11_chosen : GoodIn wsL_law2 wsX11_chosen := goodIn_r _ [990, 50, 29, 32, 30, 991, 992, 993, 49, 994, 187, 185, 995, 996, 997, 998, 189, 171, 190, 191, 175, 176, 188, 999, 899, 900, 901, 902, 179, 903, 247, 248, 27, 249, 90, 904, 229, 230, 231, 905, 263, 264, 265, 89, 906, 233, 234, 235, 907, 514, 515, 15, 516, 517, 518, 519, 520, 362, 363, 364, 521, 522, 523, 345, 346, 347, 348, 58, 59, 524, 414, 415, 57, 416, 67, 417, 418, 419, 420, 421, 66, 932, 933, 934, 935, 1000, 330, 331, 18, 332, 80, 79, 333, 86, 87, 88, 334, 335, 336, 337, 338, 339, 340, 341, 342, 343, 344, 349, 350, 351, 352, 65, 353, 354, 355, 356, 357, 358, 267, 2, 268, 269, 270, 271, 359, 360, 361, 365, 366, 367, 368, 369, 370, 371, 284, 285, 286, 287, 38, 288, 289, 290, 37, 291, 292, 293, 294, 112, 114, 113, 115, 295, 296, 272, 273, 274, 275, 276, 277, 278, 279, 280, 281, 282, 283, 297, 298, 299, 300, 228, 1005, 1006, 1007, 1008, 1009, 1010, 1011, 1012, 1013, 1014, 1015, 1016, 1099, 1100, 1101, 1102, 1103, 1104, 1105, 1106, 1107, 1108, 1109, 1110, 1111, 1112, 1113, 1114, 1115, 1116, 1117, 1118, 1069, 1070, 1057, 1058, 1119, 1120, 1121, 1122, 1059, 1060, 1061, 1071, 1072, 1073, 1074] rfl (by decide +kernel)
set_option maxRecDepth 20000 in
theorem gL_law_X11_chosen : GoodIn wsL_law2 (wsV RL 133 RX11 yX11_chosen wsX11_chosen) := goodIn_app (goodIn_of _ (by decide +kernel)) ggL_law_X11_chosen
theorem dL_law_1032 : decode cL_law 1032 = .ok (.invokevirtual 133, 3) := by decide +kernel
theorem dL_law_1035 : decode cL_law 1035 = .ok (.aload_n 2, 1) := by decide +kernel
theorem dL_law_1036 : decode cL_law 1036 = .ok (.aload_n 0, 1) := by decide +kernel
theorem dL_law_1037 : decode cL_law 1037 = .ok (.iload 4, 2) := by decide +kernel
theorem dL_law_1039 : decode cL_law 1039 = .ok (.iconst 1, 1) := by decide +kernel
theorem dL_law_1040 : decode cL_law 1040 = .ok (.iadd, 1) := by decide +kernel
theorem dL_law_1041 : decode cL_law 1041 = .ok (.iaload, 1) := by decide +kernel
set_option maxRecDepth 100000 in
theorem ggL_law_X12_chosen : GoodIn wsL_law2 wsX12_chosen := goodIn_r _ [1004, 240, 213, 317, 957, 958, 212, 217, 604, 983, 984, 985, 5, 986, 956, 967, 968, 969, 970, 382, 216, 380, 199, 200, 959, 960, 961, 962, 390, 381, 541, 542, 543, 544, 215, 537, 538, 539, 540, 204, 308, 386, 387, 388, 389, 391, 392, 393, 394, 395, 201, 396, 397, 398, 399, 400, 401, 402, 305, 306, 307, 309, 310, 533, 534, 535, 536, 311, 312, 313, 314, 315, 316, 1017, 1018, 1019, 1020, 1021, 1022, 1023, 1024, 1025, 1026, 1027, 1028, 1029, 1030, 1031, 1032, 1033, 1034, 1035, 1036, 1037, 1038, 1039, 1040, 1041, 1042, 1043, 1044, 1045, 1046, 1047, 1048, 1049, 1050, 1051, 1052, 1053, 1054, 1055, 1056] rfl (by decide +kernel)
set_option maxRecDepth 20000 in
theorem gL_law_X12_chosen : GoodIn wsL_law2 (wsV RL 136 RX12 yX12_chosen wsX12_chosen) := goodIn_app (goodIn_of _ (by decide +kernel)) ggL_law_X12_chosen
theorem dL_law_1042 : decode cL_law 1042 = .ok (.invokevirtual 136, 3) := by decide +kernel
theorem dL_law_1045 : decode cL_law 1045 = .ok (.if_icmp .eq 5, 3) := by decide +kernel
