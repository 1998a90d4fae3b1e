/-! 68.a.rows -/
section
set_option maxRecDepth 100000 in
theorem dA417_cL_law : kDec cL_law [(687, .aload_n 1, 1), (688, .aload_n 0, 1), (689, .iload 4, 2), (691, .iconst 1, 1), (692, .iadd, 1), (693, .iaload, 1), (694, .aload_n 0, 1), (695, .iload 4, 2), (697, .iconst 2, 1), (698, .iadd, 1), (699, .iaload, 1), (700, .invokevirtual 89, 3), (703, .pop, 1), (704, .aload_n 2, 1), (705, .aload_n 0, 1), (706, .iload 4, 2), (708, .iconst 1, 1), (709, .iadd, 1), (710, .iaload, 1), (711, .aload_n 0, 1), (712, .iload 4, 2), (714, .iconst 2, 1), (715, .iadd, 1), (716, .iaload, 1)] = true := by decide +kernel
theorem dL_law_687 : decode cL_law 687 = .ok (.aload_n 1, 1) := kDec_at dA417_cL_law 0 rfl
theorem dL_law_688 : decode cL_law 688 = .ok (.aload_n 0, 1) := kDec_at dA417_cL_law 1 rfl
theorem dL_law_689 : decode cL_law 689 = .ok (.iload 4, 2) := kDec_at dA417_cL_law 2 rfl
theorem dL_law_691 : decode cL_law 691 = .ok (.iconst 1, 1) := kDec_at dA417_cL_law 3 rfl
theorem dL_law_692 : decode cL_law 692 = .ok (.iadd, 1) := kDec_at dA417_cL_law 4 rfl
theorem dL_law_693 : decode cL_law 693 = .ok (.iaload, 1) := kDec_at dA417_cL_law 5 rfl
theorem dL_law_694 : decode cL_law 694 = .ok (.aload_n 0, 1) := kDec_at dA417_cL_law 6 rfl
theorem dL_law_695 : decode cL_law 695 = .ok (.iload 4, 2) := kDec_at dA417_cL_law 7 rfl
theorem dL_law_697 : decode cL_law 697 = .ok (.iconst 2, 1) := kDec_at dA417_cL_law 8 rfl
theorem dL_law_698 : decode cL_law 698 = .ok (.iadd, 1) := kDec_at dA417_cL_law 9 rfl
theorem dL_law_699 : decode cL_law 699 = .ok (.iaload, 1) := kDec_at dA417_cL_law 10 rfl
theorem dL_law_700 : decode cL_law 700 = .ok (.invokevirtual 89, 3) := kDec_at dA417_cL_law 11 rfl
theorem dL_law_703 : decode cL_law 703 = .ok (.pop, 1) := kDec_at dA417_cL_law 12 rfl
theorem dL_law_704 : decode cL_law 704 = .ok (.aload_n 2, 1) := kDec_at dA417_cL_law 13 rfl
theorem dL_law_705 : decode cL_law 705 = .ok (.aload_n 0, 1) := kDec_at dA417_cL_law 14 rfl
theorem dL_law_706 : decode cL_law 706 = .ok (.iload 4, 2) := kDec_at dA417_cL_law 15 rfl
theorem dL_law_708 : decode cL_law 708 = .ok (.iconst 1, 1) := kDec_at dA417_cL_law 16 rfl
theorem dL_law_709 : decode cL_law 709 = .ok (.iadd, 1) := kDec_at dA417_cL_law 17 rfl
theorem dL_law_710 : decode cL_law 710 = .ok (.iaload, 1) := kDec_at dA417_cL_law 18 rfl
theorem dL_law_711 : decode cL_law 711 = .ok (.aload_n 0, 1) := kDec_at dA417_cL_law 19 rfl
theorem dL_law_712 : decode cL_law 712 = .ok (.iload 4, 2) := kDec_at dA417_cL_law 20 rfl
theorem dL_law_714 : decode cL_law 714 = .ok (.iconst 2, 1) := kDec_at dA417_cL_law 21 rfl
theorem dL_law_715 : decode cL_law 715 = .ok (.iadd, 1) := kDec_at dA417_cL_law 22 rfl
theorem dL_law_716 : decode cL_law 716 = .ok (.iaload, 1) := kDec_at dA417_cL_law 23 rfl
set_option maxRecDepth 100000 in
theorem dA418_cL_law : kDec cL_law [(717, .invokevirtual 92, 3), (720, .pop, 1), (721, .goto 301, 3), (724, .aload_n 1, 1), (725, .invokevirtual 93, 3), (728, .pop, 1), (729, .aload_n 2, 1), (730, .invokevirtual 96, 3), (733, .pop, 1), (734, .goto 288, 3), (737, .aload_n 1, 1), (738, .aload_n 0, 1), (739, .iload 4, 2), (741, .iconst 1, 1), (742, .iadd, 1), (743, .iaload, 1), (744, .invokevirtual 97, 3), (747, .pop, 1), (748, .aload_n 2, 1), (749, .aload_n 0, 1), (750, .iload 4, 2), (752, .iconst 1, 1), (753, .iadd, 1), (754, .iaload, 1)] = true := by decide +kernel
theorem dL_law_717 : decode cL_law 717 = .ok (.invokevirtual 92, 3) := kDec_at dA418_cL_law 0 rfl
theorem dL_law_720 : decode cL_law 720 = .ok (.pop, 1) := kDec_at dA418_cL_law 1 rfl
theorem dL_law_721 : decode cL_law 721 = .ok (.goto 301, 3) := kDec_at dA418_cL_law 2 rfl
theorem dL_law_724 : decode cL_law 724 = .ok (.aload_n 1, 1) := kDec_at dA418_cL_law 3 rfl
theorem dL_law_725 : decode cL_law 725 = .ok (.invokevirtual 93, 3) := kDec_at dA418_cL_law 4 rfl
theorem dL_law_728 : decode cL_law 728 = .ok (.pop, 1) := kDec_at dA418_cL_law 5 rfl
theorem dL_law_729 : decode cL_law 729 = .ok (.aload_n 2, 1) := kDec_at dA418_cL_law 6 rfl
theorem dL_law_730 : decode cL_law 730 = .ok (.invokevirtual 96, 3) := kDec_at dA418_cL_law 7 rfl
theorem dL_law_733 : decode cL_law 733 = .ok (.pop, 1) := kDec_at dA418_cL_law 8 rfl
theorem dL_law_734 : decode cL_law 734 = .ok (.goto 288, 3) := kDec_at dA418_cL_law 9 rfl
theorem dL_law_737 : decode cL_law 737 = .ok (.aload_n 1, 1) := kDec_at dA418_cL_law 10 rfl
theorem dL_law_738 : decode cL_law 738 = .ok (.aload_n 0, 1) := kDec_at dA418_cL_law 11 rfl
theorem dL_law_739 : decode cL_law 739 = .ok (.iload 4, 2) := kDec_at dA418_cL_law 12 rfl
theorem dL_law_741 : decode cL_law 741 = .ok (.iconst 1, 1) := kDec_at dA418_cL_law 13 rfl
theorem dL_law_742 : decode cL_law 742 = .ok (.iadd, 1) := kDec_at dA418_cL_law 14 rfl
theorem dL_law_743 : decode cL_law 743 = .ok (.iaload, 1) := kDec_at dA418_cL_law 15 rfl
theorem dL_law_744 : decode cL_law 744 = .ok (.invokevirtual 97, 3) := kDec_at dA418_cL_law 16 rfl
theorem dL_law_747 : decode cL_law 747 = .ok (.pop, 1) := kDec_at dA418_cL_law 17 rfl
theorem dL_law_748 : decode cL_law 748 = .ok (.aload_n 2, 1) := kDec_at dA418_cL_law 18 rfl
theorem dL_law_749 : decode cL_law 749 = .ok (.aload_n 0, 1) := kDec_at dA418_cL_law 19 rfl
theorem dL_law_750 : decode cL_law 750 = .ok (.iload 4, 2) := kDec_at dA418_cL_law 20 rfl
theorem dL_law_752 : decode cL_law 752 = .ok (.iconst 1, 1) := kDec_at dA418_cL_law 21 rfl
theorem dL_law_753 : decode cL_law 753 = .ok (.iadd, 1) := kDec_at dA418_cL_law 22 rfl
theorem dL_law_754 : decode cL_law 754 = .ok (.iaload, 1) := kDec_at dA418_cL_law 23 rfl
set_option maxRecDepth 100000 in
theorem dA419_cL_law : kDec cL_law [(755, .invokevirtual 100, 3), (758, .pop, 1), (759, .goto 263, 3), (762, .aload_n 1, 1), (763, .aload_n 0, 1), (764, .iload 4, 2), (766, .iconst 1, 1), (767, .iadd, 1), (768, .iaload, 1), (769, .aload_n 0, 1), (770, .iload 4, 2), (772, .iconst 2, 1), (773, .iadd, 1), (774, .iaload, 1), (775, .invokevirtual 101, 3), (778, .pop, 1), (779, .aload_n 2, 1), (780, .aload_n 0, 1), (781, .iload 4, 2), (783, .iconst 1, 1), (784, .iadd, 1), (785, .iaload, 1), (786, .aload_n 0, 1), (787, .iload 4, 2)] = true := by decide +kernel
theorem dL_law_755 : decode cL_law 755 = .ok (.invokevirtual 100, 3) := kDec_at dA419_cL_law 0 rfl
theorem dL_law_758 : decode cL_law 758 = .ok (.pop, 1) := kDec_at dA419_cL_law 1 rfl
theorem dL_law_759 : decode cL_law 759 = .ok (.goto 263, 3) := kDec_at dA419_cL_law 2 rfl
theorem dL_law_762 : decode cL_law 762 = .ok (.aload_n 1, 1) := kDec_at dA419_cL_law 3 rfl
theorem dL_law_763 : decode cL_law 763 = .ok (.aload_n 0, 1) := kDec_at dA419_cL_law 4 rfl
theorem dL_law_764 : decode cL_law 764 = .ok (.iload 4, 2) := kDec_at dA419_cL_law 5 rfl
theorem dL_law_766 : decode cL_law 766 = .ok (.iconst 1, 1) := kDec_at dA419_cL_law 6 rfl
theorem dL_law_767 : decode cL_law 767 = .ok (.iadd, 1) := kDec_at dA419_cL_law 7 rfl
theorem dL_law_768 : decode cL_law 768 = .ok (.iaload, 1) := kDec_at dA419_cL_law 8 rfl
theorem dL_law_769 : decode cL_law 769 = .ok (.aload_n 0, 1) := kDec_at dA419_cL_law 9 rfl
theorem dL_law_770 : decode cL_law 770 = .ok (.iload 4, 2) := kDec_at dA419_cL_law 10 rfl
theorem dL_law_772 : decode cL_law 772 = .ok (.iconst 2, 1) := kDec_at dA419_cL_law 11 rfl
theorem dL_law_773 : decode cL_law 773 = .ok (.iadd, 1) := kDec_at dA419_cL_law 12 rfl
theorem dL_law_774 : decode cL_law 774 = .ok (.iaload, 1) := kDec_at dA419_cL_law 13 rfl
theorem dL_law_775 : decode cL_law 775 = .ok (.invokevirtual 101, 3) := kDec_at dA419_cL_law 14 rfl
theorem dL_law_778 : decode cL_law 778 = .ok (.pop, 1) := kDec_at dA419_cL_law 15 rfl
theorem dL_law_779 : decode cL_law 779 = .ok (.aload_n 2, 1) := kDec_at dA419_cL_law 16 rfl
theorem dL_law_780 : decode cL_law 780 = .ok (.aload_n 0, 1) := kDec_at dA419_cL_law 17 rfl
theorem dL_law_781 : decode cL_law 781 = .ok (.iload 4, 2) := kDec_at dA419_cL_law 18 rfl
theorem dL_law_783 : decode cL_law 783 = .ok (.iconst 1, 1) := kDec_at dA419_cL_law 19 rfl
theorem dL_law_784 : decode cL_law 784 = .ok (.iadd, 1) := kDec_at dA419_cL_law 20 rfl
theorem dL_law_785 : decode cL_law 785 = .ok (.iaload, 1) := kDec_at dA419_cL_law 21 rfl
theorem dL_law_786 : decode cL_law 786 = .ok (.aload_n 0, 1) := kDec_at dA419_cL_law 22 rfl
theorem dL_law_787 : decode cL_law 787 = .ok (.iload 4, 2) := kDec_at dA419_cL_law 23 rfl
set_option maxRecDepth 100000 in
theorem dA420_cL_law : kDec cL_law [(789, .iconst 2, 1), (790, .iadd, 1), (791, .iaload, 1), (792, .invokevirtual 104, 3), (795, .pop, 1), (796, .goto 226, 3), (799, .aload_n 1, 1), (800, .aload_n 0, 1), (801, .iload 4, 2), (803, .iconst 1, 1), (804, .iadd, 1), (805, .iaload, 1), (806, .aload_n 0, 1), (807, .iload 4, 2), (809, .iconst 2, 1), (810, .iadd, 1), (811, .iaload, 1), (812, .aload_n 0, 1), (813, .iload 4, 2), (815, .iconst 3, 1), (816, .iadd, 1), (817, .iaload, 1), (818, .invokevirtual 105, 3), (821, .pop, 1)] = true := by decide +kernel
theorem dL_law_789 : decode cL_law 789 = .ok (.iconst 2, 1) := kDec_at dA420_cL_law 0 rfl
theorem dL_law_790 : decode cL_law 790 = .ok (.iadd, 1) := kDec_at dA420_cL_law 1 rfl
theorem dL_law_791 : decode cL_law 791 = .ok (.iaload, 1) := kDec_at dA420_cL_law 2 rfl
theorem dL_law_792 : decode cL_law 792 = .ok (.invokevirtual 104, 3) := kDec_at dA420_cL_law 3 rfl
theorem dL_law_795 : decode cL_law 795 = .ok (.pop, 1) := kDec_at dA420_cL_law 4 rfl
theorem dL_law_796 : decode cL_law 796 = .ok (.goto 226, 3) := kDec_at dA420_cL_law 5 rfl
theorem dL_law_799 : decode cL_law 799 = .ok (.aload_n 1, 1) := kDec_at dA420_cL_law 6 rfl
theorem dL_law_800 : decode cL_law 800 = .ok (.aload_n 0, 1) := kDec_at dA420_cL_law 7 rfl
theorem dL_law_801 : decode cL_law 801 = .ok (.iload 4, 2) := kDec_at dA420_cL_law 8 rfl
theorem dL_law_803 : decode cL_law 803 = .ok (.iconst 1, 1) := kDec_at dA420_cL_law 9 rfl
theorem dL_law_804 : decode cL_law 804 = .ok (.iadd, 1) := kDec_at dA420_cL_law 10 rfl
theorem dL_law_805 : decode cL_law 805 = .ok (.iaload, 1) := kDec_at dA420_cL_law 11 rfl
theorem dL_law_806 : decode cL_law 806 = .ok (.aload_n 0, 1) := kDec_at dA420_cL_law 12 rfl
theorem dL_law_807 : decode cL_law 807 = .ok (.iload 4, 2) := kDec_at dA420_cL_law 13 rfl
theorem dL_law_809 : decode cL_law 809 = .ok (.iconst 2, 1) := kDec_at dA420_cL_law 14 rfl
theorem dL_law_810 : decode cL_law 810 = .ok (.iadd, 1) := kDec_at dA420_cL_law 15 rfl
theorem dL_law_811 : decode cL_law 811 = .ok (.iaload, 1) := kDec_at dA420_cL_law 16 rfl
theorem dL_law_812 : decode cL_law 812 = .ok (.aload_n 0, 1) := kDec_at dA420_cL_law 17 rfl
theorem dL_law_813 : decode cL_law 813 = .ok (.iload 4, 2) := kDec_at dA420_cL_law 18 rfl
theorem dL_law_815 : decode cL_law 815 = .ok (.iconst 3, 1) := kDec_at dA420_cL_law 19 rfl
theorem dL_law_816 : decode cL_law 816 = .ok (.iadd, 1) := kDec_at dA420_cL_law 20 rfl
theorem dL_law_817 : decode cL_law 817 = .ok (.iaload, 1) := kDec_at dA420_cL_law 21 rfl
theorem dL_law_818 : decode cL_law 818 = .ok (.invokevirtual 105, 3) := kDec_at dA420_cL_law 22 rfl
theorem dL_law_821 : decode cL_law 821 = .ok (.pop, 1) := kDec_at dA420_cL_law 23 rfl
set_option maxRecDepth 100000 in
theorem dA421_cL_law : kDec cL_law [(822, .aload_n 2, 1), (823, .aload_n 0, 1), (824, .iload 4, 2), (826, .iconst 1, 1), (827, .iadd, 1), (828, .iaload, 1), (829, .aload_n 0, 1), (830, .iload 4, 2), (832, .iconst 2, 1), (833, .iadd, 1), (834, .iaload, 1), (835, .aload_n 0, 1), (836, .iload 4, 2), (838, .iconst 3, 1), (839, .iadd, 1), (840, .iaload, 1), (841, .invokevirtual 109, 3), (844, .pop, 1), (845, .goto 177, 3), (848, .aload_n 1, 1), (849, .invokevirtual 110, 3), (852, .pop, 1), (853, .aload_n 2, 1), (854, .invokevirtual 113, 3)] = true := by decide +kernel
theorem dL_law_822 : decode cL_law 822 = .ok (.aload_n 2, 1) := kDec_at dA421_cL_law 0 rfl
theorem dL_law_823 : decode cL_law 823 = .ok (.aload_n 0, 1) := kDec_at dA421_cL_law 1 rfl
theorem dL_law_824 : decode cL_law 824 = .ok (.iload 4, 2) := kDec_at dA421_cL_law 2 rfl
theorem dL_law_826 : decode cL_law 826 = .ok (.iconst 1, 1) := kDec_at dA421_cL_law 3 rfl
theorem dL_law_827 : decode cL_law 827 = .ok (.iadd, 1) := kDec_at dA421_cL_law 4 rfl
theorem dL_law_828 : decode cL_law 828 = .ok (.iaload, 1) := kDec_at dA421_cL_law 5 rfl
theorem dL_law_829 : decode cL_law 829 = .ok (.aload_n 0, 1) := kDec_at dA421_cL_law 6 rfl
theorem dL_law_830 : decode cL_law 830 = .ok (.iload 4, 2) := kDec_at dA421_cL_law 7 rfl
theorem dL_law_832 : decode cL_law 832 = .ok (.iconst 2, 1) := kDec_at dA421_cL_law 8 rfl
theorem dL_law_833 : decode cL_law 833 = .ok (.iadd, 1) := kDec_at dA421_cL_law 9 rfl
theorem dL_law_834 : decode cL_law 834 = .ok (.iaload, 1) := kDec_at dA421_cL_law 10 rfl
theorem dL_law_835 : decode cL_law 835 = .ok (.aload_n 0, 1) := kDec_at dA421_cL_law 11 rfl
theorem dL_law_836 : decode cL_law 836 = .ok (.iload 4, 2) := kDec_at dA421_cL_law 12 rfl
theorem dL_law_838 : decode cL_law 838 = .ok (.iconst 3, 1) := kDec_at dA421_cL_law 13 rfl
theorem dL_law_839 : decode cL_law 839 = .ok (.iadd, 1) := kDec_at dA421_cL_law 14 rfl
theorem dL_law_840 : decode cL_law 840 = .ok (.iaload, 1) := kDec_at dA421_cL_law 15 rfl
theorem dL_law_841 : decode cL_law 841 = .ok (.invokevirtual 109, 3) := kDec_at dA421_cL_law 16 rfl
theorem dL_law_844 : decode cL_law 844 = .ok (.pop, 1) := kDec_at dA421_cL_law 17 rfl
theorem dL_law_845 : decode cL_law 845 = .ok (.goto 177, 3) := kDec_at dA421_cL_law 18 rfl
theorem dL_law_848 : decode cL_law 848 = .ok (.aload_n 1, 1) := kDec_at dA421_cL_law 19 rfl
theorem dL_law_849 : decode cL_law 849 = .ok (.invokevirtual 110, 3) := kDec_at dA421_cL_law 20 rfl
theorem dL_law_852 : decode cL_law 852 = .ok (.pop, 1) := kDec_at dA421_cL_law 21 rfl
theorem dL_law_853 : decode cL_law 853 = .ok (.aload_n 2, 1) := kDec_at dA421_cL_law 22 rfl
theorem dL_law_854 : decode cL_law 854 = .ok (.invokevirtual 113, 3) := kDec_at dA421_cL_law 23 rfl
set_option maxRecDepth 100000 in
theorem dA422_cL_law : kDec cL_law [(857, .pop, 1), (858, .goto 164, 3)] = true := by decide +kernel
theorem dL_law_857 : decode cL_law 857 = .ok (.pop, 1) := kDec_at dA422_cL_law 0 rfl
theorem dL_law_858 : decode cL_law 858 = .ok (.goto 164, 3) := kDec_at dA422_cL_law 1 rfl

end

/-! 68.law -/
section
set_option maxHeartbeats 40000000 in
set_option maxRecDepth 100000 in
theorem law_list {p : Program} {l : Launch} {e : Env} {s : State} {m : MethodId} {below : List Frame} {meth : Method} {c : Code} {dC : Nat → ClassId} {dI : Nat → Nat → Nat} {cI cS cJ : ClassId} {A : Nat → Prop} {b L : Nat} {xs : Nat → Int32} (C0 : lw_At p s m meth c b L xs) (hAd : A = fun q : Nat => s.heap.size ≤ q) (hK3 : va_K (dC, dI) vwCl [(cI, .int), (cS, .short), (cJ, .long)] s) {oX nT aT nL aL nM aM oC o4 a41 a42 a43 o5 a51 a52 a53 oP nB aB oH h1 h2 oK k1 k2 oG g1 g2 oR n1 a1 n2 a2 n3 a3 r1 r2 r3 r4 r5 r6 oQ oE nq aq np ap nv av q1 q2 q3 q4 oW nw aw o7 o8 o9 w1 w2 w3 w4 w5 w6 w7 oM mT mS mX mL mB mD m1 m2 mR x1 x2 x3 mH mY mE mW mO y1 y2 y3 y4 mZ oJ : Nat} {fa : Int32} {lT : Int32} {lL : Int32} {lM : Int32} {l4 : Int32} {l5 : Int32} {ft : Int32} {lB : Int32} {lH : Int32} {lK : Int32} {gn : Int32} {lG : Int32} {lR : Int32} {l1 : Int32} {l2 : Int32} {l3 : Int32} {pr : Int32} {reE : Int32} {laE : Int32} {suE : Int32} {leE : Int32} {lq : Int32} {lp : Int32} {lv : Int32} {ke : Int32} {tl : Int32} {fsh : Int32} {wi : Int32} {ri : Int32} {fm : Int32} {lm : Int32} {lw : Int32} {re7 : Int32} {la7 : Int32} {su7 : Int32} {le7 : Int32} {re8 : Int32} {la8 : Int32} {su8 : Int32} {le8 : Int32} {re9 : Int32} {la9 : Int32} {su9 : Int32} {le9 : Int32} {zt : Int32} {zp : Int32} {zf : Int32} {zh : Int32} {zr : Int32} {zc : Int32} {zy : Int32} {za : Int32} {zb : Int32} {zs : Int32} {zq : Int32} {zw : Int32} {ze : Int32} {zn : Int32} {zm : Int32} {zl : Int32} {zk : Int32} {zd : Int32} {fT : Nat → Int32} {fL : Nat → Int32} {fM : Nat → Int32} {f41 : Nat → Int32} {f42 : Nat → Int32} {f43 : Nat → Int32} {f51 : Nat → Int32} {f52 : Nat → Int32} {f53 : Nat → Int32} {fB : Nat → Int32} {fH1 : Nat → Int32} {fH2 : Nat → Int32} {fK1 : Nat → Int32} {fK2 : Nat → Int32} {fG1 : Nat → Int32} {fG2 : Nat → Int32} {f1 : Nat → Int32} {f2 : Nat → Int32} {f3 : Nat → Int32} {fR1 : Nat → Int32} {fR2 : Nat → Int32} {fR3 : Nat → Int32} {fR4 : Nat → Int32} {fR5 : Nat → Int32} {fR6 : Nat → Int32} {fq : Nat → Int32} {fp : Nat → Int32} {fv : Nat → Int32} {fQ1 : Nat → Int32} {fQ2 : Nat → Int32} {fQ3 : Nat → Int32} {fQ4 : Nat → Int32} {fw : Nat → Int32} {fW1 : Nat → Int32} {fW2 : Nat → Int32} {fW3 : Nat → Int32} {fW4 : Nat → Int32} {fW5 : Nat → Int32} {fW6 : Nat → Int32} {fW7 : Nat → Int32} {eT : Nat → Int32} {eS : Nat → Int32} {eX : Nat → Int32} {eL : Nat → Int32} {eB : Nat → Int32} {eD : Nat → Int32} {e1 : Nat → Int32} {e2 : Nat → Int32} {eR : Nat → Int32} {ec1 : Nat → Int32} {ec2 : Nat → Int32} {ec3 : Nat → Int32} {eH : Nat → Int32} {eY : Nat → Int32} {eE : Nat → Int32} {eW : Nat → Int32} {eO : Nat → Int32} {er1 : Nat → Int32} {er2 : Nat → Int32} {er3 : Nat → Int32} {er4 : Nat → Int32} {eZ : Nat → Int32} {fJ : Nat → Int64} {H : Heap} {locs : List Loc} {ls : Array Slot} {i : Int32} {nc : Nat} (hn : nc ≤ 511) (hi : 0 ≤ i.toInt ∧ i.toInt + 5 < (L : Int)) (hL : L ≤ 3072) (hI : INV nc lT lL lM l4 l5 lB lH lK gn lG lR l1 l2 l3 lq lp lv ke fsh wi ri fm lm lw zt zp zf zh zr zc zy za zb zs zq zn zm zk fT fL f41 f42 f43 f51 f52 f53 fH1 fH2 fK1 fK2 fG1 fG2 fW4 fW5 fW6 fW7 eT eS eX eL eB eD e1 e2 ec1 ec2 ec3 eH eY eE eW eO eZ) (hP : va_P (dC, dI) vwCl (WLD cI cS cJ oX nT aT nL aL nM aM oC o4 a41 a42 a43 o5 a51 a52 a53 oP nB aB oH h1 h2 oK k1 k2 oG g1 g2 oR n1 a1 n2 a2 n3 a3 r1 r2 r3 r4 r5 r6 oQ oE nq aq np ap nv av q1 q2 q3 q4 oW nw aw o7 o8 o9 w1 w2 w3 w4 w5 w6 w7 oM mT mS mX mL mB mD m1 m2 mR x1 x2 x3 mH mY mE mW mO y1 y2 y3 y4 mZ oJ fa lT lL lM l4 l5 ft lB lH lK gn lG lR l1 l2 l3 pr reE laE suE leE lq lp lv ke tl fsh wi ri fm lm lw re7 la7 su7 le7 re8 la8 su8 le8 re9 la9 su9 le9 zt zp zf zh zr zc zy za zb zs zq zw ze zn zm zl zk zd fT fL fM f41 f42 f43 f51 f52 f53 fB fH1 fH2 fK1 fK2 fG1 fG2 f1 f2 f3 fR1 fR2 fR3 fR4 fR5 fR6 fq fp fv fQ1 fQ2 fQ3 fQ4 fw fW1 fW2 fW3 fW4 fW5 fW6 fW7 eT eS eX eL eB eD e1 e2 eR ec1 ec2 ec3 eH eY eE eW eO er1 er2 er3 er4 eZ fJ) H) (hD : va_D A (WLD cI cS cJ oX nT aT nL aL nM aM oC o4 a41 a42 a43 o5 a51 a52 a53 oP nB aB oH h1 h2 oK k1 k2 oG g1 g2 oR n1 a1 n2 a2 n3 a3 r1 r2 r3 r4 r5 r6 oQ oE nq aq np ap nv av q1 q2 q3 q4 oW nw aw o7 o8 o9 w1 w2 w3 w4 w5 w6 w7 oM mT mS mX mL mB mD m1 m2 mR x1 x2 x3 mH mY mE mW mO y1 y2 y3 y4 mZ oJ fa lT lL lM l4 l5 ft lB lH lK gn lG lR l1 l2 l3 pr reE laE suE leE lq lp lv ke tl fsh wi ri fm lm lw re7 la7 su7 le7 re8 la8 su8 le8 re9 la9 su9 le9 zt zp zf zh zr zc zy za zb zs zq zw ze zn zm zl zk zd fT fL fM f41 f42 f43 f51 f52 f53 fB fH1 fH2 fK1 fK2 fG1 fG2 f1 f2 f3 fR1 fR2 fR3 fR4 fR5 fR6 fq fp fv fQ1 fQ2 fQ3 fQ4 fw fW1 fW2 fW3 fW4 fW5 fW6 fW7 eT eS eX eL eB eD e1 e2 eR ec1 ec2 ec3 eH eY eE eW eO er1 er2 er3 er4 eZ fJ)) (hS : va_S A s.heap H locs) (hl : lv_has ls 7 [(0, .ref b), (1, .ref oX), (2, .ref oM), (3, .ref oJ), (4, .int i)]) (kk : KK p l e s m below meth c dC dI cI cS cJ A b oX nT aT nL aL nM aM oC o4 a41 a42 a43 o5 a51 a52 a53 oP nB aB oH h1 h2 oK k1 k2 oG g1 g2 oR n1 a1 n2 a2 n3 a3 r1 r2 r3 r4 r5 r6 oQ oE nq aq np ap nv av q1 q2 q3 q4 oW nw aw o7 o8 o9 w1 w2 w3 w4 w5 w6 w7 oM mT mS mX mL mB mD m1 m2 mR x1 x2 x3 mH mY mE mW mO y1 y2 y3 y4 mZ oJ i nc) : W p l e room_1 s m #[Value.ref b] below meth c H locs (90 + nc) (172225 + 6 * nc) (lw_Z below #[Value.ref b] s) (F0 m 687 ls []) := by
  refine And.elim (fun hx hBC_0 => ?_) C0
  refine And.elim (fun hb hBC_1 => ?_) hBC_0
  refine And.elim (fun hr hBC_2 => ?_) hBC_1
  refine And.elim (fun hml hBC_3 => ?_) hBC_2
  refine And.elim (fun hown hBC_4 => ?_) hBC_3
  refine And.elim (fun hts0 hBC_5 => ?_) hBC_4
  refine And.elim (fun hX hBC_6 => ?_) hBC_5
  refine And.elim (fun hbl hBC_7 => ?_) hBC_6
  refine And.elim (fun hlocks hBC_8 => ?_) hBC_7
  have hgv := hBC_8
  clear hBC_0 hBC_1 hBC_2 hBC_3 hBC_4 hBC_5 hBC_6 hBC_7 hBC_8
  refine And.elim (fun g_lT hBI_0 => ?_) hI
  refine And.elim (fun g_lL hBI_1 => ?_) hBI_0
  refine And.elim (fun g_lM hBI_2 => ?_) hBI_1
  refine And.elim (fun g_lB hBI_3 => ?_) hBI_2
  refine And.elim (fun g_lH hBI_4 => ?_) hBI_3
  refine And.elim (fun g_lK hBI_5 => ?_) hBI_4
  refine And.elim (fun g_gn hBI_6 => ?_) hBI_5
  refine And.elim (fun g_lG hBI_7 => ?_) hBI_6
  refine And.elim (fun g_lR hBI_8 => ?_) hBI_7
  refine And.elim (fun g_l1 hBI_9 => ?_) hBI_8
  refine And.elim (fun g_l2 hBI_10 => ?_) hBI_9
  refine And.elim (fun g_l3 hBI_11 => ?_) hBI_10
  refine And.elim (fun g_lq hBI_12 => ?_) hBI_11
  refine And.elim (fun g_lp hBI_13 => ?_) hBI_12
  refine And.elim (fun g_lv hBI_14 => ?_) hBI_13
  refine And.elim (fun g_ke hBI_15 => ?_) hBI_14
  refine And.elim (fun g_fsh hBI_16 => ?_) hBI_15
  refine And.elim (fun g_fm hBI_17 => ?_) hBI_16
  refine And.elim (fun g_lm hBI_18 => ?_) hBI_17
  refine And.elim (fun g_lw hBI_19 => ?_) hBI_18
  refine And.elim (fun g_zt hBI_20 => ?_) hBI_19
  refine And.elim (fun g_zp hBI_21 => ?_) hBI_20
  refine And.elim (fun g_zf hBI_22 => ?_) hBI_21
  refine And.elim (fun g_zh hBI_23 => ?_) hBI_22
  refine And.elim (fun g_zr hBI_24 => ?_) hBI_23
  refine And.elim (fun g_zc hBI_25 => ?_) hBI_24
  refine And.elim (fun g_zy hBI_26 => ?_) hBI_25
  refine And.elim (fun g_za hBI_27 => ?_) hBI_26
  refine And.elim (fun g_zb hBI_28 => ?_) hBI_27
  refine And.elim (fun g_zs hBI_29 => ?_) hBI_28
  refine And.elim (fun g_zq hBI_30 => ?_) hBI_29
  refine And.elim (fun g_zn hBI_31 => ?_) hBI_30
  refine And.elim (fun g_zm hBI_32 => ?_) hBI_31
  refine And.elim (fun g_zk hBI_33 => ?_) hBI_32
  refine And.elim (fun g_fG2 hBI_34 => ?_) hBI_33
  refine And.elim (fun g_eS hBI_35 => ?_) hBI_34
  refine And.elim (fun g_eX hBI_36 => ?_) hBI_35
  refine And.elim (fun g_eL hBI_37 => ?_) hBI_36
  refine And.elim (fun g_eB hBI_38 => ?_) hBI_37
  refine And.elim (fun g_e1 hBI_39 => ?_) hBI_38
  refine And.elim (fun g_e2 hBI_40 => ?_) hBI_39
  refine And.elim (fun g_eY hBI_41 => ?_) hBI_40
  refine And.elim (fun g_eE hBI_42 => ?_) hBI_41
  refine And.elim (fun g_eW hBI_43 => ?_) hBI_42
  refine And.elim (fun g_eO hBI_44 => ?_) hBI_43
  refine And.elim (fun g_eZ hBI_45 => ?_) hBI_44
  refine And.elim (fun hzn hBI_46 => ?_) hBI_45
  refine And.elim (fun hrel hBI_47 => ?_) hBI_46
  refine And.elim (fun hrc hBI_48 => ?_) hBI_47
  refine And.elim (fun hr4 hBI_49 => ?_) hBI_48
  refine And.elim (fun hr5 hBI_50 => ?_) hBI_49
  refine And.elim (fun hb4 hBI_51 => ?_) hBI_50
  refine And.elim (fun hb5 hBI_52 => ?_) hBI_51
  refine And.elim (fun hlz hBI_53 => ?_) hBI_52
  refine And.elim (fun hH hBI_54 => ?_) hBI_53
  refine And.elim (fun hHe hBI_55 => ?_) hBI_54
  refine And.elim (fun hKz hBI_56 => ?_) hBI_55
  refine And.elim (fun hT hBI_57 => ?_) hBI_56
  refine And.elim (fun ho hBI_58 => ?_) hBI_57
  refine And.elim (fun hal hBI_59 => ?_) hBI_58
  refine And.elim (fun hCV hBI_60 => ?_) hBI_59
  refine And.elim (fun hVk hBI_61 => ?_) hBI_60
  refine And.elim (fun hVr hBI_62 => ?_) hBI_61
  refine And.elim (fun hTX hBI_63 => ?_) hBI_62
  refine And.elim (fun hCH hBI_64 => ?_) hBI_63
  refine And.elim (fun hvc hBI_65 => ?_) hBI_64
  refine And.elim (fun hfr hBI_66 => ?_) hBI_65
  refine And.elim (fun hfx hBI_67 => ?_) hBI_66
  have hfs := hBI_67
  clear hI hBI_0 hBI_1 hBI_2 hBI_3 hBI_4 hBI_5 hBI_6 hBI_7 hBI_8 hBI_9 hBI_10 hBI_11 hBI_12 hBI_13 hBI_14 hBI_15 hBI_16 hBI_17 hBI_18 hBI_19 hBI_20 hBI_21 hBI_22 hBI_23 hBI_24 hBI_25 hBI_26 hBI_27 hBI_28 hBI_29 hBI_30 hBI_31 hBI_32 hBI_33 hBI_34 hBI_35 hBI_36 hBI_37 hBI_38 hBI_39 hBI_40 hBI_41 hBI_42 hBI_43 hBI_44 hBI_45 hBI_46 hBI_47 hBI_48 hBI_49 hBI_50 hBI_51 hBI_52 hBI_53 hBI_54 hBI_55 hBI_56 hBI_57 hBI_58 hBI_59 hBI_60 hBI_61 hBI_62 hBI_63 hBI_64 hBI_65 hBI_66 hBI_67
  have hK : va_K (dC, dI) vwCl [(cI, .int), (cS, .short)] s := hK3.sub [0, 1] rfl
  have hown : s.vm.findClass RL = some m.cls := hown
  have hts := hts0
  have hcf := k_cf hx hb hml hown hts
  have hi9 : 0 ≤ i.toInt ∧ i.toInt ≤ 3066 := by omega
  have hzs : zs.toInt ≤ 1000000 := by omega
  have hA : ∀ q : Nat, s.heap.size ≤ q → A q := fun q h => by rw [hAd]; exact h
  have hbA : ¬ A b := by rw [hAd]; exact Nat.not_le.mpr hbl
  have hP : va_P (dC, dI) vwCl [(oX, .inr (11, [.ref nT, .ref nL, .ref nM, .ref oC, .ref oP, .ref oH, .ref oK, .ref oG, .ref oR, .ref oQ, .ref oW, .int fa])), (nT, .inr (5, [.ref aT, .int lT])), (aT, .inl (cI, 900, .inl fT)), (nL, .inr (5, [.ref aL, .int lL])), (aL, .inl (cI, 300, .inl fL)), (nM, .inr (5, [.ref aM, .int lM])), (aM, .inl (cI, 300, .inl fM)), (oC, .inr (2, [.ref o4, .ref o5])), (o4, .inr (10, [.ref a41, .ref a42, .ref a43, .int l4])), (a41, .inl (cI, 256, .inl f41)), (a42, .inl (cI, 512, .inl f42)), (a43, .inl (cI, 512, .inl f43)), (o5, .inr (10, [.ref a51, .ref a52, .ref a53, .int l5])), (a51, .inl (cI, 256, .inl f51)), (a52, .inl (cI, 512, .inl f52)), (a53, .inl (cI, 512, .inl f53)), (oP, .inr (7, [.ref oC, .ref nB, .int ft])), (nB, .inr (5, [.ref aB, .int lB])), (aB, .inl (cI, 2400, .inl fB)), (oH, .inr (4, [.ref oP, .ref h1, .ref h2, .int lH])), (h1, .inl (cI, 6, .inl fH1)), (h2, .inl (cI, 6, .inl fH2)), (oK, .inr (3, [.ref k1, .ref k2, .int lK])), (k1, .inl (cI, 1024, .inl fK1)), (k2, .inl (cI, 1024, .inl fK2)), (oG, .inr (0, [.ref g1, .ref g2, .int gn, .int lG])), (g1, .inl (cI, 6000, .inl fG1)), (g2, .inl (cI, 20, .inl fG2)), (oR, .inr (9, [.ref oH, .ref oK, .ref n1, .ref n2, .ref n3, .ref r1, .ref r2, .ref r3, .ref r4, .ref r5, .ref r6, .int lR])), (n1, .inr (5, [.ref a1, .int l1])), (a1, .inl (cI, 300, .inl f1)), (n2, .inr (5, [.ref a2, .int l2])), (a2, .inl (cI, 300, .inl f2)), (n3, .inr (5, [.ref a3, .int l3])), (a3, .inl (cI, 300, .inl f3)), (r1, .inl (cI, 258, .inl fR1)), (r2, .inl (cI, 258, .inl fR2)), (r3, .inl (cI, 774, .inl fR3)), (r4, .inl (cI, 258, .inl fR4)), (r5, .inl (cI, 258, .inl fR5)), (r6, .inl (cI, 774, .inl fR6)), (oQ, .inr (6, [.ref oC, .ref oH, .ref oK, .ref oE, .ref nq, .ref np, .ref nv, .ref q1, .ref q2, .ref q3, .ref q4, .int pr])), (oE, .inr (8, [.ref oC, .ref oK, .int reE, .int laE, .int suE, .int leE])), (nq, .inr (5, [.ref aq, .int lq])), (aq, .inl (cI, 480, .inl fq)), (np, .inr (5, [.ref ap, .int lp])), (ap, .inl (cI, 300, .inl fp)), (nv, .inr (5, [.ref av, .int lv])), (av, .inl (cI, 300, .inl fv)), (q1, .inl (cI, 61, .inl fQ1)), (q2, .inl (cI, 61, .inl fQ2)), (q3, .inl (cI, 61, .inl fQ3)), (q4, .inl (cI, 61, .inl fQ4)), (oW, .inr (1, [.ref oC, .ref oK, .ref nw, .ref w1, .ref w2, .ref w3, .ref o7, .ref o8, .ref o9, .ref w4, .ref w5, .ref w6, .ref w7, .int ke, .int tl, .int fsh, .int wi, .int ri, .int fm, .int lm])), (nw, .inr (5, [.ref aw, .int lw])), (aw, .inl (cI, 800, .inl fw)), (o7, .inr (8, [.ref oC, .ref oK, .int re7, .int la7, .int su7, .int le7])), (o8, .inr (8, [.ref oC, .ref oK, .int re8, .int la8, .int su8, .int le8])), (o9, .inr (8, [.ref oC, .ref oK, .int re9, .int la9, .int su9, .int le9])), (w1, .inl (cI, 801, .inl fW1)), (w2, .inl (cI, 801, .inl fW2)), (w3, .inl (cI, 801, .inl fW3)), (w4, .inl (cI, 200, .inl fW4)), (w5, .inl (cI, 200, .inl fW5)), (w6, .inl (cI, 200, .inl fW6)), (w7, .inl (cI, 200, .inl fW7)), (oM, .inr (12, [.ref mT, .int zt, .ref mS, .ref mX, .int zp, .int zf, .ref mL, .ref mB, .ref mD, .ref m1, .ref m2, .int zh, .ref mR, .int zr, .ref x1, .ref x2, .ref x3, .int zc, .ref mH, .int zy, .int za, .int zb, .int zs, .int zq, .int zw, .int ze, .ref mY, .int zn, .ref mE, .int zm, .int zl, .ref mW, .int zk, .ref mO, .int zd, .ref y1, .ref y2, .ref y3, .ref y4, .ref mZ])), (mT, .inl (cI, 900, .inl eT)), (mS, .inl (cI, 21, .inl eS)), (mX, .inl (cI, 6300, .inl eX)), (mL, .inl (cI, 512, .inl eL)), (mB, .inl (cS, 131072, .inl eB)), (mD, .inl (cI, 2, .inl eD)), (m1, .inl (cI, 6, .inl e1)), (m2, .inl (cI, 6, .inl e2)), (mR, .inl (cI, 1548, .inl eR)), (x1, .inl (cI, 300, .inl ec1)), (x2, .inl (cI, 300, .inl ec2)), (x3, .inl (cI, 300, .inl ec3)), (mH, .inl (cI, 800, .inl eH)), (mY, .inl (cI, 2600, .inl eY)), (mE, .inl (cI, 2600, .inl eE)), (mW, .inl (cI, 300, .inl eW)), (mO, .inl (cI, 300, .inl eO)), (y1, .inl (cI, 61, .inl er1)), (y2, .inl (cI, 61, .inl er2)), (y3, .inl (cI, 61, .inl er3)), (y4, .inl (cI, 61, .inl er4)), (mZ, .inl (cI, 600, .inl eZ)), (oJ, .inl (cJ, 1, .inr (.inl fJ)))] H := hP
  have hD : va_D A [(oX, .inr (11, [.ref nT, .ref nL, .ref nM, .ref oC, .ref oP, .ref oH, .ref oK, .ref oG, .ref oR, .ref oQ, .ref oW, .int fa])), (nT, .inr (5, [.ref aT, .int lT])), (aT, .inl (cI, 900, .inl fT)), (nL, .inr (5, [.ref aL, .int lL])), (aL, .inl (cI, 300, .inl fL)), (nM, .inr (5, [.ref aM, .int lM])), (aM, .inl (cI, 300, .inl fM)), (oC, .inr (2, [.ref o4, .ref o5])), (o4, .inr (10, [.ref a41, .ref a42, .ref a43, .int l4])), (a41, .inl (cI, 256, .inl f41)), (a42, .inl (cI, 512, .inl f42)), (a43, .inl (cI, 512, .inl f43)), (o5, .inr (10, [.ref a51, .ref a52, .ref a53, .int l5])), (a51, .inl (cI, 256, .inl f51)), (a52, .inl (cI, 512, .inl f52)), (a53, .inl (cI, 512, .inl f53)), (oP, .inr (7, [.ref oC, .ref nB, .int ft])), (nB, .inr (5, [.ref aB, .int lB])), (aB, .inl (cI, 2400, .inl fB)), (oH, .inr (4, [.ref oP, .ref h1, .ref h2, .int lH])), (h1, .inl (cI, 6, .inl fH1)), (h2, .inl (cI, 6, .inl fH2)), (oK, .inr (3, [.ref k1, .ref k2, .int lK])), (k1, .inl (cI, 1024, .inl fK1)), (k2, .inl (cI, 1024, .inl fK2)), (oG, .inr (0, [.ref g1, .ref g2, .int gn, .int lG])), (g1, .inl (cI, 6000, .inl fG1)), (g2, .inl (cI, 20, .inl fG2)), (oR, .inr (9, [.ref oH, .ref oK, .ref n1, .ref n2, .ref n3, .ref r1, .ref r2, .ref r3, .ref r4, .ref r5, .ref r6, .int lR])), (n1, .inr (5, [.ref a1, .int l1])), (a1, .inl (cI, 300, .inl f1)), (n2, .inr (5, [.ref a2, .int l2])), (a2, .inl (cI, 300, .inl f2)), (n3, .inr (5, [.ref a3, .int l3])), (a3, .inl (cI, 300, .inl f3)), (r1, .inl (cI, 258, .inl fR1)), (r2, .inl (cI, 258, .inl fR2)), (r3, .inl (cI, 774, .inl fR3)), (r4, .inl (cI, 258, .inl fR4)), (r5, .inl (cI, 258, .inl fR5)), (r6, .inl (cI, 774, .inl fR6)), (oQ, .inr (6, [.ref oC, .ref oH, .ref oK, .ref oE, .ref nq, .ref np, .ref nv, .ref q1, .ref q2, .ref q3, .ref q4, .int pr])), (oE, .inr (8, [.ref oC, .ref oK, .int reE, .int laE, .int suE, .int leE])), (nq, .inr (5, [.ref aq, .int lq])), (aq, .inl (cI, 480, .inl fq)), (np, .inr (5, [.ref ap, .int lp])), (ap, .inl (cI, 300, .inl fp)), (nv, .inr (5, [.ref av, .int lv])), (av, .inl (cI, 300, .inl fv)), (q1, .inl (cI, 61, .inl fQ1)), (q2, .inl (cI, 61, .inl fQ2)), (q3, .inl (cI, 61, .inl fQ3)), (q4, .inl (cI, 61, .inl fQ4)), (oW, .inr (1, [.ref oC, .ref oK, .ref nw, .ref w1, .ref w2, .ref w3, .ref o7, .ref o8, .ref o9, .ref w4, .ref w5, .ref w6, .ref w7, .int ke, .int tl, .int fsh, .int wi, .int ri, .int fm, .int lm])), (nw, .inr (5, [.ref aw, .int lw])), (aw, .inl (cI, 800, .inl fw)), (o7, .inr (8, [.ref oC, .ref oK, .int re7, .int la7, .int su7, .int le7])), (o8, .inr (8, [.ref oC, .ref oK, .int re8, .int la8, .int su8, .int le8])), (o9, .inr (8, [.ref oC, .ref oK, .int re9, .int la9, .int su9, .int le9])), (w1, .inl (cI, 801, .inl fW1)), (w2, .inl (cI, 801, .inl fW2)), (w3, .inl (cI, 801, .inl fW3)), (w4, .inl (cI, 200, .inl fW4)), (w5, .inl (cI, 200, .inl fW5)), (w6, .inl (cI, 200, .inl fW6)), (w7, .inl (cI, 200, .inl fW7)), (oM, .inr (12, [.ref mT, .int zt, .ref mS, .ref mX, .int zp, .int zf, .ref mL, .ref mB, .ref mD, .ref m1, .ref m2, .int zh, .ref mR, .int zr, .ref x1, .ref x2, .ref x3, .int zc, .ref mH, .int zy, .int za, .int zb, .int zs, .int zq, .int zw, .int ze, .ref mY, .int zn, .ref mE, .int zm, .int zl, .ref mW, .int zk, .ref mO, .int zd, .ref y1, .ref y2, .ref y3, .ref y4, .ref mZ])), (mT, .inl (cI, 900, .inl eT)), (mS, .inl (cI, 21, .inl eS)), (mX, .inl (cI, 6300, .inl eX)), (mL, .inl (cI, 512, .inl eL)), (mB, .inl (cS, 131072, .inl eB)), (mD, .inl (cI, 2, .inl eD)), (m1, .inl (cI, 6, .inl e1)), (m2, .inl (cI, 6, .inl e2)), (mR, .inl (cI, 1548, .inl eR)), (x1, .inl (cI, 300, .inl ec1)), (x2, .inl (cI, 300, .inl ec2)), (x3, .inl (cI, 300, .inl ec3)), (mH, .inl (cI, 800, .inl eH)), (mY, .inl (cI, 2600, .inl eY)), (mE, .inl (cI, 2600, .inl eE)), (mW, .inl (cI, 300, .inl eW)), (mO, .inl (cI, 300, .inl eO)), (y1, .inl (cI, 61, .inl er1)), (y2, .inl (cI, 61, .inl er2)), (y3, .inl (cI, 61, .inl er3)), (y4, .inl (cI, 61, .inl er4)), (mZ, .inl (cI, 600, .inl eZ)), (oJ, .inl (cJ, 1, .inr (.inl fJ)))] := hD
  replace g_lT := hid g_lT
  replace g_lM := hid g_lM
  replace g_lB := hid g_lB
  replace g_lR := hid g_lR
  replace g_l1 := hid g_l1
  replace g_l2 := hid g_l2
  replace g_l3 := hid g_l3
  replace g_lq := hid g_lq
  replace g_lp := hid g_lp
  replace g_lv := hid g_lv
  replace g_fm := hid g_fm
  replace g_lm := hid g_lm
  replace g_lw := hid g_lw
  replace g_zt := hid g_zt
  replace g_zr := hid g_zr
  replace g_zn := hid g_zn
  replace g_zm := hid g_zm
  replace g_zk := hid g_zk
  refine lv_aload_n hx hb dL_law_687 rfl (lv_at hl 1 rfl) ?_
  refine lv_aload_n hx hb dL_law_688 rfl (lv_at hl 0 rfl) ?_
  refine lv_iload hx hb dL_law_689 (lv_at hl 4 rfl) ?_
  refine lv_iconst (v := 1) hx hb dL_law_691 (by decide) ?_
  refine lv_iadd hx hb dL_law_692 ?_
  refine lv_topi (fun x_1 ex_1 => ?_)
  have tx_1 : x_1.toInt = i.toInt + 1 := v_addR (l2 := 1) (h2 := 1) ex_1 hi9 (by decide) (by decide) (by decide)
  refine va_sld hx hb hX hbl hbA hS (v_in (v_sld5 tx_1 hi (by decide))) dL_law_693 ?_
  refine lv_topi (fun x_2 ex_2 => ?_)
  refine lv_aload_n hx hb dL_law_694 rfl (lv_at hl 0 rfl) ?_
  refine lv_iload hx hb dL_law_695 (lv_at hl 4 rfl) ?_
  refine lv_iconst (v := 2) hx hb dL_law_697 (by decide) ?_
  refine lv_iadd hx hb dL_law_698 ?_
  refine lv_topi (fun x_3 ex_3 => ?_)
  have tx_3 : x_3.toInt = i.toInt + 2 := v_addR (l2 := 2) (h2 := 2) ex_3 hi9 (by decide) (by decide) (by decide)
  refine va_sld hx hb hX hbl hbA hS (v_in (v_sld5 tx_3 hi (by decide))) dL_law_699 ?_
  refine lv_topi (fun x_4 ex_4 => ?_)
  refine kV_i (rest := []) (q0 := 0) (ci := 11) hcf (f_X11_list l dC dI cI cS H.size oX nT nL nM oC oP oH oK oG oR oQ oW h1 h2 nw w1 w2 w3 o7 o8 o9 w4 w5 w6 w7 fa lH fH1 fH2 ke tl fsh wi ri fm lm x_2 x_4 (g_lH) (g_ke) (g_fsh) (g_fm) (g_lm)) kc_X11_list gL_law_X11_list rfl rfl rfl ⟨Nat.le_of_ble_eq_true rfl, Nat.le_of_ble_eq_true rfl⟩ kX_t hK hP hD hS hA (posT mk_26 0) (posF mk_26 0) (kC_of mk_26 rfl rfl) (by decide +kernel) rfl rfl rfl hl rfl (Nat.le_of_ble_eq_true rfl) dL_law_700 ⟨kfit1 hn (Nat.le_of_ble_eq_true rfl), ksix1 hn (Nat.le_of_ble_eq_true rfl)⟩ (fun r_5 H locs hB hJ hSn => ?_)
  refine Exists.elim hB (fun fa_5 hB5_0 => ?_)
  refine Exists.elim hB5_0 (fun lH_5 hB5_1 => ?_)
  refine Exists.elim hB5_1 (fun fH1_5 hB5_2 => ?_)
  refine Exists.elim hB5_2 (fun fH2_5 hB5_3 => ?_)
  refine Exists.elim hB5_3 (fun fsh_5 hB5_4 => ?_)
  refine And.elim (fun hPD9 hB5_5 => ?_) hB5_4
  refine And.elim (fun hf5_0 hB5_6 => ?_) hB5_5
  refine And.elim (fun hf5_1 hB5_7 => ?_) hB5_6
  refine And.elim (fun hf5_2 hB5_8 => ?_) hB5_7
  have hf5_3 := hB5_8
  clear hB hB5_0 hB5_1 hB5_2 hB5_3 hB5_4 hB5_5 hB5_6 hB5_7 hB5_8
  obtain ⟨hPn, hDn⟩ := kJi (m := mk_26) hJ rfl hPD9.1 hPD9.2 (wn := [(oX, .inr (11, [.ref nT, .ref nL, .ref nM, .ref oC, .ref oP, .ref oH, .ref oK, .ref oG, .ref oR, .ref oQ, .ref oW, .int fa_5])), (nT, .inr (5, [.ref aT, .int lT])), (aT, .inl (cI, 900, .inl fT)), (nL, .inr (5, [.ref aL, .int lL])), (aL, .inl (cI, 300, .inl fL)), (nM, .inr (5, [.ref aM, .int lM])), (aM, .inl (cI, 300, .inl fM)), (oC, .inr (2, [.ref o4, .ref o5])), (o4, .inr (10, [.ref a41, .ref a42, .ref a43, .int l4])), (a41, .inl (cI, 256, .inl f41)), (a42, .inl (cI, 512, .inl f42)), (a43, .inl (cI, 512, .inl f43)), (o5, .inr (10, [.ref a51, .ref a52, .ref a53, .int l5])), (a51, .inl (cI, 256, .inl f51)), (a52, .inl (cI, 512, .inl f52)), (a53, .inl (cI, 512, .inl f53)), (oP, .inr (7, [.ref oC, .ref nB, .int ft])), (nB, .inr (5, [.ref aB, .int lB])), (aB, .inl (cI, 2400, .inl fB)), (oH, .inr (4, [.ref oP, .ref h1, .ref h2, .int lH_5])), (h1, .inl (cI, 6, .inl fH1_5)), (h2, .inl (cI, 6, .inl fH2_5)), (oK, .inr (3, [.ref k1, .ref k2, .int lK])), (k1, .inl (cI, 1024, .inl fK1)), (k2, .inl (cI, 1024, .inl fK2)), (oG, .inr (0, [.ref g1, .ref g2, .int gn, .int lG])), (g1, .inl (cI, 6000, .inl fG1)), (g2, .inl (cI, 20, .inl fG2)), (oR, .inr (9, [.ref oH, .ref oK, .ref n1, .ref n2, .ref n3, .ref r1, .ref r2, .ref r3, .ref r4, .ref r5, .ref r6, .int lR])), (n1, .inr (5, [.ref a1, .int l1])), (a1, .inl (cI, 300, .inl f1)), (n2, .inr (5, [.ref a2, .int l2])), (a2, .inl (cI, 300, .inl f2)), (n3, .inr (5, [.ref a3, .int l3])), (a3, .inl (cI, 300, .inl f3)), (r1, .inl (cI, 258, .inl fR1)), (r2, .inl (cI, 258, .inl fR2)), (r3, .inl (cI, 774, .inl fR3)), (r4, .inl (cI, 258, .inl fR4)), (r5, .inl (cI, 258, .inl fR5)), (r6, .inl (cI, 774, .inl fR6)), (oQ, .inr (6, [.ref oC, .ref oH, .ref oK, .ref oE, .ref nq, .ref np, .ref nv, .ref q1, .ref q2, .ref q3, .ref q4, .int pr])), (oE, .inr (8, [.ref oC, .ref oK, .int reE, .int laE, .int suE, .int leE])), (nq, .inr (5, [.ref aq, .int lq])), (aq, .inl (cI, 480, .inl fq)), (np, .inr (5, [.ref ap, .int lp])), (ap, .inl (cI, 300, .inl fp)), (nv, .inr (5, [.ref av, .int lv])), (av, .inl (cI, 300, .inl fv)), (q1, .inl (cI, 61, .inl fQ1)), (q2, .inl (cI, 61, .inl fQ2)), (q3, .inl (cI, 61, .inl fQ3)), (q4, .inl (cI, 61, .inl fQ4)), (oW, .inr (1, [.ref oC, .ref oK, .ref nw, .ref w1, .ref w2, .ref w3, .ref o7, .ref o8, .ref o9, .ref w4, .ref w5, .ref w6, .ref w7, .int ke, .int tl, .int fsh_5, .int wi, .int ri, .int fm, .int lm])), (nw, .inr (5, [.ref aw, .int lw])), (aw, .inl (cI, 800, .inl fw)), (o7, .inr (8, [.ref oC, .ref oK, .int re7, .int la7, .int su7, .int le7])), (o8, .inr (8, [.ref oC, .ref oK, .int re8, .int la8, .int su8, .int le8])), (o9, .inr (8, [.ref oC, .ref oK, .int re9, .int la9, .int su9, .int le9])), (w1, .inl (cI, 801, .inl fW1)), (w2, .inl (cI, 801, .inl fW2)), (w3, .inl (cI, 801, .inl fW3)), (w4, .inl (cI, 200, .inl fW4)), (w5, .inl (cI, 200, .inl fW5)), (w6, .inl (cI, 200, .inl fW6)), (w7, .inl (cI, 200, .inl fW7)), (oM, .inr (12, [.ref mT, .int zt, .ref mS, .ref mX, .int zp, .int zf, .ref mL, .ref mB, .ref mD, .ref m1, .ref m2, .int zh, .ref mR, .int zr, .ref x1, .ref x2, .ref x3, .int zc, .ref mH, .int zy, .int za, .int zb, .int zs, .int zq, .int zw, .int ze, .ref mY, .int zn, .ref mE, .int zm, .int zl, .ref mW, .int zk, .ref mO, .int zd, .ref y1, .ref y2, .ref y3, .ref y4, .ref mZ])), (mT, .inl (cI, 900, .inl eT)), (mS, .inl (cI, 21, .inl eS)), (mX, .inl (cI, 6300, .inl eX)), (mL, .inl (cI, 512, .inl eL)), (mB, .inl (cS, 131072, .inl eB)), (mD, .inl (cI, 2, .inl eD)), (m1, .inl (cI, 6, .inl e1)), (m2, .inl (cI, 6, .inl e2)), (mR, .inl (cI, 1548, .inl eR)), (x1, .inl (cI, 300, .inl ec1)), (x2, .inl (cI, 300, .inl ec2)), (x3, .inl (cI, 300, .inl ec3)), (mH, .inl (cI, 800, .inl eH)), (mY, .inl (cI, 2600, .inl eY)), (mE, .inl (cI, 2600, .inl eE)), (mW, .inl (cI, 300, .inl eW)), (mO, .inl (cI, 300, .inl eO)), (y1, .inl (cI, 61, .inl er1)), (y2, .inl (cI, 61, .inl er2)), (y3, .inl (cI, 61, .inl er3)), (y4, .inl (cI, 61, .inl er4)), (mZ, .inl (cI, 600, .inl eZ)), (oJ, .inl (cJ, 1, .inr (.inl fJ)))]) rfl
  clear hP hD hS hJ hPD9
  have hP := hPn
  have hD := hDn
  have hS := hSn
  clear hPn hDn hSn
  refine lv_pop hx hb dL_law_703 rfl ?_
  refine lv_aload_n hx hb dL_law_704 rfl (lv_at hl 2 rfl) ?_
  refine lv_aload_n hx hb dL_law_705 rfl (lv_at hl 0 rfl) ?_
  refine lv_iload hx hb dL_law_706 (lv_at hl 4 rfl) ?_
  refine lv_iconst (v := 1) hx hb dL_law_708 (by decide) ?_
  refine lv_iadd hx hb dL_law_709 ?_
  refine lv_topi (fun x_6 ex_6 => ?_)
  have tx_6 : x_6.toInt = i.toInt + 1 := v_addR (l2 := 1) (h2 := 1) ex_6 hi9 (by decide) (by decide) (by decide)
  refine va_sld hx hb hX hbl hbA hS (v_in (v_sld5 tx_6 hi (by decide))) dL_law_710 ?_
  refine lv_topi (fun x_7 ex_7 => ?_)
  have es_7 : x_7 = x_2 := by rw [ex_7, ex_2, ex_6, ex_1]
  rw [es_7]
  refine lv_aload_n hx hb dL_law_711 rfl (lv_at hl 0 rfl) ?_
  refine lv_iload hx hb dL_law_712 (lv_at hl 4 rfl) ?_
  refine lv_iconst (v := 2) hx hb dL_law_714 (by decide) ?_
  refine lv_iadd hx hb dL_law_715 ?_
  refine lv_topi (fun x_8 ex_8 => ?_)
  have tx_8 : x_8.toInt = i.toInt + 2 := v_addR (l2 := 2) (h2 := 2) ex_8 hi9 (by decide) (by decide) (by decide)
  refine va_sld hx hb hX hbl hbA hS (v_in (v_sld5 tx_8 hi (by decide))) dL_law_716 ?_
  refine lv_topi (fun x_9 ex_9 => ?_)
  have es_9 : x_9 = x_4 := by rw [ex_9, ex_4, ex_8, ex_3]
  rw [es_9]
  refine kV_i (rest := []) (q0 := 0) (ci := 12) hcf (f_X12_list l dC dI cI cS H.size oM mT mS mX mL mB mD m1 m2 mR x1 x2 x3 mH mY mE mW mO y1 y2 y3 y4 mZ zt zp zf zh zr zc zy za zb zs zq zw ze zn zm zl zk zd e1 e2 x_2 x_4 (g_zt) (g_zp) (g_zf) (g_zh) (g_zr) (g_zc) (g_zy) (g_za) (g_zb) (g_zs) (g_zq) (g_zn) (g_zm) (g_zk) (g_e1) (g_e2) (by omega)) kc_X12_list gL_law_X12_list rfl rfl rfl ⟨Nat.le_of_ble_eq_true rfl, Nat.le_of_ble_eq_true rfl⟩ kX_t hK hP hD hS hA (posT mk_27 0) (posF mk_27 0) (kC_of mk_27 rfl rfl) (by decide +kernel) rfl rfl rfl hl rfl (Nat.le_of_ble_eq_true rfl) dL_law_717 ⟨kfit2 hn (Nat.le_of_ble_eq_true rfl), ksix2 hn (Nat.le_of_ble_eq_true rfl)⟩ (fun r_10 H locs hB hJ hSn => ?_)
  refine Exists.elim hB (fun ze_10 hB10_0 => ?_)
  refine Exists.elim hB10_0 (fun zw_10 hB10_1 => ?_)
  refine Exists.elim hB10_1 (fun zh_10 hB10_2 => ?_)
  refine Exists.elim hB10_2 (fun e1_10 hB10_3 => ?_)
  refine Exists.elim hB10_3 (fun e2_10 hB10_4 => ?_)
  refine Exists.elim hB10_4 (fun zs_10 hB10_5 => ?_)
  refine And.elim (fun hPD9 hB10_6 => ?_) hB10_5
  refine And.elim (fun hf10_0 hB10_7 => ?_) hB10_6
  refine And.elim (fun hf10_1 hB10_8 => ?_) hB10_7
  refine And.elim (fun hf10_2 hB10_9 => ?_) hB10_8
  refine And.elim (fun hf10_3 hB10_10 => ?_) hB10_9
  refine And.elim (fun hf10_4 hB10_11 => ?_) hB10_10
  refine And.elim (fun hf10_5 hB10_12 => ?_) hB10_11
  have hf10_6 := hB10_12
  clear hB hB10_0 hB10_1 hB10_2 hB10_3 hB10_4 hB10_5 hB10_6 hB10_7 hB10_8 hB10_9 hB10_10 hB10_11 hB10_12
  obtain ⟨hPn, hDn⟩ := kJi (m := mk_27) hJ rfl hPD9.1 hPD9.2 (wn := [(oX, .inr (11, [.ref nT, .ref nL, .ref nM, .ref oC, .ref oP, .ref oH, .ref oK, .ref oG, .ref oR, .ref oQ, .ref oW, .int fa_5])), (nT, .inr (5, [.ref aT, .int lT])), (aT, .inl (cI, 900, .inl fT)), (nL, .inr (5, [.ref aL, .int lL])), (aL, .inl (cI, 300, .inl fL)), (nM, .inr (5, [.ref aM, .int lM])), (aM, .inl (cI, 300, .inl fM)), (oC, .inr (2, [.ref o4, .ref o5])), (o4, .inr (10, [.ref a41, .ref a42, .ref a43, .int l4])), (a41, .inl (cI, 256, .inl f41)), (a42, .inl (cI, 512, .inl f42)), (a43, .inl (cI, 512, .inl f43)), (o5, .inr (10, [.ref a51, .ref a52, .ref a53, .int l5])), (a51, .inl (cI, 256, .inl f51)), (a52, .inl (cI, 512, .inl f52)), (a53, .inl (cI, 512, .inl f53)), (oP, .inr (7, [.ref oC, .ref nB, .int ft])), (nB, .inr (5, [.ref aB, .int lB])), (aB, .inl (cI, 2400, .inl fB)), (oH, .inr (4, [.ref oP, .ref h1, .ref h2, .int lH_5])), (h1, .inl (cI, 6, .inl fH1_5)), (h2, .inl (cI, 6, .inl fH2_5)), (oK, .inr (3, [.ref k1, .ref k2, .int lK])), (k1, .inl (cI, 1024, .inl fK1)), (k2, .inl (cI, 1024, .inl fK2)), (oG, .inr (0, [.ref g1, .ref g2, .int gn, .int lG])), (g1, .inl (cI, 6000, .inl fG1)), (g2, .inl (cI, 20, .inl fG2)), (oR, .inr (9, [.ref oH, .ref oK, .ref n1, .ref n2, .ref n3, .ref r1, .ref r2, .ref r3, .ref r4, .ref r5, .ref r6, .int lR])), (n1, .inr (5, [.ref a1, .int l1])), (a1, .inl (cI, 300, .inl f1)), (n2, .inr (5, [.ref a2, .int l2])), (a2, .inl (cI, 300, .inl f2)), (n3, .inr (5, [.ref a3, .int l3])), (a3, .inl (cI, 300, .inl f3)), (r1, .inl (cI, 258, .inl fR1)), (r2, .inl (cI, 258, .inl fR2)), (r3, .inl (cI, 774, .inl fR3)), (r4, .inl (cI, 258, .inl fR4)), (r5, .inl (cI, 258, .inl fR5)), (r6, .inl (cI, 774, .inl fR6)), (oQ, .inr (6, [.ref oC, .ref oH, .ref oK, .ref oE, .ref nq, .ref np, .ref nv, .ref q1, .ref q2, .ref q3, .ref q4, .int pr])), (oE, .inr (8, [.ref oC, .ref oK, .int reE, .int laE, .int suE, .int leE])), (nq, .inr (5, [.ref aq, .int lq])), (aq, .inl (cI, 480, .inl fq)), (np, .inr (5, [.ref ap, .int lp])), (ap, .inl (cI, 300, .inl fp)), (nv, .inr (5, [.ref av, .int lv])), (av, .inl (cI, 300, .inl fv)), (q1, .inl (cI, 61, .inl fQ1)), (q2, .inl (cI, 61, .inl fQ2)), (q3, .inl (cI, 61, .inl fQ3)), (q4, .inl (cI, 61, .inl fQ4)), (oW, .inr (1, [.ref oC, .ref oK, .ref nw, .ref w1, .ref w2, .ref w3, .ref o7, .ref o8, .ref o9, .ref w4, .ref w5, .ref w6, .ref w7, .int ke, .int tl, .int fsh_5, .int wi, .int ri, .int fm, .int lm])), (nw, .inr (5, [.ref aw, .int lw])), (aw, .inl (cI, 800, .inl fw)), (o7, .inr (8, [.ref oC, .ref oK, .int re7, .int la7, .int su7, .int le7])), (o8, .inr (8, [.ref oC, .ref oK, .int re8, .int la8, .int su8, .int le8])), (o9, .inr (8, [.ref oC, .ref oK, .int re9, .int la9, .int su9, .int le9])), (w1, .inl (cI, 801, .inl fW1)), (w2, .inl (cI, 801, .inl fW2)), (w3, .inl (cI, 801, .inl fW3)), (w4, .inl (cI, 200, .inl fW4)), (w5, .inl (cI, 200, .inl fW5)), (w6, .inl (cI, 200, .inl fW6)), (w7, .inl (cI, 200, .inl fW7)), (oM, .inr (12, [.ref mT, .int zt, .ref mS, .ref mX, .int zp, .int zf, .ref mL, .ref mB, .ref mD, .ref m1, .ref m2, .int zh_10, .ref mR, .int zr, .ref x1, .ref x2, .ref x3, .int zc, .ref mH, .int zy, .int za, .int zb, .int zs_10, .int zq, .int zw_10, .int ze_10, .ref mY, .int zn, .ref mE, .int zm, .int zl, .ref mW, .int zk, .ref mO, .int zd, .ref y1, .ref y2, .ref y3, .ref y4, .ref mZ])), (mT, .inl (cI, 900, .inl eT)), (mS, .inl (cI, 21, .inl eS)), (mX, .inl (cI, 6300, .inl eX)), (mL, .inl (cI, 512, .inl eL)), (mB, .inl (cS, 131072, .inl eB)), (mD, .inl (cI, 2, .inl eD)), (m1, .inl (cI, 6, .inl e1_10)), (m2, .inl (cI, 6, .inl e2_10)), (mR, .inl (cI, 1548, .inl eR)), (x1, .inl (cI, 300, .inl ec1)), (x2, .inl (cI, 300, .inl ec2)), (x3, .inl (cI, 300, .inl ec3)), (mH, .inl (cI, 800, .inl eH)), (mY, .inl (cI, 2600, .inl eY)), (mE, .inl (cI, 2600, .inl eE)), (mW, .inl (cI, 300, .inl eW)), (mO, .inl (cI, 300, .inl eO)), (y1, .inl (cI, 61, .inl er1)), (y2, .inl (cI, 61, .inl er2)), (y3, .inl (cI, 61, .inl er3)), (y4, .inl (cI, 61, .inl er4)), (mZ, .inl (cI, 600, .inl eZ)), (oJ, .inl (cJ, 1, .inr (.inl fJ)))]) rfl
  clear hP hD hS hJ hPD9
  have hP := hPn
  have hD := hDn
  have hS := hSn
  clear hPn hDn hSn
  refine lv_pop hx hb dL_law_720 rfl ?_
  refine lv_goto (tgt := 1022) hx hb dL_law_721 (by decide) ?_
  have hcg := list_eq hH hHe hf5_2 hf10_5
  have hdf : DFr fsh fsh_5 zs zs_10 := d_fs hf5_3 hf10_6 hcg.1
  refine W.widen (k := 90 + (nc + 1)) (n := 172225 + 6 * (nc + 1)) (by omega) (by omega) ?_
  exact kk fa_5 lT lL lM l4 l5 ft lB lH_5 lK gn lG lR l1 l2 l3 pr reE laE suE leE lq lp lv ke tl fsh_5 wi ri fm lm lw re7 la7 su7 le7 re8 la8 su8 le8 re9 la9 su9 le9 zt zp zf zh_10 zr zc zy za zb zs_10 zq zw_10 ze_10 zn zm zl zk zd fT fL fM f41 f42 f43 f51 f52 f53 fB fH1_5 fH2_5 fK1 fK2 fG1 fG2 f1 f2 f3 fR1 fR2 fR3 fR4 fR5 fR6 fq fp fv fQ1 fQ2 fQ3 fQ4 fw fW1 fW2 fW3 fW4 fW5 fW6 fW7 eT eS eX eL eB eD e1_10 e2_10 eR ec1 ec2 ec3 eH eY eE eW eO er1 er2 er3 er4 eZ fJ _ _ _ ⟨g_lT, g_lL, g_lM, g_lB, hf5_0, g_lK, g_gn, g_lG, g_lR, g_l1, g_l2, g_l3, g_lq, g_lp, g_lv, g_ke, hf5_1, g_fm, g_lm, g_lw, g_zt, g_zp, g_zf, hf10_0, g_zr, g_zc, g_zy, g_za, g_zb, hf10_3, g_zq, g_zn, g_zm, g_zk, g_fG2, g_eS, g_eX, g_eL, g_eB, hf10_1, hf10_2, g_eY, g_eE, g_eW, g_eO, g_eZ, by omega, hrel, hrc, hr4, hr5, hb4, hb5, hlz, hcg.2.1, hcg.2.2 (by omega), hKz, hT, ho, hal, hCV, hVk, hVr, hTX, hCH, hvc, fr_d hfr hdf, fx_d hfx hdf, frs_up hfs hfr (by omega)⟩ hP hD hS (lv_sub hl [0, 1, 2, 3, 4] rfl)

set_option maxHeartbeats 40000000 in
set_option maxRecDepth 100000 in
theorem law_unlist {p : Program} {l : Launch} {e : Env} {s : State} {m : MethodId} {below : List Frame} {meth : Method} {c : Code} {dC : Nat → ClassId} {dI : Nat → Nat → Nat} {cI cS cJ : ClassId} {A : Nat → Prop} {b L : Nat} {xs : Nat → Int32} (C0 : lw_At p s m meth c b L xs) (hAd : A = fun q : Nat => s.heap.size ≤ q) (hK3 : va_K (dC, dI) vwCl [(cI, .int), (cS, .short), (cJ, .long)] s) {oX nT aT nL aL nM aM oC o4 a41 a42 a43 o5 a51 a52 a53 oP nB aB oH h1 h2 oK k1 k2 oG g1 g2 oR n1 a1 n2 a2 n3 a3 r1 r2 r3 r4 r5 r6 oQ oE nq aq np ap nv av q1 q2 q3 q4 oW nw aw o7 o8 o9 w1 w2 w3 w4 w5 w6 w7 oM mT mS mX mL mB mD m1 m2 mR x1 x2 x3 mH mY mE mW mO y1 y2 y3 y4 mZ oJ : Nat} {fa : Int32} {lT : Int32} {lL : Int32} {lM : Int32} {l4 : Int32} {l5 : Int32} {ft : Int32} {lB : Int32} {lH : Int32} {lK : Int32} {gn : Int32} {lG : Int32} {lR : Int32} {l1 : Int32} {l2 : Int32} {l3 : Int32} {pr : Int32} {reE : Int32} {laE : Int32} {suE : Int32} {leE : Int32} {lq : Int32} {lp : Int32} {lv : Int32} {ke : Int32} {tl : Int32} {fsh : Int32} {wi : Int32} {ri : Int32} {fm : Int32} {lm : Int32} {lw : Int32} {re7 : Int32} {la7 : Int32} {su7 : Int32} {le7 : Int32} {re8 : Int32} {la8 : Int32} {su8 : Int32} {le8 : Int32} {re9 : Int32} {la9 : Int32} {su9 : Int32} {le9 : Int32} {zt : Int32} {zp : Int32} {zf : Int32} {zh : Int32} {zr : Int32} {zc : Int32} {zy : Int32} {za : Int32} {zb : Int32} {zs : Int32} {zq : Int32} {zw : Int32} {ze : Int32} {zn : Int32} {zm : Int32} {zl : Int32} {zk : Int32} {zd : Int32} {fT : Nat → Int32} {fL : Nat → Int32} {fM : Nat → Int32} {f41 : Nat → Int32} {f42 : Nat → Int32} {f43 : Nat → Int32} {f51 : Nat → Int32} {f52 : Nat → Int32} {f53 : Nat → Int32} {fB : Nat → Int32} {fH1 : Nat → Int32} {fH2 : Nat → Int32} {fK1 : Nat → Int32} {fK2 : Nat → Int32} {fG1 : Nat → Int32} {fG2 : Nat → Int32} {f1 : Nat → Int32} {f2 : Nat → Int32} {f3 : Nat → Int32} {fR1 : Nat → Int32} {fR2 : Nat → Int32} {fR3 : Nat → Int32} {fR4 : Nat → Int32} {fR5 : Nat → Int32} {fR6 : Nat → Int32} {fq : Nat → Int32} {fp : Nat → Int32} {fv : Nat → Int32} {fQ1 : Nat → Int32} {fQ2 : Nat → Int32} {fQ3 : Nat → Int32} {fQ4 : Nat → Int32} {fw : Nat → Int32} {fW1 : Nat → Int32} {fW2 : Nat → Int32} {fW3 : Nat → Int32} {fW4 : Nat → Int32} {fW5 : Nat → Int32} {fW6 : Nat → Int32} {fW7 : Nat → Int32} {eT : Nat → Int32} {eS : Nat → Int32} {eX : Nat → Int32} {eL : Nat → Int32} {eB : Nat → Int32} {eD : Nat → Int32} {e1 : Nat → Int32} {e2 : Nat → Int32} {eR : Nat → Int32} {ec1 : Nat → Int32} {ec2 : Nat → Int32} {ec3 : Nat → Int32} {eH : Nat → Int32} {eY : Nat → Int32} {eE : Nat → Int32} {eW : Nat → Int32} {eO : Nat → Int32} {er1 : Nat → Int32} {er2 : Nat → Int32} {er3 : Nat → Int32} {er4 : Nat → Int32} {eZ : Nat → Int32} {fJ : Nat → Int64} {H : Heap} {locs : List Loc} {ls : Array Slot} {i : Int32} {nc : Nat} (hn : nc ≤ 511) (hi : 0 ≤ i.toInt ∧ i.toInt + 5 < (L : Int)) (hL : L ≤ 3072) (hI : INV nc lT lL lM l4 l5 lB lH lK gn lG lR l1 l2 l3 lq lp lv ke fsh wi ri fm lm lw zt zp zf zh zr zc zy za zb zs zq zn zm zk fT fL f41 f42 f43 f51 f52 f53 fH1 fH2 fK1 fK2 fG1 fG2 fW4 fW5 fW6 fW7 eT eS eX eL eB eD e1 e2 ec1 ec2 ec3 eH eY eE eW eO eZ) (hP : va_P (dC, dI) vwCl (WLD cI cS cJ oX nT aT nL aL nM aM oC o4 a41 a42 a43 o5 a51 a52 a53 oP nB aB oH h1 h2 oK k1 k2 oG g1 g2 oR n1 a1 n2 a2 n3 a3 r1 r2 r3 r4 r5 r6 oQ oE nq aq np ap nv av q1 q2 q3 q4 oW nw aw o7 o8 o9 w1 w2 w3 w4 w5 w6 w7 oM mT mS mX mL mB mD m1 m2 mR x1 x2 x3 mH mY mE mW mO y1 y2 y3 y4 mZ oJ fa lT lL lM l4 l5 ft lB lH lK gn lG lR l1 l2 l3 pr reE laE suE leE lq lp lv ke tl fsh wi ri fm lm lw re7 la7 su7 le7 re8 la8 su8 le8 re9 la9 su9 le9 zt zp zf zh zr zc zy za zb zs zq zw ze zn zm zl zk zd fT fL fM f41 f42 f43 f51 f52 f53 fB fH1 fH2 fK1 fK2 fG1 fG2 f1 f2 f3 fR1 fR2 fR3 fR4 fR5 fR6 fq fp fv fQ1 fQ2 fQ3 fQ4 fw fW1 fW2 fW3 fW4 fW5 fW6 fW7 eT eS eX eL eB eD e1 e2 eR ec1 ec2 ec3 eH eY eE eW eO er1 er2 er3 er4 eZ fJ) H) (hD : va_D A (WLD cI cS cJ oX nT aT nL aL nM aM oC o4 a41 a42 a43 o5 a51 a52 a53 oP nB aB oH h1 h2 oK k1 k2 oG g1 g2 oR n1 a1 n2 a2 n3 a3 r1 r2 r3 r4 r5 r6 oQ oE nq aq np ap nv av q1 q2 q3 q4 oW nw aw o7 o8 o9 w1 w2 w3 w4 w5 w6 w7 oM mT mS mX mL mB mD m1 m2 mR x1 x2 x3 mH mY mE mW mO y1 y2 y3 y4 mZ oJ fa lT lL lM l4 l5 ft lB lH lK gn lG lR l1 l2 l3 pr reE laE suE leE lq lp lv ke tl fsh wi ri fm lm lw re7 la7 su7 le7 re8 la8 su8 le8 re9 la9 su9 le9 zt zp zf zh zr zc zy za zb zs zq zw ze zn zm zl zk zd fT fL fM f41 f42 f43 f51 f52 f53 fB fH1 fH2 fK1 fK2 fG1 fG2 f1 f2 f3 fR1 fR2 fR3 fR4 fR5 fR6 fq fp fv fQ1 fQ2 fQ3 fQ4 fw fW1 fW2 fW3 fW4 fW5 fW6 fW7 eT eS eX eL eB eD e1 e2 eR ec1 ec2 ec3 eH eY eE eW eO er1 er2 er3 er4 eZ fJ)) (hS : va_S A s.heap H locs) (hl : lv_has ls 7 [(0, .ref b), (1, .ref oX), (2, .ref oM), (3, .ref oJ), (4, .int i)]) (kk : KK p l e s m below meth c dC dI cI cS cJ A b oX nT aT nL aL nM aM oC o4 a41 a42 a43 o5 a51 a52 a53 oP nB aB oH h1 h2 oK k1 k2 oG g1 g2 oR n1 a1 n2 a2 n3 a3 r1 r2 r3 r4 r5 r6 oQ oE nq aq np ap nv av q1 q2 q3 q4 oW nw aw o7 o8 o9 w1 w2 w3 w4 w5 w6 w7 oM mT mS mX mL mB mD m1 m2 mR x1 x2 x3 mH mY mE mW mO y1 y2 y3 y4 mZ oJ i nc) : W p l e room_1 s m #[Value.ref b] below meth c H locs (90 + nc) (172225 + 6 * nc) (lw_Z below #[Value.ref b] s) (F0 m 724 ls []) := by
  refine And.elim (fun hx hBC_0 => ?_) C0
  refine And.elim (fun hb hBC_1 => ?_) hBC_0
  refine And.elim (fun hr hBC_2 => ?_) hBC_1
  refine And.elim (fun hml hBC_3 => ?_) hBC_2
  refine And.elim (fun hown hBC_4 => ?_) hBC_3
  refine And.elim (fun hts0 hBC_5 => ?_) hBC_4
  refine And.elim (fun hX hBC_6 => ?_) hBC_5
  refine And.elim (fun hbl hBC_7 => ?_) hBC_6
  refine And.elim (fun hlocks hBC_8 => ?_) hBC_7
  have hgv := hBC_8
  clear hBC_0 hBC_1 hBC_2 hBC_3 hBC_4 hBC_5 hBC_6 hBC_7 hBC_8
  refine And.elim (fun g_lT hBI_0 => ?_) hI
  refine And.elim (fun g_lL hBI_1 => ?_) hBI_0
  refine And.elim (fun g_lM hBI_2 => ?_) hBI_1
  refine And.elim (fun g_lB hBI_3 => ?_) hBI_2
  refine And.elim (fun g_lH hBI_4 => ?_) hBI_3
  refine And.elim (fun g_lK hBI_5 => ?_) hBI_4
  refine And.elim (fun g_gn hBI_6 => ?_) hBI_5
  refine And.elim (fun g_lG hBI_7 => ?_) hBI_6
  refine And.elim (fun g_lR hBI_8 => ?_) hBI_7
  refine And.elim (fun g_l1 hBI_9 => ?_) hBI_8
  refine And.elim (fun g_l2 hBI_10 => ?_) hBI_9
  refine And.elim (fun g_l3 hBI_11 => ?_) hBI_10
  refine And.elim (fun g_lq hBI_12 => ?_) hBI_11
  refine And.elim (fun g_lp hBI_13 => ?_) hBI_12
  refine And.elim (fun g_lv hBI_14 => ?_) hBI_13
  refine And.elim (fun g_ke hBI_15 => ?_) hBI_14
  refine And.elim (fun g_fsh hBI_16 => ?_) hBI_15
  refine And.elim (fun g_fm hBI_17 => ?_) hBI_16
  refine And.elim (fun g_lm hBI_18 => ?_) hBI_17
  refine And.elim (fun g_lw hBI_19 => ?_) hBI_18
  refine And.elim (fun g_zt hBI_20 => ?_) hBI_19
  refine And.elim (fun g_zp hBI_21 => ?_) hBI_20
  refine And.elim (fun g_zf hBI_22 => ?_) hBI_21
  refine And.elim (fun g_zh hBI_23 => ?_) hBI_22
  refine And.elim (fun g_zr hBI_24 => ?_) hBI_23
  refine And.elim (fun g_zc hBI_25 => ?_) hBI_24
  refine And.elim (fun g_zy hBI_26 => ?_) hBI_25
  refine And.elim (fun g_za hBI_27 => ?_) hBI_26
  refine And.elim (fun g_zb hBI_28 => ?_) hBI_27
  refine And.elim (fun g_zs hBI_29 => ?_) hBI_28
  refine And.elim (fun g_zq hBI_30 => ?_) hBI_29
  refine And.elim (fun g_zn hBI_31 => ?_) hBI_30
  refine And.elim (fun g_zm hBI_32 => ?_) hBI_31
  refine And.elim (fun g_zk hBI_33 => ?_) hBI_32
  refine And.elim (fun g_fG2 hBI_34 => ?_) hBI_33
  refine And.elim (fun g_eS hBI_35 => ?_) hBI_34
  refine And.elim (fun g_eX hBI_36 => ?_) hBI_35
  refine And.elim (fun g_eL hBI_37 => ?_) hBI_36
  refine And.elim (fun g_eB hBI_38 => ?_) hBI_37
  refine And.elim (fun g_e1 hBI_39 => ?_) hBI_38
  refine And.elim (fun g_e2 hBI_40 => ?_) hBI_39
  refine And.elim (fun g_eY hBI_41 => ?_) hBI_40
  refine And.elim (fun g_eE hBI_42 => ?_) hBI_41
  refine And.elim (fun g_eW hBI_43 => ?_) hBI_42
  refine And.elim (fun g_eO hBI_44 => ?_) hBI_43
  refine And.elim (fun g_eZ hBI_45 => ?_) hBI_44
  refine And.elim (fun hzn hBI_46 => ?_) hBI_45
  refine And.elim (fun hrel hBI_47 => ?_) hBI_46
  refine And.elim (fun hrc hBI_48 => ?_) hBI_47
  refine And.elim (fun hr4 hBI_49 => ?_) hBI_48
  refine And.elim (fun hr5 hBI_50 => ?_) hBI_49
  refine And.elim (fun hb4 hBI_51 => ?_) hBI_50
  refine And.elim (fun hb5 hBI_52 => ?_) hBI_51
  refine And.elim (fun hlz hBI_53 => ?_) hBI_52
  refine And.elim (fun hH hBI_54 => ?_) hBI_53
  refine And.elim (fun hHe hBI_55 => ?_) hBI_54
  refine And.elim (fun hKz hBI_56 => ?_) hBI_55
  refine And.elim (fun hT hBI_57 => ?_) hBI_56
  refine And.elim (fun ho hBI_58 => ?_) hBI_57
  refine And.elim (fun hal hBI_59 => ?_) hBI_58
  refine And.elim (fun hCV hBI_60 => ?_) hBI_59
  refine And.elim (fun hVk hBI_61 => ?_) hBI_60
  refine And.elim (fun hVr hBI_62 => ?_) hBI_61
  refine And.elim (fun hTX hBI_63 => ?_) hBI_62
  refine And.elim (fun hCH hBI_64 => ?_) hBI_63
  refine And.elim (fun hvc hBI_65 => ?_) hBI_64
  refine And.elim (fun hfr hBI_66 => ?_) hBI_65
  refine And.elim (fun hfx hBI_67 => ?_) hBI_66
  have hfs := hBI_67
  clear hI hBI_0 hBI_1 hBI_2 hBI_3 hBI_4 hBI_5 hBI_6 hBI_7 hBI_8 hBI_9 hBI_10 hBI_11 hBI_12 hBI_13 hBI_14 hBI_15 hBI_16 hBI_17 hBI_18 hBI_19 hBI_20 hBI_21 hBI_22 hBI_23 hBI_24 hBI_25 hBI_26 hBI_27 hBI_28 hBI_29 hBI_30 hBI_31 hBI_32 hBI_33 hBI_34 hBI_35 hBI_36 hBI_37 hBI_38 hBI_39 hBI_40 hBI_41 hBI_42 hBI_43 hBI_44 hBI_45 hBI_46 hBI_47 hBI_48 hBI_49 hBI_50 hBI_51 hBI_52 hBI_53 hBI_54 hBI_55 hBI_56 hBI_57 hBI_58 hBI_59 hBI_60 hBI_61 hBI_62 hBI_63 hBI_64 hBI_65 hBI_66 hBI_67
  have hK : va_K (dC, dI) vwCl [(cI, .int), (cS, .short)] s := hK3.sub [0, 1] rfl
  have hown : s.vm.findClass RL = some m.cls := hown
  have hts := hts0
  have hcf := k_cf hx hb hml hown hts
  have hi9 : 0 ≤ i.toInt ∧ i.toInt ≤ 3066 := by omega
  have hzs : zs.toInt ≤ 1000000 := by omega
  have hA : ∀ q : Nat, s.heap.size ≤ q → A q := fun q h => by rw [hAd]; exact h
  have hbA : ¬ A b := by rw [hAd]; exact Nat.not_le.mpr hbl
  have hP : va_P (dC, dI) vwCl [(oX, .inr (11, [.ref nT, .ref nL, .ref nM, .ref oC, .ref oP, .ref oH, .ref oK, .ref oG, .ref oR, .ref oQ, .ref oW, .int fa])), (nT, .inr (5, [.ref aT, .int lT])), (aT, .inl (cI, 900, .inl fT)), (nL, .inr (5, [.ref aL, .int lL])), (aL, .inl (cI, 300, .inl fL)), (nM, .inr (5, [.ref aM, .int lM])), (aM, .inl (cI, 300, .inl fM)), (oC, .inr (2, [.ref o4, .ref o5])), (o4, .inr (10, [.ref a41, .ref a42, .ref a43, .int l4])), (a41, .inl (cI, 256, .inl f41)), (a42, .inl (cI, 512, .inl f42)), (a43, .inl (cI, 512, .inl f43)), (o5, .inr (10, [.ref a51, .ref a52, .ref a53, .int l5])), (a51, .inl (cI, 256, .inl f51)), (a52, .inl (cI, 512, .inl f52)), (a53, .inl (cI, 512, .inl f53)), (oP, .inr (7, [.ref oC, .ref nB, .int ft])), (nB, .inr (5, [.ref aB, .int lB])), (aB, .inl (cI, 2400, .inl fB)), (oH, .inr (4, [.ref oP, .ref h1, .ref h2, .int lH])), (h1, .inl (cI, 6, .inl fH1)), (h2, .inl (cI, 6, .inl fH2)), (oK, .inr (3, [.ref k1, .ref k2, .int lK])), (k1, .inl (cI, 1024, .inl fK1)), (k2, .inl (cI, 1024, .inl fK2)), (oG, .inr (0, [.ref g1, .ref g2, .int gn, .int lG])), (g1, .inl (cI, 6000, .inl fG1)), (g2, .inl (cI, 20, .inl fG2)), (oR, .inr (9, [.ref oH, .ref oK, .ref n1, .ref n2, .ref n3, .ref r1, .ref r2, .ref r3, .ref r4, .ref r5, .ref r6, .int lR])), (n1, .inr (5, [.ref a1, .int l1])), (a1, .inl (cI, 300, .inl f1)), (n2, .inr (5, [.ref a2, .int l2])), (a2, .inl (cI, 300, .inl f2)), (n3, .inr (5, [.ref a3, .int l3])), (a3, .inl (cI, 300, .inl f3)), (r1, .inl (cI, 258, .inl fR1)), (r2, .inl (cI, 258, .inl fR2)), (r3, .inl (cI, 774, .inl fR3)), (r4, .inl (cI, 258, .inl fR4)), (r5, .inl (cI, 258, .inl fR5)), (r6, .inl (cI, 774, .inl fR6)), (oQ, .inr (6, [.ref oC, .ref oH, .ref oK, .ref oE, .ref nq, .ref np, .ref nv, .ref q1, .ref q2, .ref q3, .ref q4, .int pr])), (oE, .inr (8, [.ref oC, .ref oK, .int reE, .int laE, .int suE, .int leE])), (nq, .inr (5, [.ref aq, .int lq])), (aq, .inl (cI, 480, .inl fq)), (np, .inr (5, [.ref ap, .int lp])), (ap, .inl (cI, 300, .inl fp)), (nv, .inr (5, [.ref av, .int lv])), (av, .inl (cI, 300, .inl fv)), (q1, .inl (cI, 61, .inl fQ1)), (q2, .inl (cI, 61, .inl fQ2)), (q3, .inl (cI, 61, .inl fQ3)), (q4, .inl (cI, 61, .inl fQ4)), (oW, .inr (1, [.ref oC, .ref oK, .ref nw, .ref w1, .ref w2, .ref w3, .ref o7, .ref o8, .ref o9, .ref w4, .ref w5, .ref w6, .ref w7, .int ke, .int tl, .int fsh, .int wi, .int ri, .int fm, .int lm])), (nw, .inr (5, [.ref aw, .int lw])), (aw, .inl (cI, 800, .inl fw)), (o7, .inr (8, [.ref oC, .ref oK, .int re7, .int la7, .int su7, .int le7])), (o8, .inr (8, [.ref oC, .ref oK, .int re8, .int la8, .int su8, .int le8])), (o9, .inr (8, [.ref oC, .ref oK, .int re9, .int la9, .int su9, .int le9])), (w1, .inl (cI, 801, .inl fW1)), (w2, .inl (cI, 801, .inl fW2)), (w3, .inl (cI, 801, .inl fW3)), (w4, .inl (cI, 200, .inl fW4)), (w5, .inl (cI, 200, .inl fW5)), (w6, .inl (cI, 200, .inl fW6)), (w7, .inl (cI, 200, .inl fW7)), (oM, .inr (12, [.ref mT, .int zt, .ref mS, .ref mX, .int zp, .int zf, .ref mL, .ref mB, .ref mD, .ref m1, .ref m2, .int zh, .ref mR, .int zr, .ref x1, .ref x2, .ref x3, .int zc, .ref mH, .int zy, .int za, .int zb, .int zs, .int zq, .int zw, .int ze, .ref mY, .int zn, .ref mE, .int zm, .int zl, .ref mW, .int zk, .ref mO, .int zd, .ref y1, .ref y2, .ref y3, .ref y4, .ref mZ])), (mT, .inl (cI, 900, .inl eT)), (mS, .inl (cI, 21, .inl eS)), (mX, .inl (cI, 6300, .inl eX)), (mL, .inl (cI, 512, .inl eL)), (mB, .inl (cS, 131072, .inl eB)), (mD, .inl (cI, 2, .inl eD)), (m1, .inl (cI, 6, .inl e1)), (m2, .inl (cI, 6, .inl e2)), (mR, .inl (cI, 1548, .inl eR)), (x1, .inl (cI, 300, .inl ec1)), (x2, .inl (cI, 300, .inl ec2)), (x3, .inl (cI, 300, .inl ec3)), (mH, .inl (cI, 800, .inl eH)), (mY, .inl (cI, 2600, .inl eY)), (mE, .inl (cI, 2600, .inl eE)), (mW, .inl (cI, 300, .inl eW)), (mO, .inl (cI, 300, .inl eO)), (y1, .inl (cI, 61, .inl er1)), (y2, .inl (cI, 61, .inl er2)), (y3, .inl (cI, 61, .inl er3)), (y4, .inl (cI, 61, .inl er4)), (mZ, .inl (cI, 600, .inl eZ)), (oJ, .inl (cJ, 1, .inr (.inl fJ)))] H := hP
  have hD : va_D A [(oX, .inr (11, [.ref nT, .ref nL, .ref nM, .ref oC, .ref oP, .ref oH, .ref oK, .ref oG, .ref oR, .ref oQ, .ref oW, .int fa])), (nT, .inr (5, [.ref aT, .int lT])), (aT, .inl (cI, 900, .inl fT)), (nL, .inr (5, [.ref aL, .int lL])), (aL, .inl (cI, 300, .inl fL)), (nM, .inr (5, [.ref aM, .int lM])), (aM, .inl (cI, 300, .inl fM)), (oC, .inr (2, [.ref o4, .ref o5])), (o4, .inr (10, [.ref a41, .ref a42, .ref a43, .int l4])), (a41, .inl (cI, 256, .inl f41)), (a42, .inl (cI, 512, .inl f42)), (a43, .inl (cI, 512, .inl f43)), (o5, .inr (10, [.ref a51, .ref a52, .ref a53, .int l5])), (a51, .inl (cI, 256, .inl f51)), (a52, .inl (cI, 512, .inl f52)), (a53, .inl (cI, 512, .inl f53)), (oP, .inr (7, [.ref oC, .ref nB, .int ft])), (nB, .inr (5, [.ref aB, .int lB])), (aB, .inl (cI, 2400, .inl fB)), (oH, .inr (4, [.ref oP, .ref h1, .ref h2, .int lH])), (h1, .inl (cI, 6, .inl fH1)), (h2, .inl (cI, 6, .inl fH2)), (oK, .inr (3, [.ref k1, .ref k2, .int lK])), (k1, .inl (cI, 1024, .inl fK1)), (k2, .inl (cI, 1024, .inl fK2)), (oG, .inr (0, [.ref g1, .ref g2, .int gn, .int lG])), (g1, .inl (cI, 6000, .inl fG1)), (g2, .inl (cI, 20, .inl fG2)), (oR, .inr (9, [.ref oH, .ref oK, .ref n1, .ref n2, .ref n3, .ref r1, .ref r2, .ref r3, .ref r4, .ref r5, .ref r6, .int lR])), (n1, .inr (5, [.ref a1, .int l1])), (a1, .inl (cI, 300, .inl f1)), (n2, .inr (5, [.ref a2, .int l2])), (a2, .inl (cI, 300, .inl f2)), (n3, .inr (5, [.ref a3, .int l3])), (a3, .inl (cI, 300, .inl f3)), (r1, .inl (cI, 258, .inl fR1)), (r2, .inl (cI, 258, .inl fR2)), (r3, .inl (cI, 774, .inl fR3)), (r4, .inl (cI, 258, .inl fR4)), (r5, .inl (cI, 258, .inl fR5)), (r6, .inl (cI, 774, .inl fR6)), (oQ, .inr (6, [.ref oC, .ref oH, .ref oK, .ref oE, .ref nq, .ref np, .ref nv, .ref q1, .ref q2, .ref q3, .ref q4, .int pr])), (oE, .inr (8, [.ref oC, .ref oK, .int reE, .int laE, .int suE, .int leE])), (nq, .inr (5, [.ref aq, .int lq])), (aq, .inl (cI, 480, .inl fq)), (np, .inr (5, [.ref ap, .int lp])), (ap, .inl (cI, 300, .inl fp)), (nv, .inr (5, [.ref av, .int lv])), (av, .inl (cI, 300, .inl fv)), (q1, .inl (cI, 61, .inl fQ1)), (q2, .inl (cI, 61, .inl fQ2)), (q3, .inl (cI, 61, .inl fQ3)), (q4, .inl (cI, 61, .inl fQ4)), (oW, .inr (1, [.ref oC, .ref oK, .ref nw, .ref w1, .ref w2, .ref w3, .ref o7, .ref o8, .ref o9, .ref w4, .ref w5, .ref w6, .ref w7, .int ke, .int tl, .int fsh, .int wi, .int ri, .int fm, .int lm])), (nw, .inr (5, [.ref aw, .int lw])), (aw, .inl (cI, 800, .inl fw)), (o7, .inr (8, [.ref oC, .ref oK, .int re7, .int la7, .int su7, .int le7])), (o8, .inr (8, [.ref oC, .ref oK, .int re8, .int la8, .int su8, .int le8])), (o9, .inr (8, [.ref oC, .ref oK, .int re9, .int la9, .int su9, .int le9])), (w1, .inl (cI, 801, .inl fW1)), (w2, .inl (cI, 801, .inl fW2)), (w3, .inl (cI, 801, .inl fW3)), (w4, .inl (cI, 200, .inl fW4)), (w5, .inl (cI, 200, .inl fW5)), (w6, .inl (cI, 200, .inl fW6)), (w7, .inl (cI, 200, .inl fW7)), (oM, .inr (12, [.ref mT, .int zt, .ref mS, .ref mX, .int zp, .int zf, .ref mL, .ref mB, .ref mD, .ref m1, .ref m2, .int zh, .ref mR, .int zr, .ref x1, .ref x2, .ref x3, .int zc, .ref mH, .int zy, .int za, .int zb, .int zs, .int zq, .int zw, .int ze, .ref mY, .int zn, .ref mE, .int zm, .int zl, .ref mW, .int zk, .ref mO, .int zd, .ref y1, .ref y2, .ref y3, .ref y4, .ref mZ])), (mT, .inl (cI, 900, .inl eT)), (mS, .inl (cI, 21, .inl eS)), (mX, .inl (cI, 6300, .inl eX)), (mL, .inl (cI, 512, .inl eL)), (mB, .inl (cS, 131072, .inl eB)), (mD, .inl (cI, 2, .inl eD)), (m1, .inl (cI, 6, .inl e1)), (m2, .inl (cI, 6, .inl e2)), (mR, .inl (cI, 1548, .inl eR)), (x1, .inl (cI, 300, .inl ec1)), (x2, .inl (cI, 300, .inl ec2)), (x3, .inl (cI, 300, .inl ec3)), (mH, .inl (cI, 800, .inl eH)), (mY, .inl (cI, 2600, .inl eY)), (mE, .inl (cI, 2600, .inl eE)), (mW, .inl (cI, 300, .inl eW)), (mO, .inl (cI, 300, .inl eO)), (y1, .inl (cI, 61, .inl er1)), (y2, .inl (cI, 61, .inl er2)), (y3, .inl (cI, 61, .inl er3)), (y4, .inl (cI, 61, .inl er4)), (mZ, .inl (cI, 600, .inl eZ)), (oJ, .inl (cJ, 1, .inr (.inl fJ)))] := hD
  replace g_lT := hid g_lT
  replace g_lM := hid g_lM
  replace g_lB := hid g_lB
  replace g_lR := hid g_lR
  replace g_l1 := hid g_l1
  replace g_l2 := hid g_l2
  replace g_l3 := hid g_l3
  replace g_lq := hid g_lq
  replace g_lp := hid g_lp
  replace g_lv := hid g_lv
  replace g_fm := hid g_fm
  replace g_lm := hid g_lm
  replace g_lw := hid g_lw
  replace g_zt := hid g_zt
  replace g_zr := hid g_zr
  replace g_zn := hid g_zn
  replace g_zm := hid g_zm
  replace g_zk := hid g_zk
  refine lv_aload_n hx hb dL_law_724 rfl (lv_at hl 1 rfl) ?_
  refine kV_i (rest := []) (q0 := 0) (ci := 11) hcf (f_X11_unlist l dC dI cI cS H.size oX nT nL nM oC oP oH oK oG oR oQ oW h1 h2 nw w1 w2 w3 o7 o8 o9 w4 w5 w6 w7 fa lH ke tl fsh wi ri fm lm (g_lH) (g_ke) (g_fsh) (g_fm) (g_lm)) kc_X11_unlist gL_law_X11_unlist rfl rfl rfl ⟨Nat.le_of_ble_eq_true rfl, Nat.le_of_ble_eq_true rfl⟩ kX_t hK hP hD hS hA (posT mk_28 0) (posF mk_28 0) (kC_of mk_28 rfl rfl) (by decide +kernel) rfl rfl rfl hl rfl (Nat.le_of_ble_eq_true rfl) dL_law_725 ⟨kfit1 hn (Nat.le_of_ble_eq_true rfl), ksix1 hn (Nat.le_of_ble_eq_true rfl)⟩ (fun r_1 H locs hB hJ hSn => ?_)
  refine Exists.elim hB (fun lH_1 hB1_0 => ?_)
  refine Exists.elim hB1_0 (fun fsh_1 hB1_1 => ?_)
  refine And.elim (fun hPD9 hB1_2 => ?_) hB1_1
  refine And.elim (fun hf1_0 hB1_3 => ?_) hB1_2
  refine And.elim (fun hf1_1 hB1_4 => ?_) hB1_3
  refine And.elim (fun hf1_2 hB1_5 => ?_) hB1_4
  refine And.elim (fun hf1_3 hB1_6 => ?_) hB1_5
  have hf1_4 := hB1_6
  clear hB hB1_0 hB1_1 hB1_2 hB1_3 hB1_4 hB1_5 hB1_6
  obtain ⟨hPn, hDn⟩ := kJi (m := mk_28) hJ rfl hPD9.1 hPD9.2 (wn := [(oX, .inr (11, [.ref nT, .ref nL, .ref nM, .ref oC, .ref oP, .ref oH, .ref oK, .ref oG, .ref oR, .ref oQ, .ref oW, .int fa])), (nT, .inr (5, [.ref aT, .int lT])), (aT, .inl (cI, 900, .inl fT)), (nL, .inr (5, [.ref aL, .int lL])), (aL, .inl (cI, 300, .inl fL)), (nM, .inr (5, [.ref aM, .int lM])), (aM, .inl (cI, 300, .inl fM)), (oC, .inr (2, [.ref o4, .ref o5])), (o4, .inr (10, [.ref a41, .ref a42, .ref a43, .int l4])), (a41, .inl (cI, 256, .inl f41)), (a42, .inl (cI, 512, .inl f42)), (a43, .inl (cI, 512, .inl f43)), (o5, .inr (10, [.ref a51, .ref a52, .ref a53, .int l5])), (a51, .inl (cI, 256, .inl f51)), (a52, .inl (cI, 512, .inl f52)), (a53, .inl (cI, 512, .inl f53)), (oP, .inr (7, [.ref oC, .ref nB, .int ft])), (nB, .inr (5, [.ref aB, .int lB])), (aB, .inl (cI, 2400, .inl fB)), (oH, .inr (4, [.ref oP, .ref h1, .ref h2, .int lH_1])), (h1, .inl (cI, 6, .inl fH1)), (h2, .inl (cI, 6, .inl fH2)), (oK, .inr (3, [.ref k1, .ref k2, .int lK])), (k1, .inl (cI, 1024, .inl fK1)), (k2, .inl (cI, 1024, .inl fK2)), (oG, .inr (0, [.ref g1, .ref g2, .int gn, .int lG])), (g1, .inl (cI, 6000, .inl fG1)), (g2, .inl (cI, 20, .inl fG2)), (oR, .inr (9, [.ref oH, .ref oK, .ref n1, .ref n2, .ref n3, .ref r1, .ref r2, .ref r3, .ref r4, .ref r5, .ref r6, .int lR])), (n1, .inr (5, [.ref a1, .int l1])), (a1, .inl (cI, 300, .inl f1)), (n2, .inr (5, [.ref a2, .int l2])), (a2, .inl (cI, 300, .inl f2)), (n3, .inr (5, [.ref a3, .int l3])), (a3, .inl (cI, 300, .inl f3)), (r1, .inl (cI, 258, .inl fR1)), (r2, .inl (cI, 258, .inl fR2)), (r3, .inl (cI, 774, .inl fR3)), (r4, .inl (cI, 258, .inl fR4)), (r5, .inl (cI, 258, .inl fR5)), (r6, .inl (cI, 774, .inl fR6)), (oQ, .inr (6, [.ref oC, .ref oH, .ref oK, .ref oE, .ref nq, .ref np, .ref nv, .ref q1, .ref q2, .ref q3, .ref q4, .int pr])), (oE, .inr (8, [.ref oC, .ref oK, .int reE, .int laE, .int suE, .int leE])), (nq, .inr (5, [.ref aq, .int lq])), (aq, .inl (cI, 480, .inl fq)), (np, .inr (5, [.ref ap, .int lp])), (ap, .inl (cI, 300, .inl fp)), (nv, .inr (5, [.ref av, .int lv])), (av, .inl (cI, 300, .inl fv)), (q1, .inl (cI, 61, .inl fQ1)), (q2, .inl (cI, 61, .inl fQ2)), (q3, .inl (cI, 61, .inl fQ3)), (q4, .inl (cI, 61, .inl fQ4)), (oW, .inr (1, [.ref oC, .ref oK, .ref nw, .ref w1, .ref w2, .ref w3, .ref o7, .ref o8, .ref o9, .ref w4, .ref w5, .ref w6, .ref w7, .int ke, .int tl, .int fsh_1, .int wi, .int ri, .int fm, .int lm])), (nw, .inr (5, [.ref aw, .int lw])), (aw, .inl (cI, 800, .inl fw)), (o7, .inr (8, [.ref oC, .ref oK, .int re7, .int la7, .int su7, .int le7])), (o8, .inr (8, [.ref oC, .ref oK, .int re8, .int la8, .int su8, .int le8])), (o9, .inr (8, [.ref oC, .ref oK, .int re9, .int la9, .int su9, .int le9])), (w1, .inl (cI, 801, .inl fW1)), (w2, .inl (cI, 801, .inl fW2)), (w3, .inl (cI, 801, .inl fW3)), (w4, .inl (cI, 200, .inl fW4)), (w5, .inl (cI, 200, .inl fW5)), (w6, .inl (cI, 200, .inl fW6)), (w7, .inl (cI, 200, .inl fW7)), (oM, .inr (12, [.ref mT, .int zt, .ref mS, .ref mX, .int zp, .int zf, .ref mL, .ref mB, .ref mD, .ref m1, .ref m2, .int zh, .ref mR, .int zr, .ref x1, .ref x2, .ref x3, .int zc, .ref mH, .int zy, .int za, .int zb, .int zs, .int zq, .int zw, .int ze, .ref mY, .int zn, .ref mE, .int zm, .int zl, .ref mW, .int zk, .ref mO, .int zd, .ref y1, .ref y2, .ref y3, .ref y4, .ref mZ])), (mT, .inl (cI, 900, .inl eT)), (mS, .inl (cI, 21, .inl eS)), (mX, .inl (cI, 6300, .inl eX)), (mL, .inl (cI, 512, .inl eL)), (mB, .inl (cS, 131072, .inl eB)), (mD, .inl (cI, 2, .inl eD)), (m1, .inl (cI, 6, .inl e1)), (m2, .inl (cI, 6, .inl e2)), (mR, .inl (cI, 1548, .inl eR)), (x1, .inl (cI, 300, .inl ec1)), (x2, .inl (cI, 300, .inl ec2)), (x3, .inl (cI, 300, .inl ec3)), (mH, .inl (cI, 800, .inl eH)), (mY, .inl (cI, 2600, .inl eY)), (mE, .inl (cI, 2600, .inl eE)), (mW, .inl (cI, 300, .inl eW)), (mO, .inl (cI, 300, .inl eO)), (y1, .inl (cI, 61, .inl er1)), (y2, .inl (cI, 61, .inl er2)), (y3, .inl (cI, 61, .inl er3)), (y4, .inl (cI, 61, .inl er4)), (mZ, .inl (cI, 600, .inl eZ)), (oJ, .inl (cJ, 1, .inr (.inl fJ)))]) rfl
  clear hP hD hS hJ hPD9
  have hP := hPn
  have hD := hDn
  have hS := hSn
  clear hPn hDn hSn
  rw [hf1_2]
  refine lv_pop hx hb dL_law_728 rfl ?_
  refine lv_aload_n hx hb dL_law_729 rfl (lv_at hl 2 rfl) ?_
  refine kV_i (rest := []) (q0 := 0) (ci := 12) hcf (f_X12_unlist l dC dI cI cS H.size oM mT mS mX mL mB mD m1 m2 mR x1 x2 x3 mH mY mE mW mO y1 y2 y3 y4 mZ zt zp zf zh zr zc zy za zb zs zq zw ze zn zm zl zk zd (g_zt) (g_zp) (g_zf) (g_zh) (g_zr) (g_zc) (g_zy) (g_za) (g_zb) (g_zs) (g_zq) (g_zn) (g_zm) (g_zk) (by omega)) kc_X12_unlist gL_law_X12_unlist rfl rfl rfl ⟨Nat.le_of_ble_eq_true rfl, Nat.le_of_ble_eq_true rfl⟩ kX_t hK hP hD hS hA (posT mk_3 0) (posF mk_3 0) (kC_of mk_3 rfl rfl) (by decide +kernel) rfl rfl rfl hl rfl (Nat.le_of_ble_eq_true rfl) dL_law_730 ⟨kfit2 hn (Nat.le_of_ble_eq_true rfl), ksix2 hn (Nat.le_of_ble_eq_true rfl)⟩ (fun r_2 H locs hB hJ hSn => ?_)
  refine Exists.elim hB (fun ze_2 hB2_0 => ?_)
  refine Exists.elim hB2_0 (fun zh_2 hB2_1 => ?_)
  refine Exists.elim hB2_1 (fun zs_2 hB2_2 => ?_)
  refine And.elim (fun hPD9 hB2_3 => ?_) hB2_2
  refine And.elim (fun hf2_0 hB2_4 => ?_) hB2_3
  refine And.elim (fun hf2_1 hB2_5 => ?_) hB2_4
  refine And.elim (fun hf2_2 hB2_6 => ?_) hB2_5
  refine And.elim (fun hf2_3 hB2_7 => ?_) hB2_6
  refine And.elim (fun hf2_4 hB2_8 => ?_) hB2_7
  have hf2_5 := hB2_8
  clear hB hB2_0 hB2_1 hB2_2 hB2_3 hB2_4 hB2_5 hB2_6 hB2_7 hB2_8
  obtain ⟨hPn, hDn⟩ := kJi (m := mk_3) hJ rfl hPD9.1 hPD9.2 (wn := [(oX, .inr (11, [.ref nT, .ref nL, .ref nM, .ref oC, .ref oP, .ref oH, .ref oK, .ref oG, .ref oR, .ref oQ, .ref oW, .int fa])), (nT, .inr (5, [.ref aT, .int lT])), (aT, .inl (cI, 900, .inl fT)), (nL, .inr (5, [.ref aL, .int lL])), (aL, .inl (cI, 300, .inl fL)), (nM, .inr (5, [.ref aM, .int lM])), (aM, .inl (cI, 300, .inl fM)), (oC, .inr (2, [.ref o4, .ref o5])), (o4, .inr (10, [.ref a41, .ref a42, .ref a43, .int l4])), (a41, .inl (cI, 256, .inl f41)), (a42, .inl (cI, 512, .inl f42)), (a43, .inl (cI, 512, .inl f43)), (o5, .inr (10, [.ref a51, .ref a52, .ref a53, .int l5])), (a51, .inl (cI, 256, .inl f51)), (a52, .inl (cI, 512, .inl f52)), (a53, .inl (cI, 512, .inl f53)), (oP, .inr (7, [.ref oC, .ref nB, .int ft])), (nB, .inr (5, [.ref aB, .int lB])), (aB, .inl (cI, 2400, .inl fB)), (oH, .inr (4, [.ref oP, .ref h1, .ref h2, .int lH_1])), (h1, .inl (cI, 6, .inl fH1)), (h2, .inl (cI, 6, .inl fH2)), (oK, .inr (3, [.ref k1, .ref k2, .int lK])), (k1, .inl (cI, 1024, .inl fK1)), (k2, .inl (cI, 1024, .inl fK2)), (oG, .inr (0, [.ref g1, .ref g2, .int gn, .int lG])), (g1, .inl (cI, 6000, .inl fG1)), (g2, .inl (cI, 20, .inl fG2)), (oR, .inr (9, [.ref oH, .ref oK, .ref n1, .ref n2, .ref n3, .ref r1, .ref r2, .ref r3, .ref r4, .ref r5, .ref r6, .int lR])), (n1, .inr (5, [.ref a1, .int l1])), (a1, .inl (cI, 300, .inl f1)), (n2, .inr (5, [.ref a2, .int l2])), (a2, .inl (cI, 300, .inl f2)), (n3, .inr (5, [.ref a3, .int l3])), (a3, .inl (cI, 300, .inl f3)), (r1, .inl (cI, 258, .inl fR1)), (r2, .inl (cI, 258, .inl fR2)), (r3, .inl (cI, 774, .inl fR3)), (r4, .inl (cI, 258, .inl fR4)), (r5, .inl (cI, 258, .inl fR5)), (r6, .inl (cI, 774, .inl fR6)), (oQ, .inr (6, [.ref oC, .ref oH, .ref oK, .ref oE, .ref nq, .ref np, .ref nv, .ref q1, .ref q2, .ref q3, .ref q4, .int pr])), (oE, .inr (8, [.ref oC, .ref oK, .int reE, .int laE, .int suE, .int leE])), (nq, .inr (5, [.ref aq, .int lq])), (aq, .inl (cI, 480, .inl fq)), (np, .inr (5, [.ref ap, .int lp])), (ap, .inl (cI, 300, .inl fp)), (nv, .inr (5, [.ref av, .int lv])), (av, .inl (cI, 300, .inl fv)), (q1, .inl (cI, 61, .inl fQ1)), (q2, .inl (cI, 61, .inl fQ2)), (q3, .inl (cI, 61, .inl fQ3)), (q4, .inl (cI, 61, .inl fQ4)), (oW, .inr (1, [.ref oC, .ref oK, .ref nw, .ref w1, .ref w2, .ref w3, .ref o7, .ref o8, .ref o9, .ref w4, .ref w5, .ref w6, .ref w7, .int ke, .int tl, .int fsh_1, .int wi, .int ri, .int fm, .int lm])), (nw, .inr (5, [.ref aw, .int lw])), (aw, .inl (cI, 800, .inl fw)), (o7, .inr (8, [.ref oC, .ref oK, .int re7, .int la7, .int su7, .int le7])), (o8, .inr (8, [.ref oC, .ref oK, .int re8, .int la8, .int su8, .int le8])), (o9, .inr (8, [.ref oC, .ref oK, .int re9, .int la9, .int su9, .int le9])), (w1, .inl (cI, 801, .inl fW1)), (w2, .inl (cI, 801, .inl fW2)), (w3, .inl (cI, 801, .inl fW3)), (w4, .inl (cI, 200, .inl fW4)), (w5, .inl (cI, 200, .inl fW5)), (w6, .inl (cI, 200, .inl fW6)), (w7, .inl (cI, 200, .inl fW7)), (oM, .inr (12, [.ref mT, .int zt, .ref mS, .ref mX, .int zp, .int zf, .ref mL, .ref mB, .ref mD, .ref m1, .ref m2, .int zh_2, .ref mR, .int zr, .ref x1, .ref x2, .ref x3, .int zc, .ref mH, .int zy, .int za, .int zb, .int zs_2, .int zq, .int zw, .int ze_2, .ref mY, .int zn, .ref mE, .int zm, .int zl, .ref mW, .int zk, .ref mO, .int zd, .ref y1, .ref y2, .ref y3, .ref y4, .ref mZ])), (mT, .inl (cI, 900, .inl eT)), (mS, .inl (cI, 21, .inl eS)), (mX, .inl (cI, 6300, .inl eX)), (mL, .inl (cI, 512, .inl eL)), (mB, .inl (cS, 131072, .inl eB)), (mD, .inl (cI, 2, .inl eD)), (m1, .inl (cI, 6, .inl e1)), (m2, .inl (cI, 6, .inl e2)), (mR, .inl (cI, 1548, .inl eR)), (x1, .inl (cI, 300, .inl ec1)), (x2, .inl (cI, 300, .inl ec2)), (x3, .inl (cI, 300, .inl ec3)), (mH, .inl (cI, 800, .inl eH)), (mY, .inl (cI, 2600, .inl eY)), (mE, .inl (cI, 2600, .inl eE)), (mW, .inl (cI, 300, .inl eW)), (mO, .inl (cI, 300, .inl eO)), (y1, .inl (cI, 61, .inl er1)), (y2, .inl (cI, 61, .inl er2)), (y3, .inl (cI, 61, .inl er3)), (y4, .inl (cI, 61, .inl er4)), (mZ, .inl (cI, 600, .inl eZ)), (oJ, .inl (cJ, 1, .inr (.inl fJ)))]) rfl
  clear hP hD hS hJ hPD9
  have hP := hPn
  have hD := hDn
  have hS := hSn
  clear hPn hDn hSn
  rw [hf2_2]
  refine lv_pop hx hb dL_law_733 rfl ?_
  refine lv_goto (tgt := 1022) hx hb dL_law_734 (by decide) ?_
  have hdf : DFr fsh fsh_1 zs zs_2 := d_0 hf1_4 (by omega)
  refine W.widen (k := 90 + (nc + 1)) (n := 172225 + 6 * (nc + 1)) (by omega) (by omega) ?_
  exact kk fa lT lL lM l4 l5 ft lB lH_1 lK gn lG lR l1 l2 l3 pr reE laE suE leE lq lp lv ke tl fsh_1 wi ri fm lm lw re7 la7 su7 le7 re8 la8 su8 le8 re9 la9 su9 le9 zt zp zf zh_2 zr zc zy za zb zs_2 zq zw ze_2 zn zm zl zk zd fT fL fM f41 f42 f43 f51 f52 f53 fB fH1 fH2 fK1 fK2 fG1 fG2 f1 f2 f3 fR1 fR2 fR3 fR4 fR5 fR6 fq fp fv fQ1 fQ2 fQ3 fQ4 fw fW1 fW2 fW3 fW4 fW5 fW6 fW7 eT eS eX eL eB eD e1 e2 eR ec1 ec2 ec3 eH eY eE eW eO er1 er2 er3 er4 eZ fJ _ _ _ ⟨g_lT, g_lL, g_lM, g_lB, hf1_0, g_lK, g_gn, g_lG, g_lR, g_l1, g_l2, g_l3, g_lq, g_lp, g_lv, g_ke, hf1_1, g_fm, g_lm, g_lw, g_zt, g_zp, g_zf, hf2_0, g_zr, g_zc, g_zy, g_za, g_zb, hf2_1, g_zq, g_zn, g_zm, g_zk, g_fG2, g_eS, g_eX, g_eL, g_eB, g_e1, g_e2, g_eY, g_eE, g_eW, g_eO, g_eZ, by omega, hrel, hrc, hr4, hr5, hb4, hb5, hlz, by show lH_1.toInt = zh_2.toInt; omega, fun j hj => by omega, hKz, hT, ho, hal, hCV, hVk, hVr, hTX, hCH, hvc, fr_d hfr hdf, fx_d hfx hdf, frs_up hfs hfr (by omega)⟩ hP hD hS (lv_sub hl [0, 1, 2, 3, 4] rfl)

set_option maxHeartbeats 40000000 in
set_option maxRecDepth 100000 in
theorem law_rows {p : Program} {l : Launch} {e : Env} {s : State} {m : MethodId} {below : List Frame} {meth : Method} {c : Code} {dC : Nat → ClassId} {dI : Nat → Nat → Nat} {cI cS cJ : ClassId} {A : Nat → Prop} {b L : Nat} {xs : Nat → Int32} (C0 : lw_At p s m meth c b L xs) (hAd : A = fun q : Nat => s.heap.size ≤ q) (hK3 : va_K (dC, dI) vwCl [(cI, .int), (cS, .short), (cJ, .long)] s) {oX nT aT nL aL nM aM oC o4 a41 a42 a43 o5 a51 a52 a53 oP nB aB oH h1 h2 oK k1 k2 oG g1 g2 oR n1 a1 n2 a2 n3 a3 r1 r2 r3 r4 r5 r6 oQ oE nq aq np ap nv av q1 q2 q3 q4 oW nw aw o7 o8 o9 w1 w2 w3 w4 w5 w6 w7 oM mT mS mX mL mB mD m1 m2 mR x1 x2 x3 mH mY mE mW mO y1 y2 y3 y4 mZ oJ : Nat} {fa : Int32} {lT : Int32} {lL : Int32} {lM : Int32} {l4 : Int32} {l5 : Int32} {ft : Int32} {lB : Int32} {lH : Int32} {lK : Int32} {gn : Int32} {lG : Int32} {lR : Int32} {l1 : Int32} {l2 : Int32} {l3 : Int32} {pr : Int32} {reE : Int32} {laE : Int32} {suE : Int32} {leE : Int32} {lq : Int32} {lp : Int32} {lv : Int32} {ke : Int32} {tl : Int32} {fsh : Int32} {wi : Int32} {ri : Int32} {fm : Int32} {lm : Int32} {lw : Int32} {re7 : Int32} {la7 : Int32} {su7 : Int32} {le7 : Int32} {re8 : Int32} {la8 : Int32} {su8 : Int32} {le8 : Int32} {re9 : Int32} {la9 : Int32} {su9 : Int32} {le9 : Int32} {zt : Int32} {zp : Int32} {zf : Int32} {zh : Int32} {zr : Int32} {zc : Int32} {zy : Int32} {za : Int32} {zb : Int32} {zs : Int32} {zq : Int32} {zw : Int32} {ze : Int32} {zn : Int32} {zm : Int32} {zl : Int32} {zk : Int32} {zd : Int32} {fT : Nat → Int32} {fL : Nat → Int32} {fM : Nat → Int32} {f41 : Nat → Int32} {f42 : Nat → Int32} {f43 : Nat → Int32} {f51 : Nat → Int32} {f52 : Nat → Int32} {f53 : Nat → Int32} {fB : Nat → Int32} {fH1 : Nat → Int32} {fH2 : Nat → Int32} {fK1 : Nat → Int32} {fK2 : Nat → Int32} {fG1 : Nat → Int32} {fG2 : Nat → Int32} {f1 : Nat → Int32} {f2 : Nat → Int32} {f3 : Nat → Int32} {fR1 : Nat → Int32} {fR2 : Nat → Int32} {fR3 : Nat → Int32} {fR4 : Nat → Int32} {fR5 : Nat → Int32} {fR6 : Nat → Int32} {fq : Nat → Int32} {fp : Nat → Int32} {fv : Nat → Int32} {fQ1 : Nat → Int32} {fQ2 : Nat → Int32} {fQ3 : Nat → Int32} {fQ4 : Nat → Int32} {fw : Nat → Int32} {fW1 : Nat → Int32} {fW2 : Nat → Int32} {fW3 : Nat → Int32} {fW4 : Nat → Int32} {fW5 : Nat → Int32} {fW6 : Nat → Int32} {fW7 : Nat → Int32} {eT : Nat → Int32} {eS : Nat → Int32} {eX : Nat → Int32} {eL : Nat → Int32} {eB : Nat → Int32} {eD : Nat → Int32} {e1 : Nat → Int32} {e2 : Nat → Int32} {eR : Nat → Int32} {ec1 : Nat → Int32} {ec2 : Nat → Int32} {ec3 : Nat → Int32} {eH : Nat → Int32} {eY : Nat → Int32} {eE : Nat → Int32} {eW : Nat → Int32} {eO : Nat → Int32} {er1 : Nat → Int32} {er2 : Nat → Int32} {er3 : Nat → Int32} {er4 : Nat → Int32} {eZ : Nat → Int32} {fJ : Nat → Int64} {H : Heap} {locs : List Loc} {ls : Array Slot} {i : Int32} {nc : Nat} (hn : nc ≤ 511) (hi : 0 ≤ i.toInt ∧ i.toInt + 5 < (L : Int)) (hL : L ≤ 3072) (hI : INV nc lT lL lM l4 l5 lB lH lK gn lG lR l1 l2 l3 lq lp lv ke fsh wi ri fm lm lw zt zp zf zh zr zc zy za zb zs zq zn zm zk fT fL f41 f42 f43 f51 f52 f53 fH1 fH2 fK1 fK2 fG1 fG2 fW4 fW5 fW6 fW7 eT eS eX eL eB eD e1 e2 ec1 ec2 ec3 eH eY eE eW eO eZ) (hP : va_P (dC, dI) vwCl (WLD cI cS cJ oX nT aT nL aL nM aM oC o4 a41 a42 a43 o5 a51 a52 a53 oP nB aB oH h1 h2 oK k1 k2 oG g1 g2 oR n1 a1 n2 a2 n3 a3 r1 r2 r3 r4 r5 r6 oQ oE nq aq np ap nv av q1 q2 q3 q4 oW nw aw o7 o8 o9 w1 w2 w3 w4 w5 w6 w7 oM mT mS mX mL mB mD m1 m2 mR x1 x2 x3 mH mY mE mW mO y1 y2 y3 y4 mZ oJ fa lT lL lM l4 l5 ft lB lH lK gn lG lR l1 l2 l3 pr reE laE suE leE lq lp lv ke tl fsh wi ri fm lm lw re7 la7 su7 le7 re8 la8 su8 le8 re9 la9 su9 le9 zt zp zf zh zr zc zy za zb zs zq zw ze zn zm zl zk zd fT fL fM f41 f42 f43 f51 f52 f53 fB fH1 fH2 fK1 fK2 fG1 fG2 f1 f2 f3 fR1 fR2 fR3 fR4 fR5 fR6 fq fp fv fQ1 fQ2 fQ3 fQ4 fw fW1 fW2 fW3 fW4 fW5 fW6 fW7 eT eS eX eL eB eD e1 e2 eR ec1 ec2 ec3 eH eY eE eW eO er1 er2 er3 er4 eZ fJ) H) (hD : va_D A (WLD cI cS cJ oX nT aT nL aL nM aM oC o4 a41 a42 a43 o5 a51 a52 a53 oP nB aB oH h1 h2 oK k1 k2 oG g1 g2 oR n1 a1 n2 a2 n3 a3 r1 r2 r3 r4 r5 r6 oQ oE nq aq np ap nv av q1 q2 q3 q4 oW nw aw o7 o8 o9 w1 w2 w3 w4 w5 w6 w7 oM mT mS mX mL mB mD m1 m2 mR x1 x2 x3 mH mY mE mW mO y1 y2 y3 y4 mZ oJ fa lT lL lM l4 l5 ft lB lH lK gn lG lR l1 l2 l3 pr reE laE suE leE lq lp lv ke tl fsh wi ri fm lm lw re7 la7 su7 le7 re8 la8 su8 le8 re9 la9 su9 le9 zt zp zf zh zr zc zy za zb zs zq zw ze zn zm zl zk zd fT fL fM f41 f42 f43 f51 f52 f53 fB fH1 fH2 fK1 fK2 fG1 fG2 f1 f2 f3 fR1 fR2 fR3 fR4 fR5 fR6 fq fp fv fQ1 fQ2 fQ3 fQ4 fw fW1 fW2 fW3 fW4 fW5 fW6 fW7 eT eS eX eL eB eD e1 e2 eR ec1 ec2 ec3 eH eY eE eW eO er1 er2 er3 er4 eZ fJ)) (hS : va_S A s.heap H locs) (hl : lv_has ls 7 [(0, .ref b), (1, .ref oX), (2, .ref oM), (3, .ref oJ), (4, .int i)]) (kk : KK p l e s m below meth c dC dI cI cS cJ A b oX nT aT nL aL nM aM oC o4 a41 a42 a43 o5 a51 a52 a53 oP nB aB oH h1 h2 oK k1 k2 oG g1 g2 oR n1 a1 n2 a2 n3 a3 r1 r2 r3 r4 r5 r6 oQ oE nq aq np ap nv av q1 q2 q3 q4 oW nw aw o7 o8 o9 w1 w2 w3 w4 w5 w6 w7 oM mT mS mX mL mB mD m1 m2 mR x1 x2 x3 mH mY mE mW mO y1 y2 y3 y4 mZ oJ i nc) : W p l e room_1 s m #[Value.ref b] below meth c H locs (90 + nc) (172225 + 6 * nc) (lw_Z below #[Value.ref b] s) (F0 m 737 ls []) := by
  refine And.elim (fun hx hBC_0 => ?_) C0
  refine And.elim (fun hb hBC_1 => ?_) hBC_0
  refine And.elim (fun hr hBC_2 => ?_) hBC_1
  refine And.elim (fun hml hBC_3 => ?_) hBC_2
  refine And.elim (fun hown hBC_4 => ?_) hBC_3
  refine And.elim (fun hts0 hBC_5 => ?_) hBC_4
  refine And.elim (fun hX hBC_6 => ?_) hBC_5
  refine And.elim (fun hbl hBC_7 => ?_) hBC_6
  refine And.elim (fun hlocks hBC_8 => ?_) hBC_7
  have hgv := hBC_8
  clear hBC_0 hBC_1 hBC_2 hBC_3 hBC_4 hBC_5 hBC_6 hBC_7 hBC_8
  refine And.elim (fun g_lT hBI_0 => ?_) hI
  refine And.elim (fun g_lL hBI_1 => ?_) hBI_0
  refine And.elim (fun g_lM hBI_2 => ?_) hBI_1
  refine And.elim (fun g_lB hBI_3 => ?_) hBI_2
  refine And.elim (fun g_lH hBI_4 => ?_) hBI_3
  refine And.elim (fun g_lK hBI_5 => ?_) hBI_4
  refine And.elim (fun g_gn hBI_6 => ?_) hBI_5
  refine And.elim (fun g_lG hBI_7 => ?_) hBI_6
  refine And.elim (fun g_lR hBI_8 => ?_) hBI_7
  refine And.elim (fun g_l1 hBI_9 => ?_) hBI_8
  refine And.elim (fun g_l2 hBI_10 => ?_) hBI_9
  refine And.elim (fun g_l3 hBI_11 => ?_) hBI_10
  refine And.elim (fun g_lq hBI_12 => ?_) hBI_11
  refine And.elim (fun g_lp hBI_13 => ?_) hBI_12
  refine And.elim (fun g_lv hBI_14 => ?_) hBI_13
  refine And.elim (fun g_ke hBI_15 => ?_) hBI_14
  refine And.elim (fun g_fsh hBI_16 => ?_) hBI_15
  refine And.elim (fun g_fm hBI_17 => ?_) hBI_16
  refine And.elim (fun g_lm hBI_18 => ?_) hBI_17
  refine And.elim (fun g_lw hBI_19 => ?_) hBI_18
  refine And.elim (fun g_zt hBI_20 => ?_) hBI_19
  refine And.elim (fun g_zp hBI_21 => ?_) hBI_20
  refine And.elim (fun g_zf hBI_22 => ?_) hBI_21
  refine And.elim (fun g_zh hBI_23 => ?_) hBI_22
  refine And.elim (fun g_zr hBI_24 => ?_) hBI_23
  refine And.elim (fun g_zc hBI_25 => ?_) hBI_24
  refine And.elim (fun g_zy hBI_26 => ?_) hBI_25
  refine And.elim (fun g_za hBI_27 => ?_) hBI_26
  refine And.elim (fun g_zb hBI_28 => ?_) hBI_27
  refine And.elim (fun g_zs hBI_29 => ?_) hBI_28
  refine And.elim (fun g_zq hBI_30 => ?_) hBI_29
  refine And.elim (fun g_zn hBI_31 => ?_) hBI_30
  refine And.elim (fun g_zm hBI_32 => ?_) hBI_31
  refine And.elim (fun g_zk hBI_33 => ?_) hBI_32
  refine And.elim (fun g_fG2 hBI_34 => ?_) hBI_33
  refine And.elim (fun g_eS hBI_35 => ?_) hBI_34
  refine And.elim (fun g_eX hBI_36 => ?_) hBI_35
  refine And.elim (fun g_eL hBI_37 => ?_) hBI_36
  refine And.elim (fun g_eB hBI_38 => ?_) hBI_37
  refine And.elim (fun g_e1 hBI_39 => ?_) hBI_38
  refine And.elim (fun g_e2 hBI_40 => ?_) hBI_39
  refine And.elim (fun g_eY hBI_41 => ?_) hBI_40
  refine And.elim (fun g_eE hBI_42 => ?_) hBI_41
  refine And.elim (fun g_eW hBI_43 => ?_) hBI_42
  refine And.elim (fun g_eO hBI_44 => ?_) hBI_43
  refine And.elim (fun g_eZ hBI_45 => ?_) hBI_44
  refine And.elim (fun hzn hBI_46 => ?_) hBI_45
  refine And.elim (fun hrel hBI_47 => ?_) hBI_46
  refine And.elim (fun hrc hBI_48 => ?_) hBI_47
  refine And.elim (fun hr4 hBI_49 => ?_) hBI_48
  refine And.elim (fun hr5 hBI_50 => ?_) hBI_49
  refine And.elim (fun hb4 hBI_51 => ?_) hBI_50
  refine And.elim (fun hb5 hBI_52 => ?_) hBI_51
  refine And.elim (fun hlz hBI_53 => ?_) hBI_52
  refine And.elim (fun hH hBI_54 => ?_) hBI_53
  refine And.elim (fun hHe hBI_55 => ?_) hBI_54
  refine And.elim (fun hKz hBI_56 => ?_) hBI_55
  refine And.elim (fun hT hBI_57 => ?_) hBI_56
  refine And.elim (fun ho hBI_58 => ?_) hBI_57
  refine And.elim (fun hal hBI_59 => ?_) hBI_58
  refine And.elim (fun hCV hBI_60 => ?_) hBI_59
  refine And.elim (fun hVk hBI_61 => ?_) hBI_60
  refine And.elim (fun hVr hBI_62 => ?_) hBI_61
  refine And.elim (fun hTX hBI_63 => ?_) hBI_62
  refine And.elim (fun hCH hBI_64 => ?_) hBI_63
  refine And.elim (fun hvc hBI_65 => ?_) hBI_64
  refine And.elim (fun hfr hBI_66 => ?_) hBI_65
  refine And.elim (fun hfx hBI_67 => ?_) hBI_66
  have hfs := hBI_67
  clear hI hBI_0 hBI_1 hBI_2 hBI_3 hBI_4 hBI_5 hBI_6 hBI_7 hBI_8 hBI_9 hBI_10 hBI_11 hBI_12 hBI_13 hBI_14 hBI_15 hBI_16 hBI_17 hBI_18 hBI_19 hBI_20 hBI_21 hBI_22 hBI_23 hBI_24 hBI_25 hBI_26 hBI_27 hBI_28 hBI_29 hBI_30 hBI_31 hBI_32 hBI_33 hBI_34 hBI_35 hBI_36 hBI_37 hBI_38 hBI_39 hBI_40 hBI_41 hBI_42 hBI_43 hBI_44 hBI_45 hBI_46 hBI_47 hBI_48 hBI_49 hBI_50 hBI_51 hBI_52 hBI_53 hBI_54 hBI_55 hBI_56 hBI_57 hBI_58 hBI_59 hBI_60 hBI_61 hBI_62 hBI_63 hBI_64 hBI_65 hBI_66 hBI_67
  have hK : va_K (dC, dI) vwCl [(cI, .int), (cS, .short)] s := hK3.sub [0, 1] rfl
  have hown : s.vm.findClass RL = some m.cls := hown
  have hts := hts0
  have hcf := k_cf hx hb hml hown hts
  have hi9 : 0 ≤ i.toInt ∧ i.toInt ≤ 3066 := by omega
  have hzs : zs.toInt ≤ 1000000 := by omega
  have hA : ∀ q : Nat, s.heap.size ≤ q → A q := fun q h => by rw [hAd]; exact h
  have hbA : ¬ A b := by rw [hAd]; exact Nat.not_le.mpr hbl
  have hP : va_P (dC, dI) vwCl [(oX, .inr (11, [.ref nT, .ref nL, .ref nM, .ref oC, .ref oP, .ref oH, .ref oK, .ref oG, .ref oR, .ref oQ, .ref oW, .int fa])), (nT, .inr (5, [.ref aT, .int lT])), (aT, .inl (cI, 900, .inl fT)), (nL, .inr (5, [.ref aL, .int lL])), (aL, .inl (cI, 300, .inl fL)), (nM, .inr (5, [.ref aM, .int lM])), (aM, .inl (cI, 300, .inl fM)), (oC, .inr (2, [.ref o4, .ref o5])), (o4, .inr (10, [.ref a41, .ref a42, .ref a43, .int l4])), (a41, .inl (cI, 256, .inl f41)), (a42, .inl (cI, 512, .inl f42)), (a43, .inl (cI, 512, .inl f43)), (o5, .inr (10, [.ref a51, .ref a52, .ref a53, .int l5])), (a51, .inl (cI, 256, .inl f51)), (a52, .inl (cI, 512, .inl f52)), (a53, .inl (cI, 512, .inl f53)), (oP, .inr (7, [.ref oC, .ref nB, .int ft])), (nB, .inr (5, [.ref aB, .int lB])), (aB, .inl (cI, 2400, .inl fB)), (oH, .inr (4, [.ref oP, .ref h1, .ref h2, .int lH])), (h1, .inl (cI, 6, .inl fH1)), (h2, .inl (cI, 6, .inl fH2)), (oK, .inr (3, [.ref k1, .ref k2, .int lK])), (k1, .inl (cI, 1024, .inl fK1)), (k2, .inl (cI, 1024, .inl fK2)), (oG, .inr (0, [.ref g1, .ref g2, .int gn, .int lG])), (g1, .inl (cI, 6000, .inl fG1)), (g2, .inl (cI, 20, .inl fG2)), (oR, .inr (9, [.ref oH, .ref oK, .ref n1, .ref n2, .ref n3, .ref r1, .ref r2, .ref r3, .ref r4, .ref r5, .ref r6, .int lR])), (n1, .inr (5, [.ref a1, .int l1])), (a1, .inl (cI, 300, .inl f1)), (n2, .inr (5, [.ref a2, .int l2])), (a2, .inl (cI, 300, .inl f2)), (n3, .inr (5, [.ref a3, .int l3])), (a3, .inl (cI, 300, .inl f3)), (r1, .inl (cI, 258, .inl fR1)), (r2, .inl (cI, 258, .inl fR2)), (r3, .inl (cI, 774, .inl fR3)), (r4, .inl (cI, 258, .inl fR4)), (r5, .inl (cI, 258, .inl fR5)), (r6, .inl (cI, 774, .inl fR6)), (oQ, .inr (6, [.ref oC, .ref oH, .ref oK, .ref oE, .ref nq, .ref np, .ref nv, .ref q1, .ref q2, .ref q3, .ref q4, .int pr])), (oE, .inr (8, [.ref oC, .ref oK, .int reE, .int laE, .int suE, .int leE])), (nq, .inr (5, [.ref aq, .int lq])), (aq, .inl (cI, 480, .inl fq)), (np, .inr (5, [.ref ap, .int lp])), (ap, .inl (cI, 300, .inl fp)), (nv, .inr (5, [.ref av, .int lv])), (av, .inl (cI, 300, .inl fv)), (q1, .inl (cI, 61, .inl fQ1)), (q2, .inl (cI, 61, .inl fQ2)), (q3, .inl (cI, 61, .inl fQ3)), (q4, .inl (cI, 61, .inl fQ4)), (oW, .inr (1, [.ref oC, .ref oK, .ref nw, .ref w1, .ref w2, .ref w3, .ref o7, .ref o8, .ref o9, .ref w4, .ref w5, .ref w6, .ref w7, .int ke, .int tl, .int fsh, .int wi, .int ri, .int fm, .int lm])), (nw, .inr (5, [.ref aw, .int lw])), (aw, .inl (cI, 800, .inl fw)), (o7, .inr (8, [.ref oC, .ref oK, .int re7, .int la7, .int su7, .int le7])), (o8, .inr (8, [.ref oC, .ref oK, .int re8, .int la8, .int su8, .int le8])), (o9, .inr (8, [.ref oC, .ref oK, .int re9, .int la9, .int su9, .int le9])), (w1, .inl (cI, 801, .inl fW1)), (w2, .inl (cI, 801, .inl fW2)), (w3, .inl (cI, 801, .inl fW3)), (w4, .inl (cI, 200, .inl fW4)), (w5, .inl (cI, 200, .inl fW5)), (w6, .inl (cI, 200, .inl fW6)), (w7, .inl (cI, 200, .inl fW7)), (oM, .inr (12, [.ref mT, .int zt, .ref mS, .ref mX, .int zp, .int zf, .ref mL, .ref mB, .ref mD, .ref m1, .ref m2, .int zh, .ref mR, .int zr, .ref x1, .ref x2, .ref x3, .int zc, .ref mH, .int zy, .int za, .int zb, .int zs, .int zq, .int zw, .int ze, .ref mY, .int zn, .ref mE, .int zm, .int zl, .ref mW, .int zk, .ref mO, .int zd, .ref y1, .ref y2, .ref y3, .ref y4, .ref mZ])), (mT, .inl (cI, 900, .inl eT)), (mS, .inl (cI, 21, .inl eS)), (mX, .inl (cI, 6300, .inl eX)), (mL, .inl (cI, 512, .inl eL)), (mB, .inl (cS, 131072, .inl eB)), (mD, .inl (cI, 2, .inl eD)), (m1, .inl (cI, 6, .inl e1)), (m2, .inl (cI, 6, .inl e2)), (mR, .inl (cI, 1548, .inl eR)), (x1, .inl (cI, 300, .inl ec1)), (x2, .inl (cI, 300, .inl ec2)), (x3, .inl (cI, 300, .inl ec3)), (mH, .inl (cI, 800, .inl eH)), (mY, .inl (cI, 2600, .inl eY)), (mE, .inl (cI, 2600, .inl eE)), (mW, .inl (cI, 300, .inl eW)), (mO, .inl (cI, 300, .inl eO)), (y1, .inl (cI, 61, .inl er1)), (y2, .inl (cI, 61, .inl er2)), (y3, .inl (cI, 61, .inl er3)), (y4, .inl (cI, 61, .inl er4)), (mZ, .inl (cI, 600, .inl eZ)), (oJ, .inl (cJ, 1, .inr (.inl fJ)))] H := hP
  have hD : va_D A [(oX, .inr (11, [.ref nT, .ref nL, .ref nM, .ref oC, .ref oP, .ref oH, .ref oK, .ref oG, .ref oR, .ref oQ, .ref oW, .int fa])), (nT, .inr (5, [.ref aT, .int lT])), (aT, .inl (cI, 900, .inl fT)), (nL, .inr (5, [.ref aL, .int lL])), (aL, .inl (cI, 300, .inl fL)), (nM, .inr (5, [.ref aM, .int lM])), (aM, .inl (cI, 300, .inl fM)), (oC, .inr (2, [.ref o4, .ref o5])), (o4, .inr (10, [.ref a41, .ref a42, .ref a43, .int l4])), (a41, .inl (cI, 256, .inl f41)), (a42, .inl (cI, 512, .inl f42)), (a43, .inl (cI, 512, .inl f43)), (o5, .inr (10, [.ref a51, .ref a52, .ref a53, .int l5])), (a51, .inl (cI, 256, .inl f51)), (a52, .inl (cI, 512, .inl f52)), (a53, .inl (cI, 512, .inl f53)), (oP, .inr (7, [.ref oC, .ref nB, .int ft])), (nB, .inr (5, [.ref aB, .int lB])), (aB, .inl (cI, 2400, .inl fB)), (oH, .inr (4, [.ref oP, .ref h1, .ref h2, .int lH])), (h1, .inl (cI, 6, .inl fH1)), (h2, .inl (cI, 6, .inl fH2)), (oK, .inr (3, [.ref k1, .ref k2, .int lK])), (k1, .inl (cI, 1024, .inl fK1)), (k2, .inl (cI, 1024, .inl fK2)), (oG, .inr (0, [.ref g1, .ref g2, .int gn, .int lG])), (g1, .inl (cI, 6000, .inl fG1)), (g2, .inl (cI, 20, .inl fG2)), (oR, .inr (9, [.ref oH, .ref oK, .ref n1, .ref n2, .ref n3, .ref r1, .ref r2, .ref r3, .ref r4, .ref r5, .ref r6, .int lR])), (n1, .inr (5, [.ref a1, .int l1])), (a1, .inl (cI, 300, .inl f1)), (n2, .inr (5, [.ref a2, .int l2])), (a2, .inl (cI, 300, .inl f2)), (n3, .inr (5, [.ref a3, .int l3])), (a3, .inl (cI, 300, .inl f3)), (r1, .inl (cI, 258, .inl fR1)), (r2, .inl (cI, 258, .inl fR2)), (r3, .inl (cI, 774, .inl fR3)), (r4, .inl (cI, 258, .inl fR4)), (r5, .inl (cI, 258, .inl fR5)), (r6, .inl (cI, 774, .inl fR6)), (oQ, .inr (6, [.ref oC, .ref oH, .ref oK, .ref oE, .ref nq, .ref np, .ref nv, .ref q1, .ref q2, .ref q3, .ref q4, .int pr])), (oE, .inr (8, [.ref oC, .ref oK, .int reE, .int laE, .int suE, .int leE])), (nq, .inr (5, [.ref aq, .int lq])), (aq, .inl (cI, 480, .inl fq)), (np, .inr (5, [.ref ap, .int lp])), (ap, .inl (cI, 300, .inl fp)), (nv, .inr (5, [.ref av, .int lv])), (av, .inl (cI, 300, .inl fv)), (q1, .inl (cI, 61, .inl fQ1)), (q2, .inl (cI, 61, .inl fQ2)), (q3, .inl (cI, 61, .inl fQ3)), (q4, .inl (cI, 61, .inl fQ4)), (oW, .inr (1, [.ref oC, .ref oK, .ref nw, .ref w1, .ref w2, .ref w3, .ref o7, .ref o8, .ref o9, .ref w4, .ref w5, .ref w6, .ref w7, .int ke, .int tl, .int fsh, .int wi, .int ri, .int fm, .int lm])), (nw, .inr (5, [.ref aw, .int lw])), (aw, .inl (cI, 800, .inl fw)), (o7, .inr (8, [.ref oC, .ref oK, .int re7, .int la7, .int su7, .int le7])), (o8, .inr (8, [.ref oC, .ref oK, .int re8, .int la8, .int su8, .int le8])), (o9, .inr (8, [.ref oC, .ref oK, .int re9, .int la9, .int su9, .int le9])), (w1, .inl (cI, 801, .inl fW1)), (w2, .inl (cI, 801, .inl fW2)), (w3, .inl (cI, 801, .inl fW3)), (w4, .inl (cI, 200, .inl fW4)), (w5, .inl (cI, 200, .inl fW5)), (w6, .inl (cI, 200, .inl fW6)), (w7, .inl (cI, 200, .inl fW7)), (oM, .inr (12, [.ref mT, .int zt, .ref mS, .ref mX, .int zp, .int zf, .ref mL, .ref mB, .ref mD, .ref m1, .ref m2, .int zh, .ref mR, .int zr, .ref x1, .ref x2, .ref x3, .int zc, .ref mH, .int zy, .int za, .int zb, .int zs, .int zq, .int zw, .int ze, .ref mY, .int zn, .ref mE, .int zm, .int zl, .ref mW, .int zk, .ref mO, .int zd, .ref y1, .ref y2, .ref y3, .ref y4, .ref mZ])), (mT, .inl (cI, 900, .inl eT)), (mS, .inl (cI, 21, .inl eS)), (mX, .inl (cI, 6300, .inl eX)), (mL, .inl (cI, 512, .inl eL)), (mB, .inl (cS, 131072, .inl eB)), (mD, .inl (cI, 2, .inl eD)), (m1, .inl (cI, 6, .inl e1)), (m2, .inl (cI, 6, .inl e2)), (mR, .inl (cI, 1548, .inl eR)), (x1, .inl (cI, 300, .inl ec1)), (x2, .inl (cI, 300, .inl ec2)), (x3, .inl (cI, 300, .inl ec3)), (mH, .inl (cI, 800, .inl eH)), (mY, .inl (cI, 2600, .inl eY)), (mE, .inl (cI, 2600, .inl eE)), (mW, .inl (cI, 300, .inl eW)), (mO, .inl (cI, 300, .inl eO)), (y1, .inl (cI, 61, .inl er1)), (y2, .inl (cI, 61, .inl er2)), (y3, .inl (cI, 61, .inl er3)), (y4, .inl (cI, 61, .inl er4)), (mZ, .inl (cI, 600, .inl eZ)), (oJ, .inl (cJ, 1, .inr (.inl fJ)))] := hD
  have hN52 : va_Nw (.methodLinkNest RX2 52 yX11_isLetter "TextMender") s := va_Nw.of rfl (hts0 _ q_3_4)
  replace g_lT := hid g_lT
  replace g_lM := hid g_lM
  replace g_lB := hid g_lB
  replace g_l1 := hid g_l1
  replace g_l2 := hid g_l2
  replace g_l3 := hid g_l3
  replace g_lq := hid g_lq
  replace g_lp := hid g_lp
  replace g_lv := hid g_lv
  replace g_fm := hid g_fm
  replace g_lm := hid g_lm
  replace g_lw := hid g_lw
  replace g_zt := hid g_zt
  replace g_zn := hid g_zn
  replace g_zm := hid g_zm
  replace g_zk := hid g_zk
  refine lv_aload_n hx hb dL_law_737 rfl (lv_at hl 1 rfl) ?_
  refine lv_aload_n hx hb dL_law_738 rfl (lv_at hl 0 rfl) ?_
  refine lv_iload hx hb dL_law_739 (lv_at hl 4 rfl) ?_
  refine lv_iconst (v := 1) hx hb dL_law_741 (by decide) ?_
  refine lv_iadd hx hb dL_law_742 ?_
  refine lv_topi (fun x_1 ex_1 => ?_)
  have tx_1 : x_1.toInt = i.toInt + 1 := v_addR (l2 := 1) (h2 := 1) ex_1 hi9 (by decide) (by decide) (by decide)
  refine va_sld hx hb hX hbl hbA hS (v_in (v_sld5 tx_1 hi (by decide))) dL_law_743 ?_
  refine lv_topi (fun x_2 ex_2 => ?_)
  refine kV_i (rest := []) (q0 := 0) (ci := 11) hcf (f_X11_rows l dC dI cI cS H.size oX nT nL nM oC oP oH oK oG oR oQ oW n1 n2 n3 r1 r2 r3 r4 r5 r6 a1 a2 a3 h1 h2 nB aB o4 o5 a41 a42 a43 a51 a52 a53 k1 k2 aL fa lR fR1 fR2 fR3 fR4 fR5 fR6 l1 f1 l2 f2 l3 f3 lH fH1 fH2 ft lB fB l4 f41 f42 f43 l5 f51 f52 f53 lK fK1 fK2 lL fL x_2 (g_lR) (g_l1) (g_l2) (g_l3) (g_lH) (g_lB) (g_lK) (g_lL) (TX_p hTX) (hr4.1) (occ_511 hr4.2.1) (hr5.1) (occ_511 hr5.2.1) (TR_r hr4 g_eL) (TR_r hr5 g_eL) (okB_cl hr4 hr5 g_eB) (hT) (ho) (hVk)) kc_X11_rows gL_law_X11_rows rfl rfl rfl ⟨Nat.le_of_ble_eq_true rfl, Nat.le_of_ble_eq_true rfl⟩ (kX_1 hN52) hK hP hD hS hA ([0, 21, 28, 29, 30, 31, 32, 33, 22, 23, 24, 25, 26, 27, 15, 16, 17, 12, 13, 14, 3, 4, 5, 6, 7, 8, 9, 10, 11, 18, 19, 20, 1, 2].filterMap (fun j => (posT mk_29 0)[j]?)) (posF mk_29 0) (kCp (ws := [(oX, .inr (11, [.ref nT, .ref nL, .ref nM, .ref oC, .ref oP, .ref oH, .ref oK, .ref oG, .ref oR, .ref oQ, .ref oW, .int fa])), (nL, .inr (5, [.ref aL, .int lL])), (aL, .inl (cI, 300, .inl fL)), (oC, .inr (2, [.ref o4, .ref o5])), (o4, .inr (10, [.ref a41, .ref a42, .ref a43, .int l4])), (a41, .inl (cI, 256, .inl f41)), (a42, .inl (cI, 512, .inl f42)), (a43, .inl (cI, 512, .inl f43)), (o5, .inr (10, [.ref a51, .ref a52, .ref a53, .int l5])), (a51, .inl (cI, 256, .inl f51)), (a52, .inl (cI, 512, .inl f52)), (a53, .inl (cI, 512, .inl f53)), (oP, .inr (7, [.ref oC, .ref nB, .int ft])), (nB, .inr (5, [.ref aB, .int lB])), (aB, .inl (cI, 2400, .inl fB)), (oH, .inr (4, [.ref oP, .ref h1, .ref h2, .int lH])), (h1, .inl (cI, 6, .inl fH1)), (h2, .inl (cI, 6, .inl fH2)), (oK, .inr (3, [.ref k1, .ref k2, .int lK])), (k1, .inl (cI, 1024, .inl fK1)), (k2, .inl (cI, 1024, .inl fK2)), (oR, .inr (9, [.ref oH, .ref oK, .ref n1, .ref n2, .ref n3, .ref r1, .ref r2, .ref r3, .ref r4, .ref r5, .ref r6, .int lR])), (n1, .inr (5, [.ref a1, .int l1])), (a1, .inl (cI, 300, .inl f1)), (n2, .inr (5, [.ref a2, .int l2])), (a2, .inl (cI, 300, .inl f2)), (n3, .inr (5, [.ref a3, .int l3])), (a3, .inl (cI, 300, .inl f3)), (r1, .inl (cI, 258, .inl fR1)), (r2, .inl (cI, 258, .inl fR2)), (r3, .inl (cI, 774, .inl fR3)), (r4, .inl (cI, 258, .inl fR4)), (r5, .inl (cI, 258, .inl fR5)), (r6, .inl (cI, 774, .inl fR6))]) (kC_of mk_29 rfl rfl) rfl) (by decide +kernel) rfl rfl rfl hl rfl (Nat.le_of_ble_eq_true rfl) dL_law_744 ⟨kfit1 hn (Nat.le_of_ble_eq_true rfl), ksix1 hn (Nat.le_of_ble_eq_true rfl)⟩ (fun r_3 H locs hB hJ hSn => ?_)
  refine Exists.elim hB (fun fa_3 hB3_0 => ?_)
  refine Exists.elim hB3_0 (fun ft_3 hB3_1 => ?_)
  refine Exists.elim hB3_1 (fun lB_3 hB3_2 => ?_)
  refine Exists.elim hB3_2 (fun fB_3 hB3_3 => ?_)
  refine Exists.elim hB3_3 (fun l1_3 hB3_4 => ?_)
  refine Exists.elim hB3_4 (fun f1_3 hB3_5 => ?_)
  refine Exists.elim hB3_5 (fun l2_3 hB3_6 => ?_)
  refine Exists.elim hB3_6 (fun f2_3 hB3_7 => ?_)
  refine Exists.elim hB3_7 (fun l3_3 hB3_8 => ?_)
  refine Exists.elim hB3_8 (fun f3_3 hB3_9 => ?_)
  refine Exists.elim hB3_9 (fun fR1_3 hB3_10 => ?_)
  refine Exists.elim hB3_10 (fun fR2_3 hB3_11 => ?_)
  refine Exists.elim hB3_11 (fun fR3_3 hB3_12 => ?_)
  refine Exists.elim hB3_12 (fun lR_3 hB3_13 => ?_)
  refine Exists.elim hB3_13 (fun fR4_3 hB3_14 => ?_)
  refine Exists.elim hB3_14 (fun fR5_3 hB3_15 => ?_)
  refine Exists.elim hB3_15 (fun fR6_3 hB3_16 => ?_)
  refine And.elim (fun hPD9 hB3_17 => ?_) hB3_16
  refine And.elim (fun hf3_0 hB3_18 => ?_) hB3_17
  refine And.elim (fun hf3_1 hB3_19 => ?_) hB3_18
  refine And.elim (fun hf3_2 hB3_20 => ?_) hB3_19
  refine And.elim (fun hf3_3 hB3_21 => ?_) hB3_20
  refine And.elim (fun hf3_4 hB3_22 => ?_) hB3_21
  have hf3_5 := hB3_22
  clear hB hB3_0 hB3_1 hB3_2 hB3_3 hB3_4 hB3_5 hB3_6 hB3_7 hB3_8 hB3_9 hB3_10 hB3_11 hB3_12 hB3_13 hB3_14 hB3_15 hB3_16 hB3_17 hB3_18 hB3_19 hB3_20 hB3_21 hB3_22
  obtain ⟨hPn, hDn⟩ := kJm (m := mk_29) hJ rfl hPD9.1 hPD9.2 [0, 32, 33, 20, 21, 22, 23, 24, 25, 26, 27, 28, 17, 18, 19, 14, 15, 16, 29, 30, 31, 1, 8, 9, 10, 11, 12, 13, 2, 3, 4, 5, 6, 7] (by decide +kernel) (ws := [(oX, .inr (11, [.ref nT, .ref nL, .ref nM, .ref oC, .ref oP, .ref oH, .ref oK, .ref oG, .ref oR, .ref oQ, .ref oW, .int fa_3])), (nL, .inr (5, [.ref aL, .int lL])), (aL, .inl (cI, 300, .inl fL)), (oC, .inr (2, [.ref o4, .ref o5])), (o4, .inr (10, [.ref a41, .ref a42, .ref a43, .int l4])), (a41, .inl (cI, 256, .inl f41)), (a42, .inl (cI, 512, .inl f42)), (a43, .inl (cI, 512, .inl f43)), (o5, .inr (10, [.ref a51, .ref a52, .ref a53, .int l5])), (a51, .inl (cI, 256, .inl f51)), (a52, .inl (cI, 512, .inl f52)), (a53, .inl (cI, 512, .inl f53)), (oP, .inr (7, [.ref oC, .ref nB, .int ft_3])), (nB, .inr (5, [.ref aB, .int lB_3])), (aB, .inl (cI, 2400, .inl fB_3)), (oH, .inr (4, [.ref oP, .ref h1, .ref h2, .int lH])), (h1, .inl (cI, 6, .inl fH1)), (h2, .inl (cI, 6, .inl fH2)), (oK, .inr (3, [.ref k1, .ref k2, .int lK])), (k1, .inl (cI, 1024, .inl fK1)), (k2, .inl (cI, 1024, .inl fK2)), (oR, .inr (9, [.ref oH, .ref oK, .ref n1, .ref n2, .ref n3, .ref r1, .ref r2, .ref r3, .ref r4, .ref r5, .ref r6, .int lR_3])), (n1, .inr (5, [.ref a1, .int l1_3])), (a1, .inl (cI, 300, .inl f1_3)), (n2, .inr (5, [.ref a2, .int l2_3])), (a2, .inl (cI, 300, .inl f2_3)), (n3, .inr (5, [.ref a3, .int l3_3])), (a3, .inl (cI, 300, .inl f3_3)), (r1, .inl (cI, 258, .inl fR1_3)), (r2, .inl (cI, 258, .inl fR2_3)), (r3, .inl (cI, 774, .inl fR3_3)), (r4, .inl (cI, 258, .inl fR4_3)), (r5, .inl (cI, 258, .inl fR5_3)), (r6, .inl (cI, 774, .inl fR6_3))]) rfl (wn := [(oX, .inr (11, [.ref nT, .ref nL, .ref nM, .ref oC, .ref oP, .ref oH, .ref oK, .ref oG, .ref oR, .ref oQ, .ref oW, .int fa_3])), (nT, .inr (5, [.ref aT, .int lT])), (aT, .inl (cI, 900, .inl fT)), (nL, .inr (5, [.ref aL, .int lL])), (aL, .inl (cI, 300, .inl fL)), (nM, .inr (5, [.ref aM, .int lM])), (aM, .inl (cI, 300, .inl fM)), (oC, .inr (2, [.ref o4, .ref o5])), (o4, .inr (10, [.ref a41, .ref a42, .ref a43, .int l4])), (a41, .inl (cI, 256, .inl f41)), (a42, .inl (cI, 512, .inl f42)), (a43, .inl (cI, 512, .inl f43)), (o5, .inr (10, [.ref a51, .ref a52, .ref a53, .int l5])), (a51, .inl (cI, 256, .inl f51)), (a52, .inl (cI, 512, .inl f52)), (a53, .inl (cI, 512, .inl f53)), (oP, .inr (7, [.ref oC, .ref nB, .int ft_3])), (nB, .inr (5, [.ref aB, .int lB_3])), (aB, .inl (cI, 2400, .inl fB_3)), (oH, .inr (4, [.ref oP, .ref h1, .ref h2, .int lH])), (h1, .inl (cI, 6, .inl fH1)), (h2, .inl (cI, 6, .inl fH2)), (oK, .inr (3, [.ref k1, .ref k2, .int lK])), (k1, .inl (cI, 1024, .inl fK1)), (k2, .inl (cI, 1024, .inl fK2)), (oG, .inr (0, [.ref g1, .ref g2, .int gn, .int lG])), (g1, .inl (cI, 6000, .inl fG1)), (g2, .inl (cI, 20, .inl fG2)), (oR, .inr (9, [.ref oH, .ref oK, .ref n1, .ref n2, .ref n3, .ref r1, .ref r2, .ref r3, .ref r4, .ref r5, .ref r6, .int lR_3])), (n1, .inr (5, [.ref a1, .int l1_3])), (a1, .inl (cI, 300, .inl f1_3)), (n2, .inr (5, [.ref a2, .int l2_3])), (a2, .inl (cI, 300, .inl f2_3)), (n3, .inr (5, [.ref a3, .int l3_3])), (a3, .inl (cI, 300, .inl f3_3)), (r1, .inl (cI, 258, .inl fR1_3)), (r2, .inl (cI, 258, .inl fR2_3)), (r3, .inl (cI, 774, .inl fR3_3)), (r4, .inl (cI, 258, .inl fR4_3)), (r5, .inl (cI, 258, .inl fR5_3)), (r6, .inl (cI, 774, .inl fR6_3)), (oQ, .inr (6, [.ref oC, .ref oH, .ref oK, .ref oE, .ref nq, .ref np, .ref nv, .ref q1, .ref q2, .ref q3, .ref q4, .int pr])), (oE, .inr (8, [.ref oC, .ref oK, .int reE, .int laE, .int suE, .int leE])), (nq, .inr (5, [.ref aq, .int lq])), (aq, .inl (cI, 480, .inl fq)), (np, .inr (5, [.ref ap, .int lp])), (ap, .inl (cI, 300, .inl fp)), (nv, .inr (5, [.ref av, .int lv])), (av, .inl (cI, 300, .inl fv)), (q1, .inl (cI, 61, .inl fQ1)), (q2, .inl (cI, 61, .inl fQ2)), (q3, .inl (cI, 61, .inl fQ3)), (q4, .inl (cI, 61, .inl fQ4)), (oW, .inr (1, [.ref oC, .ref oK, .ref nw, .ref w1, .ref w2, .ref w3, .ref o7, .ref o8, .ref o9, .ref w4, .ref w5, .ref w6, .ref w7, .int ke, .int tl, .int fsh, .int wi, .int ri, .int fm, .int lm])), (nw, .inr (5, [.ref aw, .int lw])), (aw, .inl (cI, 800, .inl fw)), (o7, .inr (8, [.ref oC, .ref oK, .int re7, .int la7, .int su7, .int le7])), (o8, .inr (8, [.ref oC, .ref oK, .int re8, .int la8, .int su8, .int le8])), (o9, .inr (8, [.ref oC, .ref oK, .int re9, .int la9, .int su9, .int le9])), (w1, .inl (cI, 801, .inl fW1)), (w2, .inl (cI, 801, .inl fW2)), (w3, .inl (cI, 801, .inl fW3)), (w4, .inl (cI, 200, .inl fW4)), (w5, .inl (cI, 200, .inl fW5)), (w6, .inl (cI, 200, .inl fW6)), (w7, .inl (cI, 200, .inl fW7)), (oM, .inr (12, [.ref mT, .int zt, .ref mS, .ref mX, .int zp, .int zf, .ref mL, .ref mB, .ref mD, .ref m1, .ref m2, .int zh, .ref mR, .int zr, .ref x1, .ref x2, .ref x3, .int zc, .ref mH, .int zy, .int za, .int zb, .int zs, .int zq, .int zw, .int ze, .ref mY, .int zn, .ref mE, .int zm, .int zl, .ref mW, .int zk, .ref mO, .int zd, .ref y1, .ref y2, .ref y3, .ref y4, .ref mZ])), (mT, .inl (cI, 900, .inl eT)), (mS, .inl (cI, 21, .inl eS)), (mX, .inl (cI, 6300, .inl eX)), (mL, .inl (cI, 512, .inl eL)), (mB, .inl (cS, 131072, .inl eB)), (mD, .inl (cI, 2, .inl eD)), (m1, .inl (cI, 6, .inl e1)), (m2, .inl (cI, 6, .inl e2)), (mR, .inl (cI, 1548, .inl eR)), (x1, .inl (cI, 300, .inl ec1)), (x2, .inl (cI, 300, .inl ec2)), (x3, .inl (cI, 300, .inl ec3)), (mH, .inl (cI, 800, .inl eH)), (mY, .inl (cI, 2600, .inl eY)), (mE, .inl (cI, 2600, .inl eE)), (mW, .inl (cI, 300, .inl eW)), (mO, .inl (cI, 300, .inl eO)), (y1, .inl (cI, 61, .inl er1)), (y2, .inl (cI, 61, .inl er2)), (y3, .inl (cI, 61, .inl er3)), (y4, .inl (cI, 61, .inl er4)), (mZ, .inl (cI, 600, .inl eZ)), (oJ, .inl (cJ, 1, .inr (.inl fJ)))]) rfl
  clear hP hD hS hJ hPD9
  have hP := hPn
  have hD := hDn
  have hS := hSn
  clear hPn hDn hSn
  refine lv_pop hx hb dL_law_747 rfl ?_
  refine lv_aload_n hx hb dL_law_748 rfl (lv_at hl 2 rfl) ?_
  refine lv_aload_n hx hb dL_law_749 rfl (lv_at hl 0 rfl) ?_
  refine lv_iload hx hb dL_law_750 (lv_at hl 4 rfl) ?_
  refine lv_iconst (v := 1) hx hb dL_law_752 (by decide) ?_
  refine lv_iadd hx hb dL_law_753 ?_
  refine lv_topi (fun x_4 ex_4 => ?_)
  have tx_4 : x_4.toInt = i.toInt + 1 := v_addR (l2 := 1) (h2 := 1) ex_4 hi9 (by decide) (by decide) (by decide)
  refine va_sld hx hb hX hbl hbA hS (v_in (v_sld5 tx_4 hi (by decide))) dL_law_754 ?_
  refine lv_topi (fun x_5 ex_5 => ?_)
  have es_5 : x_5 = x_2 := by rw [ex_5, ex_2, ex_4, ex_1]
  rw [es_5]
  refine kV_i (rest := []) (q0 := 0) (ci := 12) hcf (f_X12_rows l dC dI cI cS H.size oM mT mS mX mL mB mD m1 m2 mR x1 x2 x3 mH mY mE mW mO y1 y2 y3 y4 mZ zt zp zf zh zr zc zy za zb zs zq zw ze zn zm zl zk zd eY eB eL eE eW eO eS eX e1 e2 eR ec1 ec2 ec3 x_2 (g_zt) (g_zp) (g_zf) (g_zh) (g_zr) (g_zc) (g_zy) (g_za) (g_zb) (g_zs) (g_zq) (g_zn) (g_zm) (g_zk) (g_eY) (g_eB) (g_eL) (g_eE) (g_eW) (g_eO) (g_eS) (g_eX) (g_e1) (g_e2) (TX_l hTX) (LBr_of hb4 hb5) (hlz) (hVr) (by omega)) kc_X12_rows gL_law_X12_rows rfl rfl rfl ⟨Nat.le_of_ble_eq_true rfl, Nat.le_of_ble_eq_true rfl⟩ kX_t hK hP hD hS hA ([0, 11, 4, 3, 12, 13, 14, 1, 2, 5, 6, 7, 8, 9, 10].filterMap (fun j => (posT mk_30 0)[j]?)) (posF mk_30 0) (kCp (ws := [(oM, .inr (12, [.ref mT, .int zt, .ref mS, .ref mX, .int zp, .int zf, .ref mL, .ref mB, .ref mD, .ref m1, .ref m2, .int zh, .ref mR, .int zr, .ref x1, .ref x2, .ref x3, .int zc, .ref mH, .int zy, .int za, .int zb, .int zs, .int zq, .int zw, .int ze, .ref mY, .int zn, .ref mE, .int zm, .int zl, .ref mW, .int zk, .ref mO, .int zd, .ref y1, .ref y2, .ref y3, .ref y4, .ref mZ])), (mS, .inl (cI, 21, .inl eS)), (mX, .inl (cI, 6300, .inl eX)), (mL, .inl (cI, 512, .inl eL)), (mB, .inl (cS, 131072, .inl eB)), (m1, .inl (cI, 6, .inl e1)), (m2, .inl (cI, 6, .inl e2)), (mR, .inl (cI, 1548, .inl eR)), (x1, .inl (cI, 300, .inl ec1)), (x2, .inl (cI, 300, .inl ec2)), (x3, .inl (cI, 300, .inl ec3)), (mY, .inl (cI, 2600, .inl eY)), (mE, .inl (cI, 2600, .inl eE)), (mW, .inl (cI, 300, .inl eW)), (mO, .inl (cI, 300, .inl eO))]) (kC_of mk_30 rfl rfl) rfl) (by decide +kernel) rfl rfl rfl hl rfl (Nat.le_of_ble_eq_true rfl) dL_law_755 ⟨kfit2 hn (Nat.le_of_ble_eq_true rfl), ksix2 hn (Nat.le_of_ble_eq_true rfl)⟩ (fun r_6 H locs hB hJ hSn => ?_)
  refine Exists.elim hB (fun ze_6 hB6_0 => ?_)
  refine Exists.elim hB6_0 (fun zw_6 hB6_1 => ?_)
  refine Exists.elim hB6_1 (fun zr_6 hB6_2 => ?_)
  refine Exists.elim hB6_2 (fun eR_6 hB6_3 => ?_)
  refine Exists.elim hB6_3 (fun zn_6 hB6_4 => ?_)
  refine Exists.elim hB6_4 (fun eY_6 hB6_5 => ?_)
  refine Exists.elim hB6_5 (fun zd_6 hB6_6 => ?_)
  refine Exists.elim hB6_6 (fun zm_6 hB6_7 => ?_)
  refine Exists.elim hB6_7 (fun zl_6 hB6_8 => ?_)
  refine Exists.elim hB6_8 (fun eE_6 hB6_9 => ?_)
  refine Exists.elim hB6_9 (fun zk_6 hB6_10 => ?_)
  refine Exists.elim hB6_10 (fun eW_6 hB6_11 => ?_)
  refine Exists.elim hB6_11 (fun eO_6 hB6_12 => ?_)
  refine And.elim (fun hPD9 hB6_13 => ?_) hB6_12
  refine And.elim (fun hf6_0 hB6_14 => ?_) hB6_13
  refine And.elim (fun hf6_1 hB6_15 => ?_) hB6_14
  refine And.elim (fun hf6_2 hB6_16 => ?_) hB6_15
  refine And.elim (fun hf6_3 hB6_17 => ?_) hB6_16
  refine And.elim (fun hf6_4 hB6_18 => ?_) hB6_17
  refine And.elim (fun hf6_5 hB6_19 => ?_) hB6_18
  refine And.elim (fun hf6_6 hB6_20 => ?_) hB6_19
  refine And.elim (fun hf6_7 hB6_21 => ?_) hB6_20
  have hf6_8 := hB6_21
  clear hB hB6_0 hB6_1 hB6_2 hB6_3 hB6_4 hB6_5 hB6_6 hB6_7 hB6_8 hB6_9 hB6_10 hB6_11 hB6_12 hB6_13 hB6_14 hB6_15 hB6_16 hB6_17 hB6_18 hB6_19 hB6_20 hB6_21
  obtain ⟨hPn, hDn⟩ := kJm (m := mk_30) hJ rfl hPD9.1 hPD9.2 [0, 7, 8, 3, 2, 9, 10, 11, 12, 13, 14, 1, 4, 5, 6] (by decide +kernel) (ws := [(oM, .inr (12, [.ref mT, .int zt, .ref mS, .ref mX, .int zp, .int zf, .ref mL, .ref mB, .ref mD, .ref m1, .ref m2, .int zh, .ref mR, .int zr_6, .ref x1, .ref x2, .ref x3, .int zc, .ref mH, .int zy, .int za, .int zb, .int zs, .int zq, .int zw_6, .int ze_6, .ref mY, .int zn_6, .ref mE, .int zm_6, .int zl_6, .ref mW, .int zk_6, .ref mO, .int zd_6, .ref y1, .ref y2, .ref y3, .ref y4, .ref mZ])), (mS, .inl (cI, 21, .inl eS)), (mX, .inl (cI, 6300, .inl eX)), (mL, .inl (cI, 512, .inl eL)), (mB, .inl (cS, 131072, .inl eB)), (m1, .inl (cI, 6, .inl e1)), (m2, .inl (cI, 6, .inl e2)), (mR, .inl (cI, 1548, .inl eR_6)), (x1, .inl (cI, 300, .inl ec1)), (x2, .inl (cI, 300, .inl ec2)), (x3, .inl (cI, 300, .inl ec3)), (mY, .inl (cI, 2600, .inl eY_6)), (mE, .inl (cI, 2600, .inl eE_6)), (mW, .inl (cI, 300, .inl eW_6)), (mO, .inl (cI, 300, .inl eO_6))]) rfl (wn := [(oX, .inr (11, [.ref nT, .ref nL, .ref nM, .ref oC, .ref oP, .ref oH, .ref oK, .ref oG, .ref oR, .ref oQ, .ref oW, .int fa_3])), (nT, .inr (5, [.ref aT, .int lT])), (aT, .inl (cI, 900, .inl fT)), (nL, .inr (5, [.ref aL, .int lL])), (aL, .inl (cI, 300, .inl fL)), (nM, .inr (5, [.ref aM, .int lM])), (aM, .inl (cI, 300, .inl fM)), (oC, .inr (2, [.ref o4, .ref o5])), (o4, .inr (10, [.ref a41, .ref a42, .ref a43, .int l4])), (a41, .inl (cI, 256, .inl f41)), (a42, .inl (cI, 512, .inl f42)), (a43, .inl (cI, 512, .inl f43)), (o5, .inr (10, [.ref a51, .ref a52, .ref a53, .int l5])), (a51, .inl (cI, 256, .inl f51)), (a52, .inl (cI, 512, .inl f52)), (a53, .inl (cI, 512, .inl f53)), (oP, .inr (7, [.ref oC, .ref nB, .int ft_3])), (nB, .inr (5, [.ref aB, .int lB_3])), (aB, .inl (cI, 2400, .inl fB_3)), (oH, .inr (4, [.ref oP, .ref h1, .ref h2, .int lH])), (h1, .inl (cI, 6, .inl fH1)), (h2, .inl (cI, 6, .inl fH2)), (oK, .inr (3, [.ref k1, .ref k2, .int lK])), (k1, .inl (cI, 1024, .inl fK1)), (k2, .inl (cI, 1024, .inl fK2)), (oG, .inr (0, [.ref g1, .ref g2, .int gn, .int lG])), (g1, .inl (cI, 6000, .inl fG1)), (g2, .inl (cI, 20, .inl fG2)), (oR, .inr (9, [.ref oH, .ref oK, .ref n1, .ref n2, .ref n3, .ref r1, .ref r2, .ref r3, .ref r4, .ref r5, .ref r6, .int lR_3])), (n1, .inr (5, [.ref a1, .int l1_3])), (a1, .inl (cI, 300, .inl f1_3)), (n2, .inr (5, [.ref a2, .int l2_3])), (a2, .inl (cI, 300, .inl f2_3)), (n3, .inr (5, [.ref a3, .int l3_3])), (a3, .inl (cI, 300, .inl f3_3)), (r1, .inl (cI, 258, .inl fR1_3)), (r2, .inl (cI, 258, .inl fR2_3)), (r3, .inl (cI, 774, .inl fR3_3)), (r4, .inl (cI, 258, .inl fR4_3)), (r5, .inl (cI, 258, .inl fR5_3)), (r6, .inl (cI, 774, .inl fR6_3)), (oQ, .inr (6, [.ref oC, .ref oH, .ref oK, .ref oE, .ref nq, .ref np, .ref nv, .ref q1, .ref q2, .ref q3, .ref q4, .int pr])), (oE, .inr (8, [.ref oC, .ref oK, .int reE, .int laE, .int suE, .int leE])), (nq, .inr (5, [.ref aq, .int lq])), (aq, .inl (cI, 480, .inl fq)), (np, .inr (5, [.ref ap, .int lp])), (ap, .inl (cI, 300, .inl fp)), (nv, .inr (5, [.ref av, .int lv])), (av, .inl (cI, 300, .inl fv)), (q1, .inl (cI, 61, .inl fQ1)), (q2, .inl (cI, 61, .inl fQ2)), (q3, .inl (cI, 61, .inl fQ3)), (q4, .inl (cI, 61, .inl fQ4)), (oW, .inr (1, [.ref oC, .ref oK, .ref nw, .ref w1, .ref w2, .ref w3, .ref o7, .ref o8, .ref o9, .ref w4, .ref w5, .ref w6, .ref w7, .int ke, .int tl, .int fsh, .int wi, .int ri, .int fm, .int lm])), (nw, .inr (5, [.ref aw, .int lw])), (aw, .inl (cI, 800, .inl fw)), (o7, .inr (8, [.ref oC, .ref oK, .int re7, .int la7, .int su7, .int le7])), (o8, .inr (8, [.ref oC, .ref oK, .int re8, .int la8, .int su8, .int le8])), (o9, .inr (8, [.ref oC, .ref oK, .int re9, .int la9, .int su9, .int le9])), (w1, .inl (cI, 801, .inl fW1)), (w2, .inl (cI, 801, .inl fW2)), (w3, .inl (cI, 801, .inl fW3)), (w4, .inl (cI, 200, .inl fW4)), (w5, .inl (cI, 200, .inl fW5)), (w6, .inl (cI, 200, .inl fW6)), (w7, .inl (cI, 200, .inl fW7)), (oM, .inr (12, [.ref mT, .int zt, .ref mS, .ref mX, .int zp, .int zf, .ref mL, .ref mB, .ref mD, .ref m1, .ref m2, .int zh, .ref mR, .int zr_6, .ref x1, .ref x2, .ref x3, .int zc, .ref mH, .int zy, .int za, .int zb, .int zs, .int zq, .int zw_6, .int ze_6, .ref mY, .int zn_6, .ref mE, .int zm_6, .int zl_6, .ref mW, .int zk_6, .ref mO, .int zd_6, .ref y1, .ref y2, .ref y3, .ref y4, .ref mZ])), (mT, .inl (cI, 900, .inl eT)), (mS, .inl (cI, 21, .inl eS)), (mX, .inl (cI, 6300, .inl eX)), (mL, .inl (cI, 512, .inl eL)), (mB, .inl (cS, 131072, .inl eB)), (mD, .inl (cI, 2, .inl eD)), (m1, .inl (cI, 6, .inl e1)), (m2, .inl (cI, 6, .inl e2)), (mR, .inl (cI, 1548, .inl eR_6)), (x1, .inl (cI, 300, .inl ec1)), (x2, .inl (cI, 300, .inl ec2)), (x3, .inl (cI, 300, .inl ec3)), (mH, .inl (cI, 800, .inl eH)), (mY, .inl (cI, 2600, .inl eY_6)), (mE, .inl (cI, 2600, .inl eE_6)), (mW, .inl (cI, 300, .inl eW_6)), (mO, .inl (cI, 300, .inl eO_6)), (y1, .inl (cI, 61, .inl er1)), (y2, .inl (cI, 61, .inl er2)), (y3, .inl (cI, 61, .inl er3)), (y4, .inl (cI, 61, .inl er4)), (mZ, .inl (cI, 600, .inl eZ)), (oJ, .inl (cJ, 1, .inr (.inl fJ)))]) rfl
  clear hP hD hS hJ hPD9
  have hP := hPn
  have hD := hDn
  have hS := hSn
  clear hPn hDn hSn
  refine lv_pop hx hb dL_law_758 rfl ?_
  refine lv_goto (tgt := 1022) hx hb dL_law_759 (by decide) ?_
  refine W.widen (k := 90 + (nc + 1)) (n := 172225 + 6 * (nc + 1)) (by omega) (by omega) ?_
  exact kk fa_3 lT lL lM l4 l5 ft_3 lB_3 lH lK gn lG lR_3 l1_3 l2_3 l3_3 pr reE laE suE leE lq lp lv ke tl fsh wi ri fm lm lw re7 la7 su7 le7 re8 la8 su8 le8 re9 la9 su9 le9 zt zp zf zh zr_6 zc zy za zb zs zq zw_6 ze_6 zn_6 zm_6 zl_6 zk_6 zd_6 fT fL fM f41 f42 f43 f51 f52 f53 fB_3 fH1 fH2 fK1 fK2 fG1 fG2 f1_3 f2_3 f3_3 fR1_3 fR2_3 fR3_3 fR4_3 fR5_3 fR6_3 fq fp fv fQ1 fQ2 fQ3 fQ4 fw fW1 fW2 fW3 fW4 fW5 fW6 fW7 eT eS eX eL eB eD e1 e2 eR_6 ec1 ec2 ec3 eH eY_6 eE_6 eW_6 eO_6 er1 er2 er3 er4 eZ fJ _ _ _ ⟨g_lT, g_lL, g_lM, hf3_0, g_lH, g_lK, g_gn, g_lG, hf3_4, hf3_1, hf3_2, hf3_3, g_lq, g_lp, g_lv, g_ke, g_fsh, g_fm, g_lm, g_lw, g_zt, g_zp, g_zf, g_zh, hf6_0, g_zc, g_zy, g_za, g_zb, g_zs, g_zq, hf6_1, hf6_3, hf6_5, g_fG2, g_eS, g_eX, g_eL, g_eB, g_e1, g_e2, hf6_2, hf6_4, hf6_6, hf6_7, g_eZ, by omega, hrel, hrc, hr4, hr5, hb4, hb5, hlz, hH, hHe, hKz, hT, ho, hal, hCV, hVk, hVr, hTX, hCH, hvc, hfr, hfx, hfs⟩ hP hD hS (lv_sub hl [0, 1, 2, 3, 4] rfl)

set_option maxHeartbeats 40000000 in
set_option maxRecDepth 100000 in
theorem law_row {p : Program} {l : Launch} {e : Env} {s : State} {m : MethodId} {below : List Frame} {meth : Method} {c : Code} {dC : Nat → ClassId} {dI : Nat → Nat → Nat} {cI cS cJ : ClassId} {A : Nat → Prop} {b L : Nat} {xs : Nat → Int32} (C0 : lw_At p s m meth c b L xs) (hAd : A = fun q : Nat => s.heap.size ≤ q) (hK3 : va_K (dC, dI) vwCl [(cI, .int), (cS, .short), (cJ, .long)] s) {oX nT aT nL aL nM aM oC o4 a41 a42 a43 o5 a51 a52 a53 oP nB aB oH h1 h2 oK k1 k2 oG g1 g2 oR n1 a1 n2 a2 n3 a3 r1 r2 r3 r4 r5 r6 oQ oE nq aq np ap nv av q1 q2 q3 q4 oW nw aw o7 o8 o9 w1 w2 w3 w4 w5 w6 w7 oM mT mS mX mL mB mD m1 m2 mR x1 x2 x3 mH mY mE mW mO y1 y2 y3 y4 mZ oJ : Nat} {fa : Int32} {lT : Int32} {lL : Int32} {lM : Int32} {l4 : Int32} {l5 : Int32} {ft : Int32} {lB : Int32} {lH : Int32} {lK : Int32} {gn : Int32} {lG : Int32} {lR : Int32} {l1 : Int32} {l2 : Int32} {l3 : Int32} {pr : Int32} {reE : Int32} {laE : Int32} {suE : Int32} {leE : Int32} {lq : Int32} {lp : Int32} {lv : Int32} {ke : Int32} {tl : Int32} {fsh : Int32} {wi : Int32} {ri : Int32} {fm : Int32} {lm : Int32} {lw : Int32} {re7 : Int32} {la7 : Int32} {su7 : Int32} {le7 : Int32} {re8 : Int32} {la8 : Int32} {su8 : Int32} {le8 : Int32} {re9 : Int32} {la9 : Int32} {su9 : Int32} {le9 : Int32} {zt : Int32} {zp : Int32} {zf : Int32} {zh : Int32} {zr : Int32} {zc : Int32} {zy : Int32} {za : Int32} {zb : Int32} {zs : Int32} {zq : Int32} {zw : Int32} {ze : Int32} {zn : Int32} {zm : Int32} {zl : Int32} {zk : Int32} {zd : Int32} {fT : Nat → Int32} {fL : Nat → Int32} {fM : Nat → Int32} {f41 : Nat → Int32} {f42 : Nat → Int32} {f43 : Nat → Int32} {f51 : Nat → Int32} {f52 : Nat → Int32} {f53 : Nat → Int32} {fB : Nat → Int32} {fH1 : Nat → Int32} {fH2 : Nat → Int32} {fK1 : Nat → Int32} {fK2 : Nat → Int32} {fG1 : Nat → Int32} {fG2 : Nat → Int32} {f1 : Nat → Int32} {f2 : Nat → Int32} {f3 : Nat → Int32} {fR1 : Nat → Int32} {fR2 : Nat → Int32} {fR3 : Nat → Int32} {fR4 : Nat → Int32} {fR5 : Nat → Int32} {fR6 : Nat → Int32} {fq : Nat → Int32} {fp : Nat → Int32} {fv : Nat → Int32} {fQ1 : Nat → Int32} {fQ2 : Nat → Int32} {fQ3 : Nat → Int32} {fQ4 : Nat → Int32} {fw : Nat → Int32} {fW1 : Nat → Int32} {fW2 : Nat → Int32} {fW3 : Nat → Int32} {fW4 : Nat → Int32} {fW5 : Nat → Int32} {fW6 : Nat → Int32} {fW7 : Nat → Int32} {eT : Nat → Int32} {eS : Nat → Int32} {eX : Nat → Int32} {eL : Nat → Int32} {eB : Nat → Int32} {eD : Nat → Int32} {e1 : Nat → Int32} {e2 : Nat → Int32} {eR : Nat → Int32} {ec1 : Nat → Int32} {ec2 : Nat → Int32} {ec3 : Nat → Int32} {eH : Nat → Int32} {eY : Nat → Int32} {eE : Nat → Int32} {eW : Nat → Int32} {eO : Nat → Int32} {er1 : Nat → Int32} {er2 : Nat → Int32} {er3 : Nat → Int32} {er4 : Nat → Int32} {eZ : Nat → Int32} {fJ : Nat → Int64} {H : Heap} {locs : List Loc} {ls : Array Slot} {i : Int32} {nc : Nat} (hn : nc ≤ 511) (hi : 0 ≤ i.toInt ∧ i.toInt + 5 < (L : Int)) (hL : L ≤ 3072) (hI : INV nc lT lL lM l4 l5 lB lH lK gn lG lR l1 l2 l3 lq lp lv ke fsh wi ri fm lm lw zt zp zf zh zr zc zy za zb zs zq zn zm zk fT fL f41 f42 f43 f51 f52 f53 fH1 fH2 fK1 fK2 fG1 fG2 fW4 fW5 fW6 fW7 eT eS eX eL eB eD e1 e2 ec1 ec2 ec3 eH eY eE eW eO eZ) (hP : va_P (dC, dI) vwCl (WLD cI cS cJ oX nT aT nL aL nM aM oC o4 a41 a42 a43 o5 a51 a52 a53 oP nB aB oH h1 h2 oK k1 k2 oG g1 g2 oR n1 a1 n2 a2 n3 a3 r1 r2 r3 r4 r5 r6 oQ oE nq aq np ap nv av q1 q2 q3 q4 oW nw aw o7 o8 o9 w1 w2 w3 w4 w5 w6 w7 oM mT mS mX mL mB mD m1 m2 mR x1 x2 x3 mH mY mE mW mO y1 y2 y3 y4 mZ oJ fa lT lL lM l4 l5 ft lB lH lK gn lG lR l1 l2 l3 pr reE laE suE leE lq lp lv ke tl fsh wi ri fm lm lw re7 la7 su7 le7 re8 la8 su8 le8 re9 la9 su9 le9 zt zp zf zh zr zc zy za zb zs zq zw ze zn zm zl zk zd fT fL fM f41 f42 f43 f51 f52 f53 fB fH1 fH2 fK1 fK2 fG1 fG2 f1 f2 f3 fR1 fR2 fR3 fR4 fR5 fR6 fq fp fv fQ1 fQ2 fQ3 fQ4 fw fW1 fW2 fW3 fW4 fW5 fW6 fW7 eT eS eX eL eB eD e1 e2 eR ec1 ec2 ec3 eH eY eE eW eO er1 er2 er3 er4 eZ fJ) H) (hD : va_D A (WLD cI cS cJ oX nT aT nL aL nM aM oC o4 a41 a42 a43 o5 a51 a52 a53 oP nB aB oH h1 h2 oK k1 k2 oG g1 g2 oR n1 a1 n2 a2 n3 a3 r1 r2 r3 r4 r5 r6 oQ oE nq aq np ap nv av q1 q2 q3 q4 oW nw aw o7 o8 o9 w1 w2 w3 w4 w5 w6 w7 oM mT mS mX mL mB mD m1 m2 mR x1 x2 x3 mH mY mE mW mO y1 y2 y3 y4 mZ oJ fa lT lL lM l4 l5 ft lB lH lK gn lG lR l1 l2 l3 pr reE laE suE leE lq lp lv ke tl fsh wi ri fm lm lw re7 la7 su7 le7 re8 la8 su8 le8 re9 la9 su9 le9 zt zp zf zh zr zc zy za zb zs zq zw ze zn zm zl zk zd fT fL fM f41 f42 f43 f51 f52 f53 fB fH1 fH2 fK1 fK2 fG1 fG2 f1 f2 f3 fR1 fR2 fR3 fR4 fR5 fR6 fq fp fv fQ1 fQ2 fQ3 fQ4 fw fW1 fW2 fW3 fW4 fW5 fW6 fW7 eT eS eX eL eB eD e1 e2 eR ec1 ec2 ec3 eH eY eE eW eO er1 er2 er3 er4 eZ fJ)) (hS : va_S A s.heap H locs) (hl : lv_has ls 7 [(0, .ref b), (1, .ref oX), (2, .ref oM), (3, .ref oJ), (4, .int i)]) (kk : KK p l e s m below meth c dC dI cI cS cJ A b oX nT aT nL aL nM aM oC o4 a41 a42 a43 o5 a51 a52 a53 oP nB aB oH h1 h2 oK k1 k2 oG g1 g2 oR n1 a1 n2 a2 n3 a3 r1 r2 r3 r4 r5 r6 oQ oE nq aq np ap nv av q1 q2 q3 q4 oW nw aw o7 o8 o9 w1 w2 w3 w4 w5 w6 w7 oM mT mS mX mL mB mD m1 m2 mR x1 x2 x3 mH mY mE mW mO y1 y2 y3 y4 mZ oJ i nc) : W p l e room_1 s m #[Value.ref b] below meth c H locs (90 + nc) (172225 + 6 * nc) (lw_Z below #[Value.ref b] s) (F0 m 762 ls []) := by
  refine And.elim (fun hx hBC_0 => ?_) C0
  refine And.elim (fun hb hBC_1 => ?_) hBC_0
  refine And.elim (fun hr hBC_2 => ?_) hBC_1
  refine And.elim (fun hml hBC_3 => ?_) hBC_2
  refine And.elim (fun hown hBC_4 => ?_) hBC_3
  refine And.elim (fun hts0 hBC_5 => ?_) hBC_4
  refine And.elim (fun hX hBC_6 => ?_) hBC_5
  refine And.elim (fun hbl hBC_7 => ?_) hBC_6
  refine And.elim (fun hlocks hBC_8 => ?_) hBC_7
  have hgv := hBC_8
  clear hBC_0 hBC_1 hBC_2 hBC_3 hBC_4 hBC_5 hBC_6 hBC_7 hBC_8
  refine And.elim (fun g_lT hBI_0 => ?_) hI
  refine And.elim (fun g_lL hBI_1 => ?_) hBI_0
  refine And.elim (fun g_lM hBI_2 => ?_) hBI_1
  refine And.elim (fun g_lB hBI_3 => ?_) hBI_2
  refine And.elim (fun g_lH hBI_4 => ?_) hBI_3
  refine And.elim (fun g_lK hBI_5 => ?_) hBI_4
  refine And.elim (fun g_gn hBI_6 => ?_) hBI_5
  refine And.elim (fun g_lG hBI_7 => ?_) hBI_6
  refine And.elim (fun g_lR hBI_8 => ?_) hBI_7
  refine And.elim (fun g_l1 hBI_9 => ?_) hBI_8
  refine And.elim (fun g_l2 hBI_10 => ?_) hBI_9
  refine And.elim (fun g_l3 hBI_11 => ?_) hBI_10
  refine And.elim (fun g_lq hBI_12 => ?_) hBI_11
  refine And.elim (fun g_lp hBI_13 => ?_) hBI_12
  refine And.elim (fun g_lv hBI_14 => ?_) hBI_13
  refine And.elim (fun g_ke hBI_15 => ?_) hBI_14
  refine And.elim (fun g_fsh hBI_16 => ?_) hBI_15
  refine And.elim (fun g_fm hBI_17 => ?_) hBI_16
  refine And.elim (fun g_lm hBI_18 => ?_) hBI_17
  refine And.elim (fun g_lw hBI_19 => ?_) hBI_18
  refine And.elim (fun g_zt hBI_20 => ?_) hBI_19
  refine And.elim (fun g_zp hBI_21 => ?_) hBI_20
  refine And.elim (fun g_zf hBI_22 => ?_) hBI_21
  refine And.elim (fun g_zh hBI_23 => ?_) hBI_22
  refine And.elim (fun g_zr hBI_24 => ?_) hBI_23
  refine And.elim (fun g_zc hBI_25 => ?_) hBI_24
  refine And.elim (fun g_zy hBI_26 => ?_) hBI_25
  refine And.elim (fun g_za hBI_27 => ?_) hBI_26
  refine And.elim (fun g_zb hBI_28 => ?_) hBI_27
  refine And.elim (fun g_zs hBI_29 => ?_) hBI_28
  refine And.elim (fun g_zq hBI_30 => ?_) hBI_29
  refine And.elim (fun g_zn hBI_31 => ?_) hBI_30
  refine And.elim (fun g_zm hBI_32 => ?_) hBI_31
  refine And.elim (fun g_zk hBI_33 => ?_) hBI_32
  refine And.elim (fun g_fG2 hBI_34 => ?_) hBI_33
  refine And.elim (fun g_eS hBI_35 => ?_) hBI_34
  refine And.elim (fun g_eX hBI_36 => ?_) hBI_35
  refine And.elim (fun g_eL hBI_37 => ?_) hBI_36
  refine And.elim (fun g_eB hBI_38 => ?_) hBI_37
  refine And.elim (fun g_e1 hBI_39 => ?_) hBI_38
  refine And.elim (fun g_e2 hBI_40 => ?_) hBI_39
  refine And.elim (fun g_eY hBI_41 => ?_) hBI_40
  refine And.elim (fun g_eE hBI_42 => ?_) hBI_41
  refine And.elim (fun g_eW hBI_43 => ?_) hBI_42
  refine And.elim (fun g_eO hBI_44 => ?_) hBI_43
  refine And.elim (fun g_eZ hBI_45 => ?_) hBI_44
  refine And.elim (fun hzn hBI_46 => ?_) hBI_45
  refine And.elim (fun hrel hBI_47 => ?_) hBI_46
  refine And.elim (fun hrc hBI_48 => ?_) hBI_47
  refine And.elim (fun hr4 hBI_49 => ?_) hBI_48
  refine And.elim (fun hr5 hBI_50 => ?_) hBI_49
  refine And.elim (fun hb4 hBI_51 => ?_) hBI_50
  refine And.elim (fun hb5 hBI_52 => ?_) hBI_51
  refine And.elim (fun hlz hBI_53 => ?_) hBI_52
  refine And.elim (fun hH hBI_54 => ?_) hBI_53
  refine And.elim (fun hHe hBI_55 => ?_) hBI_54
  refine And.elim (fun hKz hBI_56 => ?_) hBI_55
  refine And.elim (fun hT hBI_57 => ?_) hBI_56
  refine And.elim (fun ho hBI_58 => ?_) hBI_57
  refine And.elim (fun hal hBI_59 => ?_) hBI_58
  refine And.elim (fun hCV hBI_60 => ?_) hBI_59
  refine And.elim (fun hVk hBI_61 => ?_) hBI_60
  refine And.elim (fun hVr hBI_62 => ?_) hBI_61
  refine And.elim (fun hTX hBI_63 => ?_) hBI_62
  refine And.elim (fun hCH hBI_64 => ?_) hBI_63
  refine And.elim (fun hvc hBI_65 => ?_) hBI_64
  refine And.elim (fun hfr hBI_66 => ?_) hBI_65
  refine And.elim (fun hfx hBI_67 => ?_) hBI_66
  have hfs := hBI_67
  clear hI hBI_0 hBI_1 hBI_2 hBI_3 hBI_4 hBI_5 hBI_6 hBI_7 hBI_8 hBI_9 hBI_10 hBI_11 hBI_12 hBI_13 hBI_14 hBI_15 hBI_16 hBI_17 hBI_18 hBI_19 hBI_20 hBI_21 hBI_22 hBI_23 hBI_24 hBI_25 hBI_26 hBI_27 hBI_28 hBI_29 hBI_30 hBI_31 hBI_32 hBI_33 hBI_34 hBI_35 hBI_36 hBI_37 hBI_38 hBI_39 hBI_40 hBI_41 hBI_42 hBI_43 hBI_44 hBI_45 hBI_46 hBI_47 hBI_48 hBI_49 hBI_50 hBI_51 hBI_52 hBI_53 hBI_54 hBI_55 hBI_56 hBI_57 hBI_58 hBI_59 hBI_60 hBI_61 hBI_62 hBI_63 hBI_64 hBI_65 hBI_66 hBI_67
  have hK : va_K (dC, dI) vwCl [(cI, .int), (cS, .short)] s := hK3.sub [0, 1] rfl
  have hown : s.vm.findClass RL = some m.cls := hown
  have hts := hts0
  have hcf := k_cf hx hb hml hown hts
  have hi9 : 0 ≤ i.toInt ∧ i.toInt ≤ 3066 := by omega
  have hzs : zs.toInt ≤ 1000000 := by omega
  have hA : ∀ q : Nat, s.heap.size ≤ q → A q := fun q h => by rw [hAd]; exact h
  have hbA : ¬ A b := by rw [hAd]; exact Nat.not_le.mpr hbl
  have hP : va_P (dC, dI) vwCl [(oX, .inr (11, [.ref nT, .ref nL, .ref nM, .ref oC, .ref oP, .ref oH, .ref oK, .ref oG, .ref oR, .ref oQ, .ref oW, .int fa])), (nT, .inr (5, [.ref aT, .int lT])), (aT, .inl (cI, 900, .inl fT)), (nL, .inr (5, [.ref aL, .int lL])), (aL, .inl (cI, 300, .inl fL)), (nM, .inr (5, [.ref aM, .int lM])), (aM, .inl (cI, 300, .inl fM)), (oC, .inr (2, [.ref o4, .ref o5])), (o4, .inr (10, [.ref a41, .ref a42, .ref a43, .int l4])), (a41, .inl (cI, 256, .inl f41)), (a42, .inl (cI, 512, .inl f42)), (a43, .inl (cI, 512, .inl f43)), (o5, .inr (10, [.ref a51, .ref a52, .ref a53, .int l5])), (a51, .inl (cI, 256, .inl f51)), (a52, .inl (cI, 512, .inl f52)), (a53, .inl (cI, 512, .inl f53)), (oP, .inr (7, [.ref oC, .ref nB, .int ft])), (nB, .inr (5, [.ref aB, .int lB])), (aB, .inl (cI, 2400, .inl fB)), (oH, .inr (4, [.ref oP, .ref h1, .ref h2, .int lH])), (h1, .inl (cI, 6, .inl fH1)), (h2, .inl (cI, 6, .inl fH2)), (oK, .inr (3, [.ref k1, .ref k2, .int lK])), (k1, .inl (cI, 1024, .inl fK1)), (k2, .inl (cI, 1024, .inl fK2)), (oG, .inr (0, [.ref g1, .ref g2, .int gn, .int lG])), (g1, .inl (cI, 6000, .inl fG1)), (g2, .inl (cI, 20, .inl fG2)), (oR, .inr (9, [.ref oH, .ref oK, .ref n1, .ref n2, .ref n3, .ref r1, .ref r2, .ref r3, .ref r4, .ref r5, .ref r6, .int lR])), (n1, .inr (5, [.ref a1, .int l1])), (a1, .inl (cI, 300, .inl f1)), (n2, .inr (5, [.ref a2, .int l2])), (a2, .inl (cI, 300, .inl f2)), (n3, .inr (5, [.ref a3, .int l3])), (a3, .inl (cI, 300, .inl f3)), (r1, .inl (cI, 258, .inl fR1)), (r2, .inl (cI, 258, .inl fR2)), (r3, .inl (cI, 774, .inl fR3)), (r4, .inl (cI, 258, .inl fR4)), (r5, .inl (cI, 258, .inl fR5)), (r6, .inl (cI, 774, .inl fR6)), (oQ, .inr (6, [.ref oC, .ref oH, .ref oK, .ref oE, .ref nq, .ref np, .ref nv, .ref q1, .ref q2, .ref q3, .ref q4, .int pr])), (oE, .inr (8, [.ref oC, .ref oK, .int reE, .int laE, .int suE, .int leE])), (nq, .inr (5, [.ref aq, .int lq])), (aq, .inl (cI, 480, .inl fq)), (np, .inr (5, [.ref ap, .int lp])), (ap, .inl (cI, 300, .inl fp)), (nv, .inr (5, [.ref av, .int lv])), (av, .inl (cI, 300, .inl fv)), (q1, .inl (cI, 61, .inl fQ1)), (q2, .inl (cI, 61, .inl fQ2)), (q3, .inl (cI, 61, .inl fQ3)), (q4, .inl (cI, 61, .inl fQ4)), (oW, .inr (1, [.ref oC, .ref oK, .ref nw, .ref w1, .ref w2, .ref w3, .ref o7, .ref o8, .ref o9, .ref w4, .ref w5, .ref w6, .ref w7, .int ke, .int tl, .int fsh, .int wi, .int ri, .int fm, .int lm])), (nw, .inr (5, [.ref aw, .int lw])), (aw, .inl (cI, 800, .inl fw)), (o7, .inr (8, [.ref oC, .ref oK, .int re7, .int la7, .int su7, .int le7])), (o8, .inr (8, [.ref oC, .ref oK, .int re8, .int la8, .int su8, .int le8])), (o9, .inr (8, [.ref oC, .ref oK, .int re9, .int la9, .int su9, .int le9])), (w1, .inl (cI, 801, .inl fW1)), (w2, .inl (cI, 801, .inl fW2)), (w3, .inl (cI, 801, .inl fW3)), (w4, .inl (cI, 200, .inl fW4)), (w5, .inl (cI, 200, .inl fW5)), (w6, .inl (cI, 200, .inl fW6)), (w7, .inl (cI, 200, .inl fW7)), (oM, .inr (12, [.ref mT, .int zt, .ref mS, .ref mX, .int zp, .int zf, .ref mL, .ref mB, .ref mD, .ref m1, .ref m2, .int zh, .ref mR, .int zr, .ref x1, .ref x2, .ref x3, .int zc, .ref mH, .int zy, .int za, .int zb, .int zs, .int zq, .int zw, .int ze, .ref mY, .int zn, .ref mE, .int zm, .int zl, .ref mW, .int zk, .ref mO, .int zd, .ref y1, .ref y2, .ref y3, .ref y4, .ref mZ])), (mT, .inl (cI, 900, .inl eT)), (mS, .inl (cI, 21, .inl eS)), (mX, .inl (cI, 6300, .inl eX)), (mL, .inl (cI, 512, .inl eL)), (mB, .inl (cS, 131072, .inl eB)), (mD, .inl (cI, 2, .inl eD)), (m1, .inl (cI, 6, .inl e1)), (m2, .inl (cI, 6, .inl e2)), (mR, .inl (cI, 1548, .inl eR)), (x1, .inl (cI, 300, .inl ec1)), (x2, .inl (cI, 300, .inl ec2)), (x3, .inl (cI, 300, .inl ec3)), (mH, .inl (cI, 800, .inl eH)), (mY, .inl (cI, 2600, .inl eY)), (mE, .inl (cI, 2600, .inl eE)), (mW, .inl (cI, 300, .inl eW)), (mO, .inl (cI, 300, .inl eO)), (y1, .inl (cI, 61, .inl er1)), (y2, .inl (cI, 61, .inl er2)), (y3, .inl (cI, 61, .inl er3)), (y4, .inl (cI, 61, .inl er4)), (mZ, .inl (cI, 600, .inl eZ)), (oJ, .inl (cJ, 1, .inr (.inl fJ)))] H := hP
  have hD : va_D A [(oX, .inr (11, [.ref nT, .ref nL, .ref nM, .ref oC, .ref oP, .ref oH, .ref oK, .ref oG, .ref oR, .ref oQ, .ref oW, .int fa])), (nT, .inr (5, [.ref aT, .int lT])), (aT, .inl (cI, 900, .inl fT)), (nL, .inr (5, [.ref aL, .int lL])), (aL, .inl (cI, 300, .inl fL)), (nM, .inr (5, [.ref aM, .int lM])), (aM, .inl (cI, 300, .inl fM)), (oC, .inr (2, [.ref o4, .ref o5])), (o4, .inr (10, [.ref a41, .ref a42, .ref a43, .int l4])), (a41, .inl (cI, 256, .inl f41)), (a42, .inl (cI, 512, .inl f42)), (a43, .inl (cI, 512, .inl f43)), (o5, .inr (10, [.ref a51, .ref a52, .ref a53, .int l5])), (a51, .inl (cI, 256, .inl f51)), (a52, .inl (cI, 512, .inl f52)), (a53, .inl (cI, 512, .inl f53)), (oP, .inr (7, [.ref oC, .ref nB, .int ft])), (nB, .inr (5, [.ref aB, .int lB])), (aB, .inl (cI, 2400, .inl fB)), (oH, .inr (4, [.ref oP, .ref h1, .ref h2, .int lH])), (h1, .inl (cI, 6, .inl fH1)), (h2, .inl (cI, 6, .inl fH2)), (oK, .inr (3, [.ref k1, .ref k2, .int lK])), (k1, .inl (cI, 1024, .inl fK1)), (k2, .inl (cI, 1024, .inl fK2)), (oG, .inr (0, [.ref g1, .ref g2, .int gn, .int lG])), (g1, .inl (cI, 6000, .inl fG1)), (g2, .inl (cI, 20, .inl fG2)), (oR, .inr (9, [.ref oH, .ref oK, .ref n1, .ref n2, .ref n3, .ref r1, .ref r2, .ref r3, .ref r4, .ref r5, .ref r6, .int lR])), (n1, .inr (5, [.ref a1, .int l1])), (a1, .inl (cI, 300, .inl f1)), (n2, .inr (5, [.ref a2, .int l2])), (a2, .inl (cI, 300, .inl f2)), (n3, .inr (5, [.ref a3, .int l3])), (a3, .inl (cI, 300, .inl f3)), (r1, .inl (cI, 258, .inl fR1)), (r2, .inl (cI, 258, .inl fR2)), (r3, .inl (cI, 774, .inl fR3)), (r4, .inl (cI, 258, .inl fR4)), (r5, .inl (cI, 258, .inl fR5)), (r6, .inl (cI, 774, .inl fR6)), (oQ, .inr (6, [.ref oC, .ref oH, .ref oK, .ref oE, .ref nq, .ref np, .ref nv, .ref q1, .ref q2, .ref q3, .ref q4, .int pr])), (oE, .inr (8, [.ref oC, .ref oK, .int reE, .int laE, .int suE, .int leE])), (nq, .inr (5, [.ref aq, .int lq])), (aq, .inl (cI, 480, .inl fq)), (np, .inr (5, [.ref ap, .int lp])), (ap, .inl (cI, 300, .inl fp)), (nv, .inr (5, [.ref av, .int lv])), (av, .inl (cI, 300, .inl fv)), (q1, .inl (cI, 61, .inl fQ1)), (q2, .inl (cI, 61, .inl fQ2)), (q3, .inl (cI, 61, .inl fQ3)), (q4, .inl (cI, 61, .inl fQ4)), (oW, .inr (1, [.ref oC, .ref oK, .ref nw, .ref w1, .ref w2, .ref w3, .ref o7, .ref o8, .ref o9, .ref w4, .ref w5, .ref w6, .ref w7, .int ke, .int tl, .int fsh, .int wi, .int ri, .int fm, .int lm])), (nw, .inr (5, [.ref aw, .int lw])), (aw, .inl (cI, 800, .inl fw)), (o7, .inr (8, [.ref oC, .ref oK, .int re7, .int la7, .int su7, .int le7])), (o8, .inr (8, [.ref oC, .ref oK, .int re8, .int la8, .int su8, .int le8])), (o9, .inr (8, [.ref oC, .ref oK, .int re9, .int la9, .int su9, .int le9])), (w1, .inl (cI, 801, .inl fW1)), (w2, .inl (cI, 801, .inl fW2)), (w3, .inl (cI, 801, .inl fW3)), (w4, .inl (cI, 200, .inl fW4)), (w5, .inl (cI, 200, .inl fW5)), (w6, .inl (cI, 200, .inl fW6)), (w7, .inl (cI, 200, .inl fW7)), (oM, .inr (12, [.ref mT, .int zt, .ref mS, .ref mX, .int zp, .int zf, .ref mL, .ref mB, .ref mD, .ref m1, .ref m2, .int zh, .ref mR, .int zr, .ref x1, .ref x2, .ref x3, .int zc, .ref mH, .int zy, .int za, .int zb, .int zs, .int zq, .int zw, .int ze, .ref mY, .int zn, .ref mE, .int zm, .int zl, .ref mW, .int zk, .ref mO, .int zd, .ref y1, .ref y2, .ref y3, .ref y4, .ref mZ])), (mT, .inl (cI, 900, .inl eT)), (mS, .inl (cI, 21, .inl eS)), (mX, .inl (cI, 6300, .inl eX)), (mL, .inl (cI, 512, .inl eL)), (mB, .inl (cS, 131072, .inl eB)), (mD, .inl (cI, 2, .inl eD)), (m1, .inl (cI, 6, .inl e1)), (m2, .inl (cI, 6, .inl e2)), (mR, .inl (cI, 1548, .inl eR)), (x1, .inl (cI, 300, .inl ec1)), (x2, .inl (cI, 300, .inl ec2)), (x3, .inl (cI, 300, .inl ec3)), (mH, .inl (cI, 800, .inl eH)), (mY, .inl (cI, 2600, .inl eY)), (mE, .inl (cI, 2600, .inl eE)), (mW, .inl (cI, 300, .inl eW)), (mO, .inl (cI, 300, .inl eO)), (y1, .inl (cI, 61, .inl er1)), (y2, .inl (cI, 61, .inl er2)), (y3, .inl (cI, 61, .inl er3)), (y4, .inl (cI, 61, .inl er4)), (mZ, .inl (cI, 600, .inl eZ)), (oJ, .inl (cJ, 1, .inr (.inl fJ)))] := hD
  replace g_lT := hid g_lT
  replace g_lM := hid g_lM
  replace g_lB := hid g_lB
  replace g_lR := hid g_lR
  replace g_l1 := hid g_l1
  replace g_l2 := hid g_l2
  replace g_l3 := hid g_l3
  replace g_lq := hid g_lq
  replace g_lp := hid g_lp
  replace g_lv := hid g_lv
  replace g_fm := hid g_fm
  replace g_lm := hid g_lm
  replace g_lw := hid g_lw
  replace g_zt := hid g_zt
  replace g_zr := hid g_zr
  replace g_zn := hid g_zn
  replace g_zm := hid g_zm
  replace g_zk := hid g_zk
  refine lv_aload_n hx hb dL_law_762 rfl (lv_at hl 1 rfl) ?_
  refine lv_aload_n hx hb dL_law_763 rfl (lv_at hl 0 rfl) ?_
  refine lv_iload hx hb dL_law_764 (lv_at hl 4 rfl) ?_
  refine lv_iconst (v := 1) hx hb dL_law_766 (by decide) ?_
  refine lv_iadd hx hb dL_law_767 ?_
  refine lv_topi (fun x_1 ex_1 => ?_)
  have tx_1 : x_1.toInt = i.toInt + 1 := v_addR (l2 := 1) (h2 := 1) ex_1 hi9 (by decide) (by decide) (by decide)
  refine va_sld hx hb hX hbl hbA hS (v_in (v_sld5 tx_1 hi (by decide))) dL_law_768 ?_
  refine lv_topi (fun x_2 ex_2 => ?_)
  refine lv_aload_n hx hb dL_law_769 rfl (lv_at hl 0 rfl) ?_
  refine lv_iload hx hb dL_law_770 (lv_at hl 4 rfl) ?_
  refine lv_iconst (v := 2) hx hb dL_law_772 (by decide) ?_
  refine lv_iadd hx hb dL_law_773 ?_
  refine lv_topi (fun x_3 ex_3 => ?_)
  have tx_3 : x_3.toInt = i.toInt + 2 := v_addR (l2 := 2) (h2 := 2) ex_3 hi9 (by decide) (by decide) (by decide)
  refine va_sld hx hb hX hbl hbA hS (v_in (v_sld5 tx_3 hi (by decide))) dL_law_774 ?_
  refine lv_topi (fun x_4 ex_4 => ?_)
  refine kV_i (rest := []) (q0 := 0) (ci := 11) hcf (x_row l dC dI cI cS H.size oX nT nL nM oC oP oH oK oG oR oQ oW n1 n2 n3 r1 r2 r3 r4 r5 r6 fa lR fR4 fR5 fR6 x_2 x_4 (g_lR)) kc_X11_row gL_law_X11_row rfl rfl rfl ⟨Nat.le_of_ble_eq_true rfl, Nat.le_of_ble_eq_true rfl⟩ kX_t hK hP hD hS hA (posT mk_31 0) (posF mk_31 0) (kC_of mk_31 rfl rfl) (by decide +kernel) rfl rfl rfl hl rfl (Nat.le_of_ble_eq_true rfl) dL_law_775 ⟨kfit1 hn (Nat.le_of_ble_eq_true rfl), ksix1 hn (Nat.le_of_ble_eq_true rfl)⟩ (fun r_5 H locs hB hJ hSn => ?_)
  have hPD9 := hB
  clear hB
  obtain ⟨hPn, hDn⟩ := kJi (m := mk_31) hJ rfl hPD9.1 hPD9.2 (wn := [(oX, .inr (11, [.ref nT, .ref nL, .ref nM, .ref oC, .ref oP, .ref oH, .ref oK, .ref oG, .ref oR, .ref oQ, .ref oW, .int fa])), (nT, .inr (5, [.ref aT, .int lT])), (aT, .inl (cI, 900, .inl fT)), (nL, .inr (5, [.ref aL, .int lL])), (aL, .inl (cI, 300, .inl fL)), (nM, .inr (5, [.ref aM, .int lM])), (aM, .inl (cI, 300, .inl fM)), (oC, .inr (2, [.ref o4, .ref o5])), (o4, .inr (10, [.ref a41, .ref a42, .ref a43, .int l4])), (a41, .inl (cI, 256, .inl f41)), (a42, .inl (cI, 512, .inl f42)), (a43, .inl (cI, 512, .inl f43)), (o5, .inr (10, [.ref a51, .ref a52, .ref a53, .int l5])), (a51, .inl (cI, 256, .inl f51)), (a52, .inl (cI, 512, .inl f52)), (a53, .inl (cI, 512, .inl f53)), (oP, .inr (7, [.ref oC, .ref nB, .int ft])), (nB, .inr (5, [.ref aB, .int lB])), (aB, .inl (cI, 2400, .inl fB)), (oH, .inr (4, [.ref oP, .ref h1, .ref h2, .int lH])), (h1, .inl (cI, 6, .inl fH1)), (h2, .inl (cI, 6, .inl fH2)), (oK, .inr (3, [.ref k1, .ref k2, .int lK])), (k1, .inl (cI, 1024, .inl fK1)), (k2, .inl (cI, 1024, .inl fK2)), (oG, .inr (0, [.ref g1, .ref g2, .int gn, .int lG])), (g1, .inl (cI, 6000, .inl fG1)), (g2, .inl (cI, 20, .inl fG2)), (oR, .inr (9, [.ref oH, .ref oK, .ref n1, .ref n2, .ref n3, .ref r1, .ref r2, .ref r3, .ref r4, .ref r5, .ref r6, .int lR])), (n1, .inr (5, [.ref a1, .int l1])), (a1, .inl (cI, 300, .inl f1)), (n2, .inr (5, [.ref a2, .int l2])), (a2, .inl (cI, 300, .inl f2)), (n3, .inr (5, [.ref a3, .int l3])), (a3, .inl (cI, 300, .inl f3)), (r1, .inl (cI, 258, .inl fR1)), (r2, .inl (cI, 258, .inl fR2)), (r3, .inl (cI, 774, .inl fR3)), (r4, .inl (cI, 258, .inl fR4)), (r5, .inl (cI, 258, .inl fR5)), (r6, .inl (cI, 774, .inl fR6)), (oQ, .inr (6, [.ref oC, .ref oH, .ref oK, .ref oE, .ref nq, .ref np, .ref nv, .ref q1, .ref q2, .ref q3, .ref q4, .int pr])), (oE, .inr (8, [.ref oC, .ref oK, .int reE, .int laE, .int suE, .int leE])), (nq, .inr (5, [.ref aq, .int lq])), (aq, .inl (cI, 480, .inl fq)), (np, .inr (5, [.ref ap, .int lp])), (ap, .inl (cI, 300, .inl fp)), (nv, .inr (5, [.ref av, .int lv])), (av, .inl (cI, 300, .inl fv)), (q1, .inl (cI, 61, .inl fQ1)), (q2, .inl (cI, 61, .inl fQ2)), (q3, .inl (cI, 61, .inl fQ3)), (q4, .inl (cI, 61, .inl fQ4)), (oW, .inr (1, [.ref oC, .ref oK, .ref nw, .ref w1, .ref w2, .ref w3, .ref o7, .ref o8, .ref o9, .ref w4, .ref w5, .ref w6, .ref w7, .int ke, .int tl, .int fsh, .int wi, .int ri, .int fm, .int lm])), (nw, .inr (5, [.ref aw, .int lw])), (aw, .inl (cI, 800, .inl fw)), (o7, .inr (8, [.ref oC, .ref oK, .int re7, .int la7, .int su7, .int le7])), (o8, .inr (8, [.ref oC, .ref oK, .int re8, .int la8, .int su8, .int le8])), (o9, .inr (8, [.ref oC, .ref oK, .int re9, .int la9, .int su9, .int le9])), (w1, .inl (cI, 801, .inl fW1)), (w2, .inl (cI, 801, .inl fW2)), (w3, .inl (cI, 801, .inl fW3)), (w4, .inl (cI, 200, .inl fW4)), (w5, .inl (cI, 200, .inl fW5)), (w6, .inl (cI, 200, .inl fW6)), (w7, .inl (cI, 200, .inl fW7)), (oM, .inr (12, [.ref mT, .int zt, .ref mS, .ref mX, .int zp, .int zf, .ref mL, .ref mB, .ref mD, .ref m1, .ref m2, .int zh, .ref mR, .int zr, .ref x1, .ref x2, .ref x3, .int zc, .ref mH, .int zy, .int za, .int zb, .int zs, .int zq, .int zw, .int ze, .ref mY, .int zn, .ref mE, .int zm, .int zl, .ref mW, .int zk, .ref mO, .int zd, .ref y1, .ref y2, .ref y3, .ref y4, .ref mZ])), (mT, .inl (cI, 900, .inl eT)), (mS, .inl (cI, 21, .inl eS)), (mX, .inl (cI, 6300, .inl eX)), (mL, .inl (cI, 512, .inl eL)), (mB, .inl (cS, 131072, .inl eB)), (mD, .inl (cI, 2, .inl eD)), (m1, .inl (cI, 6, .inl e1)), (m2, .inl (cI, 6, .inl e2)), (mR, .inl (cI, 1548, .inl eR)), (x1, .inl (cI, 300, .inl ec1)), (x2, .inl (cI, 300, .inl ec2)), (x3, .inl (cI, 300, .inl ec3)), (mH, .inl (cI, 800, .inl eH)), (mY, .inl (cI, 2600, .inl eY)), (mE, .inl (cI, 2600, .inl eE)), (mW, .inl (cI, 300, .inl eW)), (mO, .inl (cI, 300, .inl eO)), (y1, .inl (cI, 61, .inl er1)), (y2, .inl (cI, 61, .inl er2)), (y3, .inl (cI, 61, .inl er3)), (y4, .inl (cI, 61, .inl er4)), (mZ, .inl (cI, 600, .inl eZ)), (oJ, .inl (cJ, 1, .inr (.inl fJ)))]) rfl
  clear hP hD hS hJ hPD9
  have hP := hPn
  have hD := hDn
  have hS := hSn
  clear hPn hDn hSn
  refine lv_pop hx hb dL_law_778 rfl ?_
  refine lv_aload_n hx hb dL_law_779 rfl (lv_at hl 2 rfl) ?_
  refine lv_aload_n hx hb dL_law_780 rfl (lv_at hl 0 rfl) ?_
  refine lv_iload hx hb dL_law_781 (lv_at hl 4 rfl) ?_
  refine lv_iconst (v := 1) hx hb dL_law_783 (by decide) ?_
  refine lv_iadd hx hb dL_law_784 ?_
  refine lv_topi (fun x_6 ex_6 => ?_)
  have tx_6 : x_6.toInt = i.toInt + 1 := v_addR (l2 := 1) (h2 := 1) ex_6 hi9 (by decide) (by decide) (by decide)
  refine va_sld hx hb hX hbl hbA hS (v_in (v_sld5 tx_6 hi (by decide))) dL_law_785 ?_
  refine lv_topi (fun x_7 ex_7 => ?_)
  have es_7 : x_7 = x_2 := by rw [ex_7, ex_2, ex_6, ex_1]
  rw [es_7]
  refine lv_aload_n hx hb dL_law_786 rfl (lv_at hl 0 rfl) ?_
  refine lv_iload hx hb dL_law_787 (lv_at hl 4 rfl) ?_
  refine lv_iconst (v := 2) hx hb dL_law_789 (by decide) ?_
  refine lv_iadd hx hb dL_law_790 ?_
  refine lv_topi (fun x_8 ex_8 => ?_)
  have tx_8 : x_8.toInt = i.toInt + 2 := v_addR (l2 := 2) (h2 := 2) ex_8 hi9 (by decide) (by decide) (by decide)
  refine va_sld hx hb hX hbl hbA hS (v_in (v_sld5 tx_8 hi (by decide))) dL_law_791 ?_
  refine lv_topi (fun x_9 ex_9 => ?_)
  have es_9 : x_9 = x_4 := by rw [ex_9, ex_4, ex_8, ex_3]
  rw [es_9]
  refine kV_i (rest := []) (q0 := 0) (ci := 12) hcf (y_row l dC dI cI cS H.size oM mT mS mX mL mB mD m1 m2 mR x1 x2 x3 mH mY mE mW mO y1 y2 y3 y4 mZ zt zp zf zh zr zc zy za zb zs zq zw ze zn zm zl zk zd eR x_2 x_4 (g_zt) (g_zp) (g_zf) (g_zh) (g_zr) (g_zc) (g_zy) (g_za) (g_zb) (g_zs) (g_zq) (g_zn) (g_zm) (g_zk) (by omega)) kc_X12_row gL_law_X12_row rfl rfl rfl ⟨Nat.le_of_ble_eq_true rfl, Nat.le_of_ble_eq_true rfl⟩ kX_t hK hP hD hS hA (posT mk_32 0) (posF mk_32 0) (kC_of mk_32 rfl rfl) (by decide +kernel) rfl rfl rfl hl rfl (Nat.le_of_ble_eq_true rfl) dL_law_792 ⟨kfit2 hn (Nat.le_of_ble_eq_true rfl), ksix2 hn (Nat.le_of_ble_eq_true rfl)⟩ (fun r_10 H locs hB hJ hSn => ?_)
  refine Exists.elim hB (fun ze_10 hB10_0 => ?_)
  have hPD9 := hB10_0
  clear hB hB10_0
  obtain ⟨hPn, hDn⟩ := kJi (m := mk_32) hJ rfl hPD9.1 hPD9.2 (wn := [(oX, .inr (11, [.ref nT, .ref nL, .ref nM, .ref oC, .ref oP, .ref oH, .ref oK, .ref oG, .ref oR, .ref oQ, .ref oW, .int fa])), (nT, .inr (5, [.ref aT, .int lT])), (aT, .inl (cI, 900, .inl fT)), (nL, .inr (5, [.ref aL, .int lL])), (aL, .inl (cI, 300, .inl fL)), (nM, .inr (5, [.ref aM, .int lM])), (aM, .inl (cI, 300, .inl fM)), (oC, .inr (2, [.ref o4, .ref o5])), (o4, .inr (10, [.ref a41, .ref a42, .ref a43, .int l4])), (a41, .inl (cI, 256, .inl f41)), (a42, .inl (cI, 512, .inl f42)), (a43, .inl (cI, 512, .inl f43)), (o5, .inr (10, [.ref a51, .ref a52, .ref a53, .int l5])), (a51, .inl (cI, 256, .inl f51)), (a52, .inl (cI, 512, .inl f52)), (a53, .inl (cI, 512, .inl f53)), (oP, .inr (7, [.ref oC, .ref nB, .int ft])), (nB, .inr (5, [.ref aB, .int lB])), (aB, .inl (cI, 2400, .inl fB)), (oH, .inr (4, [.ref oP, .ref h1, .ref h2, .int lH])), (h1, .inl (cI, 6, .inl fH1)), (h2, .inl (cI, 6, .inl fH2)), (oK, .inr (3, [.ref k1, .ref k2, .int lK])), (k1, .inl (cI, 1024, .inl fK1)), (k2, .inl (cI, 1024, .inl fK2)), (oG, .inr (0, [.ref g1, .ref g2, .int gn, .int lG])), (g1, .inl (cI, 6000, .inl fG1)), (g2, .inl (cI, 20, .inl fG2)), (oR, .inr (9, [.ref oH, .ref oK, .ref n1, .ref n2, .ref n3, .ref r1, .ref r2, .ref r3, .ref r4, .ref r5, .ref r6, .int lR])), (n1, .inr (5, [.ref a1, .int l1])), (a1, .inl (cI, 300, .inl f1)), (n2, .inr (5, [.ref a2, .int l2])), (a2, .inl (cI, 300, .inl f2)), (n3, .inr (5, [.ref a3, .int l3])), (a3, .inl (cI, 300, .inl f3)), (r1, .inl (cI, 258, .inl fR1)), (r2, .inl (cI, 258, .inl fR2)), (r3, .inl (cI, 774, .inl fR3)), (r4, .inl (cI, 258, .inl fR4)), (r5, .inl (cI, 258, .inl fR5)), (r6, .inl (cI, 774, .inl fR6)), (oQ, .inr (6, [.ref oC, .ref oH, .ref oK, .ref oE, .ref nq, .ref np, .ref nv, .ref q1, .ref q2, .ref q3, .ref q4, .int pr])), (oE, .inr (8, [.ref oC, .ref oK, .int reE, .int laE, .int suE, .int leE])), (nq, .inr (5, [.ref aq, .int lq])), (aq, .inl (cI, 480, .inl fq)), (np, .inr (5, [.ref ap, .int lp])), (ap, .inl (cI, 300, .inl fp)), (nv, .inr (5, [.ref av, .int lv])), (av, .inl (cI, 300, .inl fv)), (q1, .inl (cI, 61, .inl fQ1)), (q2, .inl (cI, 61, .inl fQ2)), (q3, .inl (cI, 61, .inl fQ3)), (q4, .inl (cI, 61, .inl fQ4)), (oW, .inr (1, [.ref oC, .ref oK, .ref nw, .ref w1, .ref w2, .ref w3, .ref o7, .ref o8, .ref o9, .ref w4, .ref w5, .ref w6, .ref w7, .int ke, .int tl, .int fsh, .int wi, .int ri, .int fm, .int lm])), (nw, .inr (5, [.ref aw, .int lw])), (aw, .inl (cI, 800, .inl fw)), (o7, .inr (8, [.ref oC, .ref oK, .int re7, .int la7, .int su7, .int le7])), (o8, .inr (8, [.ref oC, .ref oK, .int re8, .int la8, .int su8, .int le8])), (o9, .inr (8, [.ref oC, .ref oK, .int re9, .int la9, .int su9, .int le9])), (w1, .inl (cI, 801, .inl fW1)), (w2, .inl (cI, 801, .inl fW2)), (w3, .inl (cI, 801, .inl fW3)), (w4, .inl (cI, 200, .inl fW4)), (w5, .inl (cI, 200, .inl fW5)), (w6, .inl (cI, 200, .inl fW6)), (w7, .inl (cI, 200, .inl fW7)), (oM, .inr (12, [.ref mT, .int zt, .ref mS, .ref mX, .int zp, .int zf, .ref mL, .ref mB, .ref mD, .ref m1, .ref m2, .int zh, .ref mR, .int zr, .ref x1, .ref x2, .ref x3, .int zc, .ref mH, .int zy, .int za, .int zb, .int zs, .int zq, .int zw, .int ze_10, .ref mY, .int zn, .ref mE, .int zm, .int zl, .ref mW, .int zk, .ref mO, .int zd, .ref y1, .ref y2, .ref y3, .ref y4, .ref mZ])), (mT, .inl (cI, 900, .inl eT)), (mS, .inl (cI, 21, .inl eS)), (mX, .inl (cI, 6300, .inl eX)), (mL, .inl (cI, 512, .inl eL)), (mB, .inl (cS, 131072, .inl eB)), (mD, .inl (cI, 2, .inl eD)), (m1, .inl (cI, 6, .inl e1)), (m2, .inl (cI, 6, .inl e2)), (mR, .inl (cI, 1548, .inl eR)), (x1, .inl (cI, 300, .inl ec1)), (x2, .inl (cI, 300, .inl ec2)), (x3, .inl (cI, 300, .inl ec3)), (mH, .inl (cI, 800, .inl eH)), (mY, .inl (cI, 2600, .inl eY)), (mE, .inl (cI, 2600, .inl eE)), (mW, .inl (cI, 300, .inl eW)), (mO, .inl (cI, 300, .inl eO)), (y1, .inl (cI, 61, .inl er1)), (y2, .inl (cI, 61, .inl er2)), (y3, .inl (cI, 61, .inl er3)), (y4, .inl (cI, 61, .inl er4)), (mZ, .inl (cI, 600, .inl eZ)), (oJ, .inl (cJ, 1, .inr (.inl fJ)))]) rfl
  clear hP hD hS hJ hPD9
  have hP := hPn
  have hD := hDn
  have hS := hSn
  clear hPn hDn hSn
  refine lv_pop hx hb dL_law_795 rfl ?_
  refine lv_goto (tgt := 1022) hx hb dL_law_796 (by decide) ?_
  refine W.widen (k := 90 + (nc + 1)) (n := 172225 + 6 * (nc + 1)) (by omega) (by omega) ?_
  exact kk fa lT lL lM l4 l5 ft lB lH lK gn lG lR l1 l2 l3 pr reE laE suE leE lq lp lv ke tl fsh wi ri fm lm lw re7 la7 su7 le7 re8 la8 su8 le8 re9 la9 su9 le9 zt zp zf zh zr zc zy za zb zs zq zw ze_10 zn zm zl zk zd fT fL fM f41 f42 f43 f51 f52 f53 fB fH1 fH2 fK1 fK2 fG1 fG2 f1 f2 f3 fR1 fR2 fR3 fR4 fR5 fR6 fq fp fv fQ1 fQ2 fQ3 fQ4 fw fW1 fW2 fW3 fW4 fW5 fW6 fW7 eT eS eX eL eB eD e1 e2 eR ec1 ec2 ec3 eH eY eE eW eO er1 er2 er3 er4 eZ fJ _ _ _ ⟨g_lT, g_lL, g_lM, g_lB, g_lH, g_lK, g_gn, g_lG, g_lR, g_l1, g_l2, g_l3, g_lq, g_lp, g_lv, g_ke, g_fsh, g_fm, g_lm, g_lw, g_zt, g_zp, g_zf, g_zh, g_zr, g_zc, g_zy, g_za, g_zb, g_zs, g_zq, g_zn, g_zm, g_zk, g_fG2, g_eS, g_eX, g_eL, g_eB, g_e1, g_e2, g_eY, g_eE, g_eW, g_eO, g_eZ, by omega, hrel, hrc, hr4, hr5, hb4, hb5, hlz, hH, hHe, hKz, hT, ho, hal, hCV, hVk, hVr, hTX, hCH, hvc, hfr, hfx, hfs⟩ hP hD hS (lv_sub hl [0, 1, 2, 3, 4] rfl)

set_option maxHeartbeats 40000000 in
set_option maxRecDepth 100000 in
theorem law_cost {p : Program} {l : Launch} {e : Env} {s : State} {m : MethodId} {below : List Frame} {meth : Method} {c : Code} {dC : Nat → ClassId} {dI : Nat → Nat → Nat} {cI cS cJ : ClassId} {A : Nat → Prop} {b L : Nat} {xs : Nat → Int32} (C0 : lw_At p s m meth c b L xs) (hAd : A = fun q : Nat => s.heap.size ≤ q) (hK3 : va_K (dC, dI) vwCl [(cI, .int), (cS, .short), (cJ, .long)] s) {oX nT aT nL aL nM aM oC o4 a41 a42 a43 o5 a51 a52 a53 oP nB aB oH h1 h2 oK k1 k2 oG g1 g2 oR n1 a1 n2 a2 n3 a3 r1 r2 r3 r4 r5 r6 oQ oE nq aq np ap nv av q1 q2 q3 q4 oW nw aw o7 o8 o9 w1 w2 w3 w4 w5 w6 w7 oM mT mS mX mL mB mD m1 m2 mR x1 x2 x3 mH mY mE mW mO y1 y2 y3 y4 mZ oJ : Nat} {fa : Int32} {lT : Int32} {lL : Int32} {lM : Int32} {l4 : Int32} {l5 : Int32} {ft : Int32} {lB : Int32} {lH : Int32} {lK : Int32} {gn : Int32} {lG : Int32} {lR : Int32} {l1 : Int32} {l2 : Int32} {l3 : Int32} {pr : Int32} {reE : Int32} {laE : Int32} {suE : Int32} {leE : Int32} {lq : Int32} {lp : Int32} {lv : Int32} {ke : Int32} {tl : Int32} {fsh : Int32} {wi : Int32} {ri : Int32} {fm : Int32} {lm : Int32} {lw : Int32} {re7 : Int32} {la7 : Int32} {su7 : Int32} {le7 : Int32} {re8 : Int32} {la8 : Int32} {su8 : Int32} {le8 : Int32} {re9 : Int32} {la9 : Int32} {su9 : Int32} {le9 : Int32} {zt : Int32} {zp : Int32} {zf : Int32} {zh : Int32} {zr : Int32} {zc : Int32} {zy : Int32} {za : Int32} {zb : Int32} {zs : Int32} {zq : Int32} {zw : Int32} {ze : Int32} {zn : Int32} {zm : Int32} {zl : Int32} {zk : Int32} {zd : Int32} {fT : Nat → Int32} {fL : Nat → Int32} {fM : Nat → Int32} {f41 : Nat → Int32} {f42 : Nat → Int32} {f43 : Nat → Int32} {f51 : Nat → Int32} {f52 : Nat → Int32} {f53 : Nat → Int32} {fB : Nat → Int32} {fH1 : Nat → Int32} {fH2 : Nat → Int32} {fK1 : Nat → Int32} {fK2 : Nat → Int32} {fG1 : Nat → Int32} {fG2 : Nat → Int32} {f1 : Nat → Int32} {f2 : Nat → Int32} {f3 : Nat → Int32} {fR1 : Nat → Int32} {fR2 : Nat → Int32} {fR3 : Nat → Int32} {fR4 : Nat → Int32} {fR5 : Nat → Int32} {fR6 : Nat → Int32} {fq : Nat → Int32} {fp : Nat → Int32} {fv : Nat → Int32} {fQ1 : Nat → Int32} {fQ2 : Nat → Int32} {fQ3 : Nat → Int32} {fQ4 : Nat → Int32} {fw : Nat → Int32} {fW1 : Nat → Int32} {fW2 : Nat → Int32} {fW3 : Nat → Int32} {fW4 : Nat → Int32} {fW5 : Nat → Int32} {fW6 : Nat → Int32} {fW7 : Nat → Int32} {eT : Nat → Int32} {eS : Nat → Int32} {eX : Nat → Int32} {eL : Nat → Int32} {eB : Nat → Int32} {eD : Nat → Int32} {e1 : Nat → Int32} {e2 : Nat → Int32} {eR : Nat → Int32} {ec1 : Nat → Int32} {ec2 : Nat → Int32} {ec3 : Nat → Int32} {eH : Nat → Int32} {eY : Nat → Int32} {eE : Nat → Int32} {eW : Nat → Int32} {eO : Nat → Int32} {er1 : Nat → Int32} {er2 : Nat → Int32} {er3 : Nat → Int32} {er4 : Nat → Int32} {eZ : Nat → Int32} {fJ : Nat → Int64} {H : Heap} {locs : List Loc} {ls : Array Slot} {i : Int32} {nc : Nat} (hn : nc ≤ 511) (hi : 0 ≤ i.toInt ∧ i.toInt + 5 < (L : Int)) (hL : L ≤ 3072) (hI : INV nc lT lL lM l4 l5 lB lH lK gn lG lR l1 l2 l3 lq lp lv ke fsh wi ri fm lm lw zt zp zf zh zr zc zy za zb zs zq zn zm zk fT fL f41 f42 f43 f51 f52 f53 fH1 fH2 fK1 fK2 fG1 fG2 fW4 fW5 fW6 fW7 eT eS eX eL eB eD e1 e2 ec1 ec2 ec3 eH eY eE eW eO eZ) (hP : va_P (dC, dI) vwCl (WLD cI cS cJ oX nT aT nL aL nM aM oC o4 a41 a42 a43 o5 a51 a52 a53 oP nB aB oH h1 h2 oK k1 k2 oG g1 g2 oR n1 a1 n2 a2 n3 a3 r1 r2 r3 r4 r5 r6 oQ oE nq aq np ap nv av q1 q2 q3 q4 oW nw aw o7 o8 o9 w1 w2 w3 w4 w5 w6 w7 oM mT mS mX mL mB mD m1 m2 mR x1 x2 x3 mH mY mE mW mO y1 y2 y3 y4 mZ oJ fa lT lL lM l4 l5 ft lB lH lK gn lG lR l1 l2 l3 pr reE laE suE leE lq lp lv ke tl fsh wi ri fm lm lw re7 la7 su7 le7 re8 la8 su8 le8 re9 la9 su9 le9 zt zp zf zh zr zc zy za zb zs zq zw ze zn zm zl zk zd fT fL fM f41 f42 f43 f51 f52 f53 fB fH1 fH2 fK1 fK2 fG1 fG2 f1 f2 f3 fR1 fR2 fR3 fR4 fR5 fR6 fq fp fv fQ1 fQ2 fQ3 fQ4 fw fW1 fW2 fW3 fW4 fW5 fW6 fW7 eT eS eX eL eB eD e1 e2 eR ec1 ec2 ec3 eH eY eE eW eO er1 er2 er3 er4 eZ fJ) H) (hD : va_D A (WLD cI cS cJ oX nT aT nL aL nM aM oC o4 a41 a42 a43 o5 a51 a52 a53 oP nB aB oH h1 h2 oK k1 k2 oG g1 g2 oR n1 a1 n2 a2 n3 a3 r1 r2 r3 r4 r5 r6 oQ oE nq aq np ap nv av q1 q2 q3 q4 oW nw aw o7 o8 o9 w1 w2 w3 w4 w5 w6 w7 oM mT mS mX mL mB mD m1 m2 mR x1 x2 x3 mH mY mE mW mO y1 y2 y3 y4 mZ oJ fa lT lL lM l4 l5 ft lB lH lK gn lG lR l1 l2 l3 pr reE laE suE leE lq lp lv ke tl fsh wi ri fm lm lw re7 la7 su7 le7 re8 la8 su8 le8 re9 la9 su9 le9 zt zp zf zh zr zc zy za zb zs zq zw ze zn zm zl zk zd fT fL fM f41 f42 f43 f51 f52 f53 fB fH1 fH2 fK1 fK2 fG1 fG2 f1 f2 f3 fR1 fR2 fR3 fR4 fR5 fR6 fq fp fv fQ1 fQ2 fQ3 fQ4 fw fW1 fW2 fW3 fW4 fW5 fW6 fW7 eT eS eX eL eB eD e1 e2 eR ec1 ec2 ec3 eH eY eE eW eO er1 er2 er3 er4 eZ fJ)) (hS : va_S A s.heap H locs) (hl : lv_has ls 7 [(0, .ref b), (1, .ref oX), (2, .ref oM), (3, .ref oJ), (4, .int i)]) (kk : KK p l e s m below meth c dC dI cI cS cJ A b oX nT aT nL aL nM aM oC o4 a41 a42 a43 o5 a51 a52 a53 oP nB aB oH h1 h2 oK k1 k2 oG g1 g2 oR n1 a1 n2 a2 n3 a3 r1 r2 r3 r4 r5 r6 oQ oE nq aq np ap nv av q1 q2 q3 q4 oW nw aw o7 o8 o9 w1 w2 w3 w4 w5 w6 w7 oM mT mS mX mL mB mD m1 m2 mR x1 x2 x3 mH mY mE mW mO y1 y2 y3 y4 mZ oJ i nc) : W p l e room_1 s m #[Value.ref b] below meth c H locs (90 + nc) (172225 + 6 * nc) (lw_Z below #[Value.ref b] s) (F0 m 799 ls []) := by
  refine And.elim (fun hx hBC_0 => ?_) C0
  refine And.elim (fun hb hBC_1 => ?_) hBC_0
  refine And.elim (fun hr hBC_2 => ?_) hBC_1
  refine And.elim (fun hml hBC_3 => ?_) hBC_2
  refine And.elim (fun hown hBC_4 => ?_) hBC_3
  refine And.elim (fun hts0 hBC_5 => ?_) hBC_4
  refine And.elim (fun hX hBC_6 => ?_) hBC_5
  refine And.elim (fun hbl hBC_7 => ?_) hBC_6
  refine And.elim (fun hlocks hBC_8 => ?_) hBC_7
  have hgv := hBC_8
  clear hBC_0 hBC_1 hBC_2 hBC_3 hBC_4 hBC_5 hBC_6 hBC_7 hBC_8
  refine And.elim (fun g_lT hBI_0 => ?_) hI
  refine And.elim (fun g_lL hBI_1 => ?_) hBI_0
  refine And.elim (fun g_lM hBI_2 => ?_) hBI_1
  refine And.elim (fun g_lB hBI_3 => ?_) hBI_2
  refine And.elim (fun g_lH hBI_4 => ?_) hBI_3
  refine And.elim (fun g_lK hBI_5 => ?_) hBI_4
  refine And.elim (fun g_gn hBI_6 => ?_) hBI_5
  refine And.elim (fun g_lG hBI_7 => ?_) hBI_6
  refine And.elim (fun g_lR hBI_8 => ?_) hBI_7
  refine And.elim (fun g_l1 hBI_9 => ?_) hBI_8
  refine And.elim (fun g_l2 hBI_10 => ?_) hBI_9
  refine And.elim (fun g_l3 hBI_11 => ?_) hBI_10
  refine And.elim (fun g_lq hBI_12 => ?_) hBI_11
  refine And.elim (fun g_lp hBI_13 => ?_) hBI_12
  refine And.elim (fun g_lv hBI_14 => ?_) hBI_13
  refine And.elim (fun g_ke hBI_15 => ?_) hBI_14
  refine And.elim (fun g_fsh hBI_16 => ?_) hBI_15
  refine And.elim (fun g_fm hBI_17 => ?_) hBI_16
  refine And.elim (fun g_lm hBI_18 => ?_) hBI_17
  refine And.elim (fun g_lw hBI_19 => ?_) hBI_18
  refine And.elim (fun g_zt hBI_20 => ?_) hBI_19
  refine And.elim (fun g_zp hBI_21 => ?_) hBI_20
  refine And.elim (fun g_zf hBI_22 => ?_) hBI_21
  refine And.elim (fun g_zh hBI_23 => ?_) hBI_22
  refine And.elim (fun g_zr hBI_24 => ?_) hBI_23
  refine And.elim (fun g_zc hBI_25 => ?_) hBI_24
  refine And.elim (fun g_zy hBI_26 => ?_) hBI_25
  refine And.elim (fun g_za hBI_27 => ?_) hBI_26
  refine And.elim (fun g_zb hBI_28 => ?_) hBI_27
  refine And.elim (fun g_zs hBI_29 => ?_) hBI_28
  refine And.elim (fun g_zq hBI_30 => ?_) hBI_29
  refine And.elim (fun g_zn hBI_31 => ?_) hBI_30
  refine And.elim (fun g_zm hBI_32 => ?_) hBI_31
  refine And.elim (fun g_zk hBI_33 => ?_) hBI_32
  refine And.elim (fun g_fG2 hBI_34 => ?_) hBI_33
  refine And.elim (fun g_eS hBI_35 => ?_) hBI_34
  refine And.elim (fun g_eX hBI_36 => ?_) hBI_35
  refine And.elim (fun g_eL hBI_37 => ?_) hBI_36
  refine And.elim (fun g_eB hBI_38 => ?_) hBI_37
  refine And.elim (fun g_e1 hBI_39 => ?_) hBI_38
  refine And.elim (fun g_e2 hBI_40 => ?_) hBI_39
  refine And.elim (fun g_eY hBI_41 => ?_) hBI_40
  refine And.elim (fun g_eE hBI_42 => ?_) hBI_41
  refine And.elim (fun g_eW hBI_43 => ?_) hBI_42
  refine And.elim (fun g_eO hBI_44 => ?_) hBI_43
  refine And.elim (fun g_eZ hBI_45 => ?_) hBI_44
  refine And.elim (fun hzn hBI_46 => ?_) hBI_45
  refine And.elim (fun hrel hBI_47 => ?_) hBI_46
  refine And.elim (fun hrc hBI_48 => ?_) hBI_47
  refine And.elim (fun hr4 hBI_49 => ?_) hBI_48
  refine And.elim (fun hr5 hBI_50 => ?_) hBI_49
  refine And.elim (fun hb4 hBI_51 => ?_) hBI_50
  refine And.elim (fun hb5 hBI_52 => ?_) hBI_51
  refine And.elim (fun hlz hBI_53 => ?_) hBI_52
  refine And.elim (fun hH hBI_54 => ?_) hBI_53
  refine And.elim (fun hHe hBI_55 => ?_) hBI_54
  refine And.elim (fun hKz hBI_56 => ?_) hBI_55
  refine And.elim (fun hT hBI_57 => ?_) hBI_56
  refine And.elim (fun ho hBI_58 => ?_) hBI_57
  refine And.elim (fun hal hBI_59 => ?_) hBI_58
  refine And.elim (fun hCV hBI_60 => ?_) hBI_59
  refine And.elim (fun hVk hBI_61 => ?_) hBI_60
  refine And.elim (fun hVr hBI_62 => ?_) hBI_61
  refine And.elim (fun hTX hBI_63 => ?_) hBI_62
  refine And.elim (fun hCH hBI_64 => ?_) hBI_63
  refine And.elim (fun hvc hBI_65 => ?_) hBI_64
  refine And.elim (fun hfr hBI_66 => ?_) hBI_65
  refine And.elim (fun hfx hBI_67 => ?_) hBI_66
  have hfs := hBI_67
  clear hI hBI_0 hBI_1 hBI_2 hBI_3 hBI_4 hBI_5 hBI_6 hBI_7 hBI_8 hBI_9 hBI_10 hBI_11 hBI_12 hBI_13 hBI_14 hBI_15 hBI_16 hBI_17 hBI_18 hBI_19 hBI_20 hBI_21 hBI_22 hBI_23 hBI_24 hBI_25 hBI_26 hBI_27 hBI_28 hBI_29 hBI_30 hBI_31 hBI_32 hBI_33 hBI_34 hBI_35 hBI_36 hBI_37 hBI_38 hBI_39 hBI_40 hBI_41 hBI_42 hBI_43 hBI_44 hBI_45 hBI_46 hBI_47 hBI_48 hBI_49 hBI_50 hBI_51 hBI_52 hBI_53 hBI_54 hBI_55 hBI_56 hBI_57 hBI_58 hBI_59 hBI_60 hBI_61 hBI_62 hBI_63 hBI_64 hBI_65 hBI_66 hBI_67
  have hK : va_K (dC, dI) vwCl [(cI, .int), (cS, .short)] s := hK3.sub [0, 1] rfl
  have hown : s.vm.findClass RL = some m.cls := hown
  have hts := hts0
  have hcf := k_cf hx hb hml hown hts
  have hi9 : 0 ≤ i.toInt ∧ i.toInt ≤ 3066 := by omega
  have hzs : zs.toInt ≤ 1000000 := by omega
  have hA : ∀ q : Nat, s.heap.size ≤ q → A q := fun q h => by rw [hAd]; exact h
  have hbA : ¬ A b := by rw [hAd]; exact Nat.not_le.mpr hbl
  have hP : va_P (dC, dI) vwCl [(oX, .inr (11, [.ref nT, .ref nL, .ref nM, .ref oC, .ref oP, .ref oH, .ref oK, .ref oG, .ref oR, .ref oQ, .ref oW, .int fa])), (nT, .inr (5, [.ref aT, .int lT])), (aT, .inl (cI, 900, .inl fT)), (nL, .inr (5, [.ref aL, .int lL])), (aL, .inl (cI, 300, .inl fL)), (nM, .inr (5, [.ref aM, .int lM])), (aM, .inl (cI, 300, .inl fM)), (oC, .inr (2, [.ref o4, .ref o5])), (o4, .inr (10, [.ref a41, .ref a42, .ref a43, .int l4])), (a41, .inl (cI, 256, .inl f41)), (a42, .inl (cI, 512, .inl f42)), (a43, .inl (cI, 512, .inl f43)), (o5, .inr (10, [.ref a51, .ref a52, .ref a53, .int l5])), (a51, .inl (cI, 256, .inl f51)), (a52, .inl (cI, 512, .inl f52)), (a53, .inl (cI, 512, .inl f53)), (oP, .inr (7, [.ref oC, .ref nB, .int ft])), (nB, .inr (5, [.ref aB, .int lB])), (aB, .inl (cI, 2400, .inl fB)), (oH, .inr (4, [.ref oP, .ref h1, .ref h2, .int lH])), (h1, .inl (cI, 6, .inl fH1)), (h2, .inl (cI, 6, .inl fH2)), (oK, .inr (3, [.ref k1, .ref k2, .int lK])), (k1, .inl (cI, 1024, .inl fK1)), (k2, .inl (cI, 1024, .inl fK2)), (oG, .inr (0, [.ref g1, .ref g2, .int gn, .int lG])), (g1, .inl (cI, 6000, .inl fG1)), (g2, .inl (cI, 20, .inl fG2)), (oR, .inr (9, [.ref oH, .ref oK, .ref n1, .ref n2, .ref n3, .ref r1, .ref r2, .ref r3, .ref r4, .ref r5, .ref r6, .int lR])), (n1, .inr (5, [.ref a1, .int l1])), (a1, .inl (cI, 300, .inl f1)), (n2, .inr (5, [.ref a2, .int l2])), (a2, .inl (cI, 300, .inl f2)), (n3, .inr (5, [.ref a3, .int l3])), (a3, .inl (cI, 300, .inl f3)), (r1, .inl (cI, 258, .inl fR1)), (r2, .inl (cI, 258, .inl fR2)), (r3, .inl (cI, 774, .inl fR3)), (r4, .inl (cI, 258, .inl fR4)), (r5, .inl (cI, 258, .inl fR5)), (r6, .inl (cI, 774, .inl fR6)), (oQ, .inr (6, [.ref oC, .ref oH, .ref oK, .ref oE, .ref nq, .ref np, .ref nv, .ref q1, .ref q2, .ref q3, .ref q4, .int pr])), (oE, .inr (8, [.ref oC, .ref oK, .int reE, .int laE, .int suE, .int leE])), (nq, .inr (5, [.ref aq, .int lq])), (aq, .inl (cI, 480, .inl fq)), (np, .inr (5, [.ref ap, .int lp])), (ap, .inl (cI, 300, .inl fp)), (nv, .inr (5, [.ref av, .int lv])), (av, .inl (cI, 300, .inl fv)), (q1, .inl (cI, 61, .inl fQ1)), (q2, .inl (cI, 61, .inl fQ2)), (q3, .inl (cI, 61, .inl fQ3)), (q4, .inl (cI, 61, .inl fQ4)), (oW, .inr (1, [.ref oC, .ref oK, .ref nw, .ref w1, .ref w2, .ref w3, .ref o7, .ref o8, .ref o9, .ref w4, .ref w5, .ref w6, .ref w7, .int ke, .int tl, .int fsh, .int wi, .int ri, .int fm, .int lm])), (nw, .inr (5, [.ref aw, .int lw])), (aw, .inl (cI, 800, .inl fw)), (o7, .inr (8, [.ref oC, .ref oK, .int re7, .int la7, .int su7, .int le7])), (o8, .inr (8, [.ref oC, .ref oK, .int re8, .int la8, .int su8, .int le8])), (o9, .inr (8, [.ref oC, .ref oK, .int re9, .int la9, .int su9, .int le9])), (w1, .inl (cI, 801, .inl fW1)), (w2, .inl (cI, 801, .inl fW2)), (w3, .inl (cI, 801, .inl fW3)), (w4, .inl (cI, 200, .inl fW4)), (w5, .inl (cI, 200, .inl fW5)), (w6, .inl (cI, 200, .inl fW6)), (w7, .inl (cI, 200, .inl fW7)), (oM, .inr (12, [.ref mT, .int zt, .ref mS, .ref mX, .int zp, .int zf, .ref mL, .ref mB, .ref mD, .ref m1, .ref m2, .int zh, .ref mR, .int zr, .ref x1, .ref x2, .ref x3, .int zc, .ref mH, .int zy, .int za, .int zb, .int zs, .int zq, .int zw, .int ze, .ref mY, .int zn, .ref mE, .int zm, .int zl, .ref mW, .int zk, .ref mO, .int zd, .ref y1, .ref y2, .ref y3, .ref y4, .ref mZ])), (mT, .inl (cI, 900, .inl eT)), (mS, .inl (cI, 21, .inl eS)), (mX, .inl (cI, 6300, .inl eX)), (mL, .inl (cI, 512, .inl eL)), (mB, .inl (cS, 131072, .inl eB)), (mD, .inl (cI, 2, .inl eD)), (m1, .inl (cI, 6, .inl e1)), (m2, .inl (cI, 6, .inl e2)), (mR, .inl (cI, 1548, .inl eR)), (x1, .inl (cI, 300, .inl ec1)), (x2, .inl (cI, 300, .inl ec2)), (x3, .inl (cI, 300, .inl ec3)), (mH, .inl (cI, 800, .inl eH)), (mY, .inl (cI, 2600, .inl eY)), (mE, .inl (cI, 2600, .inl eE)), (mW, .inl (cI, 300, .inl eW)), (mO, .inl (cI, 300, .inl eO)), (y1, .inl (cI, 61, .inl er1)), (y2, .inl (cI, 61, .inl er2)), (y3, .inl (cI, 61, .inl er3)), (y4, .inl (cI, 61, .inl er4)), (mZ, .inl (cI, 600, .inl eZ)), (oJ, .inl (cJ, 1, .inr (.inl fJ)))] H := hP
  have hD : va_D A [(oX, .inr (11, [.ref nT, .ref nL, .ref nM, .ref oC, .ref oP, .ref oH, .ref oK, .ref oG, .ref oR, .ref oQ, .ref oW, .int fa])), (nT, .inr (5, [.ref aT, .int lT])), (aT, .inl (cI, 900, .inl fT)), (nL, .inr (5, [.ref aL, .int lL])), (aL, .inl (cI, 300, .inl fL)), (nM, .inr (5, [.ref aM, .int lM])), (aM, .inl (cI, 300, .inl fM)), (oC, .inr (2, [.ref o4, .ref o5])), (o4, .inr (10, [.ref a41, .ref a42, .ref a43, .int l4])), (a41, .inl (cI, 256, .inl f41)), (a42, .inl (cI, 512, .inl f42)), (a43, .inl (cI, 512, .inl f43)), (o5, .inr (10, [.ref a51, .ref a52, .ref a53, .int l5])), (a51, .inl (cI, 256, .inl f51)), (a52, .inl (cI, 512, .inl f52)), (a53, .inl (cI, 512, .inl f53)), (oP, .inr (7, [.ref oC, .ref nB, .int ft])), (nB, .inr (5, [.ref aB, .int lB])), (aB, .inl (cI, 2400, .inl fB)), (oH, .inr (4, [.ref oP, .ref h1, .ref h2, .int lH])), (h1, .inl (cI, 6, .inl fH1)), (h2, .inl (cI, 6, .inl fH2)), (oK, .inr (3, [.ref k1, .ref k2, .int lK])), (k1, .inl (cI, 1024, .inl fK1)), (k2, .inl (cI, 1024, .inl fK2)), (oG, .inr (0, [.ref g1, .ref g2, .int gn, .int lG])), (g1, .inl (cI, 6000, .inl fG1)), (g2, .inl (cI, 20, .inl fG2)), (oR, .inr (9, [.ref oH, .ref oK, .ref n1, .ref n2, .ref n3, .ref r1, .ref r2, .ref r3, .ref r4, .ref r5, .ref r6, .int lR])), (n1, .inr (5, [.ref a1, .int l1])), (a1, .inl (cI, 300, .inl f1)), (n2, .inr (5, [.ref a2, .int l2])), (a2, .inl (cI, 300, .inl f2)), (n3, .inr (5, [.ref a3, .int l3])), (a3, .inl (cI, 300, .inl f3)), (r1, .inl (cI, 258, .inl fR1)), (r2, .inl (cI, 258, .inl fR2)), (r3, .inl (cI, 774, .inl fR3)), (r4, .inl (cI, 258, .inl fR4)), (r5, .inl (cI, 258, .inl fR5)), (r6, .inl (cI, 774, .inl fR6)), (oQ, .inr (6, [.ref oC, .ref oH, .ref oK, .ref oE, .ref nq, .ref np, .ref nv, .ref q1, .ref q2, .ref q3, .ref q4, .int pr])), (oE, .inr (8, [.ref oC, .ref oK, .int reE, .int laE, .int suE, .int leE])), (nq, .inr (5, [.ref aq, .int lq])), (aq, .inl (cI, 480, .inl fq)), (np, .inr (5, [.ref ap, .int lp])), (ap, .inl (cI, 300, .inl fp)), (nv, .inr (5, [.ref av, .int lv])), (av, .inl (cI, 300, .inl fv)), (q1, .inl (cI, 61, .inl fQ1)), (q2, .inl (cI, 61, .inl fQ2)), (q3, .inl (cI, 61, .inl fQ3)), (q4, .inl (cI, 61, .inl fQ4)), (oW, .inr (1, [.ref oC, .ref oK, .ref nw, .ref w1, .ref w2, .ref w3, .ref o7, .ref o8, .ref o9, .ref w4, .ref w5, .ref w6, .ref w7, .int ke, .int tl, .int fsh, .int wi, .int ri, .int fm, .int lm])), (nw, .inr (5, [.ref aw, .int lw])), (aw, .inl (cI, 800, .inl fw)), (o7, .inr (8, [.ref oC, .ref oK, .int re7, .int la7, .int su7, .int le7])), (o8, .inr (8, [.ref oC, .ref oK, .int re8, .int la8, .int su8, .int le8])), (o9, .inr (8, [.ref oC, .ref oK, .int re9, .int la9, .int su9, .int le9])), (w1, .inl (cI, 801, .inl fW1)), (w2, .inl (cI, 801, .inl fW2)), (w3, .inl (cI, 801, .inl fW3)), (w4, .inl (cI, 200, .inl fW4)), (w5, .inl (cI, 200, .inl fW5)), (w6, .inl (cI, 200, .inl fW6)), (w7, .inl (cI, 200, .inl fW7)), (oM, .inr (12, [.ref mT, .int zt, .ref mS, .ref mX, .int zp, .int zf, .ref mL, .ref mB, .ref mD, .ref m1, .ref m2, .int zh, .ref mR, .int zr, .ref x1, .ref x2, .ref x3, .int zc, .ref mH, .int zy, .int za, .int zb, .int zs, .int zq, .int zw, .int ze, .ref mY, .int zn, .ref mE, .int zm, .int zl, .ref mW, .int zk, .ref mO, .int zd, .ref y1, .ref y2, .ref y3, .ref y4, .ref mZ])), (mT, .inl (cI, 900, .inl eT)), (mS, .inl (cI, 21, .inl eS)), (mX, .inl (cI, 6300, .inl eX)), (mL, .inl (cI, 512, .inl eL)), (mB, .inl (cS, 131072, .inl eB)), (mD, .inl (cI, 2, .inl eD)), (m1, .inl (cI, 6, .inl e1)), (m2, .inl (cI, 6, .inl e2)), (mR, .inl (cI, 1548, .inl eR)), (x1, .inl (cI, 300, .inl ec1)), (x2, .inl (cI, 300, .inl ec2)), (x3, .inl (cI, 300, .inl ec3)), (mH, .inl (cI, 800, .inl eH)), (mY, .inl (cI, 2600, .inl eY)), (mE, .inl (cI, 2600, .inl eE)), (mW, .inl (cI, 300, .inl eW)), (mO, .inl (cI, 300, .inl eO)), (y1, .inl (cI, 61, .inl er1)), (y2, .inl (cI, 61, .inl er2)), (y3, .inl (cI, 61, .inl er3)), (y4, .inl (cI, 61, .inl er4)), (mZ, .inl (cI, 600, .inl eZ)), (oJ, .inl (cJ, 1, .inr (.inl fJ)))] := hD
  replace g_lT := hid g_lT
  replace g_lM := hid g_lM
  replace g_lB := hid g_lB
  replace g_lR := hid g_lR
  replace g_l1 := hid g_l1
  replace g_l2 := hid g_l2
  replace g_l3 := hid g_l3
  replace g_lq := hid g_lq
  replace g_lp := hid g_lp
  replace g_lv := hid g_lv
  replace g_fm := hid g_fm
  replace g_lm := hid g_lm
  replace g_lw := hid g_lw
  replace g_zt := hid g_zt
  replace g_zr := hid g_zr
  replace g_zn := hid g_zn
  replace g_zm := hid g_zm
  replace g_zk := hid g_zk
  refine lv_aload_n hx hb dL_law_799 rfl (lv_at hl 1 rfl) ?_
  refine lv_aload_n hx hb dL_law_800 rfl (lv_at hl 0 rfl) ?_
  refine lv_iload hx hb dL_law_801 (lv_at hl 4 rfl) ?_
  refine lv_iconst (v := 1) hx hb dL_law_803 (by decide) ?_
  refine lv_iadd hx hb dL_law_804 ?_
  refine lv_topi (fun x_1 ex_1 => ?_)
  have tx_1 : x_1.toInt = i.toInt + 1 := v_addR (l2 := 1) (h2 := 1) ex_1 hi9 (by decide) (by decide) (by decide)
  refine va_sld hx hb hX hbl hbA hS (v_in (v_sld5 tx_1 hi (by decide))) dL_law_805 ?_
  refine lv_topi (fun x_2 ex_2 => ?_)
  refine lv_aload_n hx hb dL_law_806 rfl (lv_at hl 0 rfl) ?_
  refine lv_iload hx hb dL_law_807 (lv_at hl 4 rfl) ?_
  refine lv_iconst (v := 2) hx hb dL_law_809 (by decide) ?_
  refine lv_iadd hx hb dL_law_810 ?_
  refine lv_topi (fun x_3 ex_3 => ?_)
  have tx_3 : x_3.toInt = i.toInt + 2 := v_addR (l2 := 2) (h2 := 2) ex_3 hi9 (by decide) (by decide) (by decide)
  refine va_sld hx hb hX hbl hbA hS (v_in (v_sld5 tx_3 hi (by decide))) dL_law_811 ?_
  refine lv_topi (fun x_4 ex_4 => ?_)
  refine lv_aload_n hx hb dL_law_812 rfl (lv_at hl 0 rfl) ?_
  refine lv_iload hx hb dL_law_813 (lv_at hl 4 rfl) ?_
  refine lv_iconst (v := 3) hx hb dL_law_815 (by decide) ?_
  refine lv_iadd hx hb dL_law_816 ?_
  refine lv_topi (fun x_5 ex_5 => ?_)
  have tx_5 : x_5.toInt = i.toInt + 3 := v_addR (l2 := 3) (h2 := 3) ex_5 hi9 (by decide) (by decide) (by decide)
  refine va_sld hx hb hX hbl hbA hS (v_in (v_sld5 tx_5 hi (by decide))) dL_law_817 ?_
  refine lv_topi (fun x_6 ex_6 => ?_)
  refine kV_i (rest := []) (q0 := 0) (ci := 11) hcf (f_X11_cost l dC dI cI cS H.size oX nT nL nM oC oP oH oK oG oR oQ oW k1 k2 nw w1 w2 w3 o7 o8 o9 w4 w5 w6 w7 fa lK fK1 fK2 ke tl fsh wi ri fm lm x_2 x_4 x_6 (g_lK) (g_ke) (g_fsh) (g_fm) (g_lm) (hT) (ho)) kc_X11_cost gL_law_X11_cost rfl rfl rfl ⟨Nat.le_of_ble_eq_true rfl, Nat.le_of_ble_eq_true rfl⟩ kX_t hK hP hD hS hA (posT mk_33 0) (posF mk_33 0) (kC_of mk_33 rfl rfl) (by decide +kernel) rfl rfl rfl hl rfl (Nat.le_of_ble_eq_true rfl) dL_law_818 ⟨kfit1 hn (Nat.le_of_ble_eq_true rfl), ksix1 hn (Nat.le_of_ble_eq_true rfl)⟩ (fun r_7 H locs hB hJ hSn => ?_)
  refine Exists.elim hB (fun lK_7 hB7_0 => ?_)
  refine Exists.elim hB7_0 (fun fK1_7 hB7_1 => ?_)
  refine Exists.elim hB7_1 (fun fK2_7 hB7_2 => ?_)
  refine Exists.elim hB7_2 (fun fsh_7 hB7_3 => ?_)
  refine And.elim (fun hPD9 hB7_4 => ?_) hB7_3
  refine And.elim (fun hf7_0 hB7_5 => ?_) hB7_4
  refine And.elim (fun hf7_1 hB7_6 => ?_) hB7_5
  refine And.elim (fun hf7_2 hB7_7 => ?_) hB7_6
  refine And.elim (fun hf7_3 hB7_8 => ?_) hB7_7
  have hf7_4 := hB7_8
  clear hB hB7_0 hB7_1 hB7_2 hB7_3 hB7_4 hB7_5 hB7_6 hB7_7 hB7_8
  obtain ⟨hPn, hDn⟩ := kJi (m := mk_33) hJ rfl hPD9.1 hPD9.2 (wn := [(oX, .inr (11, [.ref nT, .ref nL, .ref nM, .ref oC, .ref oP, .ref oH, .ref oK, .ref oG, .ref oR, .ref oQ, .ref oW, .int fa])), (nT, .inr (5, [.ref aT, .int lT])), (aT, .inl (cI, 900, .inl fT)), (nL, .inr (5, [.ref aL, .int lL])), (aL, .inl (cI, 300, .inl fL)), (nM, .inr (5, [.ref aM, .int lM])), (aM, .inl (cI, 300, .inl fM)), (oC, .inr (2, [.ref o4, .ref o5])), (o4, .inr (10, [.ref a41, .ref a42, .ref a43, .int l4])), (a41, .inl (cI, 256, .inl f41)), (a42, .inl (cI, 512, .inl f42)), (a43, .inl (cI, 512, .inl f43)), (o5, .inr (10, [.ref a51, .ref a52, .ref a53, .int l5])), (a51, .inl (cI, 256, .inl f51)), (a52, .inl (cI, 512, .inl f52)), (a53, .inl (cI, 512, .inl f53)), (oP, .inr (7, [.ref oC, .ref nB, .int ft])), (nB, .inr (5, [.ref aB, .int lB])), (aB, .inl (cI, 2400, .inl fB)), (oH, .inr (4, [.ref oP, .ref h1, .ref h2, .int lH])), (h1, .inl (cI, 6, .inl fH1)), (h2, .inl (cI, 6, .inl fH2)), (oK, .inr (3, [.ref k1, .ref k2, .int lK_7])), (k1, .inl (cI, 1024, .inl fK1_7)), (k2, .inl (cI, 1024, .inl fK2_7)), (oG, .inr (0, [.ref g1, .ref g2, .int gn, .int lG])), (g1, .inl (cI, 6000, .inl fG1)), (g2, .inl (cI, 20, .inl fG2)), (oR, .inr (9, [.ref oH, .ref oK, .ref n1, .ref n2, .ref n3, .ref r1, .ref r2, .ref r3, .ref r4, .ref r5, .ref r6, .int lR])), (n1, .inr (5, [.ref a1, .int l1])), (a1, .inl (cI, 300, .inl f1)), (n2, .inr (5, [.ref a2, .int l2])), (a2, .inl (cI, 300, .inl f2)), (n3, .inr (5, [.ref a3, .int l3])), (a3, .inl (cI, 300, .inl f3)), (r1, .inl (cI, 258, .inl fR1)), (r2, .inl (cI, 258, .inl fR2)), (r3, .inl (cI, 774, .inl fR3)), (r4, .inl (cI, 258, .inl fR4)), (r5, .inl (cI, 258, .inl fR5)), (r6, .inl (cI, 774, .inl fR6)), (oQ, .inr (6, [.ref oC, .ref oH, .ref oK, .ref oE, .ref nq, .ref np, .ref nv, .ref q1, .ref q2, .ref q3, .ref q4, .int pr])), (oE, .inr (8, [.ref oC, .ref oK, .int reE, .int laE, .int suE, .int leE])), (nq, .inr (5, [.ref aq, .int lq])), (aq, .inl (cI, 480, .inl fq)), (np, .inr (5, [.ref ap, .int lp])), (ap, .inl (cI, 300, .inl fp)), (nv, .inr (5, [.ref av, .int lv])), (av, .inl (cI, 300, .inl fv)), (q1, .inl (cI, 61, .inl fQ1)), (q2, .inl (cI, 61, .inl fQ2)), (q3, .inl (cI, 61, .inl fQ3)), (q4, .inl (cI, 61, .inl fQ4)), (oW, .inr (1, [.ref oC, .ref oK, .ref nw, .ref w1, .ref w2, .ref w3, .ref o7, .ref o8, .ref o9, .ref w4, .ref w5, .ref w6, .ref w7, .int ke, .int tl, .int fsh_7, .int wi, .int ri, .int fm, .int lm])), (nw, .inr (5, [.ref aw, .int lw])), (aw, .inl (cI, 800, .inl fw)), (o7, .inr (8, [.ref oC, .ref oK, .int re7, .int la7, .int su7, .int le7])), (o8, .inr (8, [.ref oC, .ref oK, .int re8, .int la8, .int su8, .int le8])), (o9, .inr (8, [.ref oC, .ref oK, .int re9, .int la9, .int su9, .int le9])), (w1, .inl (cI, 801, .inl fW1)), (w2, .inl (cI, 801, .inl fW2)), (w3, .inl (cI, 801, .inl fW3)), (w4, .inl (cI, 200, .inl fW4)), (w5, .inl (cI, 200, .inl fW5)), (w6, .inl (cI, 200, .inl fW6)), (w7, .inl (cI, 200, .inl fW7)), (oM, .inr (12, [.ref mT, .int zt, .ref mS, .ref mX, .int zp, .int zf, .ref mL, .ref mB, .ref mD, .ref m1, .ref m2, .int zh, .ref mR, .int zr, .ref x1, .ref x2, .ref x3, .int zc, .ref mH, .int zy, .int za, .int zb, .int zs, .int zq, .int zw, .int ze, .ref mY, .int zn, .ref mE, .int zm, .int zl, .ref mW, .int zk, .ref mO, .int zd, .ref y1, .ref y2, .ref y3, .ref y4, .ref mZ])), (mT, .inl (cI, 900, .inl eT)), (mS, .inl (cI, 21, .inl eS)), (mX, .inl (cI, 6300, .inl eX)), (mL, .inl (cI, 512, .inl eL)), (mB, .inl (cS, 131072, .inl eB)), (mD, .inl (cI, 2, .inl eD)), (m1, .inl (cI, 6, .inl e1)), (m2, .inl (cI, 6, .inl e2)), (mR, .inl (cI, 1548, .inl eR)), (x1, .inl (cI, 300, .inl ec1)), (x2, .inl (cI, 300, .inl ec2)), (x3, .inl (cI, 300, .inl ec3)), (mH, .inl (cI, 800, .inl eH)), (mY, .inl (cI, 2600, .inl eY)), (mE, .inl (cI, 2600, .inl eE)), (mW, .inl (cI, 300, .inl eW)), (mO, .inl (cI, 300, .inl eO)), (y1, .inl (cI, 61, .inl er1)), (y2, .inl (cI, 61, .inl er2)), (y3, .inl (cI, 61, .inl er3)), (y4, .inl (cI, 61, .inl er4)), (mZ, .inl (cI, 600, .inl eZ)), (oJ, .inl (cJ, 1, .inr (.inl fJ)))]) rfl
  clear hP hD hS hJ hPD9
  have hP := hPn
  have hD := hDn
  have hS := hSn
  clear hPn hDn hSn
  refine lv_pop hx hb dL_law_821 rfl ?_
  refine lv_aload_n hx hb dL_law_822 rfl (lv_at hl 2 rfl) ?_
  refine lv_aload_n hx hb dL_law_823 rfl (lv_at hl 0 rfl) ?_
  refine lv_iload hx hb dL_law_824 (lv_at hl 4 rfl) ?_
  refine lv_iconst (v := 1) hx hb dL_law_826 (by decide) ?_
  refine lv_iadd hx hb dL_law_827 ?_
  refine lv_topi (fun x_8 ex_8 => ?_)
  have tx_8 : x_8.toInt = i.toInt + 1 := v_addR (l2 := 1) (h2 := 1) ex_8 hi9 (by decide) (by decide) (by decide)
  refine va_sld hx hb hX hbl hbA hS (v_in (v_sld5 tx_8 hi (by decide))) dL_law_828 ?_
  refine lv_topi (fun x_9 ex_9 => ?_)
  have es_9 : x_9 = x_2 := by rw [ex_9, ex_2, ex_8, ex_1]
  rw [es_9]
  refine lv_aload_n hx hb dL_law_829 rfl (lv_at hl 0 rfl) ?_
  refine lv_iload hx hb dL_law_830 (lv_at hl 4 rfl) ?_
  refine lv_iconst (v := 2) hx hb dL_law_832 (by decide) ?_
  refine lv_iadd hx hb dL_law_833 ?_
  refine lv_topi (fun x_10 ex_10 => ?_)
  have tx_10 : x_10.toInt = i.toInt + 2 := v_addR (l2 := 2) (h2 := 2) ex_10 hi9 (by decide) (by decide) (by decide)
  refine va_sld hx hb hX hbl hbA hS (v_in (v_sld5 tx_10 hi (by decide))) dL_law_834 ?_
  refine lv_topi (fun x_11 ex_11 => ?_)
  have es_11 : x_11 = x_4 := by rw [ex_11, ex_4, ex_10, ex_3]
  rw [es_11]
  refine lv_aload_n hx hb dL_law_835 rfl (lv_at hl 0 rfl) ?_
  refine lv_iload hx hb dL_law_836 (lv_at hl 4 rfl) ?_
  refine lv_iconst (v := 3) hx hb dL_law_838 (by decide) ?_
  refine lv_iadd hx hb dL_law_839 ?_
  refine lv_topi (fun x_12 ex_12 => ?_)
  have tx_12 : x_12.toInt = i.toInt + 3 := v_addR (l2 := 3) (h2 := 3) ex_12 hi9 (by decide) (by decide) (by decide)
  refine va_sld hx hb hX hbl hbA hS (v_in (v_sld5 tx_12 hi (by decide))) dL_law_840 ?_
  refine lv_topi (fun x_13 ex_13 => ?_)
  have es_13 : x_13 = x_6 := by rw [ex_13, ex_6, ex_12, ex_5]
  rw [es_13]
  refine kV_i (rest := []) (q0 := 0) (ci := 12) hcf (f_X12_cost l dC dI cI cS H.size oM mT mS mX mL mB mD m1 m2 mR x1 x2 x3 mH mY mE mW mO y1 y2 y3 y4 mZ zt zp zf zh zr zc zy za zb zs zq zw ze zn zm zl zk zd ec1 ec2 ec3 x_2 x_4 x_6 (g_zt) (g_zp) (g_zf) (g_zh) (g_zr) (g_zc) (g_zy) (g_za) (g_zb) (g_zs) (g_zq) (g_zn) (g_zm) (g_zk) (by omega)) kc_X12_cost gL_law_X12_cost rfl rfl rfl ⟨Nat.le_of_ble_eq_true rfl, Nat.le_of_ble_eq_true rfl⟩ kX_t hK hP hD hS hA (posT mk_34 0) (posF mk_34 0) (kC_of mk_34 rfl rfl) (by decide +kernel) rfl rfl rfl hl rfl (Nat.le_of_ble_eq_true rfl) dL_law_841 ⟨kfit2 hn (Nat.le_of_ble_eq_true rfl), ksix2 hn (Nat.le_of_ble_eq_true rfl)⟩ (fun r_14 H locs hB hJ hSn => ?_)
  refine Exists.elim hB (fun ze_14 hB14_0 => ?_)
  refine Exists.elim hB14_0 (fun zc_14 hB14_1 => ?_)
  refine Exists.elim hB14_1 (fun ec1_14 hB14_2 => ?_)
  refine Exists.elim hB14_2 (fun ec2_14 hB14_3 => ?_)
  refine Exists.elim hB14_3 (fun ec3_14 hB14_4 => ?_)
  refine Exists.elim hB14_4 (fun zs_14 hB14_5 => ?_)
  refine And.elim (fun hPD9 hB14_6 => ?_) hB14_5
  refine And.elim (fun hf14_0 hB14_7 => ?_) hB14_6
  refine And.elim (fun hf14_1 hB14_8 => ?_) hB14_7
  refine And.elim (fun hf14_2 hB14_9 => ?_) hB14_8
  refine And.elim (fun hf14_3 hB14_10 => ?_) hB14_9
  refine And.elim (fun hf14_4 hB14_11 => ?_) hB14_10
  have hf14_5 := hB14_11
  clear hB hB14_0 hB14_1 hB14_2 hB14_3 hB14_4 hB14_5 hB14_6 hB14_7 hB14_8 hB14_9 hB14_10 hB14_11
  obtain ⟨hPn, hDn⟩ := kJi (m := mk_34) hJ rfl hPD9.1 hPD9.2 (wn := [(oX, .inr (11, [.ref nT, .ref nL, .ref nM, .ref oC, .ref oP, .ref oH, .ref oK, .ref oG, .ref oR, .ref oQ, .ref oW, .int fa])), (nT, .inr (5, [.ref aT, .int lT])), (aT, .inl (cI, 900, .inl fT)), (nL, .inr (5, [.ref aL, .int lL])), (aL, .inl (cI, 300, .inl fL)), (nM, .inr (5, [.ref aM, .int lM])), (aM, .inl (cI, 300, .inl fM)), (oC, .inr (2, [.ref o4, .ref o5])), (o4, .inr (10, [.ref a41, .ref a42, .ref a43, .int l4])), (a41, .inl (cI, 256, .inl f41)), (a42, .inl (cI, 512, .inl f42)), (a43, .inl (cI, 512, .inl f43)), (o5, .inr (10, [.ref a51, .ref a52, .ref a53, .int l5])), (a51, .inl (cI, 256, .inl f51)), (a52, .inl (cI, 512, .inl f52)), (a53, .inl (cI, 512, .inl f53)), (oP, .inr (7, [.ref oC, .ref nB, .int ft])), (nB, .inr (5, [.ref aB, .int lB])), (aB, .inl (cI, 2400, .inl fB)), (oH, .inr (4, [.ref oP, .ref h1, .ref h2, .int lH])), (h1, .inl (cI, 6, .inl fH1)), (h2, .inl (cI, 6, .inl fH2)), (oK, .inr (3, [.ref k1, .ref k2, .int lK_7])), (k1, .inl (cI, 1024, .inl fK1_7)), (k2, .inl (cI, 1024, .inl fK2_7)), (oG, .inr (0, [.ref g1, .ref g2, .int gn, .int lG])), (g1, .inl (cI, 6000, .inl fG1)), (g2, .inl (cI, 20, .inl fG2)), (oR, .inr (9, [.ref oH, .ref oK, .ref n1, .ref n2, .ref n3, .ref r1, .ref r2, .ref r3, .ref r4, .ref r5, .ref r6, .int lR])), (n1, .inr (5, [.ref a1, .int l1])), (a1, .inl (cI, 300, .inl f1)), (n2, .inr (5, [.ref a2, .int l2])), (a2, .inl (cI, 300, .inl f2)), (n3, .inr (5, [.ref a3, .int l3])), (a3, .inl (cI, 300, .inl f3)), (r1, .inl (cI, 258, .inl fR1)), (r2, .inl (cI, 258, .inl fR2)), (r3, .inl (cI, 774, .inl fR3)), (r4, .inl (cI, 258, .inl fR4)), (r5, .inl (cI, 258, .inl fR5)), (r6, .inl (cI, 774, .inl fR6)), (oQ, .inr (6, [.ref oC, .ref oH, .ref oK, .ref oE, .ref nq, .ref np, .ref nv, .ref q1, .ref q2, .ref q3, .ref q4, .int pr])), (oE, .inr (8, [.ref oC, .ref oK, .int reE, .int laE, .int suE, .int leE])), (nq, .inr (5, [.ref aq, .int lq])), (aq, .inl (cI, 480, .inl fq)), (np, .inr (5, [.ref ap, .int lp])), (ap, .inl (cI, 300, .inl fp)), (nv, .inr (5, [.ref av, .int lv])), (av, .inl (cI, 300, .inl fv)), (q1, .inl (cI, 61, .inl fQ1)), (q2, .inl (cI, 61, .inl fQ2)), (q3, .inl (cI, 61, .inl fQ3)), (q4, .inl (cI, 61, .inl fQ4)), (oW, .inr (1, [.ref oC, .ref oK, .ref nw, .ref w1, .ref w2, .ref w3, .ref o7, .ref o8, .ref o9, .ref w4, .ref w5, .ref w6, .ref w7, .int ke, .int tl, .int fsh_7, .int wi, .int ri, .int fm, .int lm])), (nw, .inr (5, [.ref aw, .int lw])), (aw, .inl (cI, 800, .inl fw)), (o7, .inr (8, [.ref oC, .ref oK, .int re7, .int la7, .int su7, .int le7])), (o8, .inr (8, [.ref oC, .ref oK, .int re8, .int la8, .int su8, .int le8])), (o9, .inr (8, [.ref oC, .ref oK, .int re9, .int la9, .int su9, .int le9])), (w1, .inl (cI, 801, .inl fW1)), (w2, .inl (cI, 801, .inl fW2)), (w3, .inl (cI, 801, .inl fW3)), (w4, .inl (cI, 200, .inl fW4)), (w5, .inl (cI, 200, .inl fW5)), (w6, .inl (cI, 200, .inl fW6)), (w7, .inl (cI, 200, .inl fW7)), (oM, .inr (12, [.ref mT, .int zt, .ref mS, .ref mX, .int zp, .int zf, .ref mL, .ref mB, .ref mD, .ref m1, .ref m2, .int zh, .ref mR, .int zr, .ref x1, .ref x2, .ref x3, .int zc_14, .ref mH, .int zy, .int za, .int zb, .int zs_14, .int zq, .int zw, .int ze_14, .ref mY, .int zn, .ref mE, .int zm, .int zl, .ref mW, .int zk, .ref mO, .int zd, .ref y1, .ref y2, .ref y3, .ref y4, .ref mZ])), (mT, .inl (cI, 900, .inl eT)), (mS, .inl (cI, 21, .inl eS)), (mX, .inl (cI, 6300, .inl eX)), (mL, .inl (cI, 512, .inl eL)), (mB, .inl (cS, 131072, .inl eB)), (mD, .inl (cI, 2, .inl eD)), (m1, .inl (cI, 6, .inl e1)), (m2, .inl (cI, 6, .inl e2)), (mR, .inl (cI, 1548, .inl eR)), (x1, .inl (cI, 300, .inl ec1_14)), (x2, .inl (cI, 300, .inl ec2_14)), (x3, .inl (cI, 300, .inl ec3_14)), (mH, .inl (cI, 800, .inl eH)), (mY, .inl (cI, 2600, .inl eY)), (mE, .inl (cI, 2600, .inl eE)), (mW, .inl (cI, 300, .inl eW)), (mO, .inl (cI, 300, .inl eO)), (y1, .inl (cI, 61, .inl er1)), (y2, .inl (cI, 61, .inl er2)), (y3, .inl (cI, 61, .inl er3)), (y4, .inl (cI, 61, .inl er4)), (mZ, .inl (cI, 600, .inl eZ)), (oJ, .inl (cJ, 1, .inr (.inl fJ)))]) rfl
  clear hP hD hS hJ hPD9
  have hP := hPn
  have hD := hDn
  have hS := hSn
  clear hPn hDn hSn
  refine lv_pop hx hb dL_law_844 rfl ?_
  refine lv_goto (tgt := 1022) hx hb dL_law_845 (by decide) ?_
  have hcg := cost_r hKz hal hf7_3 hf14_4
  have hdf : DFr fsh fsh_7 zs zs_14 := d_fs hf7_4 hf14_5 hcg.1
  refine W.widen (k := 90 + (nc + 1)) (n := 172225 + 6 * (nc + 1)) (by omega) (by omega) ?_
  exact kk fa lT lL lM l4 l5 ft lB lH lK_7 gn lG lR l1 l2 l3 pr reE laE suE leE lq lp lv ke tl fsh_7 wi ri fm lm lw re7 la7 su7 le7 re8 la8 su8 le8 re9 la9 su9 le9 zt zp zf zh zr zc_14 zy za zb zs_14 zq zw ze_14 zn zm zl zk zd fT fL fM f41 f42 f43 f51 f52 f53 fB fH1 fH2 fK1_7 fK2_7 fG1 fG2 f1 f2 f3 fR1 fR2 fR3 fR4 fR5 fR6 fq fp fv fQ1 fQ2 fQ3 fQ4 fw fW1 fW2 fW3 fW4 fW5 fW6 fW7 eT eS eX eL eB eD e1 e2 eR ec1_14 ec2_14 ec3_14 eH eY eE eW eO er1 er2 er3 er4 eZ fJ _ _ _ ⟨g_lT, g_lL, g_lM, g_lB, g_lH, hf7_0, g_gn, g_lG, g_lR, g_l1, g_l2, g_l3, g_lq, g_lp, g_lv, g_ke, hf7_1, g_fm, g_lm, g_lw, g_zt, g_zp, g_zf, g_zh, g_zr, hf14_0, g_zy, g_za, g_zb, hf14_1, g_zq, g_zn, g_zm, g_zk, g_fG2, g_eS, g_eX, g_eL, g_eB, g_e1, g_e2, g_eY, g_eE, g_eW, g_eO, g_eZ, by omega, hrel, hrc, hr4, hr5, hb4, hb5, hlz, hH, hHe, hcg.2, (cost_inv (by omega) hKz hT ho hal hf7_3 hf14_4).1, (cost_inv (by omega) hKz hT ho hal hf7_3 hf14_4).2.1, (cost_inv (by omega) hKz hT ho hal hf7_3 hf14_4).2.2, cval_inv (by omega) hKz hT ho hal hCV hf7_3 hf14_4, cst_V hf7_3 hVk, ck_V hf14_4 hVr, hTX, hCH, hvc, fr_d hfr hdf, fx_d hfx hdf, frs_up hfs hfr (by omega)⟩ hP hD hS (lv_sub hl [0, 1, 2, 3, 4] rfl)

set_option maxHeartbeats 40000000 in
set_option maxRecDepth 100000 in
theorem law_worth {p : Program} {l : Launch} {e : Env} {s : State} {m : MethodId} {below : List Frame} {meth : Method} {c : Code} {dC : Nat → ClassId} {dI : Nat → Nat → Nat} {cI cS cJ : ClassId} {A : Nat → Prop} {b L : Nat} {xs : Nat → Int32} (C0 : lw_At p s m meth c b L xs) (hAd : A = fun q : Nat => s.heap.size ≤ q) (hK3 : va_K (dC, dI) vwCl [(cI, .int), (cS, .short), (cJ, .long)] s) {oX nT aT nL aL nM aM oC o4 a41 a42 a43 o5 a51 a52 a53 oP nB aB oH h1 h2 oK k1 k2 oG g1 g2 oR n1 a1 n2 a2 n3 a3 r1 r2 r3 r4 r5 r6 oQ oE nq aq np ap nv av q1 q2 q3 q4 oW nw aw o7 o8 o9 w1 w2 w3 w4 w5 w6 w7 oM mT mS mX mL mB mD m1 m2 mR x1 x2 x3 mH mY mE mW mO y1 y2 y3 y4 mZ oJ : Nat} {fa : Int32} {lT : Int32} {lL : Int32} {lM : Int32} {l4 : Int32} {l5 : Int32} {ft : Int32} {lB : Int32} {lH : Int32} {lK : Int32} {gn : Int32} {lG : Int32} {lR : Int32} {l1 : Int32} {l2 : Int32} {l3 : Int32} {pr : Int32} {reE : Int32} {laE : Int32} {suE : Int32} {leE : Int32} {lq : Int32} {lp : Int32} {lv : Int32} {ke : Int32} {tl : Int32} {fsh : Int32} {wi : Int32} {ri : Int32} {fm : Int32} {lm : Int32} {lw : Int32} {re7 : Int32} {la7 : Int32} {su7 : Int32} {le7 : Int32} {re8 : Int32} {la8 : Int32} {su8 : Int32} {le8 : Int32} {re9 : Int32} {la9 : Int32} {su9 : Int32} {le9 : Int32} {zt : Int32} {zp : Int32} {zf : Int32} {zh : Int32} {zr : Int32} {zc : Int32} {zy : Int32} {za : Int32} {zb : Int32} {zs : Int32} {zq : Int32} {zw : Int32} {ze : Int32} {zn : Int32} {zm : Int32} {zl : Int32} {zk : Int32} {zd : Int32} {fT : Nat → Int32} {fL : Nat → Int32} {fM : Nat → Int32} {f41 : Nat → Int32} {f42 : Nat → Int32} {f43 : Nat → Int32} {f51 : Nat → Int32} {f52 : Nat → Int32} {f53 : Nat → Int32} {fB : Nat → Int32} {fH1 : Nat → Int32} {fH2 : Nat → Int32} {fK1 : Nat → Int32} {fK2 : Nat → Int32} {fG1 : Nat → Int32} {fG2 : Nat → Int32} {f1 : Nat → Int32} {f2 : Nat → Int32} {f3 : Nat → Int32} {fR1 : Nat → Int32} {fR2 : Nat → Int32} {fR3 : Nat → Int32} {fR4 : Nat → Int32} {fR5 : Nat → Int32} {fR6 : Nat → Int32} {fq : Nat → Int32} {fp : Nat → Int32} {fv : Nat → Int32} {fQ1 : Nat → Int32} {fQ2 : Nat → Int32} {fQ3 : Nat → Int32} {fQ4 : Nat → Int32} {fw : Nat → Int32} {fW1 : Nat → Int32} {fW2 : Nat → Int32} {fW3 : Nat → Int32} {fW4 : Nat → Int32} {fW5 : Nat → Int32} {fW6 : Nat → Int32} {fW7 : Nat → Int32} {eT : Nat → Int32} {eS : Nat → Int32} {eX : Nat → Int32} {eL : Nat → Int32} {eB : Nat → Int32} {eD : Nat → Int32} {e1 : Nat → Int32} {e2 : Nat → Int32} {eR : Nat → Int32} {ec1 : Nat → Int32} {ec2 : Nat → Int32} {ec3 : Nat → Int32} {eH : Nat → Int32} {eY : Nat → Int32} {eE : Nat → Int32} {eW : Nat → Int32} {eO : Nat → Int32} {er1 : Nat → Int32} {er2 : Nat → Int32} {er3 : Nat → Int32} {er4 : Nat → Int32} {eZ : Nat → Int32} {fJ : Nat → Int64} {H : Heap} {locs : List Loc} {ls : Array Slot} {i : Int32} {nc : Nat} (hn : nc ≤ 511) (hi : 0 ≤ i.toInt ∧ i.toInt + 5 < (L : Int)) (hL : L ≤ 3072) (hI : INV nc lT lL lM l4 l5 lB lH lK gn lG lR l1 l2 l3 lq lp lv ke fsh wi ri fm lm lw zt zp zf zh zr zc zy za zb zs zq zn zm zk fT fL f41 f42 f43 f51 f52 f53 fH1 fH2 fK1 fK2 fG1 fG2 fW4 fW5 fW6 fW7 eT eS eX eL eB eD e1 e2 ec1 ec2 ec3 eH eY eE eW eO eZ) (hP : va_P (dC, dI) vwCl (WLD cI cS cJ oX nT aT nL aL nM aM oC o4 a41 a42 a43 o5 a51 a52 a53 oP nB aB oH h1 h2 oK k1 k2 oG g1 g2 oR n1 a1 n2 a2 n3 a3 r1 r2 r3 r4 r5 r6 oQ oE nq aq np ap nv av q1 q2 q3 q4 oW nw aw o7 o8 o9 w1 w2 w3 w4 w5 w6 w7 oM mT mS mX mL mB mD m1 m2 mR x1 x2 x3 mH mY mE mW mO y1 y2 y3 y4 mZ oJ fa lT lL lM l4 l5 ft lB lH lK gn lG lR l1 l2 l3 pr reE laE suE leE lq lp lv ke tl fsh wi ri fm lm lw re7 la7 su7 le7 re8 la8 su8 le8 re9 la9 su9 le9 zt zp zf zh zr zc zy za zb zs zq zw ze zn zm zl zk zd fT fL fM f41 f42 f43 f51 f52 f53 fB fH1 fH2 fK1 fK2 fG1 fG2 f1 f2 f3 fR1 fR2 fR3 fR4 fR5 fR6 fq fp fv fQ1 fQ2 fQ3 fQ4 fw fW1 fW2 fW3 fW4 fW5 fW6 fW7 eT eS eX eL eB eD e1 e2 eR ec1 ec2 ec3 eH eY eE eW eO er1 er2 er3 er4 eZ fJ) H) (hD : va_D A (WLD cI cS cJ oX nT aT nL aL nM aM oC o4 a41 a42 a43 o5 a51 a52 a53 oP nB aB oH h1 h2 oK k1 k2 oG g1 g2 oR n1 a1 n2 a2 n3 a3 r1 r2 r3 r4 r5 r6 oQ oE nq aq np ap nv av q1 q2 q3 q4 oW nw aw o7 o8 o9 w1 w2 w3 w4 w5 w6 w7 oM mT mS mX mL mB mD m1 m2 mR x1 x2 x3 mH mY mE mW mO y1 y2 y3 y4 mZ oJ fa lT lL lM l4 l5 ft lB lH lK gn lG lR l1 l2 l3 pr reE laE suE leE lq lp lv ke tl fsh wi ri fm lm lw re7 la7 su7 le7 re8 la8 su8 le8 re9 la9 su9 le9 zt zp zf zh zr zc zy za zb zs zq zw ze zn zm zl zk zd fT fL fM f41 f42 f43 f51 f52 f53 fB fH1 fH2 fK1 fK2 fG1 fG2 f1 f2 f3 fR1 fR2 fR3 fR4 fR5 fR6 fq fp fv fQ1 fQ2 fQ3 fQ4 fw fW1 fW2 fW3 fW4 fW5 fW6 fW7 eT eS eX eL eB eD e1 e2 eR ec1 ec2 ec3 eH eY eE eW eO er1 er2 er3 er4 eZ fJ)) (hS : va_S A s.heap H locs) (hl : lv_has ls 7 [(0, .ref b), (1, .ref oX), (2, .ref oM), (3, .ref oJ), (4, .int i)]) (kk : KK p l e s m below meth c dC dI cI cS cJ A b oX nT aT nL aL nM aM oC o4 a41 a42 a43 o5 a51 a52 a53 oP nB aB oH h1 h2 oK k1 k2 oG g1 g2 oR n1 a1 n2 a2 n3 a3 r1 r2 r3 r4 r5 r6 oQ oE nq aq np ap nv av q1 q2 q3 q4 oW nw aw o7 o8 o9 w1 w2 w3 w4 w5 w6 w7 oM mT mS mX mL mB mD m1 m2 mR x1 x2 x3 mH mY mE mW mO y1 y2 y3 y4 mZ oJ i nc) : W p l e room_1 s m #[Value.ref b] below meth c H locs (90 + nc) (172225 + 6 * nc) (lw_Z below #[Value.ref b] s) (F0 m 848 ls []) := by
  refine And.elim (fun hx hBC_0 => ?_) C0
  refine And.elim (fun hb hBC_1 => ?_) hBC_0
  refine And.elim (fun hr hBC_2 => ?_) hBC_1
  refine And.elim (fun hml hBC_3 => ?_) hBC_2
  refine And.elim (fun hown hBC_4 => ?_) hBC_3
  refine And.elim (fun hts0 hBC_5 => ?_) hBC_4
  refine And.elim (fun hX hBC_6 => ?_) hBC_5
  refine And.elim (fun hbl hBC_7 => ?_) hBC_6
  refine And.elim (fun hlocks hBC_8 => ?_) hBC_7
  have hgv := hBC_8
  clear hBC_0 hBC_1 hBC_2 hBC_3 hBC_4 hBC_5 hBC_6 hBC_7 hBC_8
  refine And.elim (fun g_lT hBI_0 => ?_) hI
  refine And.elim (fun g_lL hBI_1 => ?_) hBI_0
  refine And.elim (fun g_lM hBI_2 => ?_) hBI_1
  refine And.elim (fun g_lB hBI_3 => ?_) hBI_2
  refine And.elim (fun g_lH hBI_4 => ?_) hBI_3
  refine And.elim (fun g_lK hBI_5 => ?_) hBI_4
  refine And.elim (fun g_gn hBI_6 => ?_) hBI_5
  refine And.elim (fun g_lG hBI_7 => ?_) hBI_6
  refine And.elim (fun g_lR hBI_8 => ?_) hBI_7
  refine And.elim (fun g_l1 hBI_9 => ?_) hBI_8
  refine And.elim (fun g_l2 hBI_10 => ?_) hBI_9
  refine And.elim (fun g_l3 hBI_11 => ?_) hBI_10
  refine And.elim (fun g_lq hBI_12 => ?_) hBI_11
  refine And.elim (fun g_lp hBI_13 => ?_) hBI_12
  refine And.elim (fun g_lv hBI_14 => ?_) hBI_13
  refine And.elim (fun g_ke hBI_15 => ?_) hBI_14
  refine And.elim (fun g_fsh hBI_16 => ?_) hBI_15
  refine And.elim (fun g_fm hBI_17 => ?_) hBI_16
  refine And.elim (fun g_lm hBI_18 => ?_) hBI_17
  refine And.elim (fun g_lw hBI_19 => ?_) hBI_18
  refine And.elim (fun g_zt hBI_20 => ?_) hBI_19
  refine And.elim (fun g_zp hBI_21 => ?_) hBI_20
  refine And.elim (fun g_zf hBI_22 => ?_) hBI_21
  refine And.elim (fun g_zh hBI_23 => ?_) hBI_22
  refine And.elim (fun g_zr hBI_24 => ?_) hBI_23
  refine And.elim (fun g_zc hBI_25 => ?_) hBI_24
  refine And.elim (fun g_zy hBI_26 => ?_) hBI_25
  refine And.elim (fun g_za hBI_27 => ?_) hBI_26
  refine And.elim (fun g_zb hBI_28 => ?_) hBI_27
  refine And.elim (fun g_zs hBI_29 => ?_) hBI_28
  refine And.elim (fun g_zq hBI_30 => ?_) hBI_29
  refine And.elim (fun g_zn hBI_31 => ?_) hBI_30
  refine And.elim (fun g_zm hBI_32 => ?_) hBI_31
  refine And.elim (fun g_zk hBI_33 => ?_) hBI_32
  refine And.elim (fun g_fG2 hBI_34 => ?_) hBI_33
  refine And.elim (fun g_eS hBI_35 => ?_) hBI_34
  refine And.elim (fun g_eX hBI_36 => ?_) hBI_35
  refine And.elim (fun g_eL hBI_37 => ?_) hBI_36
  refine And.elim (fun g_eB hBI_38 => ?_) hBI_37
  refine And.elim (fun g_e1 hBI_39 => ?_) hBI_38
  refine And.elim (fun g_e2 hBI_40 => ?_) hBI_39
  refine And.elim (fun g_eY hBI_41 => ?_) hBI_40
  refine And.elim (fun g_eE hBI_42 => ?_) hBI_41
  refine And.elim (fun g_eW hBI_43 => ?_) hBI_42
  refine And.elim (fun g_eO hBI_44 => ?_) hBI_43
  refine And.elim (fun g_eZ hBI_45 => ?_) hBI_44
  refine And.elim (fun hzn hBI_46 => ?_) hBI_45
  refine And.elim (fun hrel hBI_47 => ?_) hBI_46
  refine And.elim (fun hrc hBI_48 => ?_) hBI_47
  refine And.elim (fun hr4 hBI_49 => ?_) hBI_48
  refine And.elim (fun hr5 hBI_50 => ?_) hBI_49
  refine And.elim (fun hb4 hBI_51 => ?_) hBI_50
  refine And.elim (fun hb5 hBI_52 => ?_) hBI_51
  refine And.elim (fun hlz hBI_53 => ?_) hBI_52
  refine And.elim (fun hH hBI_54 => ?_) hBI_53
  refine And.elim (fun hHe hBI_55 => ?_) hBI_54
  refine And.elim (fun hKz hBI_56 => ?_) hBI_55
  refine And.elim (fun hT hBI_57 => ?_) hBI_56
  refine And.elim (fun ho hBI_58 => ?_) hBI_57
  refine And.elim (fun hal hBI_59 => ?_) hBI_58
  refine And.elim (fun hCV hBI_60 => ?_) hBI_59
  refine And.elim (fun hVk hBI_61 => ?_) hBI_60
  refine And.elim (fun hVr hBI_62 => ?_) hBI_61
  refine And.elim (fun hTX hBI_63 => ?_) hBI_62
  refine And.elim (fun hCH hBI_64 => ?_) hBI_63
  refine And.elim (fun hvc hBI_65 => ?_) hBI_64
  refine And.elim (fun hfr hBI_66 => ?_) hBI_65
  refine And.elim (fun hfx hBI_67 => ?_) hBI_66
  have hfs := hBI_67
  clear hI hBI_0 hBI_1 hBI_2 hBI_3 hBI_4 hBI_5 hBI_6 hBI_7 hBI_8 hBI_9 hBI_10 hBI_11 hBI_12 hBI_13 hBI_14 hBI_15 hBI_16 hBI_17 hBI_18 hBI_19 hBI_20 hBI_21 hBI_22 hBI_23 hBI_24 hBI_25 hBI_26 hBI_27 hBI_28 hBI_29 hBI_30 hBI_31 hBI_32 hBI_33 hBI_34 hBI_35 hBI_36 hBI_37 hBI_38 hBI_39 hBI_40 hBI_41 hBI_42 hBI_43 hBI_44 hBI_45 hBI_46 hBI_47 hBI_48 hBI_49 hBI_50 hBI_51 hBI_52 hBI_53 hBI_54 hBI_55 hBI_56 hBI_57 hBI_58 hBI_59 hBI_60 hBI_61 hBI_62 hBI_63 hBI_64 hBI_65 hBI_66 hBI_67
  have hK : va_K (dC, dI) vwCl [(cI, .int), (cS, .short)] s := hK3.sub [0, 1] rfl
  have hown : s.vm.findClass RL = some m.cls := hown
  have hts := hts0
  have hcf := k_cf hx hb hml hown hts
  have hi9 : 0 ≤ i.toInt ∧ i.toInt ≤ 3066 := by omega
  have hzs : zs.toInt ≤ 1000000 := by omega
  have hA : ∀ q : Nat, s.heap.size ≤ q → A q := fun q h => by rw [hAd]; exact h
  have hbA : ¬ A b := by rw [hAd]; exact Nat.not_le.mpr hbl
  have hP : va_P (dC, dI) vwCl [(oX, .inr (11, [.ref nT, .ref nL, .ref nM, .ref oC, .ref oP, .ref oH, .ref oK, .ref oG, .ref oR, .ref oQ, .ref oW, .int fa])), (nT, .inr (5, [.ref aT, .int lT])), (aT, .inl (cI, 900, .inl fT)), (nL, .inr (5, [.ref aL, .int lL])), (aL, .inl (cI, 300, .inl fL)), (nM, .inr (5, [.ref aM, .int lM])), (aM, .inl (cI, 300, .inl fM)), (oC, .inr (2, [.ref o4, .ref o5])), (o4, .inr (10, [.ref a41, .ref a42, .ref a43, .int l4])), (a41, .inl (cI, 256, .inl f41)), (a42, .inl (cI, 512, .inl f42)), (a43, .inl (cI, 512, .inl f43)), (o5, .inr (10, [.ref a51, .ref a52, .ref a53, .int l5])), (a51, .inl (cI, 256, .inl f51)), (a52, .inl (cI, 512, .inl f52)), (a53, .inl (cI, 512, .inl f53)), (oP, .inr (7, [.ref oC, .ref nB, .int ft])), (nB, .inr (5, [.ref aB, .int lB])), (aB, .inl (cI, 2400, .inl fB)), (oH, .inr (4, [.ref oP, .ref h1, .ref h2, .int lH])), (h1, .inl (cI, 6, .inl fH1)), (h2, .inl (cI, 6, .inl fH2)), (oK, .inr (3, [.ref k1, .ref k2, .int lK])), (k1, .inl (cI, 1024, .inl fK1)), (k2, .inl (cI, 1024, .inl fK2)), (oG, .inr (0, [.ref g1, .ref g2, .int gn, .int lG])), (g1, .inl (cI, 6000, .inl fG1)), (g2, .inl (cI, 20, .inl fG2)), (oR, .inr (9, [.ref oH, .ref oK, .ref n1, .ref n2, .ref n3, .ref r1, .ref r2, .ref r3, .ref r4, .ref r5, .ref r6, .int lR])), (n1, .inr (5, [.ref a1, .int l1])), (a1, .inl (cI, 300, .inl f1)), (n2, .inr (5, [.ref a2, .int l2])), (a2, .inl (cI, 300, .inl f2)), (n3, .inr (5, [.ref a3, .int l3])), (a3, .inl (cI, 300, .inl f3)), (r1, .inl (cI, 258, .inl fR1)), (r2, .inl (cI, 258, .inl fR2)), (r3, .inl (cI, 774, .inl fR3)), (r4, .inl (cI, 258, .inl fR4)), (r5, .inl (cI, 258, .inl fR5)), (r6, .inl (cI, 774, .inl fR6)), (oQ, .inr (6, [.ref oC, .ref oH, .ref oK, .ref oE, .ref nq, .ref np, .ref nv, .ref q1, .ref q2, .ref q3, .ref q4, .int pr])), (oE, .inr (8, [.ref oC, .ref oK, .int reE, .int laE, .int suE, .int leE])), (nq, .inr (5, [.ref aq, .int lq])), (aq, .inl (cI, 480, .inl fq)), (np, .inr (5, [.ref ap, .int lp])), (ap, .inl (cI, 300, .inl fp)), (nv, .inr (5, [.ref av, .int lv])), (av, .inl (cI, 300, .inl fv)), (q1, .inl (cI, 61, .inl fQ1)), (q2, .inl (cI, 61, .inl fQ2)), (q3, .inl (cI, 61, .inl fQ3)), (q4, .inl (cI, 61, .inl fQ4)), (oW, .inr (1, [.ref oC, .ref oK, .ref nw, .ref w1, .ref w2, .ref w3, .ref o7, .ref o8, .ref o9, .ref w4, .ref w5, .ref w6, .ref w7, .int ke, .int tl, .int fsh, .int wi, .int ri, .int fm, .int lm])), (nw, .inr (5, [.ref aw, .int lw])), (aw, .inl (cI, 800, .inl fw)), (o7, .inr (8, [.ref oC, .ref oK, .int re7, .int la7, .int su7, .int le7])), (o8, .inr (8, [.ref oC, .ref oK, .int re8, .int la8, .int su8, .int le8])), (o9, .inr (8, [.ref oC, .ref oK, .int re9, .int la9, .int su9, .int le9])), (w1, .inl (cI, 801, .inl fW1)), (w2, .inl (cI, 801, .inl fW2)), (w3, .inl (cI, 801, .inl fW3)), (w4, .inl (cI, 200, .inl fW4)), (w5, .inl (cI, 200, .inl fW5)), (w6, .inl (cI, 200, .inl fW6)), (w7, .inl (cI, 200, .inl fW7)), (oM, .inr (12, [.ref mT, .int zt, .ref mS, .ref mX, .int zp, .int zf, .ref mL, .ref mB, .ref mD, .ref m1, .ref m2, .int zh, .ref mR, .int zr, .ref x1, .ref x2, .ref x3, .int zc, .ref mH, .int zy, .int za, .int zb, .int zs, .int zq, .int zw, .int ze, .ref mY, .int zn, .ref mE, .int zm, .int zl, .ref mW, .int zk, .ref mO, .int zd, .ref y1, .ref y2, .ref y3, .ref y4, .ref mZ])), (mT, .inl (cI, 900, .inl eT)), (mS, .inl (cI, 21, .inl eS)), (mX, .inl (cI, 6300, .inl eX)), (mL, .inl (cI, 512, .inl eL)), (mB, .inl (cS, 131072, .inl eB)), (mD, .inl (cI, 2, .inl eD)), (m1, .inl (cI, 6, .inl e1)), (m2, .inl (cI, 6, .inl e2)), (mR, .inl (cI, 1548, .inl eR)), (x1, .inl (cI, 300, .inl ec1)), (x2, .inl (cI, 300, .inl ec2)), (x3, .inl (cI, 300, .inl ec3)), (mH, .inl (cI, 800, .inl eH)), (mY, .inl (cI, 2600, .inl eY)), (mE, .inl (cI, 2600, .inl eE)), (mW, .inl (cI, 300, .inl eW)), (mO, .inl (cI, 300, .inl eO)), (y1, .inl (cI, 61, .inl er1)), (y2, .inl (cI, 61, .inl er2)), (y3, .inl (cI, 61, .inl er3)), (y4, .inl (cI, 61, .inl er4)), (mZ, .inl (cI, 600, .inl eZ)), (oJ, .inl (cJ, 1, .inr (.inl fJ)))] H := hP
  have hD : va_D A [(oX, .inr (11, [.ref nT, .ref nL, .ref nM, .ref oC, .ref oP, .ref oH, .ref oK, .ref oG, .ref oR, .ref oQ, .ref oW, .int fa])), (nT, .inr (5, [.ref aT, .int lT])), (aT, .inl (cI, 900, .inl fT)), (nL, .inr (5, [.ref aL, .int lL])), (aL, .inl (cI, 300, .inl fL)), (nM, .inr (5, [.ref aM, .int lM])), (aM, .inl (cI, 300, .inl fM)), (oC, .inr (2, [.ref o4, .ref o5])), (o4, .inr (10, [.ref a41, .ref a42, .ref a43, .int l4])), (a41, .inl (cI, 256, .inl f41)), (a42, .inl (cI, 512, .inl f42)), (a43, .inl (cI, 512, .inl f43)), (o5, .inr (10, [.ref a51, .ref a52, .ref a53, .int l5])), (a51, .inl (cI, 256, .inl f51)), (a52, .inl (cI, 512, .inl f52)), (a53, .inl (cI, 512, .inl f53)), (oP, .inr (7, [.ref oC, .ref nB, .int ft])), (nB, .inr (5, [.ref aB, .int lB])), (aB, .inl (cI, 2400, .inl fB)), (oH, .inr (4, [.ref oP, .ref h1, .ref h2, .int lH])), (h1, .inl (cI, 6, .inl fH1)), (h2, .inl (cI, 6, .inl fH2)), (oK, .inr (3, [.ref k1, .ref k2, .int lK])), (k1, .inl (cI, 1024, .inl fK1)), (k2, .inl (cI, 1024, .inl fK2)), (oG, .inr (0, [.ref g1, .ref g2, .int gn, .int lG])), (g1, .inl (cI, 6000, .inl fG1)), (g2, .inl (cI, 20, .inl fG2)), (oR, .inr (9, [.ref oH, .ref oK, .ref n1, .ref n2, .ref n3, .ref r1, .ref r2, .ref r3, .ref r4, .ref r5, .ref r6, .int lR])), (n1, .inr (5, [.ref a1, .int l1])), (a1, .inl (cI, 300, .inl f1)), (n2, .inr (5, [.ref a2, .int l2])), (a2, .inl (cI, 300, .inl f2)), (n3, .inr (5, [.ref a3, .int l3])), (a3, .inl (cI, 300, .inl f3)), (r1, .inl (cI, 258, .inl fR1)), (r2, .inl (cI, 258, .inl fR2)), (r3, .inl (cI, 774, .inl fR3)), (r4, .inl (cI, 258, .inl fR4)), (r5, .inl (cI, 258, .inl fR5)), (r6, .inl (cI, 774, .inl fR6)), (oQ, .inr (6, [.ref oC, .ref oH, .ref oK, .ref oE, .ref nq, .ref np, .ref nv, .ref q1, .ref q2, .ref q3, .ref q4, .int pr])), (oE, .inr (8, [.ref oC, .ref oK, .int reE, .int laE, .int suE, .int leE])), (nq, .inr (5, [.ref aq, .int lq])), (aq, .inl (cI, 480, .inl fq)), (np, .inr (5, [.ref ap, .int lp])), (ap, .inl (cI, 300, .inl fp)), (nv, .inr (5, [.ref av, .int lv])), (av, .inl (cI, 300, .inl fv)), (q1, .inl (cI, 61, .inl fQ1)), (q2, .inl (cI, 61, .inl fQ2)), (q3, .inl (cI, 61, .inl fQ3)), (q4, .inl (cI, 61, .inl fQ4)), (oW, .inr (1, [.ref oC, .ref oK, .ref nw, .ref w1, .ref w2, .ref w3, .ref o7, .ref o8, .ref o9, .ref w4, .ref w5, .ref w6, .ref w7, .int ke, .int tl, .int fsh, .int wi, .int ri, .int fm, .int lm])), (nw, .inr (5, [.ref aw, .int lw])), (aw, .inl (cI, 800, .inl fw)), (o7, .inr (8, [.ref oC, .ref oK, .int re7, .int la7, .int su7, .int le7])), (o8, .inr (8, [.ref oC, .ref oK, .int re8, .int la8, .int su8, .int le8])), (o9, .inr (8, [.ref oC, .ref oK, .int re9, .int la9, .int su9, .int le9])), (w1, .inl (cI, 801, .inl fW1)), (w2, .inl (cI, 801, .inl fW2)), (w3, .inl (cI, 801, .inl fW3)), (w4, .inl (cI, 200, .inl fW4)), (w5, .inl (cI, 200, .inl fW5)), (w6, .inl (cI, 200, .inl fW6)), (w7, .inl (cI, 200, .inl fW7)), (oM, .inr (12, [.ref mT, .int zt, .ref mS, .ref mX, .int zp, .int zf, .ref mL, .ref mB, .ref mD, .ref m1, .ref m2, .int zh, .ref mR, .int zr, .ref x1, .ref x2, .ref x3, .int zc, .ref mH, .int zy, .int za, .int zb, .int zs, .int zq, .int zw, .int ze, .ref mY, .int zn, .ref mE, .int zm, .int zl, .ref mW, .int zk, .ref mO, .int zd, .ref y1, .ref y2, .ref y3, .ref y4, .ref mZ])), (mT, .inl (cI, 900, .inl eT)), (mS, .inl (cI, 21, .inl eS)), (mX, .inl (cI, 6300, .inl eX)), (mL, .inl (cI, 512, .inl eL)), (mB, .inl (cS, 131072, .inl eB)), (mD, .inl (cI, 2, .inl eD)), (m1, .inl (cI, 6, .inl e1)), (m2, .inl (cI, 6, .inl e2)), (mR, .inl (cI, 1548, .inl eR)), (x1, .inl (cI, 300, .inl ec1)), (x2, .inl (cI, 300, .inl ec2)), (x3, .inl (cI, 300, .inl ec3)), (mH, .inl (cI, 800, .inl eH)), (mY, .inl (cI, 2600, .inl eY)), (mE, .inl (cI, 2600, .inl eE)), (mW, .inl (cI, 300, .inl eW)), (mO, .inl (cI, 300, .inl eO)), (y1, .inl (cI, 61, .inl er1)), (y2, .inl (cI, 61, .inl er2)), (y3, .inl (cI, 61, .inl er3)), (y4, .inl (cI, 61, .inl er4)), (mZ, .inl (cI, 600, .inl eZ)), (oJ, .inl (cJ, 1, .inr (.inl fJ)))] := hD
  replace g_lT := hid g_lT
  replace g_lM := hid g_lM
  replace g_lB := hid g_lB
  replace g_lR := hid g_lR
  replace g_l1 := hid g_l1
  replace g_l2 := hid g_l2
  replace g_l3 := hid g_l3
  replace g_lq := hid g_lq
  replace g_lp := hid g_lp
  replace g_lv := hid g_lv
  replace g_fm := hid g_fm
  replace g_lm := hid g_lm
  replace g_lw := hid g_lw
  replace g_zt := hid g_zt
  replace g_zr := hid g_zr
  replace g_zn := hid g_zn
  replace g_zm := hid g_zm
  replace g_zk := hid g_zk
  refine lv_aload_n hx hb dL_law_848 rfl (lv_at hl 1 rfl) ?_
  refine kV_i (rest := []) (q0 := 0) (ci := 11) hcf (f_X11_worth l dC dI cI cS H.size oX nT nL nM oC oP oH oK oG oR oQ oW k1 k2 aL fa lK fK1 fK2 lL fL (g_lK) (g_lL) (hT) (ho) (hVk) (TX_p hTX)) kc_X11_worth gL_law_X11_worth rfl rfl rfl ⟨Nat.le_of_ble_eq_true rfl, Nat.le_of_ble_eq_true rfl⟩ kX_t hK hP hD hS hA ([0, 3, 4, 5, 1, 2].filterMap (fun j => (posT mk_35 0)[j]?)) (posF mk_35 0) (kCp (ws := [(oX, .inr (11, [.ref nT, .ref nL, .ref nM, .ref oC, .ref oP, .ref oH, .ref oK, .ref oG, .ref oR, .ref oQ, .ref oW, .int fa])), (nL, .inr (5, [.ref aL, .int lL])), (aL, .inl (cI, 300, .inl fL)), (oK, .inr (3, [.ref k1, .ref k2, .int lK])), (k1, .inl (cI, 1024, .inl fK1)), (k2, .inl (cI, 1024, .inl fK2))]) (kC_of mk_35 rfl rfl) rfl) (by decide +kernel) rfl rfl rfl hl rfl (Nat.le_of_ble_eq_true rfl) dL_law_849 ⟨kfit1 hn (Nat.le_of_ble_eq_true rfl), ksix1 hn (Nat.le_of_ble_eq_true rfl)⟩ (fun r_1 H locs hB hJ hSn => ?_)
  refine And.elim (fun hPD9 hB1_0 => ?_) hB
  have hf1_0 := hB1_0
  clear hB hB1_0
  obtain ⟨hPn, hDn⟩ := kJm (m := mk_35) hJ rfl hPD9.1 hPD9.2 [0, 4, 5, 1, 2, 3] (by decide +kernel) (ws := [(oX, .inr (11, [.ref nT, .ref nL, .ref nM, .ref oC, .ref oP, .ref oH, .ref oK, .ref oG, .ref oR, .ref oQ, .ref oW, .int fa])), (nL, .inr (5, [.ref aL, .int lL])), (aL, .inl (cI, 300, .inl fL)), (oK, .inr (3, [.ref k1, .ref k2, .int lK])), (k1, .inl (cI, 1024, .inl fK1)), (k2, .inl (cI, 1024, .inl fK2))]) rfl (wn := [(oX, .inr (11, [.ref nT, .ref nL, .ref nM, .ref oC, .ref oP, .ref oH, .ref oK, .ref oG, .ref oR, .ref oQ, .ref oW, .int fa])), (nT, .inr (5, [.ref aT, .int lT])), (aT, .inl (cI, 900, .inl fT)), (nL, .inr (5, [.ref aL, .int lL])), (aL, .inl (cI, 300, .inl fL)), (nM, .inr (5, [.ref aM, .int lM])), (aM, .inl (cI, 300, .inl fM)), (oC, .inr (2, [.ref o4, .ref o5])), (o4, .inr (10, [.ref a41, .ref a42, .ref a43, .int l4])), (a41, .inl (cI, 256, .inl f41)), (a42, .inl (cI, 512, .inl f42)), (a43, .inl (cI, 512, .inl f43)), (o5, .inr (10, [.ref a51, .ref a52, .ref a53, .int l5])), (a51, .inl (cI, 256, .inl f51)), (a52, .inl (cI, 512, .inl f52)), (a53, .inl (cI, 512, .inl f53)), (oP, .inr (7, [.ref oC, .ref nB, .int ft])), (nB, .inr (5, [.ref aB, .int lB])), (aB, .inl (cI, 2400, .inl fB)), (oH, .inr (4, [.ref oP, .ref h1, .ref h2, .int lH])), (h1, .inl (cI, 6, .inl fH1)), (h2, .inl (cI, 6, .inl fH2)), (oK, .inr (3, [.ref k1, .ref k2, .int lK])), (k1, .inl (cI, 1024, .inl fK1)), (k2, .inl (cI, 1024, .inl fK2)), (oG, .inr (0, [.ref g1, .ref g2, .int gn, .int lG])), (g1, .inl (cI, 6000, .inl fG1)), (g2, .inl (cI, 20, .inl fG2)), (oR, .inr (9, [.ref oH, .ref oK, .ref n1, .ref n2, .ref n3, .ref r1, .ref r2, .ref r3, .ref r4, .ref r5, .ref r6, .int lR])), (n1, .inr (5, [.ref a1, .int l1])), (a1, .inl (cI, 300, .inl f1)), (n2, .inr (5, [.ref a2, .int l2])), (a2, .inl (cI, 300, .inl f2)), (n3, .inr (5, [.ref a3, .int l3])), (a3, .inl (cI, 300, .inl f3)), (r1, .inl (cI, 258, .inl fR1)), (r2, .inl (cI, 258, .inl fR2)), (r3, .inl (cI, 774, .inl fR3)), (r4, .inl (cI, 258, .inl fR4)), (r5, .inl (cI, 258, .inl fR5)), (r6, .inl (cI, 774, .inl fR6)), (oQ, .inr (6, [.ref oC, .ref oH, .ref oK, .ref oE, .ref nq, .ref np, .ref nv, .ref q1, .ref q2, .ref q3, .ref q4, .int pr])), (oE, .inr (8, [.ref oC, .ref oK, .int reE, .int laE, .int suE, .int leE])), (nq, .inr (5, [.ref aq, .int lq])), (aq, .inl (cI, 480, .inl fq)), (np, .inr (5, [.ref ap, .int lp])), (ap, .inl (cI, 300, .inl fp)), (nv, .inr (5, [.ref av, .int lv])), (av, .inl (cI, 300, .inl fv)), (q1, .inl (cI, 61, .inl fQ1)), (q2, .inl (cI, 61, .inl fQ2)), (q3, .inl (cI, 61, .inl fQ3)), (q4, .inl (cI, 61, .inl fQ4)), (oW, .inr (1, [.ref oC, .ref oK, .ref nw, .ref w1, .ref w2, .ref w3, .ref o7, .ref o8, .ref o9, .ref w4, .ref w5, .ref w6, .ref w7, .int ke, .int tl, .int fsh, .int wi, .int ri, .int fm, .int lm])), (nw, .inr (5, [.ref aw, .int lw])), (aw, .inl (cI, 800, .inl fw)), (o7, .inr (8, [.ref oC, .ref oK, .int re7, .int la7, .int su7, .int le7])), (o8, .inr (8, [.ref oC, .ref oK, .int re8, .int la8, .int su8, .int le8])), (o9, .inr (8, [.ref oC, .ref oK, .int re9, .int la9, .int su9, .int le9])), (w1, .inl (cI, 801, .inl fW1)), (w2, .inl (cI, 801, .inl fW2)), (w3, .inl (cI, 801, .inl fW3)), (w4, .inl (cI, 200, .inl fW4)), (w5, .inl (cI, 200, .inl fW5)), (w6, .inl (cI, 200, .inl fW6)), (w7, .inl (cI, 200, .inl fW7)), (oM, .inr (12, [.ref mT, .int zt, .ref mS, .ref mX, .int zp, .int zf, .ref mL, .ref mB, .ref mD, .ref m1, .ref m2, .int zh, .ref mR, .int zr, .ref x1, .ref x2, .ref x3, .int zc, .ref mH, .int zy, .int za, .int zb, .int zs, .int zq, .int zw, .int ze, .ref mY, .int zn, .ref mE, .int zm, .int zl, .ref mW, .int zk, .ref mO, .int zd, .ref y1, .ref y2, .ref y3, .ref y4, .ref mZ])), (mT, .inl (cI, 900, .inl eT)), (mS, .inl (cI, 21, .inl eS)), (mX, .inl (cI, 6300, .inl eX)), (mL, .inl (cI, 512, .inl eL)), (mB, .inl (cS, 131072, .inl eB)), (mD, .inl (cI, 2, .inl eD)), (m1, .inl (cI, 6, .inl e1)), (m2, .inl (cI, 6, .inl e2)), (mR, .inl (cI, 1548, .inl eR)), (x1, .inl (cI, 300, .inl ec1)), (x2, .inl (cI, 300, .inl ec2)), (x3, .inl (cI, 300, .inl ec3)), (mH, .inl (cI, 800, .inl eH)), (mY, .inl (cI, 2600, .inl eY)), (mE, .inl (cI, 2600, .inl eE)), (mW, .inl (cI, 300, .inl eW)), (mO, .inl (cI, 300, .inl eO)), (y1, .inl (cI, 61, .inl er1)), (y2, .inl (cI, 61, .inl er2)), (y3, .inl (cI, 61, .inl er3)), (y4, .inl (cI, 61, .inl er4)), (mZ, .inl (cI, 600, .inl eZ)), (oJ, .inl (cJ, 1, .inr (.inl fJ)))]) rfl
  clear hP hD hS hJ hPD9
  have hP := hPn
  have hD := hDn
  have hS := hSn
  clear hPn hDn hSn
  refine lv_pop hx hb dL_law_852 rfl ?_
  refine lv_aload_n hx hb dL_law_853 rfl (lv_at hl 2 rfl) ?_
  refine kV_i (rest := []) (q0 := 0) (ci := 12) hcf (f_X12_worth l dC dI cI cS H.size oM mT mS mX mL mB mD m1 m2 mR x1 x2 x3 mH mY mE mW mO y1 y2 y3 y4 mZ zt zp zf zh zr zc zy za zb zs zq zw ze zn zm zl zk zd ec1 ec2 ec3 eS eX (g_zt) (g_zp) (g_zf) (g_zh) (g_zr) (g_zc) (g_zy) (g_za) (g_zb) (g_zs) (g_zq) (g_zn) (g_zm) (g_zk) (g_eS) (g_eX) (hVr) (by omega)) kc_X12_worth gL_law_X12_worth rfl rfl rfl ⟨Nat.le_of_ble_eq_true rfl, Nat.le_of_ble_eq_true rfl⟩ kX_t hK hP hD hS hA ([0, 3, 4, 5, 1, 2].filterMap (fun j => (posT mk_36 0)[j]?)) (posF mk_36 0) (kCp (ws := [(oM, .inr (12, [.ref mT, .int zt, .ref mS, .ref mX, .int zp, .int zf, .ref mL, .ref mB, .ref mD, .ref m1, .ref m2, .int zh, .ref mR, .int zr, .ref x1, .ref x2, .ref x3, .int zc, .ref mH, .int zy, .int za, .int zb, .int zs, .int zq, .int zw, .int ze, .ref mY, .int zn, .ref mE, .int zm, .int zl, .ref mW, .int zk, .ref mO, .int zd, .ref y1, .ref y2, .ref y3, .ref y4, .ref mZ])), (mS, .inl (cI, 21, .inl eS)), (mX, .inl (cI, 6300, .inl eX)), (x1, .inl (cI, 300, .inl ec1)), (x2, .inl (cI, 300, .inl ec2)), (x3, .inl (cI, 300, .inl ec3))]) (kC_of mk_36 rfl rfl) rfl) (by decide +kernel) rfl rfl rfl hl rfl (Nat.le_of_ble_eq_true rfl) dL_law_854 ⟨kfit2 hn (Nat.le_of_ble_eq_true rfl), ksix2 hn (Nat.le_of_ble_eq_true rfl)⟩ (fun r_2 H locs hB hJ hSn => ?_)
  refine Exists.elim hB (fun ze_2 hB2_0 => ?_)
  refine And.elim (fun hPD9 hB2_1 => ?_) hB2_0
  have hf2_0 := hB2_1
  clear hB hB2_0 hB2_1
  obtain ⟨hPn, hDn⟩ := kJm (m := mk_36) hJ rfl hPD9.1 hPD9.2 [0, 4, 5, 1, 2, 3] (by decide +kernel) (ws := [(oM, .inr (12, [.ref mT, .int zt, .ref mS, .ref mX, .int zp, .int zf, .ref mL, .ref mB, .ref mD, .ref m1, .ref m2, .int zh, .ref mR, .int zr, .ref x1, .ref x2, .ref x3, .int zc, .ref mH, .int zy, .int za, .int zb, .int zs, .int zq, .int zw, .int ze_2, .ref mY, .int zn, .ref mE, .int zm, .int zl, .ref mW, .int zk, .ref mO, .int zd, .ref y1, .ref y2, .ref y3, .ref y4, .ref mZ])), (mS, .inl (cI, 21, .inl eS)), (mX, .inl (cI, 6300, .inl eX)), (x1, .inl (cI, 300, .inl ec1)), (x2, .inl (cI, 300, .inl ec2)), (x3, .inl (cI, 300, .inl ec3))]) rfl (wn := [(oX, .inr (11, [.ref nT, .ref nL, .ref nM, .ref oC, .ref oP, .ref oH, .ref oK, .ref oG, .ref oR, .ref oQ, .ref oW, .int fa])), (nT, .inr (5, [.ref aT, .int lT])), (aT, .inl (cI, 900, .inl fT)), (nL, .inr (5, [.ref aL, .int lL])), (aL, .inl (cI, 300, .inl fL)), (nM, .inr (5, [.ref aM, .int lM])), (aM, .inl (cI, 300, .inl fM)), (oC, .inr (2, [.ref o4, .ref o5])), (o4, .inr (10, [.ref a41, .ref a42, .ref a43, .int l4])), (a41, .inl (cI, 256, .inl f41)), (a42, .inl (cI, 512, .inl f42)), (a43, .inl (cI, 512, .inl f43)), (o5, .inr (10, [.ref a51, .ref a52, .ref a53, .int l5])), (a51, .inl (cI, 256, .inl f51)), (a52, .inl (cI, 512, .inl f52)), (a53, .inl (cI, 512, .inl f53)), (oP, .inr (7, [.ref oC, .ref nB, .int ft])), (nB, .inr (5, [.ref aB, .int lB])), (aB, .inl (cI, 2400, .inl fB)), (oH, .inr (4, [.ref oP, .ref h1, .ref h2, .int lH])), (h1, .inl (cI, 6, .inl fH1)), (h2, .inl (cI, 6, .inl fH2)), (oK, .inr (3, [.ref k1, .ref k2, .int lK])), (k1, .inl (cI, 1024, .inl fK1)), (k2, .inl (cI, 1024, .inl fK2)), (oG, .inr (0, [.ref g1, .ref g2, .int gn, .int lG])), (g1, .inl (cI, 6000, .inl fG1)), (g2, .inl (cI, 20, .inl fG2)), (oR, .inr (9, [.ref oH, .ref oK, .ref n1, .ref n2, .ref n3, .ref r1, .ref r2, .ref r3, .ref r4, .ref r5, .ref r6, .int lR])), (n1, .inr (5, [.ref a1, .int l1])), (a1, .inl (cI, 300, .inl f1)), (n2, .inr (5, [.ref a2, .int l2])), (a2, .inl (cI, 300, .inl f2)), (n3, .inr (5, [.ref a3, .int l3])), (a3, .inl (cI, 300, .inl f3)), (r1, .inl (cI, 258, .inl fR1)), (r2, .inl (cI, 258, .inl fR2)), (r3, .inl (cI, 774, .inl fR3)), (r4, .inl (cI, 258, .inl fR4)), (r5, .inl (cI, 258, .inl fR5)), (r6, .inl (cI, 774, .inl fR6)), (oQ, .inr (6, [.ref oC, .ref oH, .ref oK, .ref oE, .ref nq, .ref np, .ref nv, .ref q1, .ref q2, .ref q3, .ref q4, .int pr])), (oE, .inr (8, [.ref oC, .ref oK, .int reE, .int laE, .int suE, .int leE])), (nq, .inr (5, [.ref aq, .int lq])), (aq, .inl (cI, 480, .inl fq)), (np, .inr (5, [.ref ap, .int lp])), (ap, .inl (cI, 300, .inl fp)), (nv, .inr (5, [.ref av, .int lv])), (av, .inl (cI, 300, .inl fv)), (q1, .inl (cI, 61, .inl fQ1)), (q2, .inl (cI, 61, .inl fQ2)), (q3, .inl (cI, 61, .inl fQ3)), (q4, .inl (cI, 61, .inl fQ4)), (oW, .inr (1, [.ref oC, .ref oK, .ref nw, .ref w1, .ref w2, .ref w3, .ref o7, .ref o8, .ref o9, .ref w4, .ref w5, .ref w6, .ref w7, .int ke, .int tl, .int fsh, .int wi, .int ri, .int fm, .int lm])), (nw, .inr (5, [.ref aw, .int lw])), (aw, .inl (cI, 800, .inl fw)), (o7, .inr (8, [.ref oC, .ref oK, .int re7, .int la7, .int su7, .int le7])), (o8, .inr (8, [.ref oC, .ref oK, .int re8, .int la8, .int su8, .int le8])), (o9, .inr (8, [.ref oC, .ref oK, .int re9, .int la9, .int su9, .int le9])), (w1, .inl (cI, 801, .inl fW1)), (w2, .inl (cI, 801, .inl fW2)), (w3, .inl (cI, 801, .inl fW3)), (w4, .inl (cI, 200, .inl fW4)), (w5, .inl (cI, 200, .inl fW5)), (w6, .inl (cI, 200, .inl fW6)), (w7, .inl (cI, 200, .inl fW7)), (oM, .inr (12, [.ref mT, .int zt, .ref mS, .ref mX, .int zp, .int zf, .ref mL, .ref mB, .ref mD, .ref m1, .ref m2, .int zh, .ref mR, .int zr, .ref x1, .ref x2, .ref x3, .int zc, .ref mH, .int zy, .int za, .int zb, .int zs, .int zq, .int zw, .int ze_2, .ref mY, .int zn, .ref mE, .int zm, .int zl, .ref mW, .int zk, .ref mO, .int zd, .ref y1, .ref y2, .ref y3, .ref y4, .ref mZ])), (mT, .inl (cI, 900, .inl eT)), (mS, .inl (cI, 21, .inl eS)), (mX, .inl (cI, 6300, .inl eX)), (mL, .inl (cI, 512, .inl eL)), (mB, .inl (cS, 131072, .inl eB)), (mD, .inl (cI, 2, .inl eD)), (m1, .inl (cI, 6, .inl e1)), (m2, .inl (cI, 6, .inl e2)), (mR, .inl (cI, 1548, .inl eR)), (x1, .inl (cI, 300, .inl ec1)), (x2, .inl (cI, 300, .inl ec2)), (x3, .inl (cI, 300, .inl ec3)), (mH, .inl (cI, 800, .inl eH)), (mY, .inl (cI, 2600, .inl eY)), (mE, .inl (cI, 2600, .inl eE)), (mW, .inl (cI, 300, .inl eW)), (mO, .inl (cI, 300, .inl eO)), (y1, .inl (cI, 61, .inl er1)), (y2, .inl (cI, 61, .inl er2)), (y3, .inl (cI, 61, .inl er3)), (y4, .inl (cI, 61, .inl er4)), (mZ, .inl (cI, 600, .inl eZ)), (oJ, .inl (cJ, 1, .inr (.inl fJ)))]) rfl
  clear hP hD hS hJ hPD9
  have hP := hPn
  have hD := hDn
  have hS := hSn
  clear hPn hDn hSn
  refine lv_pop hx hb dL_law_857 rfl ?_
  refine lv_goto (tgt := 1022) hx hb dL_law_858 (by decide) ?_
  refine W.widen (k := 90 + (nc + 1)) (n := 172225 + 6 * (nc + 1)) (by omega) (by omega) ?_
  exact kk fa lT lL lM l4 l5 ft lB lH lK gn lG lR l1 l2 l3 pr reE laE suE leE lq lp lv ke tl fsh wi ri fm lm lw re7 la7 su7 le7 re8 la8 su8 le8 re9 la9 su9 le9 zt zp zf zh zr zc zy za zb zs zq zw ze_2 zn zm zl zk zd fT fL fM f41 f42 f43 f51 f52 f53 fB fH1 fH2 fK1 fK2 fG1 fG2 f1 f2 f3 fR1 fR2 fR3 fR4 fR5 fR6 fq fp fv fQ1 fQ2 fQ3 fQ4 fw fW1 fW2 fW3 fW4 fW5 fW6 fW7 eT eS eX eL eB eD e1 e2 eR ec1 ec2 ec3 eH eY eE eW eO er1 er2 er3 er4 eZ fJ _ _ _ ⟨g_lT, g_lL, g_lM, g_lB, g_lH, g_lK, g_gn, g_lG, g_lR, g_l1, g_l2, g_l3, g_lq, g_lp, g_lv, g_ke, g_fsh, g_fm, g_lm, g_lw, g_zt, g_zp, g_zf, g_zh, g_zr, g_zc, g_zy, g_za, g_zb, g_zs, g_zq, g_zn, g_zm, g_zk, g_fG2, g_eS, g_eX, g_eL, g_eB, g_e1, g_e2, g_eY, g_eE, g_eW, g_eO, g_eZ, by omega, hrel, hrc, hr4, hr5, hb4, hb5, hlz, hH, hHe, hKz, hT, ho, hal, hCV, hVk, hVr, hTX, hCH, hvc, hfr, hfx, hfs⟩ hP hD hS (lv_sub hl [0, 1, 2, 3, 4] rfl)

end
