/-! 69.a.rows -/
section
set_option maxRecDepth 100000 in
theorem dA423_cL_law : kDec cL_law [(861, .aload_n 1, 1), (862, .aload_n 0, 1), (863, .iload 4, 2), (865, .iconst 1, 1), (866, .iadd, 1), (867, .iaload, 1), (868, .aload_n 0, 1), (869, .iload 4, 2), (871, .iconst 2, 1), (872, .iadd, 1), (873, .iaload, 1), (874, .invokevirtual 114, 3), (877, .aload_n 2, 1), (878, .aload_n 0, 1), (879, .iload 4, 2), (881, .iconst 1, 1), (882, .iadd, 1), (883, .iaload, 1), (884, .aload_n 0, 1), (885, .iload 4, 2), (887, .iconst 2, 1), (888, .iadd, 1), (889, .iaload, 1), (890, .invokevirtual 117, 3)] = true := by decide +kernel
theorem dL_law_861 : decode cL_law 861 = .ok (.aload_n 1, 1) := kDec_at dA423_cL_law 0 rfl
theorem dL_law_862 : decode cL_law 862 = .ok (.aload_n 0, 1) := kDec_at dA423_cL_law 1 rfl
theorem dL_law_863 : decode cL_law 863 = .ok (.iload 4, 2) := kDec_at dA423_cL_law 2 rfl
theorem dL_law_865 : decode cL_law 865 = .ok (.iconst 1, 1) := kDec_at dA423_cL_law 3 rfl
theorem dL_law_866 : decode cL_law 866 = .ok (.iadd, 1) := kDec_at dA423_cL_law 4 rfl
theorem dL_law_867 : decode cL_law 867 = .ok (.iaload, 1) := kDec_at dA423_cL_law 5 rfl
theorem dL_law_868 : decode cL_law 868 = .ok (.aload_n 0, 1) := kDec_at dA423_cL_law 6 rfl
theorem dL_law_869 : decode cL_law 869 = .ok (.iload 4, 2) := kDec_at dA423_cL_law 7 rfl
theorem dL_law_871 : decode cL_law 871 = .ok (.iconst 2, 1) := kDec_at dA423_cL_law 8 rfl
theorem dL_law_872 : decode cL_law 872 = .ok (.iadd, 1) := kDec_at dA423_cL_law 9 rfl
theorem dL_law_873 : decode cL_law 873 = .ok (.iaload, 1) := kDec_at dA423_cL_law 10 rfl
theorem dL_law_874 : decode cL_law 874 = .ok (.invokevirtual 114, 3) := kDec_at dA423_cL_law 11 rfl
theorem dL_law_877 : decode cL_law 877 = .ok (.aload_n 2, 1) := kDec_at dA423_cL_law 12 rfl
theorem dL_law_878 : decode cL_law 878 = .ok (.aload_n 0, 1) := kDec_at dA423_cL_law 13 rfl
theorem dL_law_879 : decode cL_law 879 = .ok (.iload 4, 2) := kDec_at dA423_cL_law 14 rfl
theorem dL_law_881 : decode cL_law 881 = .ok (.iconst 1, 1) := kDec_at dA423_cL_law 15 rfl
theorem dL_law_882 : decode cL_law 882 = .ok (.iadd, 1) := kDec_at dA423_cL_law 16 rfl
theorem dL_law_883 : decode cL_law 883 = .ok (.iaload, 1) := kDec_at dA423_cL_law 17 rfl
theorem dL_law_884 : decode cL_law 884 = .ok (.aload_n 0, 1) := kDec_at dA423_cL_law 18 rfl
theorem dL_law_885 : decode cL_law 885 = .ok (.iload 4, 2) := kDec_at dA423_cL_law 19 rfl
theorem dL_law_887 : decode cL_law 887 = .ok (.iconst 2, 1) := kDec_at dA423_cL_law 20 rfl
theorem dL_law_888 : decode cL_law 888 = .ok (.iadd, 1) := kDec_at dA423_cL_law 21 rfl
theorem dL_law_889 : decode cL_law 889 = .ok (.iaload, 1) := kDec_at dA423_cL_law 22 rfl
theorem dL_law_890 : decode cL_law 890 = .ok (.invokevirtual 117, 3) := kDec_at dA423_cL_law 23 rfl
set_option maxRecDepth 100000 in
theorem dA424_cL_law : kDec cL_law [(893, .if_icmp .eq 129, 3), (898, .aload_n 1, 1), (899, .aload_n 0, 1), (900, .iload 4, 2), (902, .iconst 1, 1), (903, .iadd, 1), (904, .iaload, 1), (905, .invokevirtual 118, 3), (908, .pop, 1), (909, .aload_n 2, 1), (910, .aload_n 0, 1), (911, .iload 4, 2), (913, .iconst 1, 1), (914, .iadd, 1), (915, .iaload, 1), (916, .invokevirtual 121, 3), (919, .pop, 1), (920, .goto 102, 3), (923, .aload_n 1, 1), (924, .aload_n 0, 1), (925, .iload 4, 2), (927, .iconst 1, 1), (928, .iadd, 1), (929, .iaload, 1)] = true := by decide +kernel
theorem dL_law_893 : decode cL_law 893 = .ok (.if_icmp .eq 129, 3) := kDec_at dA424_cL_law 0 rfl
theorem dL_law_898 : decode cL_law 898 = .ok (.aload_n 1, 1) := kDec_at dA424_cL_law 1 rfl
theorem dL_law_899 : decode cL_law 899 = .ok (.aload_n 0, 1) := kDec_at dA424_cL_law 2 rfl
theorem dL_law_900 : decode cL_law 900 = .ok (.iload 4, 2) := kDec_at dA424_cL_law 3 rfl
theorem dL_law_902 : decode cL_law 902 = .ok (.iconst 1, 1) := kDec_at dA424_cL_law 4 rfl
theorem dL_law_903 : decode cL_law 903 = .ok (.iadd, 1) := kDec_at dA424_cL_law 5 rfl
theorem dL_law_904 : decode cL_law 904 = .ok (.iaload, 1) := kDec_at dA424_cL_law 6 rfl
theorem dL_law_905 : decode cL_law 905 = .ok (.invokevirtual 118, 3) := kDec_at dA424_cL_law 7 rfl
theorem dL_law_908 : decode cL_law 908 = .ok (.pop, 1) := kDec_at dA424_cL_law 8 rfl
theorem dL_law_909 : decode cL_law 909 = .ok (.aload_n 2, 1) := kDec_at dA424_cL_law 9 rfl
theorem dL_law_910 : decode cL_law 910 = .ok (.aload_n 0, 1) := kDec_at dA424_cL_law 10 rfl
theorem dL_law_911 : decode cL_law 911 = .ok (.iload 4, 2) := kDec_at dA424_cL_law 11 rfl
theorem dL_law_913 : decode cL_law 913 = .ok (.iconst 1, 1) := kDec_at dA424_cL_law 12 rfl
theorem dL_law_914 : decode cL_law 914 = .ok (.iadd, 1) := kDec_at dA424_cL_law 13 rfl
theorem dL_law_915 : decode cL_law 915 = .ok (.iaload, 1) := kDec_at dA424_cL_law 14 rfl
theorem dL_law_916 : decode cL_law 916 = .ok (.invokevirtual 121, 3) := kDec_at dA424_cL_law 15 rfl
theorem dL_law_919 : decode cL_law 919 = .ok (.pop, 1) := kDec_at dA424_cL_law 16 rfl
theorem dL_law_920 : decode cL_law 920 = .ok (.goto 102, 3) := kDec_at dA424_cL_law 17 rfl
theorem dL_law_923 : decode cL_law 923 = .ok (.aload_n 1, 1) := kDec_at dA424_cL_law 18 rfl
theorem dL_law_924 : decode cL_law 924 = .ok (.aload_n 0, 1) := kDec_at dA424_cL_law 19 rfl
theorem dL_law_925 : decode cL_law 925 = .ok (.iload 4, 2) := kDec_at dA424_cL_law 20 rfl
theorem dL_law_927 : decode cL_law 927 = .ok (.iconst 1, 1) := kDec_at dA424_cL_law 21 rfl
theorem dL_law_928 : decode cL_law 928 = .ok (.iadd, 1) := kDec_at dA424_cL_law 22 rfl
theorem dL_law_929 : decode cL_law 929 = .ok (.iaload, 1) := kDec_at dA424_cL_law 23 rfl
set_option maxRecDepth 100000 in
theorem dA425_cL_law : kDec cL_law [(930, .aload_n 0, 1), (931, .iload 4, 2), (933, .iconst 2, 1), (934, .iadd, 1), (935, .iaload, 1), (936, .invokevirtual 122, 3), (939, .pop, 1), (940, .aload_n 2, 1), (941, .aload_n 0, 1), (942, .iload 4, 2), (944, .iconst 1, 1), (945, .iadd, 1), (946, .iaload, 1), (947, .aload_n 0, 1), (948, .iload 4, 2), (950, .iconst 2, 1), (951, .iadd, 1), (952, .iaload, 1), (953, .invokevirtual 125, 3), (956, .pop, 1), (957, .goto 65, 3), (960, .aload_n 1, 1), (961, .aload_n 0, 1), (962, .iload 4, 2)] = true := by decide +kernel
theorem dL_law_930 : decode cL_law 930 = .ok (.aload_n 0, 1) := kDec_at dA425_cL_law 0 rfl
theorem dL_law_931 : decode cL_law 931 = .ok (.iload 4, 2) := kDec_at dA425_cL_law 1 rfl
theorem dL_law_933 : decode cL_law 933 = .ok (.iconst 2, 1) := kDec_at dA425_cL_law 2 rfl
theorem dL_law_934 : decode cL_law 934 = .ok (.iadd, 1) := kDec_at dA425_cL_law 3 rfl
theorem dL_law_935 : decode cL_law 935 = .ok (.iaload, 1) := kDec_at dA425_cL_law 4 rfl
theorem dL_law_936 : decode cL_law 936 = .ok (.invokevirtual 122, 3) := kDec_at dA425_cL_law 5 rfl
theorem dL_law_939 : decode cL_law 939 = .ok (.pop, 1) := kDec_at dA425_cL_law 6 rfl
theorem dL_law_940 : decode cL_law 940 = .ok (.aload_n 2, 1) := kDec_at dA425_cL_law 7 rfl
theorem dL_law_941 : decode cL_law 941 = .ok (.aload_n 0, 1) := kDec_at dA425_cL_law 8 rfl
theorem dL_law_942 : decode cL_law 942 = .ok (.iload 4, 2) := kDec_at dA425_cL_law 9 rfl
theorem dL_law_944 : decode cL_law 944 = .ok (.iconst 1, 1) := kDec_at dA425_cL_law 10 rfl
theorem dL_law_945 : decode cL_law 945 = .ok (.iadd, 1) := kDec_at dA425_cL_law 11 rfl
theorem dL_law_946 : decode cL_law 946 = .ok (.iaload, 1) := kDec_at dA425_cL_law 12 rfl
theorem dL_law_947 : decode cL_law 947 = .ok (.aload_n 0, 1) := kDec_at dA425_cL_law 13 rfl
theorem dL_law_948 : decode cL_law 948 = .ok (.iload 4, 2) := kDec_at dA425_cL_law 14 rfl
theorem dL_law_950 : decode cL_law 950 = .ok (.iconst 2, 1) := kDec_at dA425_cL_law 15 rfl
theorem dL_law_951 : decode cL_law 951 = .ok (.iadd, 1) := kDec_at dA425_cL_law 16 rfl
theorem dL_law_952 : decode cL_law 952 = .ok (.iaload, 1) := kDec_at dA425_cL_law 17 rfl
theorem dL_law_953 : decode cL_law 953 = .ok (.invokevirtual 125, 3) := kDec_at dA425_cL_law 18 rfl
theorem dL_law_956 : decode cL_law 956 = .ok (.pop, 1) := kDec_at dA425_cL_law 19 rfl
theorem dL_law_957 : decode cL_law 957 = .ok (.goto 65, 3) := kDec_at dA425_cL_law 20 rfl
theorem dL_law_960 : decode cL_law 960 = .ok (.aload_n 1, 1) := kDec_at dA425_cL_law 21 rfl
theorem dL_law_961 : decode cL_law 961 = .ok (.aload_n 0, 1) := kDec_at dA425_cL_law 22 rfl
theorem dL_law_962 : decode cL_law 962 = .ok (.iload 4, 2) := kDec_at dA425_cL_law 23 rfl
set_option maxRecDepth 100000 in
theorem dA426_cL_law : kDec cL_law [(964, .iconst 1, 1), (965, .iadd, 1), (966, .iaload, 1), (967, .aload_n 0, 1), (968, .iload 4, 2), (970, .iconst 2, 1), (971, .iadd, 1), (972, .iaload, 1), (973, .invokevirtual 126, 3), (976, .pop, 1), (977, .aload_n 2, 1), (978, .aload_n 0, 1), (979, .iload 4, 2), (981, .iconst 1, 1), (982, .iadd, 1), (983, .iaload, 1), (984, .aload_n 0, 1), (985, .iload 4, 2), (987, .iconst 2, 1), (988, .iadd, 1), (989, .iaload, 1), (990, .invokevirtual 129, 3), (993, .pop, 1), (994, .goto 28, 3)] = true := by decide +kernel
theorem dL_law_964 : decode cL_law 964 = .ok (.iconst 1, 1) := kDec_at dA426_cL_law 0 rfl
theorem dL_law_965 : decode cL_law 965 = .ok (.iadd, 1) := kDec_at dA426_cL_law 1 rfl
theorem dL_law_966 : decode cL_law 966 = .ok (.iaload, 1) := kDec_at dA426_cL_law 2 rfl
theorem dL_law_967 : decode cL_law 967 = .ok (.aload_n 0, 1) := kDec_at dA426_cL_law 3 rfl
theorem dL_law_968 : decode cL_law 968 = .ok (.iload 4, 2) := kDec_at dA426_cL_law 4 rfl
theorem dL_law_970 : decode cL_law 970 = .ok (.iconst 2, 1) := kDec_at dA426_cL_law 5 rfl
theorem dL_law_971 : decode cL_law 971 = .ok (.iadd, 1) := kDec_at dA426_cL_law 6 rfl
theorem dL_law_972 : decode cL_law 972 = .ok (.iaload, 1) := kDec_at dA426_cL_law 7 rfl
theorem dL_law_973 : decode cL_law 973 = .ok (.invokevirtual 126, 3) := kDec_at dA426_cL_law 8 rfl
theorem dL_law_976 : decode cL_law 976 = .ok (.pop, 1) := kDec_at dA426_cL_law 9 rfl
theorem dL_law_977 : decode cL_law 977 = .ok (.aload_n 2, 1) := kDec_at dA426_cL_law 10 rfl
theorem dL_law_978 : decode cL_law 978 = .ok (.aload_n 0, 1) := kDec_at dA426_cL_law 11 rfl
theorem dL_law_979 : decode cL_law 979 = .ok (.iload 4, 2) := kDec_at dA426_cL_law 12 rfl
theorem dL_law_981 : decode cL_law 981 = .ok (.iconst 1, 1) := kDec_at dA426_cL_law 13 rfl
theorem dL_law_982 : decode cL_law 982 = .ok (.iadd, 1) := kDec_at dA426_cL_law 14 rfl
theorem dL_law_983 : decode cL_law 983 = .ok (.iaload, 1) := kDec_at dA426_cL_law 15 rfl
theorem dL_law_984 : decode cL_law 984 = .ok (.aload_n 0, 1) := kDec_at dA426_cL_law 16 rfl
theorem dL_law_985 : decode cL_law 985 = .ok (.iload 4, 2) := kDec_at dA426_cL_law 17 rfl
theorem dL_law_987 : decode cL_law 987 = .ok (.iconst 2, 1) := kDec_at dA426_cL_law 18 rfl
theorem dL_law_988 : decode cL_law 988 = .ok (.iadd, 1) := kDec_at dA426_cL_law 19 rfl
theorem dL_law_989 : decode cL_law 989 = .ok (.iaload, 1) := kDec_at dA426_cL_law 20 rfl
theorem dL_law_990 : decode cL_law 990 = .ok (.invokevirtual 129, 3) := kDec_at dA426_cL_law 21 rfl
theorem dL_law_993 : decode cL_law 993 = .ok (.pop, 1) := kDec_at dA426_cL_law 22 rfl
theorem dL_law_994 : decode cL_law 994 = .ok (.goto 28, 3) := kDec_at dA426_cL_law 23 rfl
set_option maxRecDepth 100000 in
theorem dA427_cL_law : kDec cL_law [(997, .aload_n 1, 1), (998, .aload_n 0, 1), (999, .iload 4, 2), (1001, .iconst 1, 1), (1002, .iadd, 1), (1003, .iaload, 1), (1004, .invokevirtual 130, 3), (1007, .pop, 1), (1008, .aload_n 2, 1), (1009, .aload_n 0, 1), (1010, .iload 4, 2), (1012, .iconst 1, 1), (1013, .iadd, 1), (1014, .iaload, 1), (1015, .invokevirtual 133, 3), (1018, .pop, 1), (1019, .goto 3, 3)] = true := by decide +kernel
theorem dL_law_997 : decode cL_law 997 = .ok (.aload_n 1, 1) := kDec_at dA427_cL_law 0 rfl
theorem dL_law_998 : decode cL_law 998 = .ok (.aload_n 0, 1) := kDec_at dA427_cL_law 1 rfl
theorem dL_law_999 : decode cL_law 999 = .ok (.iload 4, 2) := kDec_at dA427_cL_law 2 rfl
theorem dL_law_1001 : decode cL_law 1001 = .ok (.iconst 1, 1) := kDec_at dA427_cL_law 3 rfl
theorem dL_law_1002 : decode cL_law 1002 = .ok (.iadd, 1) := kDec_at dA427_cL_law 4 rfl
theorem dL_law_1003 : decode cL_law 1003 = .ok (.iaload, 1) := kDec_at dA427_cL_law 5 rfl
theorem dL_law_1004 : decode cL_law 1004 = .ok (.invokevirtual 130, 3) := kDec_at dA427_cL_law 6 rfl
theorem dL_law_1007 : decode cL_law 1007 = .ok (.pop, 1) := kDec_at dA427_cL_law 7 rfl
theorem dL_law_1008 : decode cL_law 1008 = .ok (.aload_n 2, 1) := kDec_at dA427_cL_law 8 rfl
theorem dL_law_1009 : decode cL_law 1009 = .ok (.aload_n 0, 1) := kDec_at dA427_cL_law 9 rfl
theorem dL_law_1010 : decode cL_law 1010 = .ok (.iload 4, 2) := kDec_at dA427_cL_law 10 rfl
theorem dL_law_1012 : decode cL_law 1012 = .ok (.iconst 1, 1) := kDec_at dA427_cL_law 11 rfl
theorem dL_law_1013 : decode cL_law 1013 = .ok (.iadd, 1) := kDec_at dA427_cL_law 12 rfl
theorem dL_law_1014 : decode cL_law 1014 = .ok (.iaload, 1) := kDec_at dA427_cL_law 13 rfl
theorem dL_law_1015 : decode cL_law 1015 = .ok (.invokevirtual 133, 3) := kDec_at dA427_cL_law 14 rfl
theorem dL_law_1018 : decode cL_law 1018 = .ok (.pop, 1) := kDec_at dA427_cL_law 15 rfl
theorem dL_law_1019 : decode cL_law 1019 = .ok (.goto 3, 3) := kDec_at dA427_cL_law 16 rfl

end

/-! 69.law -/
section
set_option maxHeartbeats 40000000 in
set_option maxRecDepth 100000 in
theorem law_mend {p : Program} {l : Launch} {e : Env} {s : State} {m : MethodId} {below : List Frame} {meth : Method} {c : Code} {dC : Nat → ClassId} {dI : Nat → Nat → Nat} {cI cS cJ : ClassId} {A : Nat → Prop} {b L : Nat} {xs : Nat → Int32} (C0 : lw_At p s m meth c b L xs) (hAd : A = fun q : Nat => s.heap.size ≤ q) (hK3 : va_K (dC, dI) vwCl [(cI, .int), (cS, .short), (cJ, .long)] s) {oX nT aT nL aL nM aM oC o4 a41 a42 a43 o5 a51 a52 a53 oP nB aB oH h1 h2 oK k1 k2 oG g1 g2 oR n1 a1 n2 a2 n3 a3 r1 r2 r3 r4 r5 r6 oQ oE nq aq np ap nv av q1 q2 q3 q4 oW nw aw o7 o8 o9 w1 w2 w3 w4 w5 w6 w7 oM mT mS mX mL mB mD m1 m2 mR x1 x2 x3 mH mY mE mW mO y1 y2 y3 y4 mZ oJ : Nat} {fa : Int32} {lT : Int32} {lL : Int32} {lM : Int32} {l4 : Int32} {l5 : Int32} {ft : Int32} {lB : Int32} {lH : Int32} {lK : Int32} {gn : Int32} {lG : Int32} {lR : Int32} {l1 : Int32} {l2 : Int32} {l3 : Int32} {pr : Int32} {reE : Int32} {laE : Int32} {suE : Int32} {leE : Int32} {lq : Int32} {lp : Int32} {lv : Int32} {ke : Int32} {tl : Int32} {fsh : Int32} {wi : Int32} {ri : Int32} {fm : Int32} {lm : Int32} {lw : Int32} {re7 : Int32} {la7 : Int32} {su7 : Int32} {le7 : Int32} {re8 : Int32} {la8 : Int32} {su8 : Int32} {le8 : Int32} {re9 : Int32} {la9 : Int32} {su9 : Int32} {le9 : Int32} {zt : Int32} {zp : Int32} {zf : Int32} {zh : Int32} {zr : Int32} {zc : Int32} {zy : Int32} {za : Int32} {zb : Int32} {zs : Int32} {zq : Int32} {zw : Int32} {ze : Int32} {zn : Int32} {zm : Int32} {zl : Int32} {zk : Int32} {zd : Int32} {fT : Nat → Int32} {fL : Nat → Int32} {fM : Nat → Int32} {f41 : Nat → Int32} {f42 : Nat → Int32} {f43 : Nat → Int32} {f51 : Nat → Int32} {f52 : Nat → Int32} {f53 : Nat → Int32} {fB : Nat → Int32} {fH1 : Nat → Int32} {fH2 : Nat → Int32} {fK1 : Nat → Int32} {fK2 : Nat → Int32} {fG1 : Nat → Int32} {fG2 : Nat → Int32} {f1 : Nat → Int32} {f2 : Nat → Int32} {f3 : Nat → Int32} {fR1 : Nat → Int32} {fR2 : Nat → Int32} {fR3 : Nat → Int32} {fR4 : Nat → Int32} {fR5 : Nat → Int32} {fR6 : Nat → Int32} {fq : Nat → Int32} {fp : Nat → Int32} {fv : Nat → Int32} {fQ1 : Nat → Int32} {fQ2 : Nat → Int32} {fQ3 : Nat → Int32} {fQ4 : Nat → Int32} {fw : Nat → Int32} {fW1 : Nat → Int32} {fW2 : Nat → Int32} {fW3 : Nat → Int32} {fW4 : Nat → Int32} {fW5 : Nat → Int32} {fW6 : Nat → Int32} {fW7 : Nat → Int32} {eT : Nat → Int32} {eS : Nat → Int32} {eX : Nat → Int32} {eL : Nat → Int32} {eB : Nat → Int32} {eD : Nat → Int32} {e1 : Nat → Int32} {e2 : Nat → Int32} {eR : Nat → Int32} {ec1 : Nat → Int32} {ec2 : Nat → Int32} {ec3 : Nat → Int32} {eH : Nat → Int32} {eY : Nat → Int32} {eE : Nat → Int32} {eW : Nat → Int32} {eO : Nat → Int32} {er1 : Nat → Int32} {er2 : Nat → Int32} {er3 : Nat → Int32} {er4 : Nat → Int32} {eZ : Nat → Int32} {fJ : Nat → Int64} {H : Heap} {locs : List Loc} {ls : Array Slot} {i : Int32} {nc : Nat} (hn : nc ≤ 511) (hi : 0 ≤ i.toInt ∧ i.toInt + 5 < (L : Int)) (hL : L ≤ 3072) (hI : INV nc lT lL lM l4 l5 lB lH lK gn lG lR l1 l2 l3 lq lp lv ke fsh wi ri fm lm lw zt zp zf zh zr zc zy za zb zs zq zn zm zk fT fL f41 f42 f43 f51 f52 f53 fH1 fH2 fK1 fK2 fG1 fG2 fW4 fW5 fW6 fW7 eT eS eX eL eB eD e1 e2 ec1 ec2 ec3 eH eY eE eW eO eZ) (hP : va_P (dC, dI) vwCl (WLD cI cS cJ oX nT aT nL aL nM aM oC o4 a41 a42 a43 o5 a51 a52 a53 oP nB aB oH h1 h2 oK k1 k2 oG g1 g2 oR n1 a1 n2 a2 n3 a3 r1 r2 r3 r4 r5 r6 oQ oE nq aq np ap nv av q1 q2 q3 q4 oW nw aw o7 o8 o9 w1 w2 w3 w4 w5 w6 w7 oM mT mS mX mL mB mD m1 m2 mR x1 x2 x3 mH mY mE mW mO y1 y2 y3 y4 mZ oJ fa lT lL lM l4 l5 ft lB lH lK gn lG lR l1 l2 l3 pr reE laE suE leE lq lp lv ke tl fsh wi ri fm lm lw re7 la7 su7 le7 re8 la8 su8 le8 re9 la9 su9 le9 zt zp zf zh zr zc zy za zb zs zq zw ze zn zm zl zk zd fT fL fM f41 f42 f43 f51 f52 f53 fB fH1 fH2 fK1 fK2 fG1 fG2 f1 f2 f3 fR1 fR2 fR3 fR4 fR5 fR6 fq fp fv fQ1 fQ2 fQ3 fQ4 fw fW1 fW2 fW3 fW4 fW5 fW6 fW7 eT eS eX eL eB eD e1 e2 eR ec1 ec2 ec3 eH eY eE eW eO er1 er2 er3 er4 eZ fJ) H) (hD : va_D A (WLD cI cS cJ oX nT aT nL aL nM aM oC o4 a41 a42 a43 o5 a51 a52 a53 oP nB aB oH h1 h2 oK k1 k2 oG g1 g2 oR n1 a1 n2 a2 n3 a3 r1 r2 r3 r4 r5 r6 oQ oE nq aq np ap nv av q1 q2 q3 q4 oW nw aw o7 o8 o9 w1 w2 w3 w4 w5 w6 w7 oM mT mS mX mL mB mD m1 m2 mR x1 x2 x3 mH mY mE mW mO y1 y2 y3 y4 mZ oJ fa lT lL lM l4 l5 ft lB lH lK gn lG lR l1 l2 l3 pr reE laE suE leE lq lp lv ke tl fsh wi ri fm lm lw re7 la7 su7 le7 re8 la8 su8 le8 re9 la9 su9 le9 zt zp zf zh zr zc zy za zb zs zq zw ze zn zm zl zk zd fT fL fM f41 f42 f43 f51 f52 f53 fB fH1 fH2 fK1 fK2 fG1 fG2 f1 f2 f3 fR1 fR2 fR3 fR4 fR5 fR6 fq fp fv fQ1 fQ2 fQ3 fQ4 fw fW1 fW2 fW3 fW4 fW5 fW6 fW7 eT eS eX eL eB eD e1 e2 eR ec1 ec2 ec3 eH eY eE eW eO er1 er2 er3 er4 eZ fJ)) (hS : va_S A s.heap H locs) (hl : lv_has ls 7 [(0, .ref b), (1, .ref oX), (2, .ref oM), (3, .ref oJ), (4, .int i)]) (kk : KK p l e s m below meth c dC dI cI cS cJ A b oX nT aT nL aL nM aM oC o4 a41 a42 a43 o5 a51 a52 a53 oP nB aB oH h1 h2 oK k1 k2 oG g1 g2 oR n1 a1 n2 a2 n3 a3 r1 r2 r3 r4 r5 r6 oQ oE nq aq np ap nv av q1 q2 q3 q4 oW nw aw o7 o8 o9 w1 w2 w3 w4 w5 w6 w7 oM mT mS mX mL mB mD m1 m2 mR x1 x2 x3 mH mY mE mW mO y1 y2 y3 y4 mZ oJ i nc) : W p l e room_1 s m #[Value.ref b] below meth c H locs (90 + nc) (172225 + 6 * nc) (lw_Z below #[Value.ref b] s) (F0 m 861 ls []) := by
  refine And.elim (fun hx hBC_0 => ?_) C0
  refine And.elim (fun hb hBC_1 => ?_) hBC_0
  refine And.elim (fun hr hBC_2 => ?_) hBC_1
  refine And.elim (fun hml hBC_3 => ?_) hBC_2
  refine And.elim (fun hown hBC_4 => ?_) hBC_3
  refine And.elim (fun hts0 hBC_5 => ?_) hBC_4
  refine And.elim (fun hX hBC_6 => ?_) hBC_5
  refine And.elim (fun hbl hBC_7 => ?_) hBC_6
  refine And.elim (fun hlocks hBC_8 => ?_) hBC_7
  have hgv := hBC_8
  clear hBC_0 hBC_1 hBC_2 hBC_3 hBC_4 hBC_5 hBC_6 hBC_7 hBC_8
  refine And.elim (fun g_lT hBI_0 => ?_) hI
  refine And.elim (fun g_lL hBI_1 => ?_) hBI_0
  refine And.elim (fun g_lM hBI_2 => ?_) hBI_1
  refine And.elim (fun g_lB hBI_3 => ?_) hBI_2
  refine And.elim (fun g_lH hBI_4 => ?_) hBI_3
  refine And.elim (fun g_lK hBI_5 => ?_) hBI_4
  refine And.elim (fun g_gn hBI_6 => ?_) hBI_5
  refine And.elim (fun g_lG hBI_7 => ?_) hBI_6
  refine And.elim (fun g_lR hBI_8 => ?_) hBI_7
  refine And.elim (fun g_l1 hBI_9 => ?_) hBI_8
  refine And.elim (fun g_l2 hBI_10 => ?_) hBI_9
  refine And.elim (fun g_l3 hBI_11 => ?_) hBI_10
  refine And.elim (fun g_lq hBI_12 => ?_) hBI_11
  refine And.elim (fun g_lp hBI_13 => ?_) hBI_12
  refine And.elim (fun g_lv hBI_14 => ?_) hBI_13
  refine And.elim (fun g_ke hBI_15 => ?_) hBI_14
  refine And.elim (fun g_fsh hBI_16 => ?_) hBI_15
  refine And.elim (fun g_fm hBI_17 => ?_) hBI_16
  refine And.elim (fun g_lm hBI_18 => ?_) hBI_17
  refine And.elim (fun g_lw hBI_19 => ?_) hBI_18
  refine And.elim (fun g_zt hBI_20 => ?_) hBI_19
  refine And.elim (fun g_zp hBI_21 => ?_) hBI_20
  refine And.elim (fun g_zf hBI_22 => ?_) hBI_21
  refine And.elim (fun g_zh hBI_23 => ?_) hBI_22
  refine And.elim (fun g_zr hBI_24 => ?_) hBI_23
  refine And.elim (fun g_zc hBI_25 => ?_) hBI_24
  refine And.elim (fun g_zy hBI_26 => ?_) hBI_25
  refine And.elim (fun g_za hBI_27 => ?_) hBI_26
  refine And.elim (fun g_zb hBI_28 => ?_) hBI_27
  refine And.elim (fun g_zs hBI_29 => ?_) hBI_28
  refine And.elim (fun g_zq hBI_30 => ?_) hBI_29
  refine And.elim (fun g_zn hBI_31 => ?_) hBI_30
  refine And.elim (fun g_zm hBI_32 => ?_) hBI_31
  refine And.elim (fun g_zk hBI_33 => ?_) hBI_32
  refine And.elim (fun g_fG2 hBI_34 => ?_) hBI_33
  refine And.elim (fun g_eS hBI_35 => ?_) hBI_34
  refine And.elim (fun g_eX hBI_36 => ?_) hBI_35
  refine And.elim (fun g_eL hBI_37 => ?_) hBI_36
  refine And.elim (fun g_eB hBI_38 => ?_) hBI_37
  refine And.elim (fun g_e1 hBI_39 => ?_) hBI_38
  refine And.elim (fun g_e2 hBI_40 => ?_) hBI_39
  refine And.elim (fun g_eY hBI_41 => ?_) hBI_40
  refine And.elim (fun g_eE hBI_42 => ?_) hBI_41
  refine And.elim (fun g_eW hBI_43 => ?_) hBI_42
  refine And.elim (fun g_eO hBI_44 => ?_) hBI_43
  refine And.elim (fun g_eZ hBI_45 => ?_) hBI_44
  refine And.elim (fun hzn hBI_46 => ?_) hBI_45
  refine And.elim (fun hrel hBI_47 => ?_) hBI_46
  refine And.elim (fun hrc hBI_48 => ?_) hBI_47
  refine And.elim (fun hr4 hBI_49 => ?_) hBI_48
  refine And.elim (fun hr5 hBI_50 => ?_) hBI_49
  refine And.elim (fun hb4 hBI_51 => ?_) hBI_50
  refine And.elim (fun hb5 hBI_52 => ?_) hBI_51
  refine And.elim (fun hlz hBI_53 => ?_) hBI_52
  refine And.elim (fun hH hBI_54 => ?_) hBI_53
  refine And.elim (fun hHe hBI_55 => ?_) hBI_54
  refine And.elim (fun hKz hBI_56 => ?_) hBI_55
  refine And.elim (fun hT hBI_57 => ?_) hBI_56
  refine And.elim (fun ho hBI_58 => ?_) hBI_57
  refine And.elim (fun hal hBI_59 => ?_) hBI_58
  refine And.elim (fun hCV hBI_60 => ?_) hBI_59
  refine And.elim (fun hVk hBI_61 => ?_) hBI_60
  refine And.elim (fun hVr hBI_62 => ?_) hBI_61
  refine And.elim (fun hTX hBI_63 => ?_) hBI_62
  refine And.elim (fun hCH hBI_64 => ?_) hBI_63
  refine And.elim (fun hvc hBI_65 => ?_) hBI_64
  refine And.elim (fun hfr hBI_66 => ?_) hBI_65
  refine And.elim (fun hfx hBI_67 => ?_) hBI_66
  have hfs := hBI_67
  clear hI hBI_0 hBI_1 hBI_2 hBI_3 hBI_4 hBI_5 hBI_6 hBI_7 hBI_8 hBI_9 hBI_10 hBI_11 hBI_12 hBI_13 hBI_14 hBI_15 hBI_16 hBI_17 hBI_18 hBI_19 hBI_20 hBI_21 hBI_22 hBI_23 hBI_24 hBI_25 hBI_26 hBI_27 hBI_28 hBI_29 hBI_30 hBI_31 hBI_32 hBI_33 hBI_34 hBI_35 hBI_36 hBI_37 hBI_38 hBI_39 hBI_40 hBI_41 hBI_42 hBI_43 hBI_44 hBI_45 hBI_46 hBI_47 hBI_48 hBI_49 hBI_50 hBI_51 hBI_52 hBI_53 hBI_54 hBI_55 hBI_56 hBI_57 hBI_58 hBI_59 hBI_60 hBI_61 hBI_62 hBI_63 hBI_64 hBI_65 hBI_66 hBI_67
  have hK : va_K (dC, dI) vwCl [(cI, .int), (cS, .short)] s := hK3.sub [0, 1] rfl
  have hown : s.vm.findClass RL = some m.cls := hown
  have hts := hts0
  have hcf := k_cf hx hb hml hown hts
  have hi9 : 0 ≤ i.toInt ∧ i.toInt ≤ 3066 := by omega
  have hzs : zs.toInt ≤ 1000000 := by omega
  have hA : ∀ q : Nat, s.heap.size ≤ q → A q := fun q h => by rw [hAd]; exact h
  have hbA : ¬ A b := by rw [hAd]; exact Nat.not_le.mpr hbl
  have hP : va_P (dC, dI) vwCl [(oX, .inr (11, [.ref nT, .ref nL, .ref nM, .ref oC, .ref oP, .ref oH, .ref oK, .ref oG, .ref oR, .ref oQ, .ref oW, .int fa])), (nT, .inr (5, [.ref aT, .int lT])), (aT, .inl (cI, 900, .inl fT)), (nL, .inr (5, [.ref aL, .int lL])), (aL, .inl (cI, 300, .inl fL)), (nM, .inr (5, [.ref aM, .int lM])), (aM, .inl (cI, 300, .inl fM)), (oC, .inr (2, [.ref o4, .ref o5])), (o4, .inr (10, [.ref a41, .ref a42, .ref a43, .int l4])), (a41, .inl (cI, 256, .inl f41)), (a42, .inl (cI, 512, .inl f42)), (a43, .inl (cI, 512, .inl f43)), (o5, .inr (10, [.ref a51, .ref a52, .ref a53, .int l5])), (a51, .inl (cI, 256, .inl f51)), (a52, .inl (cI, 512, .inl f52)), (a53, .inl (cI, 512, .inl f53)), (oP, .inr (7, [.ref oC, .ref nB, .int ft])), (nB, .inr (5, [.ref aB, .int lB])), (aB, .inl (cI, 2400, .inl fB)), (oH, .inr (4, [.ref oP, .ref h1, .ref h2, .int lH])), (h1, .inl (cI, 6, .inl fH1)), (h2, .inl (cI, 6, .inl fH2)), (oK, .inr (3, [.ref k1, .ref k2, .int lK])), (k1, .inl (cI, 1024, .inl fK1)), (k2, .inl (cI, 1024, .inl fK2)), (oG, .inr (0, [.ref g1, .ref g2, .int gn, .int lG])), (g1, .inl (cI, 6000, .inl fG1)), (g2, .inl (cI, 20, .inl fG2)), (oR, .inr (9, [.ref oH, .ref oK, .ref n1, .ref n2, .ref n3, .ref r1, .ref r2, .ref r3, .ref r4, .ref r5, .ref r6, .int lR])), (n1, .inr (5, [.ref a1, .int l1])), (a1, .inl (cI, 300, .inl f1)), (n2, .inr (5, [.ref a2, .int l2])), (a2, .inl (cI, 300, .inl f2)), (n3, .inr (5, [.ref a3, .int l3])), (a3, .inl (cI, 300, .inl f3)), (r1, .inl (cI, 258, .inl fR1)), (r2, .inl (cI, 258, .inl fR2)), (r3, .inl (cI, 774, .inl fR3)), (r4, .inl (cI, 258, .inl fR4)), (r5, .inl (cI, 258, .inl fR5)), (r6, .inl (cI, 774, .inl fR6)), (oQ, .inr (6, [.ref oC, .ref oH, .ref oK, .ref oE, .ref nq, .ref np, .ref nv, .ref q1, .ref q2, .ref q3, .ref q4, .int pr])), (oE, .inr (8, [.ref oC, .ref oK, .int reE, .int laE, .int suE, .int leE])), (nq, .inr (5, [.ref aq, .int lq])), (aq, .inl (cI, 480, .inl fq)), (np, .inr (5, [.ref ap, .int lp])), (ap, .inl (cI, 300, .inl fp)), (nv, .inr (5, [.ref av, .int lv])), (av, .inl (cI, 300, .inl fv)), (q1, .inl (cI, 61, .inl fQ1)), (q2, .inl (cI, 61, .inl fQ2)), (q3, .inl (cI, 61, .inl fQ3)), (q4, .inl (cI, 61, .inl fQ4)), (oW, .inr (1, [.ref oC, .ref oK, .ref nw, .ref w1, .ref w2, .ref w3, .ref o7, .ref o8, .ref o9, .ref w4, .ref w5, .ref w6, .ref w7, .int ke, .int tl, .int fsh, .int wi, .int ri, .int fm, .int lm])), (nw, .inr (5, [.ref aw, .int lw])), (aw, .inl (cI, 800, .inl fw)), (o7, .inr (8, [.ref oC, .ref oK, .int re7, .int la7, .int su7, .int le7])), (o8, .inr (8, [.ref oC, .ref oK, .int re8, .int la8, .int su8, .int le8])), (o9, .inr (8, [.ref oC, .ref oK, .int re9, .int la9, .int su9, .int le9])), (w1, .inl (cI, 801, .inl fW1)), (w2, .inl (cI, 801, .inl fW2)), (w3, .inl (cI, 801, .inl fW3)), (w4, .inl (cI, 200, .inl fW4)), (w5, .inl (cI, 200, .inl fW5)), (w6, .inl (cI, 200, .inl fW6)), (w7, .inl (cI, 200, .inl fW7)), (oM, .inr (12, [.ref mT, .int zt, .ref mS, .ref mX, .int zp, .int zf, .ref mL, .ref mB, .ref mD, .ref m1, .ref m2, .int zh, .ref mR, .int zr, .ref x1, .ref x2, .ref x3, .int zc, .ref mH, .int zy, .int za, .int zb, .int zs, .int zq, .int zw, .int ze, .ref mY, .int zn, .ref mE, .int zm, .int zl, .ref mW, .int zk, .ref mO, .int zd, .ref y1, .ref y2, .ref y3, .ref y4, .ref mZ])), (mT, .inl (cI, 900, .inl eT)), (mS, .inl (cI, 21, .inl eS)), (mX, .inl (cI, 6300, .inl eX)), (mL, .inl (cI, 512, .inl eL)), (mB, .inl (cS, 131072, .inl eB)), (mD, .inl (cI, 2, .inl eD)), (m1, .inl (cI, 6, .inl e1)), (m2, .inl (cI, 6, .inl e2)), (mR, .inl (cI, 1548, .inl eR)), (x1, .inl (cI, 300, .inl ec1)), (x2, .inl (cI, 300, .inl ec2)), (x3, .inl (cI, 300, .inl ec3)), (mH, .inl (cI, 800, .inl eH)), (mY, .inl (cI, 2600, .inl eY)), (mE, .inl (cI, 2600, .inl eE)), (mW, .inl (cI, 300, .inl eW)), (mO, .inl (cI, 300, .inl eO)), (y1, .inl (cI, 61, .inl er1)), (y2, .inl (cI, 61, .inl er2)), (y3, .inl (cI, 61, .inl er3)), (y4, .inl (cI, 61, .inl er4)), (mZ, .inl (cI, 600, .inl eZ)), (oJ, .inl (cJ, 1, .inr (.inl fJ)))] H := hP
  have hD : va_D A [(oX, .inr (11, [.ref nT, .ref nL, .ref nM, .ref oC, .ref oP, .ref oH, .ref oK, .ref oG, .ref oR, .ref oQ, .ref oW, .int fa])), (nT, .inr (5, [.ref aT, .int lT])), (aT, .inl (cI, 900, .inl fT)), (nL, .inr (5, [.ref aL, .int lL])), (aL, .inl (cI, 300, .inl fL)), (nM, .inr (5, [.ref aM, .int lM])), (aM, .inl (cI, 300, .inl fM)), (oC, .inr (2, [.ref o4, .ref o5])), (o4, .inr (10, [.ref a41, .ref a42, .ref a43, .int l4])), (a41, .inl (cI, 256, .inl f41)), (a42, .inl (cI, 512, .inl f42)), (a43, .inl (cI, 512, .inl f43)), (o5, .inr (10, [.ref a51, .ref a52, .ref a53, .int l5])), (a51, .inl (cI, 256, .inl f51)), (a52, .inl (cI, 512, .inl f52)), (a53, .inl (cI, 512, .inl f53)), (oP, .inr (7, [.ref oC, .ref nB, .int ft])), (nB, .inr (5, [.ref aB, .int lB])), (aB, .inl (cI, 2400, .inl fB)), (oH, .inr (4, [.ref oP, .ref h1, .ref h2, .int lH])), (h1, .inl (cI, 6, .inl fH1)), (h2, .inl (cI, 6, .inl fH2)), (oK, .inr (3, [.ref k1, .ref k2, .int lK])), (k1, .inl (cI, 1024, .inl fK1)), (k2, .inl (cI, 1024, .inl fK2)), (oG, .inr (0, [.ref g1, .ref g2, .int gn, .int lG])), (g1, .inl (cI, 6000, .inl fG1)), (g2, .inl (cI, 20, .inl fG2)), (oR, .inr (9, [.ref oH, .ref oK, .ref n1, .ref n2, .ref n3, .ref r1, .ref r2, .ref r3, .ref r4, .ref r5, .ref r6, .int lR])), (n1, .inr (5, [.ref a1, .int l1])), (a1, .inl (cI, 300, .inl f1)), (n2, .inr (5, [.ref a2, .int l2])), (a2, .inl (cI, 300, .inl f2)), (n3, .inr (5, [.ref a3, .int l3])), (a3, .inl (cI, 300, .inl f3)), (r1, .inl (cI, 258, .inl fR1)), (r2, .inl (cI, 258, .inl fR2)), (r3, .inl (cI, 774, .inl fR3)), (r4, .inl (cI, 258, .inl fR4)), (r5, .inl (cI, 258, .inl fR5)), (r6, .inl (cI, 774, .inl fR6)), (oQ, .inr (6, [.ref oC, .ref oH, .ref oK, .ref oE, .ref nq, .ref np, .ref nv, .ref q1, .ref q2, .ref q3, .ref q4, .int pr])), (oE, .inr (8, [.ref oC, .ref oK, .int reE, .int laE, .int suE, .int leE])), (nq, .inr (5, [.ref aq, .int lq])), (aq, .inl (cI, 480, .inl fq)), (np, .inr (5, [.ref ap, .int lp])), (ap, .inl (cI, 300, .inl fp)), (nv, .inr (5, [.ref av, .int lv])), (av, .inl (cI, 300, .inl fv)), (q1, .inl (cI, 61, .inl fQ1)), (q2, .inl (cI, 61, .inl fQ2)), (q3, .inl (cI, 61, .inl fQ3)), (q4, .inl (cI, 61, .inl fQ4)), (oW, .inr (1, [.ref oC, .ref oK, .ref nw, .ref w1, .ref w2, .ref w3, .ref o7, .ref o8, .ref o9, .ref w4, .ref w5, .ref w6, .ref w7, .int ke, .int tl, .int fsh, .int wi, .int ri, .int fm, .int lm])), (nw, .inr (5, [.ref aw, .int lw])), (aw, .inl (cI, 800, .inl fw)), (o7, .inr (8, [.ref oC, .ref oK, .int re7, .int la7, .int su7, .int le7])), (o8, .inr (8, [.ref oC, .ref oK, .int re8, .int la8, .int su8, .int le8])), (o9, .inr (8, [.ref oC, .ref oK, .int re9, .int la9, .int su9, .int le9])), (w1, .inl (cI, 801, .inl fW1)), (w2, .inl (cI, 801, .inl fW2)), (w3, .inl (cI, 801, .inl fW3)), (w4, .inl (cI, 200, .inl fW4)), (w5, .inl (cI, 200, .inl fW5)), (w6, .inl (cI, 200, .inl fW6)), (w7, .inl (cI, 200, .inl fW7)), (oM, .inr (12, [.ref mT, .int zt, .ref mS, .ref mX, .int zp, .int zf, .ref mL, .ref mB, .ref mD, .ref m1, .ref m2, .int zh, .ref mR, .int zr, .ref x1, .ref x2, .ref x3, .int zc, .ref mH, .int zy, .int za, .int zb, .int zs, .int zq, .int zw, .int ze, .ref mY, .int zn, .ref mE, .int zm, .int zl, .ref mW, .int zk, .ref mO, .int zd, .ref y1, .ref y2, .ref y3, .ref y4, .ref mZ])), (mT, .inl (cI, 900, .inl eT)), (mS, .inl (cI, 21, .inl eS)), (mX, .inl (cI, 6300, .inl eX)), (mL, .inl (cI, 512, .inl eL)), (mB, .inl (cS, 131072, .inl eB)), (mD, .inl (cI, 2, .inl eD)), (m1, .inl (cI, 6, .inl e1)), (m2, .inl (cI, 6, .inl e2)), (mR, .inl (cI, 1548, .inl eR)), (x1, .inl (cI, 300, .inl ec1)), (x2, .inl (cI, 300, .inl ec2)), (x3, .inl (cI, 300, .inl ec3)), (mH, .inl (cI, 800, .inl eH)), (mY, .inl (cI, 2600, .inl eY)), (mE, .inl (cI, 2600, .inl eE)), (mW, .inl (cI, 300, .inl eW)), (mO, .inl (cI, 300, .inl eO)), (y1, .inl (cI, 61, .inl er1)), (y2, .inl (cI, 61, .inl er2)), (y3, .inl (cI, 61, .inl er3)), (y4, .inl (cI, 61, .inl er4)), (mZ, .inl (cI, 600, .inl eZ)), (oJ, .inl (cJ, 1, .inr (.inl fJ)))] := hD
  have hN52 : va_Nw (.methodLinkNest RX2 52 yX11_isLetter "TextMender") s := va_Nw.of rfl (hts0 _ q_3_4)
  replace g_lT := hid g_lT
  replace g_lM := hid g_lM
  replace g_lB := hid g_lB
  replace g_lR := hid g_lR
  replace g_l1 := hid g_l1
  replace g_l2 := hid g_l2
  replace g_l3 := hid g_l3
  replace g_lq := hid g_lq
  replace g_lp := hid g_lp
  replace g_lv := hid g_lv
  replace g_fm := hid g_fm
  replace g_lm := hid g_lm
  replace g_lw := hid g_lw
  replace g_zt := hid g_zt
  replace g_zr := hid g_zr
  replace g_zn := hid g_zn
  replace g_zm := hid g_zm
  replace g_zk := hid g_zk
  refine lv_aload_n hx hb dL_law_861 rfl (lv_at hl 1 rfl) ?_
  refine lv_aload_n hx hb dL_law_862 rfl (lv_at hl 0 rfl) ?_
  refine lv_iload hx hb dL_law_863 (lv_at hl 4 rfl) ?_
  refine lv_iconst (v := 1) hx hb dL_law_865 (by decide) ?_
  refine lv_iadd hx hb dL_law_866 ?_
  refine lv_topi (fun x_1 ex_1 => ?_)
  have tx_1 : x_1.toInt = i.toInt + 1 := v_addR (l2 := 1) (h2 := 1) ex_1 hi9 (by decide) (by decide) (by decide)
  refine va_sld hx hb hX hbl hbA hS (v_in (v_sld5 tx_1 hi (by decide))) dL_law_867 ?_
  refine lv_topi (fun x_2 ex_2 => ?_)
  refine lv_aload_n hx hb dL_law_868 rfl (lv_at hl 0 rfl) ?_
  refine lv_iload hx hb dL_law_869 (lv_at hl 4 rfl) ?_
  refine lv_iconst (v := 2) hx hb dL_law_871 (by decide) ?_
  refine lv_iadd hx hb dL_law_872 ?_
  refine lv_topi (fun x_3 ex_3 => ?_)
  have tx_3 : x_3.toInt = i.toInt + 2 := v_addR (l2 := 2) (h2 := 2) ex_3 hi9 (by decide) (by decide) (by decide)
  refine va_sld hx hb hX hbl hbA hS (v_in (v_sld5 tx_3 hi (by decide))) dL_law_873 ?_
  refine lv_topi (fun x_4 ex_4 => ?_)
  refine kV_i (rest := []) (q0 := 0) (ci := 11) hcf (f_X11_mend l dC dI cI cS H.size oX nT nL nM oC oP oH oK oG oR oQ oW n1 n2 n3 r1 r2 r3 r4 r5 r6 a1 a2 a3 h1 h2 nB aB o4 o5 a41 a42 a43 a51 a52 a53 k1 k2 aL aM g1 g2 nw w1 w2 w3 o7 o8 o9 w4 w5 w6 w7 fa lR fR1 fR2 fR3 l1 f1 l2 f2 l3 f3 lH fH1 fH2 ft lB fB l4 f41 f42 f43 l5 f51 f52 f53 lK fK1 fK2 lL fL lM fM gn lG fG1 fG2 ke tl fsh wi ri fm lm x_2 x_4 (g_lR) (g_l1) (g_l2) (g_l3) (g_lH) (g_lB) (g_lK) (g_lL) (g_lM) (g_gn) (g_lG) (g_fG2) (g_ke) (g_fsh) (g_fm) (g_lm) (TX_p hTX) (hr4.1) (occ_511 hr4.2.1) (hr5.1) (occ_511 hr5.2.1) (TR_r hr4 g_eL) (TR_r hr5 g_eL) (okB_cl hr4 hr5 g_eB) (hT) (ho) (hVk)) kc_X11_mend gL_law_X11_mend rfl rfl rfl ⟨Nat.le_of_ble_eq_true rfl, Nat.le_of_ble_eq_true rfl⟩ (kX_1 hN52) hK hP hD hS hA ([0, 26, 33, 34, 35, 27, 28, 29, 30, 31, 32, 17, 18, 19, 14, 15, 16, 5, 6, 7, 8, 9, 10, 11, 12, 13, 20, 21, 22, 1, 2, 3, 4, 23, 24, 25, 36].filterMap (fun j => (posT mk_37 0)[j]?)) (posF mk_37 0) (kCp (ws := [(oX, .inr (11, [.ref nT, .ref nL, .ref nM, .ref oC, .ref oP, .ref oH, .ref oK, .ref oG, .ref oR, .ref oQ, .ref oW, .int fa])), (nL, .inr (5, [.ref aL, .int lL])), (aL, .inl (cI, 300, .inl fL)), (nM, .inr (5, [.ref aM, .int lM])), (aM, .inl (cI, 300, .inl fM)), (oC, .inr (2, [.ref o4, .ref o5])), (o4, .inr (10, [.ref a41, .ref a42, .ref a43, .int l4])), (a41, .inl (cI, 256, .inl f41)), (a42, .inl (cI, 512, .inl f42)), (a43, .inl (cI, 512, .inl f43)), (o5, .inr (10, [.ref a51, .ref a52, .ref a53, .int l5])), (a51, .inl (cI, 256, .inl f51)), (a52, .inl (cI, 512, .inl f52)), (a53, .inl (cI, 512, .inl f53)), (oP, .inr (7, [.ref oC, .ref nB, .int ft])), (nB, .inr (5, [.ref aB, .int lB])), (aB, .inl (cI, 2400, .inl fB)), (oH, .inr (4, [.ref oP, .ref h1, .ref h2, .int lH])), (h1, .inl (cI, 6, .inl fH1)), (h2, .inl (cI, 6, .inl fH2)), (oK, .inr (3, [.ref k1, .ref k2, .int lK])), (k1, .inl (cI, 1024, .inl fK1)), (k2, .inl (cI, 1024, .inl fK2)), (oG, .inr (0, [.ref g1, .ref g2, .int gn, .int lG])), (g1, .inl (cI, 6000, .inl fG1)), (g2, .inl (cI, 20, .inl fG2)), (oR, .inr (9, [.ref oH, .ref oK, .ref n1, .ref n2, .ref n3, .ref r1, .ref r2, .ref r3, .ref r4, .ref r5, .ref r6, .int lR])), (n1, .inr (5, [.ref a1, .int l1])), (a1, .inl (cI, 300, .inl f1)), (n2, .inr (5, [.ref a2, .int l2])), (a2, .inl (cI, 300, .inl f2)), (n3, .inr (5, [.ref a3, .int l3])), (a3, .inl (cI, 300, .inl f3)), (r1, .inl (cI, 258, .inl fR1)), (r2, .inl (cI, 258, .inl fR2)), (r3, .inl (cI, 774, .inl fR3)), (oW, .inr (1, [.ref oC, .ref oK, .ref nw, .ref w1, .ref w2, .ref w3, .ref o7, .ref o8, .ref o9, .ref w4, .ref w5, .ref w6, .ref w7, .int ke, .int tl, .int fsh, .int wi, .int ri, .int fm, .int lm]))]) (kC_of mk_37 rfl rfl) rfl) (by decide +kernel) rfl rfl rfl hl rfl (Nat.le_of_ble_eq_true rfl) dL_law_874 ⟨kfit1 hn (Nat.le_of_ble_eq_true rfl), ksix1 hn (Nat.le_of_ble_eq_true rfl)⟩ (fun r_5 H locs hB hJ hSn => ?_)
  refine Exists.elim hB (fun fa_5 hB5_0 => ?_)
  refine Exists.elim hB5_0 (fun ft_5 hB5_1 => ?_)
  refine Exists.elim hB5_1 (fun lB_5 hB5_2 => ?_)
  refine Exists.elim hB5_2 (fun fB_5 hB5_3 => ?_)
  refine Exists.elim hB5_3 (fun l1_5 hB5_4 => ?_)
  refine Exists.elim hB5_4 (fun f1_5 hB5_5 => ?_)
  refine Exists.elim hB5_5 (fun l2_5 hB5_6 => ?_)
  refine Exists.elim hB5_6 (fun f2_5 hB5_7 => ?_)
  refine Exists.elim hB5_7 (fun l3_5 hB5_8 => ?_)
  refine Exists.elim hB5_8 (fun f3_5 hB5_9 => ?_)
  refine Exists.elim hB5_9 (fun fR1_5 hB5_10 => ?_)
  refine Exists.elim hB5_10 (fun fR2_5 hB5_11 => ?_)
  refine Exists.elim hB5_11 (fun fR3_5 hB5_12 => ?_)
  refine Exists.elim hB5_12 (fun lM_5 hB5_13 => ?_)
  refine Exists.elim hB5_13 (fun fM_5 hB5_14 => ?_)
  refine Exists.elim hB5_14 (fun lL_5 hB5_15 => ?_)
  refine Exists.elim hB5_15 (fun fL_5 hB5_16 => ?_)
  refine Exists.elim hB5_16 (fun fsh_5 hB5_17 => ?_)
  refine Exists.elim hB5_17 (fun gn_5 hB5_18 => ?_)
  refine Exists.elim hB5_18 (fun lG_5 hB5_19 => ?_)
  refine Exists.elim hB5_19 (fun fG1_5 hB5_20 => ?_)
  refine Exists.elim hB5_20 (fun fG2_5 hB5_21 => ?_)
  refine And.elim (fun hPD9 hB5_22 => ?_) hB5_21
  refine And.elim (fun hf5_0 hB5_23 => ?_) hB5_22
  refine And.elim (fun hf5_1 hB5_24 => ?_) hB5_23
  refine And.elim (fun hf5_2 hB5_25 => ?_) hB5_24
  refine And.elim (fun hf5_3 hB5_26 => ?_) hB5_25
  refine And.elim (fun hf5_4 hB5_27 => ?_) hB5_26
  refine And.elim (fun hf5_5 hB5_28 => ?_) hB5_27
  refine And.elim (fun hf5_6 hB5_29 => ?_) hB5_28
  refine And.elim (fun hf5_7 hB5_30 => ?_) hB5_29
  refine And.elim (fun hf5_8 hB5_31 => ?_) hB5_30
  refine And.elim (fun hf5_9 hB5_32 => ?_) hB5_31
  refine And.elim (fun hf5_10 hB5_33 => ?_) hB5_32
  have hf5_11 := hB5_33
  clear hB hB5_0 hB5_1 hB5_2 hB5_3 hB5_4 hB5_5 hB5_6 hB5_7 hB5_8 hB5_9 hB5_10 hB5_11 hB5_12 hB5_13 hB5_14 hB5_15 hB5_16 hB5_17 hB5_18 hB5_19 hB5_20 hB5_21 hB5_22 hB5_23 hB5_24 hB5_25 hB5_26 hB5_27 hB5_28 hB5_29 hB5_30 hB5_31 hB5_32 hB5_33
  obtain ⟨hPn, hDn⟩ := kJm (m := mk_37) hJ rfl hPD9.1 hPD9.2 [0, 29, 30, 31, 32, 17, 18, 19, 20, 21, 22, 23, 24, 25, 14, 15, 16, 11, 12, 13, 26, 27, 28, 33, 34, 35, 1, 5, 6, 7, 8, 9, 10, 2, 3, 4, 36] (by decide +kernel) (ws := [(oX, .inr (11, [.ref nT, .ref nL, .ref nM, .ref oC, .ref oP, .ref oH, .ref oK, .ref oG, .ref oR, .ref oQ, .ref oW, .int fa_5])), (nL, .inr (5, [.ref aL, .int lL_5])), (aL, .inl (cI, 300, .inl fL_5)), (nM, .inr (5, [.ref aM, .int lM_5])), (aM, .inl (cI, 300, .inl fM_5)), (oC, .inr (2, [.ref o4, .ref o5])), (o4, .inr (10, [.ref a41, .ref a42, .ref a43, .int l4])), (a41, .inl (cI, 256, .inl f41)), (a42, .inl (cI, 512, .inl f42)), (a43, .inl (cI, 512, .inl f43)), (o5, .inr (10, [.ref a51, .ref a52, .ref a53, .int l5])), (a51, .inl (cI, 256, .inl f51)), (a52, .inl (cI, 512, .inl f52)), (a53, .inl (cI, 512, .inl f53)), (oP, .inr (7, [.ref oC, .ref nB, .int ft_5])), (nB, .inr (5, [.ref aB, .int lB_5])), (aB, .inl (cI, 2400, .inl fB_5)), (oH, .inr (4, [.ref oP, .ref h1, .ref h2, .int lH])), (h1, .inl (cI, 6, .inl fH1)), (h2, .inl (cI, 6, .inl fH2)), (oK, .inr (3, [.ref k1, .ref k2, .int lK])), (k1, .inl (cI, 1024, .inl fK1)), (k2, .inl (cI, 1024, .inl fK2)), (oG, .inr (0, [.ref g1, .ref g2, .int gn_5, .int lG_5])), (g1, .inl (cI, 6000, .inl fG1_5)), (g2, .inl (cI, 20, .inl fG2_5)), (oR, .inr (9, [.ref oH, .ref oK, .ref n1, .ref n2, .ref n3, .ref r1, .ref r2, .ref r3, .ref r4, .ref r5, .ref r6, .int lR])), (n1, .inr (5, [.ref a1, .int l1_5])), (a1, .inl (cI, 300, .inl f1_5)), (n2, .inr (5, [.ref a2, .int l2_5])), (a2, .inl (cI, 300, .inl f2_5)), (n3, .inr (5, [.ref a3, .int l3_5])), (a3, .inl (cI, 300, .inl f3_5)), (r1, .inl (cI, 258, .inl fR1_5)), (r2, .inl (cI, 258, .inl fR2_5)), (r3, .inl (cI, 774, .inl fR3_5)), (oW, .inr (1, [.ref oC, .ref oK, .ref nw, .ref w1, .ref w2, .ref w3, .ref o7, .ref o8, .ref o9, .ref w4, .ref w5, .ref w6, .ref w7, .int ke, .int tl, .int fsh_5, .int wi, .int ri, .int fm, .int lm]))]) rfl (wn := [(oX, .inr (11, [.ref nT, .ref nL, .ref nM, .ref oC, .ref oP, .ref oH, .ref oK, .ref oG, .ref oR, .ref oQ, .ref oW, .int fa_5])), (nT, .inr (5, [.ref aT, .int lT])), (aT, .inl (cI, 900, .inl fT)), (nL, .inr (5, [.ref aL, .int lL_5])), (aL, .inl (cI, 300, .inl fL_5)), (nM, .inr (5, [.ref aM, .int lM_5])), (aM, .inl (cI, 300, .inl fM_5)), (oC, .inr (2, [.ref o4, .ref o5])), (o4, .inr (10, [.ref a41, .ref a42, .ref a43, .int l4])), (a41, .inl (cI, 256, .inl f41)), (a42, .inl (cI, 512, .inl f42)), (a43, .inl (cI, 512, .inl f43)), (o5, .inr (10, [.ref a51, .ref a52, .ref a53, .int l5])), (a51, .inl (cI, 256, .inl f51)), (a52, .inl (cI, 512, .inl f52)), (a53, .inl (cI, 512, .inl f53)), (oP, .inr (7, [.ref oC, .ref nB, .int ft_5])), (nB, .inr (5, [.ref aB, .int lB_5])), (aB, .inl (cI, 2400, .inl fB_5)), (oH, .inr (4, [.ref oP, .ref h1, .ref h2, .int lH])), (h1, .inl (cI, 6, .inl fH1)), (h2, .inl (cI, 6, .inl fH2)), (oK, .inr (3, [.ref k1, .ref k2, .int lK])), (k1, .inl (cI, 1024, .inl fK1)), (k2, .inl (cI, 1024, .inl fK2)), (oG, .inr (0, [.ref g1, .ref g2, .int gn_5, .int lG_5])), (g1, .inl (cI, 6000, .inl fG1_5)), (g2, .inl (cI, 20, .inl fG2_5)), (oR, .inr (9, [.ref oH, .ref oK, .ref n1, .ref n2, .ref n3, .ref r1, .ref r2, .ref r3, .ref r4, .ref r5, .ref r6, .int lR])), (n1, .inr (5, [.ref a1, .int l1_5])), (a1, .inl (cI, 300, .inl f1_5)), (n2, .inr (5, [.ref a2, .int l2_5])), (a2, .inl (cI, 300, .inl f2_5)), (n3, .inr (5, [.ref a3, .int l3_5])), (a3, .inl (cI, 300, .inl f3_5)), (r1, .inl (cI, 258, .inl fR1_5)), (r2, .inl (cI, 258, .inl fR2_5)), (r3, .inl (cI, 774, .inl fR3_5)), (r4, .inl (cI, 258, .inl fR4)), (r5, .inl (cI, 258, .inl fR5)), (r6, .inl (cI, 774, .inl fR6)), (oQ, .inr (6, [.ref oC, .ref oH, .ref oK, .ref oE, .ref nq, .ref np, .ref nv, .ref q1, .ref q2, .ref q3, .ref q4, .int pr])), (oE, .inr (8, [.ref oC, .ref oK, .int reE, .int laE, .int suE, .int leE])), (nq, .inr (5, [.ref aq, .int lq])), (aq, .inl (cI, 480, .inl fq)), (np, .inr (5, [.ref ap, .int lp])), (ap, .inl (cI, 300, .inl fp)), (nv, .inr (5, [.ref av, .int lv])), (av, .inl (cI, 300, .inl fv)), (q1, .inl (cI, 61, .inl fQ1)), (q2, .inl (cI, 61, .inl fQ2)), (q3, .inl (cI, 61, .inl fQ3)), (q4, .inl (cI, 61, .inl fQ4)), (oW, .inr (1, [.ref oC, .ref oK, .ref nw, .ref w1, .ref w2, .ref w3, .ref o7, .ref o8, .ref o9, .ref w4, .ref w5, .ref w6, .ref w7, .int ke, .int tl, .int fsh_5, .int wi, .int ri, .int fm, .int lm])), (nw, .inr (5, [.ref aw, .int lw])), (aw, .inl (cI, 800, .inl fw)), (o7, .inr (8, [.ref oC, .ref oK, .int re7, .int la7, .int su7, .int le7])), (o8, .inr (8, [.ref oC, .ref oK, .int re8, .int la8, .int su8, .int le8])), (o9, .inr (8, [.ref oC, .ref oK, .int re9, .int la9, .int su9, .int le9])), (w1, .inl (cI, 801, .inl fW1)), (w2, .inl (cI, 801, .inl fW2)), (w3, .inl (cI, 801, .inl fW3)), (w4, .inl (cI, 200, .inl fW4)), (w5, .inl (cI, 200, .inl fW5)), (w6, .inl (cI, 200, .inl fW6)), (w7, .inl (cI, 200, .inl fW7)), (oM, .inr (12, [.ref mT, .int zt, .ref mS, .ref mX, .int zp, .int zf, .ref mL, .ref mB, .ref mD, .ref m1, .ref m2, .int zh, .ref mR, .int zr, .ref x1, .ref x2, .ref x3, .int zc, .ref mH, .int zy, .int za, .int zb, .int zs, .int zq, .int zw, .int ze, .ref mY, .int zn, .ref mE, .int zm, .int zl, .ref mW, .int zk, .ref mO, .int zd, .ref y1, .ref y2, .ref y3, .ref y4, .ref mZ])), (mT, .inl (cI, 900, .inl eT)), (mS, .inl (cI, 21, .inl eS)), (mX, .inl (cI, 6300, .inl eX)), (mL, .inl (cI, 512, .inl eL)), (mB, .inl (cS, 131072, .inl eB)), (mD, .inl (cI, 2, .inl eD)), (m1, .inl (cI, 6, .inl e1)), (m2, .inl (cI, 6, .inl e2)), (mR, .inl (cI, 1548, .inl eR)), (x1, .inl (cI, 300, .inl ec1)), (x2, .inl (cI, 300, .inl ec2)), (x3, .inl (cI, 300, .inl ec3)), (mH, .inl (cI, 800, .inl eH)), (mY, .inl (cI, 2600, .inl eY)), (mE, .inl (cI, 2600, .inl eE)), (mW, .inl (cI, 300, .inl eW)), (mO, .inl (cI, 300, .inl eO)), (y1, .inl (cI, 61, .inl er1)), (y2, .inl (cI, 61, .inl er2)), (y3, .inl (cI, 61, .inl er3)), (y4, .inl (cI, 61, .inl er4)), (mZ, .inl (cI, 600, .inl eZ)), (oJ, .inl (cJ, 1, .inr (.inl fJ)))]) rfl
  clear hP hD hS hJ hPD9
  have hP := hPn
  have hD := hDn
  have hS := hSn
  clear hPn hDn hSn
  refine lv_aload_n hx hb dL_law_877 rfl (lv_at hl 2 rfl) ?_
  refine lv_aload_n hx hb dL_law_878 rfl (lv_at hl 0 rfl) ?_
  refine lv_iload hx hb dL_law_879 (lv_at hl 4 rfl) ?_
  refine lv_iconst (v := 1) hx hb dL_law_881 (by decide) ?_
  refine lv_iadd hx hb dL_law_882 ?_
  refine lv_topi (fun x_6 ex_6 => ?_)
  have tx_6 : x_6.toInt = i.toInt + 1 := v_addR (l2 := 1) (h2 := 1) ex_6 hi9 (by decide) (by decide) (by decide)
  refine va_sld hx hb hX hbl hbA hS (v_in (v_sld5 tx_6 hi (by decide))) dL_law_883 ?_
  refine lv_topi (fun x_7 ex_7 => ?_)
  have es_7 : x_7 = x_2 := by rw [ex_7, ex_2, ex_6, ex_1]
  rw [es_7]
  refine lv_aload_n hx hb dL_law_884 rfl (lv_at hl 0 rfl) ?_
  refine lv_iload hx hb dL_law_885 (lv_at hl 4 rfl) ?_
  refine lv_iconst (v := 2) hx hb dL_law_887 (by decide) ?_
  refine lv_iadd hx hb dL_law_888 ?_
  refine lv_topi (fun x_8 ex_8 => ?_)
  have tx_8 : x_8.toInt = i.toInt + 2 := v_addR (l2 := 2) (h2 := 2) ex_8 hi9 (by decide) (by decide) (by decide)
  refine va_sld hx hb hX hbl hbA hS (v_in (v_sld5 tx_8 hi (by decide))) dL_law_889 ?_
  refine lv_topi (fun x_9 ex_9 => ?_)
  have es_9 : x_9 = x_4 := by rw [ex_9, ex_4, ex_8, ex_3]
  rw [es_9]
  refine kV_i (rest := [.int r_5]) (q0 := 0) (ci := 12) hcf (f_X12_mend l dC dI cI cS H.size oM mT mS mX mL mB mD m1 m2 mR x1 x2 x3 mH mY mE mW mO y1 y2 y3 y4 mZ zt zp zf zh zr zc zy za zb zs zq zw ze zn zm zl zk zd eY eB eL eE eW eO eS eX e1 e2 ec1 ec2 ec3 x_2 x_4 (g_zt) (g_zp) (g_zf) (g_zh) (g_zr) (g_zc) (g_zy) (g_za) (g_zb) (g_zs) (g_zq) (g_zn) (g_zm) (g_zk) (g_eY) (g_eB) (g_eL) (g_eE) (g_eW) (g_eO) (g_eS) (g_eX) (g_e1) (g_e2) (TX_l hTX) (LBr_of hb4 hb5) (hlz) (hVr) (by omega)) kc_X12_mend gL_law_X12_mend rfl rfl rfl ⟨Nat.le_of_ble_eq_true rfl, Nat.le_of_ble_eq_true rfl⟩ kX_t hK hP hD hS hA ([0, 10, 4, 3, 11, 12, 13, 1, 2, 5, 6, 7, 8, 9].filterMap (fun j => (posT mk_38 0)[j]?)) (posF mk_38 0) (kCp (ws := [(oM, .inr (12, [.ref mT, .int zt, .ref mS, .ref mX, .int zp, .int zf, .ref mL, .ref mB, .ref mD, .ref m1, .ref m2, .int zh, .ref mR, .int zr, .ref x1, .ref x2, .ref x3, .int zc, .ref mH, .int zy, .int za, .int zb, .int zs, .int zq, .int zw, .int ze, .ref mY, .int zn, .ref mE, .int zm, .int zl, .ref mW, .int zk, .ref mO, .int zd, .ref y1, .ref y2, .ref y3, .ref y4, .ref mZ])), (mS, .inl (cI, 21, .inl eS)), (mX, .inl (cI, 6300, .inl eX)), (mL, .inl (cI, 512, .inl eL)), (mB, .inl (cS, 131072, .inl eB)), (m1, .inl (cI, 6, .inl e1)), (m2, .inl (cI, 6, .inl e2)), (x1, .inl (cI, 300, .inl ec1)), (x2, .inl (cI, 300, .inl ec2)), (x3, .inl (cI, 300, .inl ec3)), (mY, .inl (cI, 2600, .inl eY)), (mE, .inl (cI, 2600, .inl eE)), (mW, .inl (cI, 300, .inl eW)), (mO, .inl (cI, 300, .inl eO))]) (kC_of mk_38 rfl rfl) rfl) (by decide +kernel) rfl rfl rfl hl rfl (Nat.le_of_ble_eq_true rfl) dL_law_890 ⟨kfit2 hn (Nat.le_of_ble_eq_true rfl), ksix2 hn (Nat.le_of_ble_eq_true rfl)⟩ (fun r_10 H locs hB hJ hSn => ?_)
  refine Exists.elim hB (fun ze_10 hB10_0 => ?_)
  refine Exists.elim hB10_0 (fun zw_10 hB10_1 => ?_)
  refine Exists.elim hB10_1 (fun zn_10 hB10_2 => ?_)
  refine Exists.elim hB10_2 (fun eY_10 hB10_3 => ?_)
  refine Exists.elim hB10_3 (fun zd_10 hB10_4 => ?_)
  refine Exists.elim hB10_4 (fun zm_10 hB10_5 => ?_)
  refine Exists.elim hB10_5 (fun zl_10 hB10_6 => ?_)
  refine Exists.elim hB10_6 (fun eE_10 hB10_7 => ?_)
  refine Exists.elim hB10_7 (fun zk_10 hB10_8 => ?_)
  refine Exists.elim hB10_8 (fun eW_10 hB10_9 => ?_)
  refine Exists.elim hB10_9 (fun eO_10 hB10_10 => ?_)
  refine Exists.elim hB10_10 (fun zp_10 hB10_11 => ?_)
  refine Exists.elim hB10_11 (fun zf_10 hB10_12 => ?_)
  refine Exists.elim hB10_12 (fun zs_10 hB10_13 => ?_)
  refine Exists.elim hB10_13 (fun eS_10 hB10_14 => ?_)
  refine Exists.elim hB10_14 (fun eX_10 hB10_15 => ?_)
  refine And.elim (fun hPD9 hB10_16 => ?_) hB10_15
  refine And.elim (fun hf10_0 hB10_17 => ?_) hB10_16
  refine And.elim (fun hf10_1 hB10_18 => ?_) hB10_17
  refine And.elim (fun hf10_2 hB10_19 => ?_) hB10_18
  refine And.elim (fun hf10_3 hB10_20 => ?_) hB10_19
  refine And.elim (fun hf10_4 hB10_21 => ?_) hB10_20
  refine And.elim (fun hf10_5 hB10_22 => ?_) hB10_21
  refine And.elim (fun hf10_6 hB10_23 => ?_) hB10_22
  refine And.elim (fun hf10_7 hB10_24 => ?_) hB10_23
  refine And.elim (fun hf10_8 hB10_25 => ?_) hB10_24
  refine And.elim (fun hf10_9 hB10_26 => ?_) hB10_25
  refine And.elim (fun hf10_10 hB10_27 => ?_) hB10_26
  refine And.elim (fun hf10_11 hB10_28 => ?_) hB10_27
  refine And.elim (fun hf10_12 hB10_29 => ?_) hB10_28
  refine And.elim (fun hf10_13 hB10_30 => ?_) hB10_29
  have hf10_14 := hB10_30
  clear hB hB10_0 hB10_1 hB10_2 hB10_3 hB10_4 hB10_5 hB10_6 hB10_7 hB10_8 hB10_9 hB10_10 hB10_11 hB10_12 hB10_13 hB10_14 hB10_15 hB10_16 hB10_17 hB10_18 hB10_19 hB10_20 hB10_21 hB10_22 hB10_23 hB10_24 hB10_25 hB10_26 hB10_27 hB10_28 hB10_29 hB10_30
  obtain ⟨hPn, hDn⟩ := kJm (m := mk_38) hJ rfl hPD9.1 hPD9.2 [0, 7, 8, 3, 2, 9, 10, 11, 12, 13, 1, 4, 5, 6] (by decide +kernel) (ws := [(oM, .inr (12, [.ref mT, .int zt, .ref mS, .ref mX, .int zp_10, .int zf_10, .ref mL, .ref mB, .ref mD, .ref m1, .ref m2, .int zh, .ref mR, .int zr, .ref x1, .ref x2, .ref x3, .int zc, .ref mH, .int zy, .int za, .int zb, .int zs_10, .int zq, .int zw_10, .int ze_10, .ref mY, .int zn_10, .ref mE, .int zm_10, .int zl_10, .ref mW, .int zk_10, .ref mO, .int zd_10, .ref y1, .ref y2, .ref y3, .ref y4, .ref mZ])), (mS, .inl (cI, 21, .inl eS_10)), (mX, .inl (cI, 6300, .inl eX_10)), (mL, .inl (cI, 512, .inl eL)), (mB, .inl (cS, 131072, .inl eB)), (m1, .inl (cI, 6, .inl e1)), (m2, .inl (cI, 6, .inl e2)), (x1, .inl (cI, 300, .inl ec1)), (x2, .inl (cI, 300, .inl ec2)), (x3, .inl (cI, 300, .inl ec3)), (mY, .inl (cI, 2600, .inl eY_10)), (mE, .inl (cI, 2600, .inl eE_10)), (mW, .inl (cI, 300, .inl eW_10)), (mO, .inl (cI, 300, .inl eO_10))]) rfl (wn := [(oX, .inr (11, [.ref nT, .ref nL, .ref nM, .ref oC, .ref oP, .ref oH, .ref oK, .ref oG, .ref oR, .ref oQ, .ref oW, .int fa_5])), (nT, .inr (5, [.ref aT, .int lT])), (aT, .inl (cI, 900, .inl fT)), (nL, .inr (5, [.ref aL, .int lL_5])), (aL, .inl (cI, 300, .inl fL_5)), (nM, .inr (5, [.ref aM, .int lM_5])), (aM, .inl (cI, 300, .inl fM_5)), (oC, .inr (2, [.ref o4, .ref o5])), (o4, .inr (10, [.ref a41, .ref a42, .ref a43, .int l4])), (a41, .inl (cI, 256, .inl f41)), (a42, .inl (cI, 512, .inl f42)), (a43, .inl (cI, 512, .inl f43)), (o5, .inr (10, [.ref a51, .ref a52, .ref a53, .int l5])), (a51, .inl (cI, 256, .inl f51)), (a52, .inl (cI, 512, .inl f52)), (a53, .inl (cI, 512, .inl f53)), (oP, .inr (7, [.ref oC, .ref nB, .int ft_5])), (nB, .inr (5, [.ref aB, .int lB_5])), (aB, .inl (cI, 2400, .inl fB_5)), (oH, .inr (4, [.ref oP, .ref h1, .ref h2, .int lH])), (h1, .inl (cI, 6, .inl fH1)), (h2, .inl (cI, 6, .inl fH2)), (oK, .inr (3, [.ref k1, .ref k2, .int lK])), (k1, .inl (cI, 1024, .inl fK1)), (k2, .inl (cI, 1024, .inl fK2)), (oG, .inr (0, [.ref g1, .ref g2, .int gn_5, .int lG_5])), (g1, .inl (cI, 6000, .inl fG1_5)), (g2, .inl (cI, 20, .inl fG2_5)), (oR, .inr (9, [.ref oH, .ref oK, .ref n1, .ref n2, .ref n3, .ref r1, .ref r2, .ref r3, .ref r4, .ref r5, .ref r6, .int lR])), (n1, .inr (5, [.ref a1, .int l1_5])), (a1, .inl (cI, 300, .inl f1_5)), (n2, .inr (5, [.ref a2, .int l2_5])), (a2, .inl (cI, 300, .inl f2_5)), (n3, .inr (5, [.ref a3, .int l3_5])), (a3, .inl (cI, 300, .inl f3_5)), (r1, .inl (cI, 258, .inl fR1_5)), (r2, .inl (cI, 258, .inl fR2_5)), (r3, .inl (cI, 774, .inl fR3_5)), (r4, .inl (cI, 258, .inl fR4)), (r5, .inl (cI, 258, .inl fR5)), (r6, .inl (cI, 774, .inl fR6)), (oQ, .inr (6, [.ref oC, .ref oH, .ref oK, .ref oE, .ref nq, .ref np, .ref nv, .ref q1, .ref q2, .ref q3, .ref q4, .int pr])), (oE, .inr (8, [.ref oC, .ref oK, .int reE, .int laE, .int suE, .int leE])), (nq, .inr (5, [.ref aq, .int lq])), (aq, .inl (cI, 480, .inl fq)), (np, .inr (5, [.ref ap, .int lp])), (ap, .inl (cI, 300, .inl fp)), (nv, .inr (5, [.ref av, .int lv])), (av, .inl (cI, 300, .inl fv)), (q1, .inl (cI, 61, .inl fQ1)), (q2, .inl (cI, 61, .inl fQ2)), (q3, .inl (cI, 61, .inl fQ3)), (q4, .inl (cI, 61, .inl fQ4)), (oW, .inr (1, [.ref oC, .ref oK, .ref nw, .ref w1, .ref w2, .ref w3, .ref o7, .ref o8, .ref o9, .ref w4, .ref w5, .ref w6, .ref w7, .int ke, .int tl, .int fsh_5, .int wi, .int ri, .int fm, .int lm])), (nw, .inr (5, [.ref aw, .int lw])), (aw, .inl (cI, 800, .inl fw)), (o7, .inr (8, [.ref oC, .ref oK, .int re7, .int la7, .int su7, .int le7])), (o8, .inr (8, [.ref oC, .ref oK, .int re8, .int la8, .int su8, .int le8])), (o9, .inr (8, [.ref oC, .ref oK, .int re9, .int la9, .int su9, .int le9])), (w1, .inl (cI, 801, .inl fW1)), (w2, .inl (cI, 801, .inl fW2)), (w3, .inl (cI, 801, .inl fW3)), (w4, .inl (cI, 200, .inl fW4)), (w5, .inl (cI, 200, .inl fW5)), (w6, .inl (cI, 200, .inl fW6)), (w7, .inl (cI, 200, .inl fW7)), (oM, .inr (12, [.ref mT, .int zt, .ref mS, .ref mX, .int zp_10, .int zf_10, .ref mL, .ref mB, .ref mD, .ref m1, .ref m2, .int zh, .ref mR, .int zr, .ref x1, .ref x2, .ref x3, .int zc, .ref mH, .int zy, .int za, .int zb, .int zs_10, .int zq, .int zw_10, .int ze_10, .ref mY, .int zn_10, .ref mE, .int zm_10, .int zl_10, .ref mW, .int zk_10, .ref mO, .int zd_10, .ref y1, .ref y2, .ref y3, .ref y4, .ref mZ])), (mT, .inl (cI, 900, .inl eT)), (mS, .inl (cI, 21, .inl eS_10)), (mX, .inl (cI, 6300, .inl eX_10)), (mL, .inl (cI, 512, .inl eL)), (mB, .inl (cS, 131072, .inl eB)), (mD, .inl (cI, 2, .inl eD)), (m1, .inl (cI, 6, .inl e1)), (m2, .inl (cI, 6, .inl e2)), (mR, .inl (cI, 1548, .inl eR)), (x1, .inl (cI, 300, .inl ec1)), (x2, .inl (cI, 300, .inl ec2)), (x3, .inl (cI, 300, .inl ec3)), (mH, .inl (cI, 800, .inl eH)), (mY, .inl (cI, 2600, .inl eY_10)), (mE, .inl (cI, 2600, .inl eE_10)), (mW, .inl (cI, 300, .inl eW_10)), (mO, .inl (cI, 300, .inl eO_10)), (y1, .inl (cI, 61, .inl er1)), (y2, .inl (cI, 61, .inl er2)), (y3, .inl (cI, 61, .inl er3)), (y4, .inl (cI, 61, .inl er4)), (mZ, .inl (cI, 600, .inl eZ)), (oJ, .inl (cJ, 1, .inr (.inl fJ)))]) rfl
  clear hP hD hS hJ hPD9
  have hP := hPn
  have hD := hDn
  have hS := hSn
  clear hPn hDn hSn
  refine lv_icmp_eq (tgt := 1022) hx hb dL_law_893 (by decide) (fun c_11 => ?_) (fun c_11 => absurd (e_md hr4 hr5 hlz g_eB g_eL hH g_lH.1 hHe hCV hTX hCH hf5_10 hf5_11 hf10_14 g_lL.1 g_lL.2 g_gn g_zp g_zf g_fG2).1 c_11)
  have tc_11 : r_5.toInt = r_10.toInt := v_eq c_11
  have rw11_0 := v_rng r_5
  have rw11_1 := v_rng r_10
  have hcg := e_md hr4 hr5 hlz g_eB g_eL hH g_lH.1 hHe hCV hTX hCH hf5_10 hf5_11 hf10_14 g_lL.1 g_lL.2 g_gn g_zp g_zf g_fG2
  have hdf : DFr fsh fsh_5 zs zs_10 := hcg.2.2.2
  refine W.widen (k := 90 + (nc + 1)) (n := 172225 + 6 * (nc + 1)) (by omega) (by omega) ?_
  exact kk fa_5 lT lL_5 lM_5 l4 l5 ft_5 lB_5 lH lK gn_5 lG_5 lR l1_5 l2_5 l3_5 pr reE laE suE leE lq lp lv ke tl fsh_5 wi ri fm lm lw re7 la7 su7 le7 re8 la8 su8 le8 re9 la9 su9 le9 zt zp_10 zf_10 zh zr zc zy za zb zs_10 zq zw_10 ze_10 zn_10 zm_10 zl_10 zk_10 zd_10 fT fL_5 fM_5 f41 f42 f43 f51 f52 f53 fB_5 fH1 fH2 fK1 fK2 fG1_5 fG2_5 f1_5 f2_5 f3_5 fR1_5 fR2_5 fR3_5 fR4 fR5 fR6 fq fp fv fQ1 fQ2 fQ3 fQ4 fw fW1 fW2 fW3 fW4 fW5 fW6 fW7 eT eS_10 eX_10 eL eB eD e1 e2 eR ec1 ec2 ec3 eH eY_10 eE_10 eW_10 eO_10 er1 er2 er3 er4 eZ fJ _ _ _ ⟨g_lT, hf5_5, hf5_4, hf5_0, g_lH, g_lK, hf5_7, hf5_8, g_lR, hf5_1, hf5_2, hf5_3, g_lq, g_lp, g_lv, g_ke, hf5_6, g_fm, g_lm, g_lw, g_zt, hf10_7, hf10_8, g_zh, g_zr, g_zc, g_zy, g_za, g_zb, hf10_9, g_zq, hf10_0, hf10_2, hf10_4, hf5_9, hf10_10, hf10_11, g_eL, g_eB, g_e1, g_e2, hf10_1, hf10_3, hf10_5, hf10_6, g_eZ, by omega, hrel, hrc, hr4, hr5, hb4, hb5, hlz, hH, hHe, hKz, hT, ho, hal, hCV, hVk, hVr, hcg.2.1, hcg.2.2.1, hvc, fr_d hfr hdf, fx_d hfx hdf, frs_st hfs hfr hf10_13⟩ hP hD hS (lv_sub hl [0, 1, 2, 3, 4] rfl)

set_option maxHeartbeats 40000000 in
set_option maxRecDepth 100000 in
theorem law_parts {p : Program} {l : Launch} {e : Env} {s : State} {m : MethodId} {below : List Frame} {meth : Method} {c : Code} {dC : Nat → ClassId} {dI : Nat → Nat → Nat} {cI cS cJ : ClassId} {A : Nat → Prop} {b L : Nat} {xs : Nat → Int32} (C0 : lw_At p s m meth c b L xs) (hAd : A = fun q : Nat => s.heap.size ≤ q) (hK3 : va_K (dC, dI) vwCl [(cI, .int), (cS, .short), (cJ, .long)] s) {oX nT aT nL aL nM aM oC o4 a41 a42 a43 o5 a51 a52 a53 oP nB aB oH h1 h2 oK k1 k2 oG g1 g2 oR n1 a1 n2 a2 n3 a3 r1 r2 r3 r4 r5 r6 oQ oE nq aq np ap nv av q1 q2 q3 q4 oW nw aw o7 o8 o9 w1 w2 w3 w4 w5 w6 w7 oM mT mS mX mL mB mD m1 m2 mR x1 x2 x3 mH mY mE mW mO y1 y2 y3 y4 mZ oJ : Nat} {fa : Int32} {lT : Int32} {lL : Int32} {lM : Int32} {l4 : Int32} {l5 : Int32} {ft : Int32} {lB : Int32} {lH : Int32} {lK : Int32} {gn : Int32} {lG : Int32} {lR : Int32} {l1 : Int32} {l2 : Int32} {l3 : Int32} {pr : Int32} {reE : Int32} {laE : Int32} {suE : Int32} {leE : Int32} {lq : Int32} {lp : Int32} {lv : Int32} {ke : Int32} {tl : Int32} {fsh : Int32} {wi : Int32} {ri : Int32} {fm : Int32} {lm : Int32} {lw : Int32} {re7 : Int32} {la7 : Int32} {su7 : Int32} {le7 : Int32} {re8 : Int32} {la8 : Int32} {su8 : Int32} {le8 : Int32} {re9 : Int32} {la9 : Int32} {su9 : Int32} {le9 : Int32} {zt : Int32} {zp : Int32} {zf : Int32} {zh : Int32} {zr : Int32} {zc : Int32} {zy : Int32} {za : Int32} {zb : Int32} {zs : Int32} {zq : Int32} {zw : Int32} {ze : Int32} {zn : Int32} {zm : Int32} {zl : Int32} {zk : Int32} {zd : Int32} {fT : Nat → Int32} {fL : Nat → Int32} {fM : Nat → Int32} {f41 : Nat → Int32} {f42 : Nat → Int32} {f43 : Nat → Int32} {f51 : Nat → Int32} {f52 : Nat → Int32} {f53 : Nat → Int32} {fB : Nat → Int32} {fH1 : Nat → Int32} {fH2 : Nat → Int32} {fK1 : Nat → Int32} {fK2 : Nat → Int32} {fG1 : Nat → Int32} {fG2 : Nat → Int32} {f1 : Nat → Int32} {f2 : Nat → Int32} {f3 : Nat → Int32} {fR1 : Nat → Int32} {fR2 : Nat → Int32} {fR3 : Nat → Int32} {fR4 : Nat → Int32} {fR5 : Nat → Int32} {fR6 : Nat → Int32} {fq : Nat → Int32} {fp : Nat → Int32} {fv : Nat → Int32} {fQ1 : Nat → Int32} {fQ2 : Nat → Int32} {fQ3 : Nat → Int32} {fQ4 : Nat → Int32} {fw : Nat → Int32} {fW1 : Nat → Int32} {fW2 : Nat → Int32} {fW3 : Nat → Int32} {fW4 : Nat → Int32} {fW5 : Nat → Int32} {fW6 : Nat → Int32} {fW7 : Nat → Int32} {eT : Nat → Int32} {eS : Nat → Int32} {eX : Nat → Int32} {eL : Nat → Int32} {eB : Nat → Int32} {eD : Nat → Int32} {e1 : Nat → Int32} {e2 : Nat → Int32} {eR : Nat → Int32} {ec1 : Nat → Int32} {ec2 : Nat → Int32} {ec3 : Nat → Int32} {eH : Nat → Int32} {eY : Nat → Int32} {eE : Nat → Int32} {eW : Nat → Int32} {eO : Nat → Int32} {er1 : Nat → Int32} {er2 : Nat → Int32} {er3 : Nat → Int32} {er4 : Nat → Int32} {eZ : Nat → Int32} {fJ : Nat → Int64} {H : Heap} {locs : List Loc} {ls : Array Slot} {i : Int32} {nc : Nat} (hn : nc ≤ 511) (hi : 0 ≤ i.toInt ∧ i.toInt + 5 < (L : Int)) (hL : L ≤ 3072) (hI : INV nc lT lL lM l4 l5 lB lH lK gn lG lR l1 l2 l3 lq lp lv ke fsh wi ri fm lm lw zt zp zf zh zr zc zy za zb zs zq zn zm zk fT fL f41 f42 f43 f51 f52 f53 fH1 fH2 fK1 fK2 fG1 fG2 fW4 fW5 fW6 fW7 eT eS eX eL eB eD e1 e2 ec1 ec2 ec3 eH eY eE eW eO eZ) (hP : va_P (dC, dI) vwCl (WLD cI cS cJ oX nT aT nL aL nM aM oC o4 a41 a42 a43 o5 a51 a52 a53 oP nB aB oH h1 h2 oK k1 k2 oG g1 g2 oR n1 a1 n2 a2 n3 a3 r1 r2 r3 r4 r5 r6 oQ oE nq aq np ap nv av q1 q2 q3 q4 oW nw aw o7 o8 o9 w1 w2 w3 w4 w5 w6 w7 oM mT mS mX mL mB mD m1 m2 mR x1 x2 x3 mH mY mE mW mO y1 y2 y3 y4 mZ oJ fa lT lL lM l4 l5 ft lB lH lK gn lG lR l1 l2 l3 pr reE laE suE leE lq lp lv ke tl fsh wi ri fm lm lw re7 la7 su7 le7 re8 la8 su8 le8 re9 la9 su9 le9 zt zp zf zh zr zc zy za zb zs zq zw ze zn zm zl zk zd fT fL fM f41 f42 f43 f51 f52 f53 fB fH1 fH2 fK1 fK2 fG1 fG2 f1 f2 f3 fR1 fR2 fR3 fR4 fR5 fR6 fq fp fv fQ1 fQ2 fQ3 fQ4 fw fW1 fW2 fW3 fW4 fW5 fW6 fW7 eT eS eX eL eB eD e1 e2 eR ec1 ec2 ec3 eH eY eE eW eO er1 er2 er3 er4 eZ fJ) H) (hD : va_D A (WLD cI cS cJ oX nT aT nL aL nM aM oC o4 a41 a42 a43 o5 a51 a52 a53 oP nB aB oH h1 h2 oK k1 k2 oG g1 g2 oR n1 a1 n2 a2 n3 a3 r1 r2 r3 r4 r5 r6 oQ oE nq aq np ap nv av q1 q2 q3 q4 oW nw aw o7 o8 o9 w1 w2 w3 w4 w5 w6 w7 oM mT mS mX mL mB mD m1 m2 mR x1 x2 x3 mH mY mE mW mO y1 y2 y3 y4 mZ oJ fa lT lL lM l4 l5 ft lB lH lK gn lG lR l1 l2 l3 pr reE laE suE leE lq lp lv ke tl fsh wi ri fm lm lw re7 la7 su7 le7 re8 la8 su8 le8 re9 la9 su9 le9 zt zp zf zh zr zc zy za zb zs zq zw ze zn zm zl zk zd fT fL fM f41 f42 f43 f51 f52 f53 fB fH1 fH2 fK1 fK2 fG1 fG2 f1 f2 f3 fR1 fR2 fR3 fR4 fR5 fR6 fq fp fv fQ1 fQ2 fQ3 fQ4 fw fW1 fW2 fW3 fW4 fW5 fW6 fW7 eT eS eX eL eB eD e1 e2 eR ec1 ec2 ec3 eH eY eE eW eO er1 er2 er3 er4 eZ fJ)) (hS : va_S A s.heap H locs) (hl : lv_has ls 7 [(0, .ref b), (1, .ref oX), (2, .ref oM), (3, .ref oJ), (4, .int i)]) (kk : KK p l e s m below meth c dC dI cI cS cJ A b oX nT aT nL aL nM aM oC o4 a41 a42 a43 o5 a51 a52 a53 oP nB aB oH h1 h2 oK k1 k2 oG g1 g2 oR n1 a1 n2 a2 n3 a3 r1 r2 r3 r4 r5 r6 oQ oE nq aq np ap nv av q1 q2 q3 q4 oW nw aw o7 o8 o9 w1 w2 w3 w4 w5 w6 w7 oM mT mS mX mL mB mD m1 m2 mR x1 x2 x3 mH mY mE mW mO y1 y2 y3 y4 mZ oJ i nc) : W p l e room_1 s m #[Value.ref b] below meth c H locs (90 + nc) (172225 + 6 * nc) (lw_Z below #[Value.ref b] s) (F0 m 898 ls []) := by
  refine And.elim (fun hx hBC_0 => ?_) C0
  refine And.elim (fun hb hBC_1 => ?_) hBC_0
  refine And.elim (fun hr hBC_2 => ?_) hBC_1
  refine And.elim (fun hml hBC_3 => ?_) hBC_2
  refine And.elim (fun hown hBC_4 => ?_) hBC_3
  refine And.elim (fun hts0 hBC_5 => ?_) hBC_4
  refine And.elim (fun hX hBC_6 => ?_) hBC_5
  refine And.elim (fun hbl hBC_7 => ?_) hBC_6
  refine And.elim (fun hlocks hBC_8 => ?_) hBC_7
  have hgv := hBC_8
  clear hBC_0 hBC_1 hBC_2 hBC_3 hBC_4 hBC_5 hBC_6 hBC_7 hBC_8
  refine And.elim (fun g_lT hBI_0 => ?_) hI
  refine And.elim (fun g_lL hBI_1 => ?_) hBI_0
  refine And.elim (fun g_lM hBI_2 => ?_) hBI_1
  refine And.elim (fun g_lB hBI_3 => ?_) hBI_2
  refine And.elim (fun g_lH hBI_4 => ?_) hBI_3
  refine And.elim (fun g_lK hBI_5 => ?_) hBI_4
  refine And.elim (fun g_gn hBI_6 => ?_) hBI_5
  refine And.elim (fun g_lG hBI_7 => ?_) hBI_6
  refine And.elim (fun g_lR hBI_8 => ?_) hBI_7
  refine And.elim (fun g_l1 hBI_9 => ?_) hBI_8
  refine And.elim (fun g_l2 hBI_10 => ?_) hBI_9
  refine And.elim (fun g_l3 hBI_11 => ?_) hBI_10
  refine And.elim (fun g_lq hBI_12 => ?_) hBI_11
  refine And.elim (fun g_lp hBI_13 => ?_) hBI_12
  refine And.elim (fun g_lv hBI_14 => ?_) hBI_13
  refine And.elim (fun g_ke hBI_15 => ?_) hBI_14
  refine And.elim (fun g_fsh hBI_16 => ?_) hBI_15
  refine And.elim (fun g_fm hBI_17 => ?_) hBI_16
  refine And.elim (fun g_lm hBI_18 => ?_) hBI_17
  refine And.elim (fun g_lw hBI_19 => ?_) hBI_18
  refine And.elim (fun g_zt hBI_20 => ?_) hBI_19
  refine And.elim (fun g_zp hBI_21 => ?_) hBI_20
  refine And.elim (fun g_zf hBI_22 => ?_) hBI_21
  refine And.elim (fun g_zh hBI_23 => ?_) hBI_22
  refine And.elim (fun g_zr hBI_24 => ?_) hBI_23
  refine And.elim (fun g_zc hBI_25 => ?_) hBI_24
  refine And.elim (fun g_zy hBI_26 => ?_) hBI_25
  refine And.elim (fun g_za hBI_27 => ?_) hBI_26
  refine And.elim (fun g_zb hBI_28 => ?_) hBI_27
  refine And.elim (fun g_zs hBI_29 => ?_) hBI_28
  refine And.elim (fun g_zq hBI_30 => ?_) hBI_29
  refine And.elim (fun g_zn hBI_31 => ?_) hBI_30
  refine And.elim (fun g_zm hBI_32 => ?_) hBI_31
  refine And.elim (fun g_zk hBI_33 => ?_) hBI_32
  refine And.elim (fun g_fG2 hBI_34 => ?_) hBI_33
  refine And.elim (fun g_eS hBI_35 => ?_) hBI_34
  refine And.elim (fun g_eX hBI_36 => ?_) hBI_35
  refine And.elim (fun g_eL hBI_37 => ?_) hBI_36
  refine And.elim (fun g_eB hBI_38 => ?_) hBI_37
  refine And.elim (fun g_e1 hBI_39 => ?_) hBI_38
  refine And.elim (fun g_e2 hBI_40 => ?_) hBI_39
  refine And.elim (fun g_eY hBI_41 => ?_) hBI_40
  refine And.elim (fun g_eE hBI_42 => ?_) hBI_41
  refine And.elim (fun g_eW hBI_43 => ?_) hBI_42
  refine And.elim (fun g_eO hBI_44 => ?_) hBI_43
  refine And.elim (fun g_eZ hBI_45 => ?_) hBI_44
  refine And.elim (fun hzn hBI_46 => ?_) hBI_45
  refine And.elim (fun hrel hBI_47 => ?_) hBI_46
  refine And.elim (fun hrc hBI_48 => ?_) hBI_47
  refine And.elim (fun hr4 hBI_49 => ?_) hBI_48
  refine And.elim (fun hr5 hBI_50 => ?_) hBI_49
  refine And.elim (fun hb4 hBI_51 => ?_) hBI_50
  refine And.elim (fun hb5 hBI_52 => ?_) hBI_51
  refine And.elim (fun hlz hBI_53 => ?_) hBI_52
  refine And.elim (fun hH hBI_54 => ?_) hBI_53
  refine And.elim (fun hHe hBI_55 => ?_) hBI_54
  refine And.elim (fun hKz hBI_56 => ?_) hBI_55
  refine And.elim (fun hT hBI_57 => ?_) hBI_56
  refine And.elim (fun ho hBI_58 => ?_) hBI_57
  refine And.elim (fun hal hBI_59 => ?_) hBI_58
  refine And.elim (fun hCV hBI_60 => ?_) hBI_59
  refine And.elim (fun hVk hBI_61 => ?_) hBI_60
  refine And.elim (fun hVr hBI_62 => ?_) hBI_61
  refine And.elim (fun hTX hBI_63 => ?_) hBI_62
  refine And.elim (fun hCH hBI_64 => ?_) hBI_63
  refine And.elim (fun hvc hBI_65 => ?_) hBI_64
  refine And.elim (fun hfr hBI_66 => ?_) hBI_65
  refine And.elim (fun hfx hBI_67 => ?_) hBI_66
  have hfs := hBI_67
  clear hI hBI_0 hBI_1 hBI_2 hBI_3 hBI_4 hBI_5 hBI_6 hBI_7 hBI_8 hBI_9 hBI_10 hBI_11 hBI_12 hBI_13 hBI_14 hBI_15 hBI_16 hBI_17 hBI_18 hBI_19 hBI_20 hBI_21 hBI_22 hBI_23 hBI_24 hBI_25 hBI_26 hBI_27 hBI_28 hBI_29 hBI_30 hBI_31 hBI_32 hBI_33 hBI_34 hBI_35 hBI_36 hBI_37 hBI_38 hBI_39 hBI_40 hBI_41 hBI_42 hBI_43 hBI_44 hBI_45 hBI_46 hBI_47 hBI_48 hBI_49 hBI_50 hBI_51 hBI_52 hBI_53 hBI_54 hBI_55 hBI_56 hBI_57 hBI_58 hBI_59 hBI_60 hBI_61 hBI_62 hBI_63 hBI_64 hBI_65 hBI_66 hBI_67
  have hK : va_K (dC, dI) vwCl [(cI, .int), (cS, .short)] s := hK3.sub [0, 1] rfl
  have hown : s.vm.findClass RL = some m.cls := hown
  have hts := hts0
  have hcf := k_cf hx hb hml hown hts
  have hi9 : 0 ≤ i.toInt ∧ i.toInt ≤ 3066 := by omega
  have hzs : zs.toInt ≤ 1000000 := by omega
  have hA : ∀ q : Nat, s.heap.size ≤ q → A q := fun q h => by rw [hAd]; exact h
  have hbA : ¬ A b := by rw [hAd]; exact Nat.not_le.mpr hbl
  have hP : va_P (dC, dI) vwCl [(oX, .inr (11, [.ref nT, .ref nL, .ref nM, .ref oC, .ref oP, .ref oH, .ref oK, .ref oG, .ref oR, .ref oQ, .ref oW, .int fa])), (nT, .inr (5, [.ref aT, .int lT])), (aT, .inl (cI, 900, .inl fT)), (nL, .inr (5, [.ref aL, .int lL])), (aL, .inl (cI, 300, .inl fL)), (nM, .inr (5, [.ref aM, .int lM])), (aM, .inl (cI, 300, .inl fM)), (oC, .inr (2, [.ref o4, .ref o5])), (o4, .inr (10, [.ref a41, .ref a42, .ref a43, .int l4])), (a41, .inl (cI, 256, .inl f41)), (a42, .inl (cI, 512, .inl f42)), (a43, .inl (cI, 512, .inl f43)), (o5, .inr (10, [.ref a51, .ref a52, .ref a53, .int l5])), (a51, .inl (cI, 256, .inl f51)), (a52, .inl (cI, 512, .inl f52)), (a53, .inl (cI, 512, .inl f53)), (oP, .inr (7, [.ref oC, .ref nB, .int ft])), (nB, .inr (5, [.ref aB, .int lB])), (aB, .inl (cI, 2400, .inl fB)), (oH, .inr (4, [.ref oP, .ref h1, .ref h2, .int lH])), (h1, .inl (cI, 6, .inl fH1)), (h2, .inl (cI, 6, .inl fH2)), (oK, .inr (3, [.ref k1, .ref k2, .int lK])), (k1, .inl (cI, 1024, .inl fK1)), (k2, .inl (cI, 1024, .inl fK2)), (oG, .inr (0, [.ref g1, .ref g2, .int gn, .int lG])), (g1, .inl (cI, 6000, .inl fG1)), (g2, .inl (cI, 20, .inl fG2)), (oR, .inr (9, [.ref oH, .ref oK, .ref n1, .ref n2, .ref n3, .ref r1, .ref r2, .ref r3, .ref r4, .ref r5, .ref r6, .int lR])), (n1, .inr (5, [.ref a1, .int l1])), (a1, .inl (cI, 300, .inl f1)), (n2, .inr (5, [.ref a2, .int l2])), (a2, .inl (cI, 300, .inl f2)), (n3, .inr (5, [.ref a3, .int l3])), (a3, .inl (cI, 300, .inl f3)), (r1, .inl (cI, 258, .inl fR1)), (r2, .inl (cI, 258, .inl fR2)), (r3, .inl (cI, 774, .inl fR3)), (r4, .inl (cI, 258, .inl fR4)), (r5, .inl (cI, 258, .inl fR5)), (r6, .inl (cI, 774, .inl fR6)), (oQ, .inr (6, [.ref oC, .ref oH, .ref oK, .ref oE, .ref nq, .ref np, .ref nv, .ref q1, .ref q2, .ref q3, .ref q4, .int pr])), (oE, .inr (8, [.ref oC, .ref oK, .int reE, .int laE, .int suE, .int leE])), (nq, .inr (5, [.ref aq, .int lq])), (aq, .inl (cI, 480, .inl fq)), (np, .inr (5, [.ref ap, .int lp])), (ap, .inl (cI, 300, .inl fp)), (nv, .inr (5, [.ref av, .int lv])), (av, .inl (cI, 300, .inl fv)), (q1, .inl (cI, 61, .inl fQ1)), (q2, .inl (cI, 61, .inl fQ2)), (q3, .inl (cI, 61, .inl fQ3)), (q4, .inl (cI, 61, .inl fQ4)), (oW, .inr (1, [.ref oC, .ref oK, .ref nw, .ref w1, .ref w2, .ref w3, .ref o7, .ref o8, .ref o9, .ref w4, .ref w5, .ref w6, .ref w7, .int ke, .int tl, .int fsh, .int wi, .int ri, .int fm, .int lm])), (nw, .inr (5, [.ref aw, .int lw])), (aw, .inl (cI, 800, .inl fw)), (o7, .inr (8, [.ref oC, .ref oK, .int re7, .int la7, .int su7, .int le7])), (o8, .inr (8, [.ref oC, .ref oK, .int re8, .int la8, .int su8, .int le8])), (o9, .inr (8, [.ref oC, .ref oK, .int re9, .int la9, .int su9, .int le9])), (w1, .inl (cI, 801, .inl fW1)), (w2, .inl (cI, 801, .inl fW2)), (w3, .inl (cI, 801, .inl fW3)), (w4, .inl (cI, 200, .inl fW4)), (w5, .inl (cI, 200, .inl fW5)), (w6, .inl (cI, 200, .inl fW6)), (w7, .inl (cI, 200, .inl fW7)), (oM, .inr (12, [.ref mT, .int zt, .ref mS, .ref mX, .int zp, .int zf, .ref mL, .ref mB, .ref mD, .ref m1, .ref m2, .int zh, .ref mR, .int zr, .ref x1, .ref x2, .ref x3, .int zc, .ref mH, .int zy, .int za, .int zb, .int zs, .int zq, .int zw, .int ze, .ref mY, .int zn, .ref mE, .int zm, .int zl, .ref mW, .int zk, .ref mO, .int zd, .ref y1, .ref y2, .ref y3, .ref y4, .ref mZ])), (mT, .inl (cI, 900, .inl eT)), (mS, .inl (cI, 21, .inl eS)), (mX, .inl (cI, 6300, .inl eX)), (mL, .inl (cI, 512, .inl eL)), (mB, .inl (cS, 131072, .inl eB)), (mD, .inl (cI, 2, .inl eD)), (m1, .inl (cI, 6, .inl e1)), (m2, .inl (cI, 6, .inl e2)), (mR, .inl (cI, 1548, .inl eR)), (x1, .inl (cI, 300, .inl ec1)), (x2, .inl (cI, 300, .inl ec2)), (x3, .inl (cI, 300, .inl ec3)), (mH, .inl (cI, 800, .inl eH)), (mY, .inl (cI, 2600, .inl eY)), (mE, .inl (cI, 2600, .inl eE)), (mW, .inl (cI, 300, .inl eW)), (mO, .inl (cI, 300, .inl eO)), (y1, .inl (cI, 61, .inl er1)), (y2, .inl (cI, 61, .inl er2)), (y3, .inl (cI, 61, .inl er3)), (y4, .inl (cI, 61, .inl er4)), (mZ, .inl (cI, 600, .inl eZ)), (oJ, .inl (cJ, 1, .inr (.inl fJ)))] H := hP
  have hD : va_D A [(oX, .inr (11, [.ref nT, .ref nL, .ref nM, .ref oC, .ref oP, .ref oH, .ref oK, .ref oG, .ref oR, .ref oQ, .ref oW, .int fa])), (nT, .inr (5, [.ref aT, .int lT])), (aT, .inl (cI, 900, .inl fT)), (nL, .inr (5, [.ref aL, .int lL])), (aL, .inl (cI, 300, .inl fL)), (nM, .inr (5, [.ref aM, .int lM])), (aM, .inl (cI, 300, .inl fM)), (oC, .inr (2, [.ref o4, .ref o5])), (o4, .inr (10, [.ref a41, .ref a42, .ref a43, .int l4])), (a41, .inl (cI, 256, .inl f41)), (a42, .inl (cI, 512, .inl f42)), (a43, .inl (cI, 512, .inl f43)), (o5, .inr (10, [.ref a51, .ref a52, .ref a53, .int l5])), (a51, .inl (cI, 256, .inl f51)), (a52, .inl (cI, 512, .inl f52)), (a53, .inl (cI, 512, .inl f53)), (oP, .inr (7, [.ref oC, .ref nB, .int ft])), (nB, .inr (5, [.ref aB, .int lB])), (aB, .inl (cI, 2400, .inl fB)), (oH, .inr (4, [.ref oP, .ref h1, .ref h2, .int lH])), (h1, .inl (cI, 6, .inl fH1)), (h2, .inl (cI, 6, .inl fH2)), (oK, .inr (3, [.ref k1, .ref k2, .int lK])), (k1, .inl (cI, 1024, .inl fK1)), (k2, .inl (cI, 1024, .inl fK2)), (oG, .inr (0, [.ref g1, .ref g2, .int gn, .int lG])), (g1, .inl (cI, 6000, .inl fG1)), (g2, .inl (cI, 20, .inl fG2)), (oR, .inr (9, [.ref oH, .ref oK, .ref n1, .ref n2, .ref n3, .ref r1, .ref r2, .ref r3, .ref r4, .ref r5, .ref r6, .int lR])), (n1, .inr (5, [.ref a1, .int l1])), (a1, .inl (cI, 300, .inl f1)), (n2, .inr (5, [.ref a2, .int l2])), (a2, .inl (cI, 300, .inl f2)), (n3, .inr (5, [.ref a3, .int l3])), (a3, .inl (cI, 300, .inl f3)), (r1, .inl (cI, 258, .inl fR1)), (r2, .inl (cI, 258, .inl fR2)), (r3, .inl (cI, 774, .inl fR3)), (r4, .inl (cI, 258, .inl fR4)), (r5, .inl (cI, 258, .inl fR5)), (r6, .inl (cI, 774, .inl fR6)), (oQ, .inr (6, [.ref oC, .ref oH, .ref oK, .ref oE, .ref nq, .ref np, .ref nv, .ref q1, .ref q2, .ref q3, .ref q4, .int pr])), (oE, .inr (8, [.ref oC, .ref oK, .int reE, .int laE, .int suE, .int leE])), (nq, .inr (5, [.ref aq, .int lq])), (aq, .inl (cI, 480, .inl fq)), (np, .inr (5, [.ref ap, .int lp])), (ap, .inl (cI, 300, .inl fp)), (nv, .inr (5, [.ref av, .int lv])), (av, .inl (cI, 300, .inl fv)), (q1, .inl (cI, 61, .inl fQ1)), (q2, .inl (cI, 61, .inl fQ2)), (q3, .inl (cI, 61, .inl fQ3)), (q4, .inl (cI, 61, .inl fQ4)), (oW, .inr (1, [.ref oC, .ref oK, .ref nw, .ref w1, .ref w2, .ref w3, .ref o7, .ref o8, .ref o9, .ref w4, .ref w5, .ref w6, .ref w7, .int ke, .int tl, .int fsh, .int wi, .int ri, .int fm, .int lm])), (nw, .inr (5, [.ref aw, .int lw])), (aw, .inl (cI, 800, .inl fw)), (o7, .inr (8, [.ref oC, .ref oK, .int re7, .int la7, .int su7, .int le7])), (o8, .inr (8, [.ref oC, .ref oK, .int re8, .int la8, .int su8, .int le8])), (o9, .inr (8, [.ref oC, .ref oK, .int re9, .int la9, .int su9, .int le9])), (w1, .inl (cI, 801, .inl fW1)), (w2, .inl (cI, 801, .inl fW2)), (w3, .inl (cI, 801, .inl fW3)), (w4, .inl (cI, 200, .inl fW4)), (w5, .inl (cI, 200, .inl fW5)), (w6, .inl (cI, 200, .inl fW6)), (w7, .inl (cI, 200, .inl fW7)), (oM, .inr (12, [.ref mT, .int zt, .ref mS, .ref mX, .int zp, .int zf, .ref mL, .ref mB, .ref mD, .ref m1, .ref m2, .int zh, .ref mR, .int zr, .ref x1, .ref x2, .ref x3, .int zc, .ref mH, .int zy, .int za, .int zb, .int zs, .int zq, .int zw, .int ze, .ref mY, .int zn, .ref mE, .int zm, .int zl, .ref mW, .int zk, .ref mO, .int zd, .ref y1, .ref y2, .ref y3, .ref y4, .ref mZ])), (mT, .inl (cI, 900, .inl eT)), (mS, .inl (cI, 21, .inl eS)), (mX, .inl (cI, 6300, .inl eX)), (mL, .inl (cI, 512, .inl eL)), (mB, .inl (cS, 131072, .inl eB)), (mD, .inl (cI, 2, .inl eD)), (m1, .inl (cI, 6, .inl e1)), (m2, .inl (cI, 6, .inl e2)), (mR, .inl (cI, 1548, .inl eR)), (x1, .inl (cI, 300, .inl ec1)), (x2, .inl (cI, 300, .inl ec2)), (x3, .inl (cI, 300, .inl ec3)), (mH, .inl (cI, 800, .inl eH)), (mY, .inl (cI, 2600, .inl eY)), (mE, .inl (cI, 2600, .inl eE)), (mW, .inl (cI, 300, .inl eW)), (mO, .inl (cI, 300, .inl eO)), (y1, .inl (cI, 61, .inl er1)), (y2, .inl (cI, 61, .inl er2)), (y3, .inl (cI, 61, .inl er3)), (y4, .inl (cI, 61, .inl er4)), (mZ, .inl (cI, 600, .inl eZ)), (oJ, .inl (cJ, 1, .inr (.inl fJ)))] := hD
  have hN52 : va_Nw (.methodLinkNest RX2 52 yX11_isLetter "TextMender") s := va_Nw.of rfl (hts0 _ q_3_4)
  replace g_lT := hid g_lT
  replace g_lM := hid g_lM
  replace g_lB := hid g_lB
  replace g_lR := hid g_lR
  replace g_l1 := hid g_l1
  replace g_l2 := hid g_l2
  replace g_l3 := hid g_l3
  replace g_lq := hid g_lq
  replace g_lp := hid g_lp
  replace g_lv := hid g_lv
  replace g_fm := hid g_fm
  replace g_lm := hid g_lm
  replace g_lw := hid g_lw
  replace g_zt := hid g_zt
  replace g_zr := hid g_zr
  replace g_zn := hid g_zn
  replace g_zm := hid g_zm
  replace g_zk := hid g_zk
  refine lv_aload_n hx hb dL_law_898 rfl (lv_at hl 1 rfl) ?_
  refine lv_aload_n hx hb dL_law_899 rfl (lv_at hl 0 rfl) ?_
  refine lv_iload hx hb dL_law_900 (lv_at hl 4 rfl) ?_
  refine lv_iconst (v := 1) hx hb dL_law_902 (by decide) ?_
  refine lv_iadd hx hb dL_law_903 ?_
  refine lv_topi (fun x_1 ex_1 => ?_)
  have tx_1 : x_1.toInt = i.toInt + 1 := v_addR (l2 := 1) (h2 := 1) ex_1 hi9 (by decide) (by decide) (by decide)
  refine va_sld hx hb hX hbl hbA hS (v_in (v_sld5 tx_1 hi (by decide))) dL_law_904 ?_
  refine lv_topi (fun x_2 ex_2 => ?_)
  refine kV_i (rest := []) (q0 := 0) (ci := 11) hcf (f_X11_parts l dC dI cI cS H.size oX nT nL nM oC oP oH oK oG oR oQ oW oE nq np nv q1 q2 q3 q4 aq ap av h1 h2 nB aB o4 o5 a41 a42 a43 a51 a52 a53 k1 k2 aL aM g1 g2 nw w1 w2 w3 o7 o8 o9 w4 w5 w6 w7 fa pr fQ1 fQ2 fQ3 fQ4 lq fq lp fp lv fv reE laE suE leE lH fH1 fH2 ft lB fB l4 f41 f42 f43 l5 f51 f52 f53 lK fK1 fK2 lL fL lM fM gn lG fG1 fG2 ke tl fsh wi ri fm lm x_2 (g_lq) (g_lp) (g_lv) (g_lH) (g_lB) (g_lK) (g_lL) (g_lM) (g_gn) (g_lG) (g_fG2) (g_ke) (g_fsh) (g_fm) (g_lm) (TX_p hTX) (hr4.1) (occ_511 hr4.2.1) (hr5.1) (occ_511 hr5.2.1) (TR_r hr4 g_eL) (TR_r hr5 g_eL) (okB_cl hr4 hr5 g_eB) (hT) (ho) (hVk)) kc_X11_parts gL_law_X11_parts rfl rfl rfl ⟨Nat.le_of_ble_eq_true rfl, Nat.le_of_ble_eq_true rfl⟩ (kX_1 hN52) hK hP hD hS hA ([0, 26, 34, 35, 36, 37, 28, 29, 30, 31, 32, 33, 27, 17, 18, 19, 14, 15, 16, 5, 6, 7, 8, 9, 10, 11, 12, 13, 20, 21, 22, 1, 2, 3, 4, 23, 24, 25, 38].filterMap (fun j => (posT mk_39 0)[j]?)) (posF mk_39 0) (kCp (ws := [(oX, .inr (11, [.ref nT, .ref nL, .ref nM, .ref oC, .ref oP, .ref oH, .ref oK, .ref oG, .ref oR, .ref oQ, .ref oW, .int fa])), (nL, .inr (5, [.ref aL, .int lL])), (aL, .inl (cI, 300, .inl fL)), (nM, .inr (5, [.ref aM, .int lM])), (aM, .inl (cI, 300, .inl fM)), (oC, .inr (2, [.ref o4, .ref o5])), (o4, .inr (10, [.ref a41, .ref a42, .ref a43, .int l4])), (a41, .inl (cI, 256, .inl f41)), (a42, .inl (cI, 512, .inl f42)), (a43, .inl (cI, 512, .inl f43)), (o5, .inr (10, [.ref a51, .ref a52, .ref a53, .int l5])), (a51, .inl (cI, 256, .inl f51)), (a52, .inl (cI, 512, .inl f52)), (a53, .inl (cI, 512, .inl f53)), (oP, .inr (7, [.ref oC, .ref nB, .int ft])), (nB, .inr (5, [.ref aB, .int lB])), (aB, .inl (cI, 2400, .inl fB)), (oH, .inr (4, [.ref oP, .ref h1, .ref h2, .int lH])), (h1, .inl (cI, 6, .inl fH1)), (h2, .inl (cI, 6, .inl fH2)), (oK, .inr (3, [.ref k1, .ref k2, .int lK])), (k1, .inl (cI, 1024, .inl fK1)), (k2, .inl (cI, 1024, .inl fK2)), (oG, .inr (0, [.ref g1, .ref g2, .int gn, .int lG])), (g1, .inl (cI, 6000, .inl fG1)), (g2, .inl (cI, 20, .inl fG2)), (oQ, .inr (6, [.ref oC, .ref oH, .ref oK, .ref oE, .ref nq, .ref np, .ref nv, .ref q1, .ref q2, .ref q3, .ref q4, .int pr])), (oE, .inr (8, [.ref oC, .ref oK, .int reE, .int laE, .int suE, .int leE])), (nq, .inr (5, [.ref aq, .int lq])), (aq, .inl (cI, 480, .inl fq)), (np, .inr (5, [.ref ap, .int lp])), (ap, .inl (cI, 300, .inl fp)), (nv, .inr (5, [.ref av, .int lv])), (av, .inl (cI, 300, .inl fv)), (q1, .inl (cI, 61, .inl fQ1)), (q2, .inl (cI, 61, .inl fQ2)), (q3, .inl (cI, 61, .inl fQ3)), (q4, .inl (cI, 61, .inl fQ4)), (oW, .inr (1, [.ref oC, .ref oK, .ref nw, .ref w1, .ref w2, .ref w3, .ref o7, .ref o8, .ref o9, .ref w4, .ref w5, .ref w6, .ref w7, .int ke, .int tl, .int fsh, .int wi, .int ri, .int fm, .int lm]))]) (kC_of mk_39 rfl rfl) rfl) (by decide +kernel) rfl rfl rfl hl rfl (Nat.le_of_ble_eq_true rfl) dL_law_905 ⟨kfit1 hn (Nat.le_of_ble_eq_true rfl), ksix1 hn (Nat.le_of_ble_eq_true rfl)⟩ (fun r_3 H locs hB hJ hSn => ?_)
  refine Exists.elim hB (fun fa_3 hB3_0 => ?_)
  refine Exists.elim hB3_0 (fun lq_3 hB3_1 => ?_)
  refine Exists.elim hB3_1 (fun fq_3 hB3_2 => ?_)
  refine Exists.elim hB3_2 (fun reE_3 hB3_3 => ?_)
  refine Exists.elim hB3_3 (fun laE_3 hB3_4 => ?_)
  refine Exists.elim hB3_4 (fun suE_3 hB3_5 => ?_)
  refine Exists.elim hB3_5 (fun leE_3 hB3_6 => ?_)
  refine Exists.elim hB3_6 (fun fQ1_3 hB3_7 => ?_)
  refine Exists.elim hB3_7 (fun fQ2_3 hB3_8 => ?_)
  refine Exists.elim hB3_8 (fun fQ3_3 hB3_9 => ?_)
  refine Exists.elim hB3_9 (fun fQ4_3 hB3_10 => ?_)
  refine Exists.elim hB3_10 (fun pr_3 hB3_11 => ?_)
  refine Exists.elim hB3_11 (fun lp_3 hB3_12 => ?_)
  refine Exists.elim hB3_12 (fun fp_3 hB3_13 => ?_)
  refine Exists.elim hB3_13 (fun lv_3 hB3_14 => ?_)
  refine Exists.elim hB3_14 (fun fv_3 hB3_15 => ?_)
  refine Exists.elim hB3_15 (fun ft_3 hB3_16 => ?_)
  refine Exists.elim hB3_16 (fun lB_3 hB3_17 => ?_)
  refine Exists.elim hB3_17 (fun fB_3 hB3_18 => ?_)
  refine Exists.elim hB3_18 (fun lM_3 hB3_19 => ?_)
  refine Exists.elim hB3_19 (fun fM_3 hB3_20 => ?_)
  refine Exists.elim hB3_20 (fun lL_3 hB3_21 => ?_)
  refine Exists.elim hB3_21 (fun fL_3 hB3_22 => ?_)
  refine Exists.elim hB3_22 (fun fsh_3 hB3_23 => ?_)
  refine Exists.elim hB3_23 (fun gn_3 hB3_24 => ?_)
  refine Exists.elim hB3_24 (fun lG_3 hB3_25 => ?_)
  refine Exists.elim hB3_25 (fun fG1_3 hB3_26 => ?_)
  refine Exists.elim hB3_26 (fun fG2_3 hB3_27 => ?_)
  refine And.elim (fun hPD9 hB3_28 => ?_) hB3_27
  refine And.elim (fun hf3_0 hB3_29 => ?_) hB3_28
  refine And.elim (fun hf3_1 hB3_30 => ?_) hB3_29
  refine And.elim (fun hf3_2 hB3_31 => ?_) hB3_30
  refine And.elim (fun hf3_3 hB3_32 => ?_) hB3_31
  refine And.elim (fun hf3_4 hB3_33 => ?_) hB3_32
  refine And.elim (fun hf3_5 hB3_34 => ?_) hB3_33
  refine And.elim (fun hf3_6 hB3_35 => ?_) hB3_34
  refine And.elim (fun hf3_7 hB3_36 => ?_) hB3_35
  refine And.elim (fun hf3_8 hB3_37 => ?_) hB3_36
  refine And.elim (fun hf3_9 hB3_38 => ?_) hB3_37
  have hf3_10 := hB3_38
  clear hB hB3_0 hB3_1 hB3_2 hB3_3 hB3_4 hB3_5 hB3_6 hB3_7 hB3_8 hB3_9 hB3_10 hB3_11 hB3_12 hB3_13 hB3_14 hB3_15 hB3_16 hB3_17 hB3_18 hB3_19 hB3_20 hB3_21 hB3_22 hB3_23 hB3_24 hB3_25 hB3_26 hB3_27 hB3_28 hB3_29 hB3_30 hB3_31 hB3_32 hB3_33 hB3_34 hB3_35 hB3_36 hB3_37 hB3_38
  obtain ⟨hPn, hDn⟩ := kJm (m := mk_39) hJ rfl hPD9.1 hPD9.2 [0, 31, 32, 33, 34, 19, 20, 21, 22, 23, 24, 25, 26, 27, 16, 17, 18, 13, 14, 15, 28, 29, 30, 35, 36, 37, 1, 12, 6, 7, 8, 9, 10, 11, 2, 3, 4, 5, 38] (by decide +kernel) (ws := [(oX, .inr (11, [.ref nT, .ref nL, .ref nM, .ref oC, .ref oP, .ref oH, .ref oK, .ref oG, .ref oR, .ref oQ, .ref oW, .int fa_3])), (nL, .inr (5, [.ref aL, .int lL_3])), (aL, .inl (cI, 300, .inl fL_3)), (nM, .inr (5, [.ref aM, .int lM_3])), (aM, .inl (cI, 300, .inl fM_3)), (oC, .inr (2, [.ref o4, .ref o5])), (o4, .inr (10, [.ref a41, .ref a42, .ref a43, .int l4])), (a41, .inl (cI, 256, .inl f41)), (a42, .inl (cI, 512, .inl f42)), (a43, .inl (cI, 512, .inl f43)), (o5, .inr (10, [.ref a51, .ref a52, .ref a53, .int l5])), (a51, .inl (cI, 256, .inl f51)), (a52, .inl (cI, 512, .inl f52)), (a53, .inl (cI, 512, .inl f53)), (oP, .inr (7, [.ref oC, .ref nB, .int ft_3])), (nB, .inr (5, [.ref aB, .int lB_3])), (aB, .inl (cI, 2400, .inl fB_3)), (oH, .inr (4, [.ref oP, .ref h1, .ref h2, .int lH])), (h1, .inl (cI, 6, .inl fH1)), (h2, .inl (cI, 6, .inl fH2)), (oK, .inr (3, [.ref k1, .ref k2, .int lK])), (k1, .inl (cI, 1024, .inl fK1)), (k2, .inl (cI, 1024, .inl fK2)), (oG, .inr (0, [.ref g1, .ref g2, .int gn_3, .int lG_3])), (g1, .inl (cI, 6000, .inl fG1_3)), (g2, .inl (cI, 20, .inl fG2_3)), (oQ, .inr (6, [.ref oC, .ref oH, .ref oK, .ref oE, .ref nq, .ref np, .ref nv, .ref q1, .ref q2, .ref q3, .ref q4, .int pr_3])), (oE, .inr (8, [.ref oC, .ref oK, .int reE_3, .int laE_3, .int suE_3, .int leE_3])), (nq, .inr (5, [.ref aq, .int lq_3])), (aq, .inl (cI, 480, .inl fq_3)), (np, .inr (5, [.ref ap, .int lp_3])), (ap, .inl (cI, 300, .inl fp_3)), (nv, .inr (5, [.ref av, .int lv_3])), (av, .inl (cI, 300, .inl fv_3)), (q1, .inl (cI, 61, .inl fQ1_3)), (q2, .inl (cI, 61, .inl fQ2_3)), (q3, .inl (cI, 61, .inl fQ3_3)), (q4, .inl (cI, 61, .inl fQ4_3)), (oW, .inr (1, [.ref oC, .ref oK, .ref nw, .ref w1, .ref w2, .ref w3, .ref o7, .ref o8, .ref o9, .ref w4, .ref w5, .ref w6, .ref w7, .int ke, .int tl, .int fsh_3, .int wi, .int ri, .int fm, .int lm]))]) rfl (wn := [(oX, .inr (11, [.ref nT, .ref nL, .ref nM, .ref oC, .ref oP, .ref oH, .ref oK, .ref oG, .ref oR, .ref oQ, .ref oW, .int fa_3])), (nT, .inr (5, [.ref aT, .int lT])), (aT, .inl (cI, 900, .inl fT)), (nL, .inr (5, [.ref aL, .int lL_3])), (aL, .inl (cI, 300, .inl fL_3)), (nM, .inr (5, [.ref aM, .int lM_3])), (aM, .inl (cI, 300, .inl fM_3)), (oC, .inr (2, [.ref o4, .ref o5])), (o4, .inr (10, [.ref a41, .ref a42, .ref a43, .int l4])), (a41, .inl (cI, 256, .inl f41)), (a42, .inl (cI, 512, .inl f42)), (a43, .inl (cI, 512, .inl f43)), (o5, .inr (10, [.ref a51, .ref a52, .ref a53, .int l5])), (a51, .inl (cI, 256, .inl f51)), (a52, .inl (cI, 512, .inl f52)), (a53, .inl (cI, 512, .inl f53)), (oP, .inr (7, [.ref oC, .ref nB, .int ft_3])), (nB, .inr (5, [.ref aB, .int lB_3])), (aB, .inl (cI, 2400, .inl fB_3)), (oH, .inr (4, [.ref oP, .ref h1, .ref h2, .int lH])), (h1, .inl (cI, 6, .inl fH1)), (h2, .inl (cI, 6, .inl fH2)), (oK, .inr (3, [.ref k1, .ref k2, .int lK])), (k1, .inl (cI, 1024, .inl fK1)), (k2, .inl (cI, 1024, .inl fK2)), (oG, .inr (0, [.ref g1, .ref g2, .int gn_3, .int lG_3])), (g1, .inl (cI, 6000, .inl fG1_3)), (g2, .inl (cI, 20, .inl fG2_3)), (oR, .inr (9, [.ref oH, .ref oK, .ref n1, .ref n2, .ref n3, .ref r1, .ref r2, .ref r3, .ref r4, .ref r5, .ref r6, .int lR])), (n1, .inr (5, [.ref a1, .int l1])), (a1, .inl (cI, 300, .inl f1)), (n2, .inr (5, [.ref a2, .int l2])), (a2, .inl (cI, 300, .inl f2)), (n3, .inr (5, [.ref a3, .int l3])), (a3, .inl (cI, 300, .inl f3)), (r1, .inl (cI, 258, .inl fR1)), (r2, .inl (cI, 258, .inl fR2)), (r3, .inl (cI, 774, .inl fR3)), (r4, .inl (cI, 258, .inl fR4)), (r5, .inl (cI, 258, .inl fR5)), (r6, .inl (cI, 774, .inl fR6)), (oQ, .inr (6, [.ref oC, .ref oH, .ref oK, .ref oE, .ref nq, .ref np, .ref nv, .ref q1, .ref q2, .ref q3, .ref q4, .int pr_3])), (oE, .inr (8, [.ref oC, .ref oK, .int reE_3, .int laE_3, .int suE_3, .int leE_3])), (nq, .inr (5, [.ref aq, .int lq_3])), (aq, .inl (cI, 480, .inl fq_3)), (np, .inr (5, [.ref ap, .int lp_3])), (ap, .inl (cI, 300, .inl fp_3)), (nv, .inr (5, [.ref av, .int lv_3])), (av, .inl (cI, 300, .inl fv_3)), (q1, .inl (cI, 61, .inl fQ1_3)), (q2, .inl (cI, 61, .inl fQ2_3)), (q3, .inl (cI, 61, .inl fQ3_3)), (q4, .inl (cI, 61, .inl fQ4_3)), (oW, .inr (1, [.ref oC, .ref oK, .ref nw, .ref w1, .ref w2, .ref w3, .ref o7, .ref o8, .ref o9, .ref w4, .ref w5, .ref w6, .ref w7, .int ke, .int tl, .int fsh_3, .int wi, .int ri, .int fm, .int lm])), (nw, .inr (5, [.ref aw, .int lw])), (aw, .inl (cI, 800, .inl fw)), (o7, .inr (8, [.ref oC, .ref oK, .int re7, .int la7, .int su7, .int le7])), (o8, .inr (8, [.ref oC, .ref oK, .int re8, .int la8, .int su8, .int le8])), (o9, .inr (8, [.ref oC, .ref oK, .int re9, .int la9, .int su9, .int le9])), (w1, .inl (cI, 801, .inl fW1)), (w2, .inl (cI, 801, .inl fW2)), (w3, .inl (cI, 801, .inl fW3)), (w4, .inl (cI, 200, .inl fW4)), (w5, .inl (cI, 200, .inl fW5)), (w6, .inl (cI, 200, .inl fW6)), (w7, .inl (cI, 200, .inl fW7)), (oM, .inr (12, [.ref mT, .int zt, .ref mS, .ref mX, .int zp, .int zf, .ref mL, .ref mB, .ref mD, .ref m1, .ref m2, .int zh, .ref mR, .int zr, .ref x1, .ref x2, .ref x3, .int zc, .ref mH, .int zy, .int za, .int zb, .int zs, .int zq, .int zw, .int ze, .ref mY, .int zn, .ref mE, .int zm, .int zl, .ref mW, .int zk, .ref mO, .int zd, .ref y1, .ref y2, .ref y3, .ref y4, .ref mZ])), (mT, .inl (cI, 900, .inl eT)), (mS, .inl (cI, 21, .inl eS)), (mX, .inl (cI, 6300, .inl eX)), (mL, .inl (cI, 512, .inl eL)), (mB, .inl (cS, 131072, .inl eB)), (mD, .inl (cI, 2, .inl eD)), (m1, .inl (cI, 6, .inl e1)), (m2, .inl (cI, 6, .inl e2)), (mR, .inl (cI, 1548, .inl eR)), (x1, .inl (cI, 300, .inl ec1)), (x2, .inl (cI, 300, .inl ec2)), (x3, .inl (cI, 300, .inl ec3)), (mH, .inl (cI, 800, .inl eH)), (mY, .inl (cI, 2600, .inl eY)), (mE, .inl (cI, 2600, .inl eE)), (mW, .inl (cI, 300, .inl eW)), (mO, .inl (cI, 300, .inl eO)), (y1, .inl (cI, 61, .inl er1)), (y2, .inl (cI, 61, .inl er2)), (y3, .inl (cI, 61, .inl er3)), (y4, .inl (cI, 61, .inl er4)), (mZ, .inl (cI, 600, .inl eZ)), (oJ, .inl (cJ, 1, .inr (.inl fJ)))]) rfl
  clear hP hD hS hJ hPD9
  have hP := hPn
  have hD := hDn
  have hS := hSn
  clear hPn hDn hSn
  refine lv_pop hx hb dL_law_908 rfl ?_
  refine lv_aload_n hx hb dL_law_909 rfl (lv_at hl 2 rfl) ?_
  refine lv_aload_n hx hb dL_law_910 rfl (lv_at hl 0 rfl) ?_
  refine lv_iload hx hb dL_law_911 (lv_at hl 4 rfl) ?_
  refine lv_iconst (v := 1) hx hb dL_law_913 (by decide) ?_
  refine lv_iadd hx hb dL_law_914 ?_
  refine lv_topi (fun x_4 ex_4 => ?_)
  have tx_4 : x_4.toInt = i.toInt + 1 := v_addR (l2 := 1) (h2 := 1) ex_4 hi9 (by decide) (by decide) (by decide)
  refine va_sld hx hb hX hbl hbA hS (v_in (v_sld5 tx_4 hi (by decide))) dL_law_915 ?_
  refine lv_topi (fun x_5 ex_5 => ?_)
  have es_5 : x_5 = x_2 := by rw [ex_5, ex_2, ex_4, ex_1]
  rw [es_5]
  refine kV_i (rest := []) (q0 := 0) (ci := 12) hcf (f_X12_parts l dC dI cI cS H.size oM mT mS mX mL mB mD m1 m2 mR x1 x2 x3 mH mY mE mW mO y1 y2 y3 y4 mZ zt zp zf zh zr zc zy za zb zs zq zw ze zn zm zl zk zd eY eB eL eE eW eO eS eX e1 e2 er1 er2 er3 er4 ec1 ec2 ec3 eZ x_2 (g_zt) (g_zp) (g_zf) (g_zh) (g_zr) (g_zc) (g_zy) (g_za) (g_zb) (g_zs) (g_zq) (g_zn) (g_zm) (g_zk) (g_eY) (g_eB) (g_eL) (g_eE) (g_eW) (g_eO) (g_eS) (g_eX) (g_e1) (g_e2) (g_eZ) (TX_l hTX) (LBr_of hb4 hb5) (hlz) (hVr) (by omega)) kc_X12_parts gL_law_X12_parts rfl rfl rfl ⟨Nat.le_of_ble_eq_true rfl, Nat.le_of_ble_eq_true rfl⟩ kX_t hK hP hD hS hA ([0, 10, 4, 3, 11, 12, 13, 1, 2, 5, 6, 14, 15, 16, 17, 7, 8, 9, 18].filterMap (fun j => (posT mk_40 0)[j]?)) (posF mk_40 0) (kCp (ws := [(oM, .inr (12, [.ref mT, .int zt, .ref mS, .ref mX, .int zp, .int zf, .ref mL, .ref mB, .ref mD, .ref m1, .ref m2, .int zh, .ref mR, .int zr, .ref x1, .ref x2, .ref x3, .int zc, .ref mH, .int zy, .int za, .int zb, .int zs, .int zq, .int zw, .int ze, .ref mY, .int zn, .ref mE, .int zm, .int zl, .ref mW, .int zk, .ref mO, .int zd, .ref y1, .ref y2, .ref y3, .ref y4, .ref mZ])), (mS, .inl (cI, 21, .inl eS)), (mX, .inl (cI, 6300, .inl eX)), (mL, .inl (cI, 512, .inl eL)), (mB, .inl (cS, 131072, .inl eB)), (m1, .inl (cI, 6, .inl e1)), (m2, .inl (cI, 6, .inl e2)), (x1, .inl (cI, 300, .inl ec1)), (x2, .inl (cI, 300, .inl ec2)), (x3, .inl (cI, 300, .inl ec3)), (mY, .inl (cI, 2600, .inl eY)), (mE, .inl (cI, 2600, .inl eE)), (mW, .inl (cI, 300, .inl eW)), (mO, .inl (cI, 300, .inl eO)), (y1, .inl (cI, 61, .inl er1)), (y2, .inl (cI, 61, .inl er2)), (y3, .inl (cI, 61, .inl er3)), (y4, .inl (cI, 61, .inl er4)), (mZ, .inl (cI, 600, .inl eZ))]) (kC_of mk_40 rfl rfl) rfl) (by decide +kernel) rfl rfl rfl hl rfl (Nat.le_of_ble_eq_true rfl) dL_law_916 ⟨kfit2 hn (Nat.le_of_ble_eq_true rfl), ksix2 hn (Nat.le_of_ble_eq_true rfl)⟩ (fun r_6 H locs hB hJ hSn => ?_)
  refine Exists.elim hB (fun ze_6 hB6_0 => ?_)
  refine Exists.elim hB6_0 (fun zw_6 hB6_1 => ?_)
  refine Exists.elim hB6_1 (fun er1_6 hB6_2 => ?_)
  refine Exists.elim hB6_2 (fun er2_6 hB6_3 => ?_)
  refine Exists.elim hB6_3 (fun er3_6 hB6_4 => ?_)
  refine Exists.elim hB6_4 (fun er4_6 hB6_5 => ?_)
  refine Exists.elim hB6_5 (fun eZ_6 hB6_6 => ?_)
  refine Exists.elim hB6_6 (fun zn_6 hB6_7 => ?_)
  refine Exists.elim hB6_7 (fun eY_6 hB6_8 => ?_)
  refine Exists.elim hB6_8 (fun zd_6 hB6_9 => ?_)
  refine Exists.elim hB6_9 (fun zm_6 hB6_10 => ?_)
  refine Exists.elim hB6_10 (fun zl_6 hB6_11 => ?_)
  refine Exists.elim hB6_11 (fun eE_6 hB6_12 => ?_)
  refine Exists.elim hB6_12 (fun zk_6 hB6_13 => ?_)
  refine Exists.elim hB6_13 (fun eW_6 hB6_14 => ?_)
  refine Exists.elim hB6_14 (fun eO_6 hB6_15 => ?_)
  refine Exists.elim hB6_15 (fun zp_6 hB6_16 => ?_)
  refine Exists.elim hB6_16 (fun zf_6 hB6_17 => ?_)
  refine Exists.elim hB6_17 (fun zs_6 hB6_18 => ?_)
  refine Exists.elim hB6_18 (fun eS_6 hB6_19 => ?_)
  refine Exists.elim hB6_19 (fun eX_6 hB6_20 => ?_)
  refine And.elim (fun hPD9 hB6_21 => ?_) hB6_20
  refine And.elim (fun hf6_0 hB6_22 => ?_) hB6_21
  refine And.elim (fun hf6_1 hB6_23 => ?_) hB6_22
  refine And.elim (fun hf6_2 hB6_24 => ?_) hB6_23
  refine And.elim (fun hf6_3 hB6_25 => ?_) hB6_24
  refine And.elim (fun hf6_4 hB6_26 => ?_) hB6_25
  refine And.elim (fun hf6_5 hB6_27 => ?_) hB6_26
  refine And.elim (fun hf6_6 hB6_28 => ?_) hB6_27
  refine And.elim (fun hf6_7 hB6_29 => ?_) hB6_28
  refine And.elim (fun hf6_8 hB6_30 => ?_) hB6_29
  refine And.elim (fun hf6_9 hB6_31 => ?_) hB6_30
  refine And.elim (fun hf6_10 hB6_32 => ?_) hB6_31
  refine And.elim (fun hf6_11 hB6_33 => ?_) hB6_32
  refine And.elim (fun hf6_12 hB6_34 => ?_) hB6_33
  refine And.elim (fun hf6_13 hB6_35 => ?_) hB6_34
  refine And.elim (fun hf6_14 hB6_36 => ?_) hB6_35
  have hf6_15 := hB6_36
  clear hB hB6_0 hB6_1 hB6_2 hB6_3 hB6_4 hB6_5 hB6_6 hB6_7 hB6_8 hB6_9 hB6_10 hB6_11 hB6_12 hB6_13 hB6_14 hB6_15 hB6_16 hB6_17 hB6_18 hB6_19 hB6_20 hB6_21 hB6_22 hB6_23 hB6_24 hB6_25 hB6_26 hB6_27 hB6_28 hB6_29 hB6_30 hB6_31 hB6_32 hB6_33 hB6_34 hB6_35 hB6_36
  obtain ⟨hPn, hDn⟩ := kJm (m := mk_40) hJ rfl hPD9.1 hPD9.2 [0, 7, 8, 3, 2, 9, 10, 15, 16, 17, 1, 4, 5, 6, 11, 12, 13, 14, 18] (by decide +kernel) (ws := [(oM, .inr (12, [.ref mT, .int zt, .ref mS, .ref mX, .int zp_6, .int zf_6, .ref mL, .ref mB, .ref mD, .ref m1, .ref m2, .int zh, .ref mR, .int zr, .ref x1, .ref x2, .ref x3, .int zc, .ref mH, .int zy, .int za, .int zb, .int zs_6, .int zq, .int zw_6, .int ze_6, .ref mY, .int zn_6, .ref mE, .int zm_6, .int zl_6, .ref mW, .int zk_6, .ref mO, .int zd_6, .ref y1, .ref y2, .ref y3, .ref y4, .ref mZ])), (mS, .inl (cI, 21, .inl eS_6)), (mX, .inl (cI, 6300, .inl eX_6)), (mL, .inl (cI, 512, .inl eL)), (mB, .inl (cS, 131072, .inl eB)), (m1, .inl (cI, 6, .inl e1)), (m2, .inl (cI, 6, .inl e2)), (x1, .inl (cI, 300, .inl ec1)), (x2, .inl (cI, 300, .inl ec2)), (x3, .inl (cI, 300, .inl ec3)), (mY, .inl (cI, 2600, .inl eY_6)), (mE, .inl (cI, 2600, .inl eE_6)), (mW, .inl (cI, 300, .inl eW_6)), (mO, .inl (cI, 300, .inl eO_6)), (y1, .inl (cI, 61, .inl er1_6)), (y2, .inl (cI, 61, .inl er2_6)), (y3, .inl (cI, 61, .inl er3_6)), (y4, .inl (cI, 61, .inl er4_6)), (mZ, .inl (cI, 600, .inl eZ_6))]) rfl (wn := [(oX, .inr (11, [.ref nT, .ref nL, .ref nM, .ref oC, .ref oP, .ref oH, .ref oK, .ref oG, .ref oR, .ref oQ, .ref oW, .int fa_3])), (nT, .inr (5, [.ref aT, .int lT])), (aT, .inl (cI, 900, .inl fT)), (nL, .inr (5, [.ref aL, .int lL_3])), (aL, .inl (cI, 300, .inl fL_3)), (nM, .inr (5, [.ref aM, .int lM_3])), (aM, .inl (cI, 300, .inl fM_3)), (oC, .inr (2, [.ref o4, .ref o5])), (o4, .inr (10, [.ref a41, .ref a42, .ref a43, .int l4])), (a41, .inl (cI, 256, .inl f41)), (a42, .inl (cI, 512, .inl f42)), (a43, .inl (cI, 512, .inl f43)), (o5, .inr (10, [.ref a51, .ref a52, .ref a53, .int l5])), (a51, .inl (cI, 256, .inl f51)), (a52, .inl (cI, 512, .inl f52)), (a53, .inl (cI, 512, .inl f53)), (oP, .inr (7, [.ref oC, .ref nB, .int ft_3])), (nB, .inr (5, [.ref aB, .int lB_3])), (aB, .inl (cI, 2400, .inl fB_3)), (oH, .inr (4, [.ref oP, .ref h1, .ref h2, .int lH])), (h1, .inl (cI, 6, .inl fH1)), (h2, .inl (cI, 6, .inl fH2)), (oK, .inr (3, [.ref k1, .ref k2, .int lK])), (k1, .inl (cI, 1024, .inl fK1)), (k2, .inl (cI, 1024, .inl fK2)), (oG, .inr (0, [.ref g1, .ref g2, .int gn_3, .int lG_3])), (g1, .inl (cI, 6000, .inl fG1_3)), (g2, .inl (cI, 20, .inl fG2_3)), (oR, .inr (9, [.ref oH, .ref oK, .ref n1, .ref n2, .ref n3, .ref r1, .ref r2, .ref r3, .ref r4, .ref r5, .ref r6, .int lR])), (n1, .inr (5, [.ref a1, .int l1])), (a1, .inl (cI, 300, .inl f1)), (n2, .inr (5, [.ref a2, .int l2])), (a2, .inl (cI, 300, .inl f2)), (n3, .inr (5, [.ref a3, .int l3])), (a3, .inl (cI, 300, .inl f3)), (r1, .inl (cI, 258, .inl fR1)), (r2, .inl (cI, 258, .inl fR2)), (r3, .inl (cI, 774, .inl fR3)), (r4, .inl (cI, 258, .inl fR4)), (r5, .inl (cI, 258, .inl fR5)), (r6, .inl (cI, 774, .inl fR6)), (oQ, .inr (6, [.ref oC, .ref oH, .ref oK, .ref oE, .ref nq, .ref np, .ref nv, .ref q1, .ref q2, .ref q3, .ref q4, .int pr_3])), (oE, .inr (8, [.ref oC, .ref oK, .int reE_3, .int laE_3, .int suE_3, .int leE_3])), (nq, .inr (5, [.ref aq, .int lq_3])), (aq, .inl (cI, 480, .inl fq_3)), (np, .inr (5, [.ref ap, .int lp_3])), (ap, .inl (cI, 300, .inl fp_3)), (nv, .inr (5, [.ref av, .int lv_3])), (av, .inl (cI, 300, .inl fv_3)), (q1, .inl (cI, 61, .inl fQ1_3)), (q2, .inl (cI, 61, .inl fQ2_3)), (q3, .inl (cI, 61, .inl fQ3_3)), (q4, .inl (cI, 61, .inl fQ4_3)), (oW, .inr (1, [.ref oC, .ref oK, .ref nw, .ref w1, .ref w2, .ref w3, .ref o7, .ref o8, .ref o9, .ref w4, .ref w5, .ref w6, .ref w7, .int ke, .int tl, .int fsh_3, .int wi, .int ri, .int fm, .int lm])), (nw, .inr (5, [.ref aw, .int lw])), (aw, .inl (cI, 800, .inl fw)), (o7, .inr (8, [.ref oC, .ref oK, .int re7, .int la7, .int su7, .int le7])), (o8, .inr (8, [.ref oC, .ref oK, .int re8, .int la8, .int su8, .int le8])), (o9, .inr (8, [.ref oC, .ref oK, .int re9, .int la9, .int su9, .int le9])), (w1, .inl (cI, 801, .inl fW1)), (w2, .inl (cI, 801, .inl fW2)), (w3, .inl (cI, 801, .inl fW3)), (w4, .inl (cI, 200, .inl fW4)), (w5, .inl (cI, 200, .inl fW5)), (w6, .inl (cI, 200, .inl fW6)), (w7, .inl (cI, 200, .inl fW7)), (oM, .inr (12, [.ref mT, .int zt, .ref mS, .ref mX, .int zp_6, .int zf_6, .ref mL, .ref mB, .ref mD, .ref m1, .ref m2, .int zh, .ref mR, .int zr, .ref x1, .ref x2, .ref x3, .int zc, .ref mH, .int zy, .int za, .int zb, .int zs_6, .int zq, .int zw_6, .int ze_6, .ref mY, .int zn_6, .ref mE, .int zm_6, .int zl_6, .ref mW, .int zk_6, .ref mO, .int zd_6, .ref y1, .ref y2, .ref y3, .ref y4, .ref mZ])), (mT, .inl (cI, 900, .inl eT)), (mS, .inl (cI, 21, .inl eS_6)), (mX, .inl (cI, 6300, .inl eX_6)), (mL, .inl (cI, 512, .inl eL)), (mB, .inl (cS, 131072, .inl eB)), (mD, .inl (cI, 2, .inl eD)), (m1, .inl (cI, 6, .inl e1)), (m2, .inl (cI, 6, .inl e2)), (mR, .inl (cI, 1548, .inl eR)), (x1, .inl (cI, 300, .inl ec1)), (x2, .inl (cI, 300, .inl ec2)), (x3, .inl (cI, 300, .inl ec3)), (mH, .inl (cI, 800, .inl eH)), (mY, .inl (cI, 2600, .inl eY_6)), (mE, .inl (cI, 2600, .inl eE_6)), (mW, .inl (cI, 300, .inl eW_6)), (mO, .inl (cI, 300, .inl eO_6)), (y1, .inl (cI, 61, .inl er1_6)), (y2, .inl (cI, 61, .inl er2_6)), (y3, .inl (cI, 61, .inl er3_6)), (y4, .inl (cI, 61, .inl er4_6)), (mZ, .inl (cI, 600, .inl eZ_6)), (oJ, .inl (cJ, 1, .inr (.inl fJ)))]) rfl
  clear hP hD hS hJ hPD9
  have hP := hPn
  have hD := hDn
  have hS := hSn
  clear hPn hDn hSn
  refine lv_pop hx hb dL_law_919 rfl ?_
  refine lv_goto (tgt := 1022) hx hb dL_law_920 (by decide) ?_
  have hcg := e_pt hr4 hr5 hlz g_eB g_eL hH g_lH.1 hHe hCV hTX hCH hf3_10 hf6_15 g_lL.1 g_lL.2 g_gn g_zp g_zf g_fG2
  have hdf : DFr fsh fsh_3 zs zs_6 := hcg.2.2.2
  refine W.widen (k := 90 + (nc + 1)) (n := 172225 + 6 * (nc + 1)) (by omega) (by omega) ?_
  exact kk fa_3 lT lL_3 lM_3 l4 l5 ft_3 lB_3 lH lK gn_3 lG_3 lR l1 l2 l3 pr_3 reE_3 laE_3 suE_3 leE_3 lq_3 lp_3 lv_3 ke tl fsh_3 wi ri fm lm lw re7 la7 su7 le7 re8 la8 su8 le8 re9 la9 su9 le9 zt zp_6 zf_6 zh zr zc zy za zb zs_6 zq zw_6 ze_6 zn_6 zm_6 zl_6 zk_6 zd_6 fT fL_3 fM_3 f41 f42 f43 f51 f52 f53 fB_3 fH1 fH2 fK1 fK2 fG1_3 fG2_3 f1 f2 f3 fR1 fR2 fR3 fR4 fR5 fR6 fq_3 fp_3 fv_3 fQ1_3 fQ2_3 fQ3_3 fQ4_3 fw fW1 fW2 fW3 fW4 fW5 fW6 fW7 eT eS_6 eX_6 eL eB eD e1 e2 eR ec1 ec2 ec3 eH eY_6 eE_6 eW_6 eO_6 er1_6 er2_6 er3_6 er4_6 eZ_6 fJ _ _ _ ⟨g_lT, hf3_5, hf3_4, hf3_3, g_lH, g_lK, hf3_7, hf3_8, g_lR, g_l1, g_l2, g_l3, hf3_0, hf3_1, hf3_2, g_ke, hf3_6, g_fm, g_lm, g_lw, g_zt, hf6_8, hf6_9, g_zh, g_zr, g_zc, g_zy, g_za, g_zb, hf6_10, g_zq, hf6_1, hf6_3, hf6_5, hf3_9, hf6_11, hf6_12, g_eL, g_eB, g_e1, g_e2, hf6_2, hf6_4, hf6_6, hf6_7, hf6_0, by omega, hrel, hrc, hr4, hr5, hb4, hb5, hlz, hH, hHe, hKz, hT, ho, hal, hCV, hVk, hVr, hcg.2.1, hcg.2.2.1, hvc, fr_d hfr hdf, fx_d hfx hdf, frs_st hfs hfr hf6_14⟩ hP hD hS (lv_sub hl [0, 1, 2, 3, 4] rfl)

set_option maxHeartbeats 40000000 in
set_option maxRecDepth 100000 in
theorem law_choices {p : Program} {l : Launch} {e : Env} {s : State} {m : MethodId} {below : List Frame} {meth : Method} {c : Code} {dC : Nat → ClassId} {dI : Nat → Nat → Nat} {cI cS cJ : ClassId} {A : Nat → Prop} {b L : Nat} {xs : Nat → Int32} (C0 : lw_At p s m meth c b L xs) (hAd : A = fun q : Nat => s.heap.size ≤ q) (hK3 : va_K (dC, dI) vwCl [(cI, .int), (cS, .short), (cJ, .long)] s) {oX nT aT nL aL nM aM oC o4 a41 a42 a43 o5 a51 a52 a53 oP nB aB oH h1 h2 oK k1 k2 oG g1 g2 oR n1 a1 n2 a2 n3 a3 r1 r2 r3 r4 r5 r6 oQ oE nq aq np ap nv av q1 q2 q3 q4 oW nw aw o7 o8 o9 w1 w2 w3 w4 w5 w6 w7 oM mT mS mX mL mB mD m1 m2 mR x1 x2 x3 mH mY mE mW mO y1 y2 y3 y4 mZ oJ : Nat} {fa : Int32} {lT : Int32} {lL : Int32} {lM : Int32} {l4 : Int32} {l5 : Int32} {ft : Int32} {lB : Int32} {lH : Int32} {lK : Int32} {gn : Int32} {lG : Int32} {lR : Int32} {l1 : Int32} {l2 : Int32} {l3 : Int32} {pr : Int32} {reE : Int32} {laE : Int32} {suE : Int32} {leE : Int32} {lq : Int32} {lp : Int32} {lv : Int32} {ke : Int32} {tl : Int32} {fsh : Int32} {wi : Int32} {ri : Int32} {fm : Int32} {lm : Int32} {lw : Int32} {re7 : Int32} {la7 : Int32} {su7 : Int32} {le7 : Int32} {re8 : Int32} {la8 : Int32} {su8 : Int32} {le8 : Int32} {re9 : Int32} {la9 : Int32} {su9 : Int32} {le9 : Int32} {zt : Int32} {zp : Int32} {zf : Int32} {zh : Int32} {zr : Int32} {zc : Int32} {zy : Int32} {za : Int32} {zb : Int32} {zs : Int32} {zq : Int32} {zw : Int32} {ze : Int32} {zn : Int32} {zm : Int32} {zl : Int32} {zk : Int32} {zd : Int32} {fT : Nat → Int32} {fL : Nat → Int32} {fM : Nat → Int32} {f41 : Nat → Int32} {f42 : Nat → Int32} {f43 : Nat → Int32} {f51 : Nat → Int32} {f52 : Nat → Int32} {f53 : Nat → Int32} {fB : Nat → Int32} {fH1 : Nat → Int32} {fH2 : Nat → Int32} {fK1 : Nat → Int32} {fK2 : Nat → Int32} {fG1 : Nat → Int32} {fG2 : Nat → Int32} {f1 : Nat → Int32} {f2 : Nat → Int32} {f3 : Nat → Int32} {fR1 : Nat → Int32} {fR2 : Nat → Int32} {fR3 : Nat → Int32} {fR4 : Nat → Int32} {fR5 : Nat → Int32} {fR6 : Nat → Int32} {fq : Nat → Int32} {fp : Nat → Int32} {fv : Nat → Int32} {fQ1 : Nat → Int32} {fQ2 : Nat → Int32} {fQ3 : Nat → Int32} {fQ4 : Nat → Int32} {fw : Nat → Int32} {fW1 : Nat → Int32} {fW2 : Nat → Int32} {fW3 : Nat → Int32} {fW4 : Nat → Int32} {fW5 : Nat → Int32} {fW6 : Nat → Int32} {fW7 : Nat → Int32} {eT : Nat → Int32} {eS : Nat → Int32} {eX : Nat → Int32} {eL : Nat → Int32} {eB : Nat → Int32} {eD : Nat → Int32} {e1 : Nat → Int32} {e2 : Nat → Int32} {eR : Nat → Int32} {ec1 : Nat → Int32} {ec2 : Nat → Int32} {ec3 : Nat → Int32} {eH : Nat → Int32} {eY : Nat → Int32} {eE : Nat → Int32} {eW : Nat → Int32} {eO : Nat → Int32} {er1 : Nat → Int32} {er2 : Nat → Int32} {er3 : Nat → Int32} {er4 : Nat → Int32} {eZ : Nat → Int32} {fJ : Nat → Int64} {H : Heap} {locs : List Loc} {ls : Array Slot} {i : Int32} {nc : Nat} (hn : nc ≤ 511) (hi : 0 ≤ i.toInt ∧ i.toInt + 5 < (L : Int)) (hL : L ≤ 3072) (hI : INV nc lT lL lM l4 l5 lB lH lK gn lG lR l1 l2 l3 lq lp lv ke fsh wi ri fm lm lw zt zp zf zh zr zc zy za zb zs zq zn zm zk fT fL f41 f42 f43 f51 f52 f53 fH1 fH2 fK1 fK2 fG1 fG2 fW4 fW5 fW6 fW7 eT eS eX eL eB eD e1 e2 ec1 ec2 ec3 eH eY eE eW eO eZ) (hP : va_P (dC, dI) vwCl (WLD cI cS cJ oX nT aT nL aL nM aM oC o4 a41 a42 a43 o5 a51 a52 a53 oP nB aB oH h1 h2 oK k1 k2 oG g1 g2 oR n1 a1 n2 a2 n3 a3 r1 r2 r3 r4 r5 r6 oQ oE nq aq np ap nv av q1 q2 q3 q4 oW nw aw o7 o8 o9 w1 w2 w3 w4 w5 w6 w7 oM mT mS mX mL mB mD m1 m2 mR x1 x2 x3 mH mY mE mW mO y1 y2 y3 y4 mZ oJ fa lT lL lM l4 l5 ft lB lH lK gn lG lR l1 l2 l3 pr reE laE suE leE lq lp lv ke tl fsh wi ri fm lm lw re7 la7 su7 le7 re8 la8 su8 le8 re9 la9 su9 le9 zt zp zf zh zr zc zy za zb zs zq zw ze zn zm zl zk zd fT fL fM f41 f42 f43 f51 f52 f53 fB fH1 fH2 fK1 fK2 fG1 fG2 f1 f2 f3 fR1 fR2 fR3 fR4 fR5 fR6 fq fp fv fQ1 fQ2 fQ3 fQ4 fw fW1 fW2 fW3 fW4 fW5 fW6 fW7 eT eS eX eL eB eD e1 e2 eR ec1 ec2 ec3 eH eY eE eW eO er1 er2 er3 er4 eZ fJ) H) (hD : va_D A (WLD cI cS cJ oX nT aT nL aL nM aM oC o4 a41 a42 a43 o5 a51 a52 a53 oP nB aB oH h1 h2 oK k1 k2 oG g1 g2 oR n1 a1 n2 a2 n3 a3 r1 r2 r3 r4 r5 r6 oQ oE nq aq np ap nv av q1 q2 q3 q4 oW nw aw o7 o8 o9 w1 w2 w3 w4 w5 w6 w7 oM mT mS mX mL mB mD m1 m2 mR x1 x2 x3 mH mY mE mW mO y1 y2 y3 y4 mZ oJ fa lT lL lM l4 l5 ft lB lH lK gn lG lR l1 l2 l3 pr reE laE suE leE lq lp lv ke tl fsh wi ri fm lm lw re7 la7 su7 le7 re8 la8 su8 le8 re9 la9 su9 le9 zt zp zf zh zr zc zy za zb zs zq zw ze zn zm zl zk zd fT fL fM f41 f42 f43 f51 f52 f53 fB fH1 fH2 fK1 fK2 fG1 fG2 f1 f2 f3 fR1 fR2 fR3 fR4 fR5 fR6 fq fp fv fQ1 fQ2 fQ3 fQ4 fw fW1 fW2 fW3 fW4 fW5 fW6 fW7 eT eS eX eL eB eD e1 e2 eR ec1 ec2 ec3 eH eY eE eW eO er1 er2 er3 er4 eZ fJ)) (hS : va_S A s.heap H locs) (hl : lv_has ls 7 [(0, .ref b), (1, .ref oX), (2, .ref oM), (3, .ref oJ), (4, .int i)]) (kk : KK p l e s m below meth c dC dI cI cS cJ A b oX nT aT nL aL nM aM oC o4 a41 a42 a43 o5 a51 a52 a53 oP nB aB oH h1 h2 oK k1 k2 oG g1 g2 oR n1 a1 n2 a2 n3 a3 r1 r2 r3 r4 r5 r6 oQ oE nq aq np ap nv av q1 q2 q3 q4 oW nw aw o7 o8 o9 w1 w2 w3 w4 w5 w6 w7 oM mT mS mX mL mB mD m1 m2 mR x1 x2 x3 mH mY mE mW mO y1 y2 y3 y4 mZ oJ i nc) : W p l e room_1 s m #[Value.ref b] below meth c H locs (90 + nc) (172225 + 6 * nc) (lw_Z below #[Value.ref b] s) (F0 m 923 ls []) := by
  refine And.elim (fun hx hBC_0 => ?_) C0
  refine And.elim (fun hb hBC_1 => ?_) hBC_0
  refine And.elim (fun hr hBC_2 => ?_) hBC_1
  refine And.elim (fun hml hBC_3 => ?_) hBC_2
  refine And.elim (fun hown hBC_4 => ?_) hBC_3
  refine And.elim (fun hts0 hBC_5 => ?_) hBC_4
  refine And.elim (fun hX hBC_6 => ?_) hBC_5
  refine And.elim (fun hbl hBC_7 => ?_) hBC_6
  refine And.elim (fun hlocks hBC_8 => ?_) hBC_7
  have hgv := hBC_8
  clear hBC_0 hBC_1 hBC_2 hBC_3 hBC_4 hBC_5 hBC_6 hBC_7 hBC_8
  refine And.elim (fun g_lT hBI_0 => ?_) hI
  refine And.elim (fun g_lL hBI_1 => ?_) hBI_0
  refine And.elim (fun g_lM hBI_2 => ?_) hBI_1
  refine And.elim (fun g_lB hBI_3 => ?_) hBI_2
  refine And.elim (fun g_lH hBI_4 => ?_) hBI_3
  refine And.elim (fun g_lK hBI_5 => ?_) hBI_4
  refine And.elim (fun g_gn hBI_6 => ?_) hBI_5
  refine And.elim (fun g_lG hBI_7 => ?_) hBI_6
  refine And.elim (fun g_lR hBI_8 => ?_) hBI_7
  refine And.elim (fun g_l1 hBI_9 => ?_) hBI_8
  refine And.elim (fun g_l2 hBI_10 => ?_) hBI_9
  refine And.elim (fun g_l3 hBI_11 => ?_) hBI_10
  refine And.elim (fun g_lq hBI_12 => ?_) hBI_11
  refine And.elim (fun g_lp hBI_13 => ?_) hBI_12
  refine And.elim (fun g_lv hBI_14 => ?_) hBI_13
  refine And.elim (fun g_ke hBI_15 => ?_) hBI_14
  refine And.elim (fun g_fsh hBI_16 => ?_) hBI_15
  refine And.elim (fun g_fm hBI_17 => ?_) hBI_16
  refine And.elim (fun g_lm hBI_18 => ?_) hBI_17
  refine And.elim (fun g_lw hBI_19 => ?_) hBI_18
  refine And.elim (fun g_zt hBI_20 => ?_) hBI_19
  refine And.elim (fun g_zp hBI_21 => ?_) hBI_20
  refine And.elim (fun g_zf hBI_22 => ?_) hBI_21
  refine And.elim (fun g_zh hBI_23 => ?_) hBI_22
  refine And.elim (fun g_zr hBI_24 => ?_) hBI_23
  refine And.elim (fun g_zc hBI_25 => ?_) hBI_24
  refine And.elim (fun g_zy hBI_26 => ?_) hBI_25
  refine And.elim (fun g_za hBI_27 => ?_) hBI_26
  refine And.elim (fun g_zb hBI_28 => ?_) hBI_27
  refine And.elim (fun g_zs hBI_29 => ?_) hBI_28
  refine And.elim (fun g_zq hBI_30 => ?_) hBI_29
  refine And.elim (fun g_zn hBI_31 => ?_) hBI_30
  refine And.elim (fun g_zm hBI_32 => ?_) hBI_31
  refine And.elim (fun g_zk hBI_33 => ?_) hBI_32
  refine And.elim (fun g_fG2 hBI_34 => ?_) hBI_33
  refine And.elim (fun g_eS hBI_35 => ?_) hBI_34
  refine And.elim (fun g_eX hBI_36 => ?_) hBI_35
  refine And.elim (fun g_eL hBI_37 => ?_) hBI_36
  refine And.elim (fun g_eB hBI_38 => ?_) hBI_37
  refine And.elim (fun g_e1 hBI_39 => ?_) hBI_38
  refine And.elim (fun g_e2 hBI_40 => ?_) hBI_39
  refine And.elim (fun g_eY hBI_41 => ?_) hBI_40
  refine And.elim (fun g_eE hBI_42 => ?_) hBI_41
  refine And.elim (fun g_eW hBI_43 => ?_) hBI_42
  refine And.elim (fun g_eO hBI_44 => ?_) hBI_43
  refine And.elim (fun g_eZ hBI_45 => ?_) hBI_44
  refine And.elim (fun hzn hBI_46 => ?_) hBI_45
  refine And.elim (fun hrel hBI_47 => ?_) hBI_46
  refine And.elim (fun hrc hBI_48 => ?_) hBI_47
  refine And.elim (fun hr4 hBI_49 => ?_) hBI_48
  refine And.elim (fun hr5 hBI_50 => ?_) hBI_49
  refine And.elim (fun hb4 hBI_51 => ?_) hBI_50
  refine And.elim (fun hb5 hBI_52 => ?_) hBI_51
  refine And.elim (fun hlz hBI_53 => ?_) hBI_52
  refine And.elim (fun hH hBI_54 => ?_) hBI_53
  refine And.elim (fun hHe hBI_55 => ?_) hBI_54
  refine And.elim (fun hKz hBI_56 => ?_) hBI_55
  refine And.elim (fun hT hBI_57 => ?_) hBI_56
  refine And.elim (fun ho hBI_58 => ?_) hBI_57
  refine And.elim (fun hal hBI_59 => ?_) hBI_58
  refine And.elim (fun hCV hBI_60 => ?_) hBI_59
  refine And.elim (fun hVk hBI_61 => ?_) hBI_60
  refine And.elim (fun hVr hBI_62 => ?_) hBI_61
  refine And.elim (fun hTX hBI_63 => ?_) hBI_62
  refine And.elim (fun hCH hBI_64 => ?_) hBI_63
  refine And.elim (fun hvc hBI_65 => ?_) hBI_64
  refine And.elim (fun hfr hBI_66 => ?_) hBI_65
  refine And.elim (fun hfx hBI_67 => ?_) hBI_66
  have hfs := hBI_67
  clear hI hBI_0 hBI_1 hBI_2 hBI_3 hBI_4 hBI_5 hBI_6 hBI_7 hBI_8 hBI_9 hBI_10 hBI_11 hBI_12 hBI_13 hBI_14 hBI_15 hBI_16 hBI_17 hBI_18 hBI_19 hBI_20 hBI_21 hBI_22 hBI_23 hBI_24 hBI_25 hBI_26 hBI_27 hBI_28 hBI_29 hBI_30 hBI_31 hBI_32 hBI_33 hBI_34 hBI_35 hBI_36 hBI_37 hBI_38 hBI_39 hBI_40 hBI_41 hBI_42 hBI_43 hBI_44 hBI_45 hBI_46 hBI_47 hBI_48 hBI_49 hBI_50 hBI_51 hBI_52 hBI_53 hBI_54 hBI_55 hBI_56 hBI_57 hBI_58 hBI_59 hBI_60 hBI_61 hBI_62 hBI_63 hBI_64 hBI_65 hBI_66 hBI_67
  have hK : va_K (dC, dI) vwCl [(cI, .int), (cS, .short)] s := hK3.sub [0, 1] rfl
  have hown : s.vm.findClass RL = some m.cls := hown
  have hts := hts0
  have hcf := k_cf hx hb hml hown hts
  have hi9 : 0 ≤ i.toInt ∧ i.toInt ≤ 3066 := by omega
  have hzs : zs.toInt ≤ 1000000 := by omega
  have hA : ∀ q : Nat, s.heap.size ≤ q → A q := fun q h => by rw [hAd]; exact h
  have hbA : ¬ A b := by rw [hAd]; exact Nat.not_le.mpr hbl
  have hP : va_P (dC, dI) vwCl [(oX, .inr (11, [.ref nT, .ref nL, .ref nM, .ref oC, .ref oP, .ref oH, .ref oK, .ref oG, .ref oR, .ref oQ, .ref oW, .int fa])), (nT, .inr (5, [.ref aT, .int lT])), (aT, .inl (cI, 900, .inl fT)), (nL, .inr (5, [.ref aL, .int lL])), (aL, .inl (cI, 300, .inl fL)), (nM, .inr (5, [.ref aM, .int lM])), (aM, .inl (cI, 300, .inl fM)), (oC, .inr (2, [.ref o4, .ref o5])), (o4, .inr (10, [.ref a41, .ref a42, .ref a43, .int l4])), (a41, .inl (cI, 256, .inl f41)), (a42, .inl (cI, 512, .inl f42)), (a43, .inl (cI, 512, .inl f43)), (o5, .inr (10, [.ref a51, .ref a52, .ref a53, .int l5])), (a51, .inl (cI, 256, .inl f51)), (a52, .inl (cI, 512, .inl f52)), (a53, .inl (cI, 512, .inl f53)), (oP, .inr (7, [.ref oC, .ref nB, .int ft])), (nB, .inr (5, [.ref aB, .int lB])), (aB, .inl (cI, 2400, .inl fB)), (oH, .inr (4, [.ref oP, .ref h1, .ref h2, .int lH])), (h1, .inl (cI, 6, .inl fH1)), (h2, .inl (cI, 6, .inl fH2)), (oK, .inr (3, [.ref k1, .ref k2, .int lK])), (k1, .inl (cI, 1024, .inl fK1)), (k2, .inl (cI, 1024, .inl fK2)), (oG, .inr (0, [.ref g1, .ref g2, .int gn, .int lG])), (g1, .inl (cI, 6000, .inl fG1)), (g2, .inl (cI, 20, .inl fG2)), (oR, .inr (9, [.ref oH, .ref oK, .ref n1, .ref n2, .ref n3, .ref r1, .ref r2, .ref r3, .ref r4, .ref r5, .ref r6, .int lR])), (n1, .inr (5, [.ref a1, .int l1])), (a1, .inl (cI, 300, .inl f1)), (n2, .inr (5, [.ref a2, .int l2])), (a2, .inl (cI, 300, .inl f2)), (n3, .inr (5, [.ref a3, .int l3])), (a3, .inl (cI, 300, .inl f3)), (r1, .inl (cI, 258, .inl fR1)), (r2, .inl (cI, 258, .inl fR2)), (r3, .inl (cI, 774, .inl fR3)), (r4, .inl (cI, 258, .inl fR4)), (r5, .inl (cI, 258, .inl fR5)), (r6, .inl (cI, 774, .inl fR6)), (oQ, .inr (6, [.ref oC, .ref oH, .ref oK, .ref oE, .ref nq, .ref np, .ref nv, .ref q1, .ref q2, .ref q3, .ref q4, .int pr])), (oE, .inr (8, [.ref oC, .ref oK, .int reE, .int laE, .int suE, .int leE])), (nq, .inr (5, [.ref aq, .int lq])), (aq, .inl (cI, 480, .inl fq)), (np, .inr (5, [.ref ap, .int lp])), (ap, .inl (cI, 300, .inl fp)), (nv, .inr (5, [.ref av, .int lv])), (av, .inl (cI, 300, .inl fv)), (q1, .inl (cI, 61, .inl fQ1)), (q2, .inl (cI, 61, .inl fQ2)), (q3, .inl (cI, 61, .inl fQ3)), (q4, .inl (cI, 61, .inl fQ4)), (oW, .inr (1, [.ref oC, .ref oK, .ref nw, .ref w1, .ref w2, .ref w3, .ref o7, .ref o8, .ref o9, .ref w4, .ref w5, .ref w6, .ref w7, .int ke, .int tl, .int fsh, .int wi, .int ri, .int fm, .int lm])), (nw, .inr (5, [.ref aw, .int lw])), (aw, .inl (cI, 800, .inl fw)), (o7, .inr (8, [.ref oC, .ref oK, .int re7, .int la7, .int su7, .int le7])), (o8, .inr (8, [.ref oC, .ref oK, .int re8, .int la8, .int su8, .int le8])), (o9, .inr (8, [.ref oC, .ref oK, .int re9, .int la9, .int su9, .int le9])), (w1, .inl (cI, 801, .inl fW1)), (w2, .inl (cI, 801, .inl fW2)), (w3, .inl (cI, 801, .inl fW3)), (w4, .inl (cI, 200, .inl fW4)), (w5, .inl (cI, 200, .inl fW5)), (w6, .inl (cI, 200, .inl fW6)), (w7, .inl (cI, 200, .inl fW7)), (oM, .inr (12, [.ref mT, .int zt, .ref mS, .ref mX, .int zp, .int zf, .ref mL, .ref mB, .ref mD, .ref m1, .ref m2, .int zh, .ref mR, .int zr, .ref x1, .ref x2, .ref x3, .int zc, .ref mH, .int zy, .int za, .int zb, .int zs, .int zq, .int zw, .int ze, .ref mY, .int zn, .ref mE, .int zm, .int zl, .ref mW, .int zk, .ref mO, .int zd, .ref y1, .ref y2, .ref y3, .ref y4, .ref mZ])), (mT, .inl (cI, 900, .inl eT)), (mS, .inl (cI, 21, .inl eS)), (mX, .inl (cI, 6300, .inl eX)), (mL, .inl (cI, 512, .inl eL)), (mB, .inl (cS, 131072, .inl eB)), (mD, .inl (cI, 2, .inl eD)), (m1, .inl (cI, 6, .inl e1)), (m2, .inl (cI, 6, .inl e2)), (mR, .inl (cI, 1548, .inl eR)), (x1, .inl (cI, 300, .inl ec1)), (x2, .inl (cI, 300, .inl ec2)), (x3, .inl (cI, 300, .inl ec3)), (mH, .inl (cI, 800, .inl eH)), (mY, .inl (cI, 2600, .inl eY)), (mE, .inl (cI, 2600, .inl eE)), (mW, .inl (cI, 300, .inl eW)), (mO, .inl (cI, 300, .inl eO)), (y1, .inl (cI, 61, .inl er1)), (y2, .inl (cI, 61, .inl er2)), (y3, .inl (cI, 61, .inl er3)), (y4, .inl (cI, 61, .inl er4)), (mZ, .inl (cI, 600, .inl eZ)), (oJ, .inl (cJ, 1, .inr (.inl fJ)))] H := hP
  have hD : va_D A [(oX, .inr (11, [.ref nT, .ref nL, .ref nM, .ref oC, .ref oP, .ref oH, .ref oK, .ref oG, .ref oR, .ref oQ, .ref oW, .int fa])), (nT, .inr (5, [.ref aT, .int lT])), (aT, .inl (cI, 900, .inl fT)), (nL, .inr (5, [.ref aL, .int lL])), (aL, .inl (cI, 300, .inl fL)), (nM, .inr (5, [.ref aM, .int lM])), (aM, .inl (cI, 300, .inl fM)), (oC, .inr (2, [.ref o4, .ref o5])), (o4, .inr (10, [.ref a41, .ref a42, .ref a43, .int l4])), (a41, .inl (cI, 256, .inl f41)), (a42, .inl (cI, 512, .inl f42)), (a43, .inl (cI, 512, .inl f43)), (o5, .inr (10, [.ref a51, .ref a52, .ref a53, .int l5])), (a51, .inl (cI, 256, .inl f51)), (a52, .inl (cI, 512, .inl f52)), (a53, .inl (cI, 512, .inl f53)), (oP, .inr (7, [.ref oC, .ref nB, .int ft])), (nB, .inr (5, [.ref aB, .int lB])), (aB, .inl (cI, 2400, .inl fB)), (oH, .inr (4, [.ref oP, .ref h1, .ref h2, .int lH])), (h1, .inl (cI, 6, .inl fH1)), (h2, .inl (cI, 6, .inl fH2)), (oK, .inr (3, [.ref k1, .ref k2, .int lK])), (k1, .inl (cI, 1024, .inl fK1)), (k2, .inl (cI, 1024, .inl fK2)), (oG, .inr (0, [.ref g1, .ref g2, .int gn, .int lG])), (g1, .inl (cI, 6000, .inl fG1)), (g2, .inl (cI, 20, .inl fG2)), (oR, .inr (9, [.ref oH, .ref oK, .ref n1, .ref n2, .ref n3, .ref r1, .ref r2, .ref r3, .ref r4, .ref r5, .ref r6, .int lR])), (n1, .inr (5, [.ref a1, .int l1])), (a1, .inl (cI, 300, .inl f1)), (n2, .inr (5, [.ref a2, .int l2])), (a2, .inl (cI, 300, .inl f2)), (n3, .inr (5, [.ref a3, .int l3])), (a3, .inl (cI, 300, .inl f3)), (r1, .inl (cI, 258, .inl fR1)), (r2, .inl (cI, 258, .inl fR2)), (r3, .inl (cI, 774, .inl fR3)), (r4, .inl (cI, 258, .inl fR4)), (r5, .inl (cI, 258, .inl fR5)), (r6, .inl (cI, 774, .inl fR6)), (oQ, .inr (6, [.ref oC, .ref oH, .ref oK, .ref oE, .ref nq, .ref np, .ref nv, .ref q1, .ref q2, .ref q3, .ref q4, .int pr])), (oE, .inr (8, [.ref oC, .ref oK, .int reE, .int laE, .int suE, .int leE])), (nq, .inr (5, [.ref aq, .int lq])), (aq, .inl (cI, 480, .inl fq)), (np, .inr (5, [.ref ap, .int lp])), (ap, .inl (cI, 300, .inl fp)), (nv, .inr (5, [.ref av, .int lv])), (av, .inl (cI, 300, .inl fv)), (q1, .inl (cI, 61, .inl fQ1)), (q2, .inl (cI, 61, .inl fQ2)), (q3, .inl (cI, 61, .inl fQ3)), (q4, .inl (cI, 61, .inl fQ4)), (oW, .inr (1, [.ref oC, .ref oK, .ref nw, .ref w1, .ref w2, .ref w3, .ref o7, .ref o8, .ref o9, .ref w4, .ref w5, .ref w6, .ref w7, .int ke, .int tl, .int fsh, .int wi, .int ri, .int fm, .int lm])), (nw, .inr (5, [.ref aw, .int lw])), (aw, .inl (cI, 800, .inl fw)), (o7, .inr (8, [.ref oC, .ref oK, .int re7, .int la7, .int su7, .int le7])), (o8, .inr (8, [.ref oC, .ref oK, .int re8, .int la8, .int su8, .int le8])), (o9, .inr (8, [.ref oC, .ref oK, .int re9, .int la9, .int su9, .int le9])), (w1, .inl (cI, 801, .inl fW1)), (w2, .inl (cI, 801, .inl fW2)), (w3, .inl (cI, 801, .inl fW3)), (w4, .inl (cI, 200, .inl fW4)), (w5, .inl (cI, 200, .inl fW5)), (w6, .inl (cI, 200, .inl fW6)), (w7, .inl (cI, 200, .inl fW7)), (oM, .inr (12, [.ref mT, .int zt, .ref mS, .ref mX, .int zp, .int zf, .ref mL, .ref mB, .ref mD, .ref m1, .ref m2, .int zh, .ref mR, .int zr, .ref x1, .ref x2, .ref x3, .int zc, .ref mH, .int zy, .int za, .int zb, .int zs, .int zq, .int zw, .int ze, .ref mY, .int zn, .ref mE, .int zm, .int zl, .ref mW, .int zk, .ref mO, .int zd, .ref y1, .ref y2, .ref y3, .ref y4, .ref mZ])), (mT, .inl (cI, 900, .inl eT)), (mS, .inl (cI, 21, .inl eS)), (mX, .inl (cI, 6300, .inl eX)), (mL, .inl (cI, 512, .inl eL)), (mB, .inl (cS, 131072, .inl eB)), (mD, .inl (cI, 2, .inl eD)), (m1, .inl (cI, 6, .inl e1)), (m2, .inl (cI, 6, .inl e2)), (mR, .inl (cI, 1548, .inl eR)), (x1, .inl (cI, 300, .inl ec1)), (x2, .inl (cI, 300, .inl ec2)), (x3, .inl (cI, 300, .inl ec3)), (mH, .inl (cI, 800, .inl eH)), (mY, .inl (cI, 2600, .inl eY)), (mE, .inl (cI, 2600, .inl eE)), (mW, .inl (cI, 300, .inl eW)), (mO, .inl (cI, 300, .inl eO)), (y1, .inl (cI, 61, .inl er1)), (y2, .inl (cI, 61, .inl er2)), (y3, .inl (cI, 61, .inl er3)), (y4, .inl (cI, 61, .inl er4)), (mZ, .inl (cI, 600, .inl eZ)), (oJ, .inl (cJ, 1, .inr (.inl fJ)))] := hD
  have hN52 : va_Nw (.methodLinkNest RX2 52 yX11_isLetter "TextMender") s := va_Nw.of rfl (hts0 _ q_3_4)
  replace g_lT := hid g_lT
  replace g_lM := hid g_lM
  replace g_lB := hid g_lB
  replace g_lR := hid g_lR
  replace g_l1 := hid g_l1
  replace g_l2 := hid g_l2
  replace g_l3 := hid g_l3
  replace g_lq := hid g_lq
  replace g_lp := hid g_lp
  replace g_lv := hid g_lv
  replace g_fm := hid g_fm
  replace g_lm := hid g_lm
  replace g_lw := hid g_lw
  replace g_zt := hid g_zt
  replace g_zr := hid g_zr
  replace g_zn := hid g_zn
  replace g_zm := hid g_zm
  replace g_zk := hid g_zk
  refine lv_aload_n hx hb dL_law_923 rfl (lv_at hl 1 rfl) ?_
  refine lv_aload_n hx hb dL_law_924 rfl (lv_at hl 0 rfl) ?_
  refine lv_iload hx hb dL_law_925 (lv_at hl 4 rfl) ?_
  refine lv_iconst (v := 1) hx hb dL_law_927 (by decide) ?_
  refine lv_iadd hx hb dL_law_928 ?_
  refine lv_topi (fun x_1 ex_1 => ?_)
  have tx_1 : x_1.toInt = i.toInt + 1 := v_addR (l2 := 1) (h2 := 1) ex_1 hi9 (by decide) (by decide) (by decide)
  refine va_sld hx hb hX hbl hbA hS (v_in (v_sld5 tx_1 hi (by decide))) dL_law_929 ?_
  refine lv_topi (fun x_2 ex_2 => ?_)
  refine lv_aload_n hx hb dL_law_930 rfl (lv_at hl 0 rfl) ?_
  refine lv_iload hx hb dL_law_931 (lv_at hl 4 rfl) ?_
  refine lv_iconst (v := 2) hx hb dL_law_933 (by decide) ?_
  refine lv_iadd hx hb dL_law_934 ?_
  refine lv_topi (fun x_3 ex_3 => ?_)
  have tx_3 : x_3.toInt = i.toInt + 2 := v_addR (l2 := 2) (h2 := 2) ex_3 hi9 (by decide) (by decide) (by decide)
  refine va_sld hx hb hX hbl hbA hS (v_in (v_sld5 tx_3 hi (by decide))) dL_law_935 ?_
  refine lv_topi (fun x_4 ex_4 => ?_)
  refine kV_i (rest := []) (q0 := 0) (ci := 11) hcf (f_X11_choices l dC dI cI cS H.size oX nT nL nM oC oP oH oK oG oR oQ oW aL nw w1 w2 w3 o7 o8 o9 w4 w5 w6 w7 aw o4 o5 a41 a42 a43 a51 a52 a53 k1 k2 fa lL fL ke tl fsh wi ri fm lm fW1 fW2 fW3 fW4 fW5 fW6 fW7 lw fw re7 la7 su7 le7 re8 la8 su8 le8 re9 la9 su9 le9 l4 f41 f42 f43 l5 f51 f52 f53 lK fK1 fK2 x_2 x_4 (g_lL) (g_ke) (g_fsh) (g_fm) (g_lm) (g_lw) (g_lK) (TX_p hTX) (hr4.1) (occ_511 hr4.2.1) (hr5.1) (occ_511 hr5.2.1) (TR_r hr4 g_eL) (TR_r hr5 g_eL) (okB_cl hr4 hr5 g_eB) (hT) (ho) (hVk)) kc_X11_choices gL_law_X11_choices rfl rfl rfl ⟨Nat.le_of_ble_eq_true rfl, Nat.le_of_ble_eq_true rfl⟩ (kX_1 hN52) hK hP hD hS hA ([0, 1, 2, 15, 21, 22, 23, 24, 25, 26, 27, 16, 17, 18, 19, 20, 3, 4, 5, 6, 7, 8, 9, 10, 11, 12, 13, 14].filterMap (fun j => (posT mk_41 0)[j]?)) (posF mk_41 0) (kCp (ws := [(oX, .inr (11, [.ref nT, .ref nL, .ref nM, .ref oC, .ref oP, .ref oH, .ref oK, .ref oG, .ref oR, .ref oQ, .ref oW, .int fa])), (nL, .inr (5, [.ref aL, .int lL])), (aL, .inl (cI, 300, .inl fL)), (oC, .inr (2, [.ref o4, .ref o5])), (o4, .inr (10, [.ref a41, .ref a42, .ref a43, .int l4])), (a41, .inl (cI, 256, .inl f41)), (a42, .inl (cI, 512, .inl f42)), (a43, .inl (cI, 512, .inl f43)), (o5, .inr (10, [.ref a51, .ref a52, .ref a53, .int l5])), (a51, .inl (cI, 256, .inl f51)), (a52, .inl (cI, 512, .inl f52)), (a53, .inl (cI, 512, .inl f53)), (oK, .inr (3, [.ref k1, .ref k2, .int lK])), (k1, .inl (cI, 1024, .inl fK1)), (k2, .inl (cI, 1024, .inl fK2)), (oW, .inr (1, [.ref oC, .ref oK, .ref nw, .ref w1, .ref w2, .ref w3, .ref o7, .ref o8, .ref o9, .ref w4, .ref w5, .ref w6, .ref w7, .int ke, .int tl, .int fsh, .int wi, .int ri, .int fm, .int lm])), (nw, .inr (5, [.ref aw, .int lw])), (aw, .inl (cI, 800, .inl fw)), (o7, .inr (8, [.ref oC, .ref oK, .int re7, .int la7, .int su7, .int le7])), (o8, .inr (8, [.ref oC, .ref oK, .int re8, .int la8, .int su8, .int le8])), (o9, .inr (8, [.ref oC, .ref oK, .int re9, .int la9, .int su9, .int le9])), (w1, .inl (cI, 801, .inl fW1)), (w2, .inl (cI, 801, .inl fW2)), (w3, .inl (cI, 801, .inl fW3)), (w4, .inl (cI, 200, .inl fW4)), (w5, .inl (cI, 200, .inl fW5)), (w6, .inl (cI, 200, .inl fW6)), (w7, .inl (cI, 200, .inl fW7))]) (kC_of mk_41 rfl rfl) rfl) (by decide +kernel) rfl rfl rfl hl rfl (Nat.le_of_ble_eq_true rfl) dL_law_936 ⟨kfit1 hn (Nat.le_of_ble_eq_true rfl), ksix1 hn (Nat.le_of_ble_eq_true rfl)⟩ (fun r_5 H locs hB hJ hSn => ?_)
  refine Exists.elim hB (fun fa_5 hB5_0 => ?_)
  refine Exists.elim hB5_0 (fun lw_5 hB5_1 => ?_)
  refine Exists.elim hB5_1 (fun fm_5 hB5_2 => ?_)
  refine Exists.elim hB5_2 (fun lm_5 hB5_3 => ?_)
  refine Exists.elim hB5_3 (fun wi_5 hB5_4 => ?_)
  refine Exists.elim hB5_4 (fun ri_5 hB5_5 => ?_)
  refine Exists.elim hB5_5 (fun fsh_5 hB5_6 => ?_)
  refine Exists.elim hB5_6 (fun fw_5 hB5_7 => ?_)
  refine Exists.elim hB5_7 (fun fW1_5 hB5_8 => ?_)
  refine Exists.elim hB5_8 (fun fW2_5 hB5_9 => ?_)
  refine Exists.elim hB5_9 (fun fW3_5 hB5_10 => ?_)
  refine Exists.elim hB5_10 (fun ke_5 hB5_11 => ?_)
  refine Exists.elim hB5_11 (fun tl_5 hB5_12 => ?_)
  refine Exists.elim hB5_12 (fun fW4_5 hB5_13 => ?_)
  refine Exists.elim hB5_13 (fun fW5_5 hB5_14 => ?_)
  refine Exists.elim hB5_14 (fun fW6_5 hB5_15 => ?_)
  refine Exists.elim hB5_15 (fun fW7_5 hB5_16 => ?_)
  refine Exists.elim hB5_16 (fun re7_5 hB5_17 => ?_)
  refine Exists.elim hB5_17 (fun la7_5 hB5_18 => ?_)
  refine Exists.elim hB5_18 (fun su7_5 hB5_19 => ?_)
  refine Exists.elim hB5_19 (fun le7_5 hB5_20 => ?_)
  refine Exists.elim hB5_20 (fun re8_5 hB5_21 => ?_)
  refine Exists.elim hB5_21 (fun la8_5 hB5_22 => ?_)
  refine Exists.elim hB5_22 (fun su8_5 hB5_23 => ?_)
  refine Exists.elim hB5_23 (fun le8_5 hB5_24 => ?_)
  refine Exists.elim hB5_24 (fun re9_5 hB5_25 => ?_)
  refine Exists.elim hB5_25 (fun la9_5 hB5_26 => ?_)
  refine Exists.elim hB5_26 (fun su9_5 hB5_27 => ?_)
  refine Exists.elim hB5_27 (fun le9_5 hB5_28 => ?_)
  refine And.elim (fun hPD9 hB5_29 => ?_) hB5_28
  refine And.elim (fun hf5_0 hB5_30 => ?_) hB5_29
  refine And.elim (fun hf5_1 hB5_31 => ?_) hB5_30
  refine And.elim (fun hf5_2 hB5_32 => ?_) hB5_31
  refine And.elim (fun hf5_3 hB5_33 => ?_) hB5_32
  refine And.elim (fun hf5_4 hB5_34 => ?_) hB5_33
  have hf5_5 := hB5_34
  clear hB hB5_0 hB5_1 hB5_2 hB5_3 hB5_4 hB5_5 hB5_6 hB5_7 hB5_8 hB5_9 hB5_10 hB5_11 hB5_12 hB5_13 hB5_14 hB5_15 hB5_16 hB5_17 hB5_18 hB5_19 hB5_20 hB5_21 hB5_22 hB5_23 hB5_24 hB5_25 hB5_26 hB5_27 hB5_28 hB5_29 hB5_30 hB5_31 hB5_32 hB5_33 hB5_34
  obtain ⟨hPn, hDn⟩ := kJm (m := mk_41) hJ rfl hPD9.1 hPD9.2 [0, 1, 2, 16, 17, 18, 19, 20, 21, 22, 23, 24, 25, 26, 27, 3, 11, 12, 13, 14, 15, 4, 5, 6, 7, 8, 9, 10] (by decide +kernel) (ws := [(oX, .inr (11, [.ref nT, .ref nL, .ref nM, .ref oC, .ref oP, .ref oH, .ref oK, .ref oG, .ref oR, .ref oQ, .ref oW, .int fa_5])), (nL, .inr (5, [.ref aL, .int lL])), (aL, .inl (cI, 300, .inl fL)), (oC, .inr (2, [.ref o4, .ref o5])), (o4, .inr (10, [.ref a41, .ref a42, .ref a43, .int l4])), (a41, .inl (cI, 256, .inl f41)), (a42, .inl (cI, 512, .inl f42)), (a43, .inl (cI, 512, .inl f43)), (o5, .inr (10, [.ref a51, .ref a52, .ref a53, .int l5])), (a51, .inl (cI, 256, .inl f51)), (a52, .inl (cI, 512, .inl f52)), (a53, .inl (cI, 512, .inl f53)), (oK, .inr (3, [.ref k1, .ref k2, .int lK])), (k1, .inl (cI, 1024, .inl fK1)), (k2, .inl (cI, 1024, .inl fK2)), (oW, .inr (1, [.ref oC, .ref oK, .ref nw, .ref w1, .ref w2, .ref w3, .ref o7, .ref o8, .ref o9, .ref w4, .ref w5, .ref w6, .ref w7, .int ke_5, .int tl_5, .int fsh_5, .int wi_5, .int ri_5, .int fm_5, .int lm_5])), (nw, .inr (5, [.ref aw, .int lw_5])), (aw, .inl (cI, 800, .inl fw_5)), (o7, .inr (8, [.ref oC, .ref oK, .int re7_5, .int la7_5, .int su7_5, .int le7_5])), (o8, .inr (8, [.ref oC, .ref oK, .int re8_5, .int la8_5, .int su8_5, .int le8_5])), (o9, .inr (8, [.ref oC, .ref oK, .int re9_5, .int la9_5, .int su9_5, .int le9_5])), (w1, .inl (cI, 801, .inl fW1_5)), (w2, .inl (cI, 801, .inl fW2_5)), (w3, .inl (cI, 801, .inl fW3_5)), (w4, .inl (cI, 200, .inl fW4_5)), (w5, .inl (cI, 200, .inl fW5_5)), (w6, .inl (cI, 200, .inl fW6_5)), (w7, .inl (cI, 200, .inl fW7_5))]) rfl (wn := [(oX, .inr (11, [.ref nT, .ref nL, .ref nM, .ref oC, .ref oP, .ref oH, .ref oK, .ref oG, .ref oR, .ref oQ, .ref oW, .int fa_5])), (nT, .inr (5, [.ref aT, .int lT])), (aT, .inl (cI, 900, .inl fT)), (nL, .inr (5, [.ref aL, .int lL])), (aL, .inl (cI, 300, .inl fL)), (nM, .inr (5, [.ref aM, .int lM])), (aM, .inl (cI, 300, .inl fM)), (oC, .inr (2, [.ref o4, .ref o5])), (o4, .inr (10, [.ref a41, .ref a42, .ref a43, .int l4])), (a41, .inl (cI, 256, .inl f41)), (a42, .inl (cI, 512, .inl f42)), (a43, .inl (cI, 512, .inl f43)), (o5, .inr (10, [.ref a51, .ref a52, .ref a53, .int l5])), (a51, .inl (cI, 256, .inl f51)), (a52, .inl (cI, 512, .inl f52)), (a53, .inl (cI, 512, .inl f53)), (oP, .inr (7, [.ref oC, .ref nB, .int ft])), (nB, .inr (5, [.ref aB, .int lB])), (aB, .inl (cI, 2400, .inl fB)), (oH, .inr (4, [.ref oP, .ref h1, .ref h2, .int lH])), (h1, .inl (cI, 6, .inl fH1)), (h2, .inl (cI, 6, .inl fH2)), (oK, .inr (3, [.ref k1, .ref k2, .int lK])), (k1, .inl (cI, 1024, .inl fK1)), (k2, .inl (cI, 1024, .inl fK2)), (oG, .inr (0, [.ref g1, .ref g2, .int gn, .int lG])), (g1, .inl (cI, 6000, .inl fG1)), (g2, .inl (cI, 20, .inl fG2)), (oR, .inr (9, [.ref oH, .ref oK, .ref n1, .ref n2, .ref n3, .ref r1, .ref r2, .ref r3, .ref r4, .ref r5, .ref r6, .int lR])), (n1, .inr (5, [.ref a1, .int l1])), (a1, .inl (cI, 300, .inl f1)), (n2, .inr (5, [.ref a2, .int l2])), (a2, .inl (cI, 300, .inl f2)), (n3, .inr (5, [.ref a3, .int l3])), (a3, .inl (cI, 300, .inl f3)), (r1, .inl (cI, 258, .inl fR1)), (r2, .inl (cI, 258, .inl fR2)), (r3, .inl (cI, 774, .inl fR3)), (r4, .inl (cI, 258, .inl fR4)), (r5, .inl (cI, 258, .inl fR5)), (r6, .inl (cI, 774, .inl fR6)), (oQ, .inr (6, [.ref oC, .ref oH, .ref oK, .ref oE, .ref nq, .ref np, .ref nv, .ref q1, .ref q2, .ref q3, .ref q4, .int pr])), (oE, .inr (8, [.ref oC, .ref oK, .int reE, .int laE, .int suE, .int leE])), (nq, .inr (5, [.ref aq, .int lq])), (aq, .inl (cI, 480, .inl fq)), (np, .inr (5, [.ref ap, .int lp])), (ap, .inl (cI, 300, .inl fp)), (nv, .inr (5, [.ref av, .int lv])), (av, .inl (cI, 300, .inl fv)), (q1, .inl (cI, 61, .inl fQ1)), (q2, .inl (cI, 61, .inl fQ2)), (q3, .inl (cI, 61, .inl fQ3)), (q4, .inl (cI, 61, .inl fQ4)), (oW, .inr (1, [.ref oC, .ref oK, .ref nw, .ref w1, .ref w2, .ref w3, .ref o7, .ref o8, .ref o9, .ref w4, .ref w5, .ref w6, .ref w7, .int ke_5, .int tl_5, .int fsh_5, .int wi_5, .int ri_5, .int fm_5, .int lm_5])), (nw, .inr (5, [.ref aw, .int lw_5])), (aw, .inl (cI, 800, .inl fw_5)), (o7, .inr (8, [.ref oC, .ref oK, .int re7_5, .int la7_5, .int su7_5, .int le7_5])), (o8, .inr (8, [.ref oC, .ref oK, .int re8_5, .int la8_5, .int su8_5, .int le8_5])), (o9, .inr (8, [.ref oC, .ref oK, .int re9_5, .int la9_5, .int su9_5, .int le9_5])), (w1, .inl (cI, 801, .inl fW1_5)), (w2, .inl (cI, 801, .inl fW2_5)), (w3, .inl (cI, 801, .inl fW3_5)), (w4, .inl (cI, 200, .inl fW4_5)), (w5, .inl (cI, 200, .inl fW5_5)), (w6, .inl (cI, 200, .inl fW6_5)), (w7, .inl (cI, 200, .inl fW7_5)), (oM, .inr (12, [.ref mT, .int zt, .ref mS, .ref mX, .int zp, .int zf, .ref mL, .ref mB, .ref mD, .ref m1, .ref m2, .int zh, .ref mR, .int zr, .ref x1, .ref x2, .ref x3, .int zc, .ref mH, .int zy, .int za, .int zb, .int zs, .int zq, .int zw, .int ze, .ref mY, .int zn, .ref mE, .int zm, .int zl, .ref mW, .int zk, .ref mO, .int zd, .ref y1, .ref y2, .ref y3, .ref y4, .ref mZ])), (mT, .inl (cI, 900, .inl eT)), (mS, .inl (cI, 21, .inl eS)), (mX, .inl (cI, 6300, .inl eX)), (mL, .inl (cI, 512, .inl eL)), (mB, .inl (cS, 131072, .inl eB)), (mD, .inl (cI, 2, .inl eD)), (m1, .inl (cI, 6, .inl e1)), (m2, .inl (cI, 6, .inl e2)), (mR, .inl (cI, 1548, .inl eR)), (x1, .inl (cI, 300, .inl ec1)), (x2, .inl (cI, 300, .inl ec2)), (x3, .inl (cI, 300, .inl ec3)), (mH, .inl (cI, 800, .inl eH)), (mY, .inl (cI, 2600, .inl eY)), (mE, .inl (cI, 2600, .inl eE)), (mW, .inl (cI, 300, .inl eW)), (mO, .inl (cI, 300, .inl eO)), (y1, .inl (cI, 61, .inl er1)), (y2, .inl (cI, 61, .inl er2)), (y3, .inl (cI, 61, .inl er3)), (y4, .inl (cI, 61, .inl er4)), (mZ, .inl (cI, 600, .inl eZ)), (oJ, .inl (cJ, 1, .inr (.inl fJ)))]) rfl
  clear hP hD hS hJ hPD9
  have hP := hPn
  have hD := hDn
  have hS := hSn
  clear hPn hDn hSn
  refine lv_pop hx hb dL_law_939 rfl ?_
  refine lv_aload_n hx hb dL_law_940 rfl (lv_at hl 2 rfl) ?_
  refine lv_aload_n hx hb dL_law_941 rfl (lv_at hl 0 rfl) ?_
  refine lv_iload hx hb dL_law_942 (lv_at hl 4 rfl) ?_
  refine lv_iconst (v := 1) hx hb dL_law_944 (by decide) ?_
  refine lv_iadd hx hb dL_law_945 ?_
  refine lv_topi (fun x_6 ex_6 => ?_)
  have tx_6 : x_6.toInt = i.toInt + 1 := v_addR (l2 := 1) (h2 := 1) ex_6 hi9 (by decide) (by decide) (by decide)
  refine va_sld hx hb hX hbl hbA hS (v_in (v_sld5 tx_6 hi (by decide))) dL_law_946 ?_
  refine lv_topi (fun x_7 ex_7 => ?_)
  have es_7 : x_7 = x_2 := by rw [ex_7, ex_2, ex_6, ex_1]
  rw [es_7]
  refine lv_aload_n hx hb dL_law_947 rfl (lv_at hl 0 rfl) ?_
  refine lv_iload hx hb dL_law_948 (lv_at hl 4 rfl) ?_
  refine lv_iconst (v := 2) hx hb dL_law_950 (by decide) ?_
  refine lv_iadd hx hb dL_law_951 ?_
  refine lv_topi (fun x_8 ex_8 => ?_)
  have tx_8 : x_8.toInt = i.toInt + 2 := v_addR (l2 := 2) (h2 := 2) ex_8 hi9 (by decide) (by decide) (by decide)
  refine va_sld hx hb hX hbl hbA hS (v_in (v_sld5 tx_8 hi (by decide))) dL_law_952 ?_
  refine lv_topi (fun x_9 ex_9 => ?_)
  have es_9 : x_9 = x_4 := by rw [ex_9, ex_4, ex_8, ex_3]
  rw [es_9]
  refine kV_i (rest := []) (q0 := 0) (ci := 12) hcf (f_X12_choices l dC dI cI cS H.size oM mT mS mX mL mB mD m1 m2 mR x1 x2 x3 mH mY mE mW mO y1 y2 y3 y4 mZ zt zp zf zh zr zc zy za zb zs zq zw ze zn zm zl zk zd eY eB eL eE eW eH eS eX ec1 ec2 ec3 x_2 x_4 (g_zt) (g_zp) (g_zf) (g_zh) (g_zr) (g_zc) (g_zy) (g_za) (g_zb) (g_zs) (g_zq) (g_zn) (g_zm) (g_zk) (g_eY) (g_eB) (g_eL) (g_eE) (g_eW) (g_eS) (g_eX) (TX_l hTX) (LBr_of hb4 hb5) (hlz) (hVr) (by omega)) kc_X12_choices gL_law_X12_choices rfl rfl rfl ⟨Nat.le_of_ble_eq_true rfl, Nat.le_of_ble_eq_true rfl⟩ kX_t hK hP hD hS hA ([0, 9, 4, 3, 10, 11, 8, 1, 2, 5, 6, 7].filterMap (fun j => (posT mk_42 0)[j]?)) (posF mk_42 0) (kCp (ws := [(oM, .inr (12, [.ref mT, .int zt, .ref mS, .ref mX, .int zp, .int zf, .ref mL, .ref mB, .ref mD, .ref m1, .ref m2, .int zh, .ref mR, .int zr, .ref x1, .ref x2, .ref x3, .int zc, .ref mH, .int zy, .int za, .int zb, .int zs, .int zq, .int zw, .int ze, .ref mY, .int zn, .ref mE, .int zm, .int zl, .ref mW, .int zk, .ref mO, .int zd, .ref y1, .ref y2, .ref y3, .ref y4, .ref mZ])), (mS, .inl (cI, 21, .inl eS)), (mX, .inl (cI, 6300, .inl eX)), (mL, .inl (cI, 512, .inl eL)), (mB, .inl (cS, 131072, .inl eB)), (x1, .inl (cI, 300, .inl ec1)), (x2, .inl (cI, 300, .inl ec2)), (x3, .inl (cI, 300, .inl ec3)), (mH, .inl (cI, 800, .inl eH)), (mY, .inl (cI, 2600, .inl eY)), (mE, .inl (cI, 2600, .inl eE)), (mW, .inl (cI, 300, .inl eW))]) (kC_of mk_42 rfl rfl) rfl) (by decide +kernel) rfl rfl rfl hl rfl (Nat.le_of_ble_eq_true rfl) dL_law_953 ⟨kfit2 hn (Nat.le_of_ble_eq_true rfl), ksix2 hn (Nat.le_of_ble_eq_true rfl)⟩ (fun r_10 H locs hB hJ hSn => ?_)
  refine Exists.elim hB (fun ze_10 hB10_0 => ?_)
  refine Exists.elim hB10_0 (fun zw_10 hB10_1 => ?_)
  refine Exists.elim hB10_1 (fun zy_10 hB10_2 => ?_)
  refine Exists.elim hB10_2 (fun za_10 hB10_3 => ?_)
  refine Exists.elim hB10_3 (fun zb_10 hB10_4 => ?_)
  refine Exists.elim hB10_4 (fun zq_10 hB10_5 => ?_)
  refine Exists.elim hB10_5 (fun eH_10 hB10_6 => ?_)
  refine Exists.elim hB10_6 (fun zn_10 hB10_7 => ?_)
  refine Exists.elim hB10_7 (fun eY_10 hB10_8 => ?_)
  refine Exists.elim hB10_8 (fun zd_10 hB10_9 => ?_)
  refine Exists.elim hB10_9 (fun zm_10 hB10_10 => ?_)
  refine Exists.elim hB10_10 (fun zl_10 hB10_11 => ?_)
  refine Exists.elim hB10_11 (fun eE_10 hB10_12 => ?_)
  refine Exists.elim hB10_12 (fun zk_10 hB10_13 => ?_)
  refine Exists.elim hB10_13 (fun eW_10 hB10_14 => ?_)
  refine And.elim (fun hPD9 hB10_15 => ?_) hB10_14
  refine And.elim (fun hf10_0 hB10_16 => ?_) hB10_15
  refine And.elim (fun hf10_1 hB10_17 => ?_) hB10_16
  refine And.elim (fun hf10_2 hB10_18 => ?_) hB10_17
  refine And.elim (fun hf10_3 hB10_19 => ?_) hB10_18
  refine And.elim (fun hf10_4 hB10_20 => ?_) hB10_19
  refine And.elim (fun hf10_5 hB10_21 => ?_) hB10_20
  refine And.elim (fun hf10_6 hB10_22 => ?_) hB10_21
  refine And.elim (fun hf10_7 hB10_23 => ?_) hB10_22
  refine And.elim (fun hf10_8 hB10_24 => ?_) hB10_23
  refine And.elim (fun hf10_9 hB10_25 => ?_) hB10_24
  have hf10_10 := hB10_25
  clear hB hB10_0 hB10_1 hB10_2 hB10_3 hB10_4 hB10_5 hB10_6 hB10_7 hB10_8 hB10_9 hB10_10 hB10_11 hB10_12 hB10_13 hB10_14 hB10_15 hB10_16 hB10_17 hB10_18 hB10_19 hB10_20 hB10_21 hB10_22 hB10_23 hB10_24 hB10_25
  obtain ⟨hPn, hDn⟩ := kJm (m := mk_42) hJ rfl hPD9.1 hPD9.2 [0, 7, 8, 3, 2, 9, 10, 11, 6, 1, 4, 5] (by decide +kernel) (ws := [(oM, .inr (12, [.ref mT, .int zt, .ref mS, .ref mX, .int zp, .int zf, .ref mL, .ref mB, .ref mD, .ref m1, .ref m2, .int zh, .ref mR, .int zr, .ref x1, .ref x2, .ref x3, .int zc, .ref mH, .int zy_10, .int za_10, .int zb_10, .int zs, .int zq_10, .int zw_10, .int ze_10, .ref mY, .int zn_10, .ref mE, .int zm_10, .int zl_10, .ref mW, .int zk_10, .ref mO, .int zd_10, .ref y1, .ref y2, .ref y3, .ref y4, .ref mZ])), (mS, .inl (cI, 21, .inl eS)), (mX, .inl (cI, 6300, .inl eX)), (mL, .inl (cI, 512, .inl eL)), (mB, .inl (cS, 131072, .inl eB)), (x1, .inl (cI, 300, .inl ec1)), (x2, .inl (cI, 300, .inl ec2)), (x3, .inl (cI, 300, .inl ec3)), (mH, .inl (cI, 800, .inl eH_10)), (mY, .inl (cI, 2600, .inl eY_10)), (mE, .inl (cI, 2600, .inl eE_10)), (mW, .inl (cI, 300, .inl eW_10))]) rfl (wn := [(oX, .inr (11, [.ref nT, .ref nL, .ref nM, .ref oC, .ref oP, .ref oH, .ref oK, .ref oG, .ref oR, .ref oQ, .ref oW, .int fa_5])), (nT, .inr (5, [.ref aT, .int lT])), (aT, .inl (cI, 900, .inl fT)), (nL, .inr (5, [.ref aL, .int lL])), (aL, .inl (cI, 300, .inl fL)), (nM, .inr (5, [.ref aM, .int lM])), (aM, .inl (cI, 300, .inl fM)), (oC, .inr (2, [.ref o4, .ref o5])), (o4, .inr (10, [.ref a41, .ref a42, .ref a43, .int l4])), (a41, .inl (cI, 256, .inl f41)), (a42, .inl (cI, 512, .inl f42)), (a43, .inl (cI, 512, .inl f43)), (o5, .inr (10, [.ref a51, .ref a52, .ref a53, .int l5])), (a51, .inl (cI, 256, .inl f51)), (a52, .inl (cI, 512, .inl f52)), (a53, .inl (cI, 512, .inl f53)), (oP, .inr (7, [.ref oC, .ref nB, .int ft])), (nB, .inr (5, [.ref aB, .int lB])), (aB, .inl (cI, 2400, .inl fB)), (oH, .inr (4, [.ref oP, .ref h1, .ref h2, .int lH])), (h1, .inl (cI, 6, .inl fH1)), (h2, .inl (cI, 6, .inl fH2)), (oK, .inr (3, [.ref k1, .ref k2, .int lK])), (k1, .inl (cI, 1024, .inl fK1)), (k2, .inl (cI, 1024, .inl fK2)), (oG, .inr (0, [.ref g1, .ref g2, .int gn, .int lG])), (g1, .inl (cI, 6000, .inl fG1)), (g2, .inl (cI, 20, .inl fG2)), (oR, .inr (9, [.ref oH, .ref oK, .ref n1, .ref n2, .ref n3, .ref r1, .ref r2, .ref r3, .ref r4, .ref r5, .ref r6, .int lR])), (n1, .inr (5, [.ref a1, .int l1])), (a1, .inl (cI, 300, .inl f1)), (n2, .inr (5, [.ref a2, .int l2])), (a2, .inl (cI, 300, .inl f2)), (n3, .inr (5, [.ref a3, .int l3])), (a3, .inl (cI, 300, .inl f3)), (r1, .inl (cI, 258, .inl fR1)), (r2, .inl (cI, 258, .inl fR2)), (r3, .inl (cI, 774, .inl fR3)), (r4, .inl (cI, 258, .inl fR4)), (r5, .inl (cI, 258, .inl fR5)), (r6, .inl (cI, 774, .inl fR6)), (oQ, .inr (6, [.ref oC, .ref oH, .ref oK, .ref oE, .ref nq, .ref np, .ref nv, .ref q1, .ref q2, .ref q3, .ref q4, .int pr])), (oE, .inr (8, [.ref oC, .ref oK, .int reE, .int laE, .int suE, .int leE])), (nq, .inr (5, [.ref aq, .int lq])), (aq, .inl (cI, 480, .inl fq)), (np, .inr (5, [.ref ap, .int lp])), (ap, .inl (cI, 300, .inl fp)), (nv, .inr (5, [.ref av, .int lv])), (av, .inl (cI, 300, .inl fv)), (q1, .inl (cI, 61, .inl fQ1)), (q2, .inl (cI, 61, .inl fQ2)), (q3, .inl (cI, 61, .inl fQ3)), (q4, .inl (cI, 61, .inl fQ4)), (oW, .inr (1, [.ref oC, .ref oK, .ref nw, .ref w1, .ref w2, .ref w3, .ref o7, .ref o8, .ref o9, .ref w4, .ref w5, .ref w6, .ref w7, .int ke_5, .int tl_5, .int fsh_5, .int wi_5, .int ri_5, .int fm_5, .int lm_5])), (nw, .inr (5, [.ref aw, .int lw_5])), (aw, .inl (cI, 800, .inl fw_5)), (o7, .inr (8, [.ref oC, .ref oK, .int re7_5, .int la7_5, .int su7_5, .int le7_5])), (o8, .inr (8, [.ref oC, .ref oK, .int re8_5, .int la8_5, .int su8_5, .int le8_5])), (o9, .inr (8, [.ref oC, .ref oK, .int re9_5, .int la9_5, .int su9_5, .int le9_5])), (w1, .inl (cI, 801, .inl fW1_5)), (w2, .inl (cI, 801, .inl fW2_5)), (w3, .inl (cI, 801, .inl fW3_5)), (w4, .inl (cI, 200, .inl fW4_5)), (w5, .inl (cI, 200, .inl fW5_5)), (w6, .inl (cI, 200, .inl fW6_5)), (w7, .inl (cI, 200, .inl fW7_5)), (oM, .inr (12, [.ref mT, .int zt, .ref mS, .ref mX, .int zp, .int zf, .ref mL, .ref mB, .ref mD, .ref m1, .ref m2, .int zh, .ref mR, .int zr, .ref x1, .ref x2, .ref x3, .int zc, .ref mH, .int zy_10, .int za_10, .int zb_10, .int zs, .int zq_10, .int zw_10, .int ze_10, .ref mY, .int zn_10, .ref mE, .int zm_10, .int zl_10, .ref mW, .int zk_10, .ref mO, .int zd_10, .ref y1, .ref y2, .ref y3, .ref y4, .ref mZ])), (mT, .inl (cI, 900, .inl eT)), (mS, .inl (cI, 21, .inl eS)), (mX, .inl (cI, 6300, .inl eX)), (mL, .inl (cI, 512, .inl eL)), (mB, .inl (cS, 131072, .inl eB)), (mD, .inl (cI, 2, .inl eD)), (m1, .inl (cI, 6, .inl e1)), (m2, .inl (cI, 6, .inl e2)), (mR, .inl (cI, 1548, .inl eR)), (x1, .inl (cI, 300, .inl ec1)), (x2, .inl (cI, 300, .inl ec2)), (x3, .inl (cI, 300, .inl ec3)), (mH, .inl (cI, 800, .inl eH_10)), (mY, .inl (cI, 2600, .inl eY_10)), (mE, .inl (cI, 2600, .inl eE_10)), (mW, .inl (cI, 300, .inl eW_10)), (mO, .inl (cI, 300, .inl eO)), (y1, .inl (cI, 61, .inl er1)), (y2, .inl (cI, 61, .inl er2)), (y3, .inl (cI, 61, .inl er3)), (y4, .inl (cI, 61, .inl er4)), (mZ, .inl (cI, 600, .inl eZ)), (oJ, .inl (cJ, 1, .inr (.inl fJ)))]) rfl
  clear hP hD hS hJ hPD9
  have hP := hPn
  have hD := hDn
  have hS := hSn
  clear hPn hDn hSn
  refine lv_pop hx hb dL_law_956 rfl ?_
  refine lv_goto (tgt := 1022) hx hb dL_law_957 (by decide) ?_
  have hcg := e_ch hr4 hr5 hlz g_eB hCV hTX g_lL.1 hvc hfr hfx hfs hf5_5 hf10_10
  refine W.widen (k := 90 + (nc + 1)) (n := 172225 + 6 * (nc + 1)) (by omega) (by omega) ?_
  exact kk fa_5 lT lL lM l4 l5 ft lB lH lK gn lG lR l1 l2 l3 pr reE laE suE leE lq lp lv ke_5 tl_5 fsh_5 wi_5 ri_5 fm_5 lm_5 lw_5 re7_5 la7_5 su7_5 le7_5 re8_5 la8_5 su8_5 le8_5 re9_5 la9_5 su9_5 le9_5 zt zp zf zh zr zc zy_10 za_10 zb_10 zs zq_10 zw_10 ze_10 zn_10 zm_10 zl_10 zk_10 zd_10 fT fL fM f41 f42 f43 f51 f52 f53 fB fH1 fH2 fK1 fK2 fG1 fG2 f1 f2 f3 fR1 fR2 fR3 fR4 fR5 fR6 fq fp fv fQ1 fQ2 fQ3 fQ4 fw_5 fW1_5 fW2_5 fW3_5 fW4_5 fW5_5 fW6_5 fW7_5 eT eS eX eL eB eD e1 e2 eR ec1 ec2 ec3 eH_10 eY_10 eE_10 eW_10 eO er1 er2 er3 er4 eZ fJ _ _ _ ⟨g_lT, g_lL, g_lM, g_lB, g_lH, g_lK, g_gn, g_lG, g_lR, g_l1, g_l2, g_l3, g_lq, g_lp, g_lv, hf5_4, hf5_3, hf5_1, hf5_2, hf5_0, g_zt, g_zp, g_zf, g_zh, g_zr, g_zc, hf10_0, hf10_1, hf10_2, g_zs, hf10_3, hf10_4, hf10_6, hf10_8, g_fG2, g_eS, g_eX, g_eL, g_eB, g_e1, g_e2, hf10_5, hf10_7, hf10_9, g_eO, g_eZ, by omega, hrel, hrc, hr4, hr5, hb4, hb5, hlz, hH, hHe, hKz, hT, ho, hal, hCV, hVk, hVr, hTX, hCH, hcg.2.1, hcg.2.2.1, hcg.2.2.2.1, hcg.2.2.2.2⟩ hP hD hS (lv_sub hl [0, 1, 2, 3, 4] rfl)

set_option maxHeartbeats 40000000 in
set_option maxRecDepth 100000 in
theorem law_choice {p : Program} {l : Launch} {e : Env} {s : State} {m : MethodId} {below : List Frame} {meth : Method} {c : Code} {dC : Nat → ClassId} {dI : Nat → Nat → Nat} {cI cS cJ : ClassId} {A : Nat → Prop} {b L : Nat} {xs : Nat → Int32} (C0 : lw_At p s m meth c b L xs) (hAd : A = fun q : Nat => s.heap.size ≤ q) (hK3 : va_K (dC, dI) vwCl [(cI, .int), (cS, .short), (cJ, .long)] s) {oX nT aT nL aL nM aM oC o4 a41 a42 a43 o5 a51 a52 a53 oP nB aB oH h1 h2 oK k1 k2 oG g1 g2 oR n1 a1 n2 a2 n3 a3 r1 r2 r3 r4 r5 r6 oQ oE nq aq np ap nv av q1 q2 q3 q4 oW nw aw o7 o8 o9 w1 w2 w3 w4 w5 w6 w7 oM mT mS mX mL mB mD m1 m2 mR x1 x2 x3 mH mY mE mW mO y1 y2 y3 y4 mZ oJ : Nat} {fa : Int32} {lT : Int32} {lL : Int32} {lM : Int32} {l4 : Int32} {l5 : Int32} {ft : Int32} {lB : Int32} {lH : Int32} {lK : Int32} {gn : Int32} {lG : Int32} {lR : Int32} {l1 : Int32} {l2 : Int32} {l3 : Int32} {pr : Int32} {reE : Int32} {laE : Int32} {suE : Int32} {leE : Int32} {lq : Int32} {lp : Int32} {lv : Int32} {ke : Int32} {tl : Int32} {fsh : Int32} {wi : Int32} {ri : Int32} {fm : Int32} {lm : Int32} {lw : Int32} {re7 : Int32} {la7 : Int32} {su7 : Int32} {le7 : Int32} {re8 : Int32} {la8 : Int32} {su8 : Int32} {le8 : Int32} {re9 : Int32} {la9 : Int32} {su9 : Int32} {le9 : Int32} {zt : Int32} {zp : Int32} {zf : Int32} {zh : Int32} {zr : Int32} {zc : Int32} {zy : Int32} {za : Int32} {zb : Int32} {zs : Int32} {zq : Int32} {zw : Int32} {ze : Int32} {zn : Int32} {zm : Int32} {zl : Int32} {zk : Int32} {zd : Int32} {fT : Nat → Int32} {fL : Nat → Int32} {fM : Nat → Int32} {f41 : Nat → Int32} {f42 : Nat → Int32} {f43 : Nat → Int32} {f51 : Nat → Int32} {f52 : Nat → Int32} {f53 : Nat → Int32} {fB : Nat → Int32} {fH1 : Nat → Int32} {fH2 : Nat → Int32} {fK1 : Nat → Int32} {fK2 : Nat → Int32} {fG1 : Nat → Int32} {fG2 : Nat → Int32} {f1 : Nat → Int32} {f2 : Nat → Int32} {f3 : Nat → Int32} {fR1 : Nat → Int32} {fR2 : Nat → Int32} {fR3 : Nat → Int32} {fR4 : Nat → Int32} {fR5 : Nat → Int32} {fR6 : Nat → Int32} {fq : Nat → Int32} {fp : Nat → Int32} {fv : Nat → Int32} {fQ1 : Nat → Int32} {fQ2 : Nat → Int32} {fQ3 : Nat → Int32} {fQ4 : Nat → Int32} {fw : Nat → Int32} {fW1 : Nat → Int32} {fW2 : Nat → Int32} {fW3 : Nat → Int32} {fW4 : Nat → Int32} {fW5 : Nat → Int32} {fW6 : Nat → Int32} {fW7 : Nat → Int32} {eT : Nat → Int32} {eS : Nat → Int32} {eX : Nat → Int32} {eL : Nat → Int32} {eB : Nat → Int32} {eD : Nat → Int32} {e1 : Nat → Int32} {e2 : Nat → Int32} {eR : Nat → Int32} {ec1 : Nat → Int32} {ec2 : Nat → Int32} {ec3 : Nat → Int32} {eH : Nat → Int32} {eY : Nat → Int32} {eE : Nat → Int32} {eW : Nat → Int32} {eO : Nat → Int32} {er1 : Nat → Int32} {er2 : Nat → Int32} {er3 : Nat → Int32} {er4 : Nat → Int32} {eZ : Nat → Int32} {fJ : Nat → Int64} {H : Heap} {locs : List Loc} {ls : Array Slot} {i : Int32} {nc : Nat} (hn : nc ≤ 511) (hi : 0 ≤ i.toInt ∧ i.toInt + 5 < (L : Int)) (hL : L ≤ 3072) (hI : INV nc lT lL lM l4 l5 lB lH lK gn lG lR l1 l2 l3 lq lp lv ke fsh wi ri fm lm lw zt zp zf zh zr zc zy za zb zs zq zn zm zk fT fL f41 f42 f43 f51 f52 f53 fH1 fH2 fK1 fK2 fG1 fG2 fW4 fW5 fW6 fW7 eT eS eX eL eB eD e1 e2 ec1 ec2 ec3 eH eY eE eW eO eZ) (hP : va_P (dC, dI) vwCl (WLD cI cS cJ oX nT aT nL aL nM aM oC o4 a41 a42 a43 o5 a51 a52 a53 oP nB aB oH h1 h2 oK k1 k2 oG g1 g2 oR n1 a1 n2 a2 n3 a3 r1 r2 r3 r4 r5 r6 oQ oE nq aq np ap nv av q1 q2 q3 q4 oW nw aw o7 o8 o9 w1 w2 w3 w4 w5 w6 w7 oM mT mS mX mL mB mD m1 m2 mR x1 x2 x3 mH mY mE mW mO y1 y2 y3 y4 mZ oJ fa lT lL lM l4 l5 ft lB lH lK gn lG lR l1 l2 l3 pr reE laE suE leE lq lp lv ke tl fsh wi ri fm lm lw re7 la7 su7 le7 re8 la8 su8 le8 re9 la9 su9 le9 zt zp zf zh zr zc zy za zb zs zq zw ze zn zm zl zk zd fT fL fM f41 f42 f43 f51 f52 f53 fB fH1 fH2 fK1 fK2 fG1 fG2 f1 f2 f3 fR1 fR2 fR3 fR4 fR5 fR6 fq fp fv fQ1 fQ2 fQ3 fQ4 fw fW1 fW2 fW3 fW4 fW5 fW6 fW7 eT eS eX eL eB eD e1 e2 eR ec1 ec2 ec3 eH eY eE eW eO er1 er2 er3 er4 eZ fJ) H) (hD : va_D A (WLD cI cS cJ oX nT aT nL aL nM aM oC o4 a41 a42 a43 o5 a51 a52 a53 oP nB aB oH h1 h2 oK k1 k2 oG g1 g2 oR n1 a1 n2 a2 n3 a3 r1 r2 r3 r4 r5 r6 oQ oE nq aq np ap nv av q1 q2 q3 q4 oW nw aw o7 o8 o9 w1 w2 w3 w4 w5 w6 w7 oM mT mS mX mL mB mD m1 m2 mR x1 x2 x3 mH mY mE mW mO y1 y2 y3 y4 mZ oJ fa lT lL lM l4 l5 ft lB lH lK gn lG lR l1 l2 l3 pr reE laE suE leE lq lp lv ke tl fsh wi ri fm lm lw re7 la7 su7 le7 re8 la8 su8 le8 re9 la9 su9 le9 zt zp zf zh zr zc zy za zb zs zq zw ze zn zm zl zk zd fT fL fM f41 f42 f43 f51 f52 f53 fB fH1 fH2 fK1 fK2 fG1 fG2 f1 f2 f3 fR1 fR2 fR3 fR4 fR5 fR6 fq fp fv fQ1 fQ2 fQ3 fQ4 fw fW1 fW2 fW3 fW4 fW5 fW6 fW7 eT eS eX eL eB eD e1 e2 eR ec1 ec2 ec3 eH eY eE eW eO er1 er2 er3 er4 eZ fJ)) (hS : va_S A s.heap H locs) (hl : lv_has ls 7 [(0, .ref b), (1, .ref oX), (2, .ref oM), (3, .ref oJ), (4, .int i)]) (kk : KK p l e s m below meth c dC dI cI cS cJ A b oX nT aT nL aL nM aM oC o4 a41 a42 a43 o5 a51 a52 a53 oP nB aB oH h1 h2 oK k1 k2 oG g1 g2 oR n1 a1 n2 a2 n3 a3 r1 r2 r3 r4 r5 r6 oQ oE nq aq np ap nv av q1 q2 q3 q4 oW nw aw o7 o8 o9 w1 w2 w3 w4 w5 w6 w7 oM mT mS mX mL mB mD m1 m2 mR x1 x2 x3 mH mY mE mW mO y1 y2 y3 y4 mZ oJ i nc) : W p l e room_1 s m #[Value.ref b] below meth c H locs (90 + nc) (172225 + 6 * nc) (lw_Z below #[Value.ref b] s) (F0 m 960 ls []) := by
  refine And.elim (fun hx hBC_0 => ?_) C0
  refine And.elim (fun hb hBC_1 => ?_) hBC_0
  refine And.elim (fun hr hBC_2 => ?_) hBC_1
  refine And.elim (fun hml hBC_3 => ?_) hBC_2
  refine And.elim (fun hown hBC_4 => ?_) hBC_3
  refine And.elim (fun hts0 hBC_5 => ?_) hBC_4
  refine And.elim (fun hX hBC_6 => ?_) hBC_5
  refine And.elim (fun hbl hBC_7 => ?_) hBC_6
  refine And.elim (fun hlocks hBC_8 => ?_) hBC_7
  have hgv := hBC_8
  clear hBC_0 hBC_1 hBC_2 hBC_3 hBC_4 hBC_5 hBC_6 hBC_7 hBC_8
  refine And.elim (fun g_lT hBI_0 => ?_) hI
  refine And.elim (fun g_lL hBI_1 => ?_) hBI_0
  refine And.elim (fun g_lM hBI_2 => ?_) hBI_1
  refine And.elim (fun g_lB hBI_3 => ?_) hBI_2
  refine And.elim (fun g_lH hBI_4 => ?_) hBI_3
  refine And.elim (fun g_lK hBI_5 => ?_) hBI_4
  refine And.elim (fun g_gn hBI_6 => ?_) hBI_5
  refine And.elim (fun g_lG hBI_7 => ?_) hBI_6
  refine And.elim (fun g_lR hBI_8 => ?_) hBI_7
  refine And.elim (fun g_l1 hBI_9 => ?_) hBI_8
  refine And.elim (fun g_l2 hBI_10 => ?_) hBI_9
  refine And.elim (fun g_l3 hBI_11 => ?_) hBI_10
  refine And.elim (fun g_lq hBI_12 => ?_) hBI_11
  refine And.elim (fun g_lp hBI_13 => ?_) hBI_12
  refine And.elim (fun g_lv hBI_14 => ?_) hBI_13
  refine And.elim (fun g_ke hBI_15 => ?_) hBI_14
  refine And.elim (fun g_fsh hBI_16 => ?_) hBI_15
  refine And.elim (fun g_fm hBI_17 => ?_) hBI_16
  refine And.elim (fun g_lm hBI_18 => ?_) hBI_17
  refine And.elim (fun g_lw hBI_19 => ?_) hBI_18
  refine And.elim (fun g_zt hBI_20 => ?_) hBI_19
  refine And.elim (fun g_zp hBI_21 => ?_) hBI_20
  refine And.elim (fun g_zf hBI_22 => ?_) hBI_21
  refine And.elim (fun g_zh hBI_23 => ?_) hBI_22
  refine And.elim (fun g_zr hBI_24 => ?_) hBI_23
  refine And.elim (fun g_zc hBI_25 => ?_) hBI_24
  refine And.elim (fun g_zy hBI_26 => ?_) hBI_25
  refine And.elim (fun g_za hBI_27 => ?_) hBI_26
  refine And.elim (fun g_zb hBI_28 => ?_) hBI_27
  refine And.elim (fun g_zs hBI_29 => ?_) hBI_28
  refine And.elim (fun g_zq hBI_30 => ?_) hBI_29
  refine And.elim (fun g_zn hBI_31 => ?_) hBI_30
  refine And.elim (fun g_zm hBI_32 => ?_) hBI_31
  refine And.elim (fun g_zk hBI_33 => ?_) hBI_32
  refine And.elim (fun g_fG2 hBI_34 => ?_) hBI_33
  refine And.elim (fun g_eS hBI_35 => ?_) hBI_34
  refine And.elim (fun g_eX hBI_36 => ?_) hBI_35
  refine And.elim (fun g_eL hBI_37 => ?_) hBI_36
  refine And.elim (fun g_eB hBI_38 => ?_) hBI_37
  refine And.elim (fun g_e1 hBI_39 => ?_) hBI_38
  refine And.elim (fun g_e2 hBI_40 => ?_) hBI_39
  refine And.elim (fun g_eY hBI_41 => ?_) hBI_40
  refine And.elim (fun g_eE hBI_42 => ?_) hBI_41
  refine And.elim (fun g_eW hBI_43 => ?_) hBI_42
  refine And.elim (fun g_eO hBI_44 => ?_) hBI_43
  refine And.elim (fun g_eZ hBI_45 => ?_) hBI_44
  refine And.elim (fun hzn hBI_46 => ?_) hBI_45
  refine And.elim (fun hrel hBI_47 => ?_) hBI_46
  refine And.elim (fun hrc hBI_48 => ?_) hBI_47
  refine And.elim (fun hr4 hBI_49 => ?_) hBI_48
  refine And.elim (fun hr5 hBI_50 => ?_) hBI_49
  refine And.elim (fun hb4 hBI_51 => ?_) hBI_50
  refine And.elim (fun hb5 hBI_52 => ?_) hBI_51
  refine And.elim (fun hlz hBI_53 => ?_) hBI_52
  refine And.elim (fun hH hBI_54 => ?_) hBI_53
  refine And.elim (fun hHe hBI_55 => ?_) hBI_54
  refine And.elim (fun hKz hBI_56 => ?_) hBI_55
  refine And.elim (fun hT hBI_57 => ?_) hBI_56
  refine And.elim (fun ho hBI_58 => ?_) hBI_57
  refine And.elim (fun hal hBI_59 => ?_) hBI_58
  refine And.elim (fun hCV hBI_60 => ?_) hBI_59
  refine And.elim (fun hVk hBI_61 => ?_) hBI_60
  refine And.elim (fun hVr hBI_62 => ?_) hBI_61
  refine And.elim (fun hTX hBI_63 => ?_) hBI_62
  refine And.elim (fun hCH hBI_64 => ?_) hBI_63
  refine And.elim (fun hvc hBI_65 => ?_) hBI_64
  refine And.elim (fun hfr hBI_66 => ?_) hBI_65
  refine And.elim (fun hfx hBI_67 => ?_) hBI_66
  have hfs := hBI_67
  clear hI hBI_0 hBI_1 hBI_2 hBI_3 hBI_4 hBI_5 hBI_6 hBI_7 hBI_8 hBI_9 hBI_10 hBI_11 hBI_12 hBI_13 hBI_14 hBI_15 hBI_16 hBI_17 hBI_18 hBI_19 hBI_20 hBI_21 hBI_22 hBI_23 hBI_24 hBI_25 hBI_26 hBI_27 hBI_28 hBI_29 hBI_30 hBI_31 hBI_32 hBI_33 hBI_34 hBI_35 hBI_36 hBI_37 hBI_38 hBI_39 hBI_40 hBI_41 hBI_42 hBI_43 hBI_44 hBI_45 hBI_46 hBI_47 hBI_48 hBI_49 hBI_50 hBI_51 hBI_52 hBI_53 hBI_54 hBI_55 hBI_56 hBI_57 hBI_58 hBI_59 hBI_60 hBI_61 hBI_62 hBI_63 hBI_64 hBI_65 hBI_66 hBI_67
  have hK : va_K (dC, dI) vwCl [(cI, .int), (cS, .short)] s := hK3.sub [0, 1] rfl
  have hown : s.vm.findClass RL = some m.cls := hown
  have hts := hts0
  have hcf := k_cf hx hb hml hown hts
  have hi9 : 0 ≤ i.toInt ∧ i.toInt ≤ 3066 := by omega
  have hzs : zs.toInt ≤ 1000000 := by omega
  have hA : ∀ q : Nat, s.heap.size ≤ q → A q := fun q h => by rw [hAd]; exact h
  have hbA : ¬ A b := by rw [hAd]; exact Nat.not_le.mpr hbl
  have hP : va_P (dC, dI) vwCl [(oX, .inr (11, [.ref nT, .ref nL, .ref nM, .ref oC, .ref oP, .ref oH, .ref oK, .ref oG, .ref oR, .ref oQ, .ref oW, .int fa])), (nT, .inr (5, [.ref aT, .int lT])), (aT, .inl (cI, 900, .inl fT)), (nL, .inr (5, [.ref aL, .int lL])), (aL, .inl (cI, 300, .inl fL)), (nM, .inr (5, [.ref aM, .int lM])), (aM, .inl (cI, 300, .inl fM)), (oC, .inr (2, [.ref o4, .ref o5])), (o4, .inr (10, [.ref a41, .ref a42, .ref a43, .int l4])), (a41, .inl (cI, 256, .inl f41)), (a42, .inl (cI, 512, .inl f42)), (a43, .inl (cI, 512, .inl f43)), (o5, .inr (10, [.ref a51, .ref a52, .ref a53, .int l5])), (a51, .inl (cI, 256, .inl f51)), (a52, .inl (cI, 512, .inl f52)), (a53, .inl (cI, 512, .inl f53)), (oP, .inr (7, [.ref oC, .ref nB, .int ft])), (nB, .inr (5, [.ref aB, .int lB])), (aB, .inl (cI, 2400, .inl fB)), (oH, .inr (4, [.ref oP, .ref h1, .ref h2, .int lH])), (h1, .inl (cI, 6, .inl fH1)), (h2, .inl (cI, 6, .inl fH2)), (oK, .inr (3, [.ref k1, .ref k2, .int lK])), (k1, .inl (cI, 1024, .inl fK1)), (k2, .inl (cI, 1024, .inl fK2)), (oG, .inr (0, [.ref g1, .ref g2, .int gn, .int lG])), (g1, .inl (cI, 6000, .inl fG1)), (g2, .inl (cI, 20, .inl fG2)), (oR, .inr (9, [.ref oH, .ref oK, .ref n1, .ref n2, .ref n3, .ref r1, .ref r2, .ref r3, .ref r4, .ref r5, .ref r6, .int lR])), (n1, .inr (5, [.ref a1, .int l1])), (a1, .inl (cI, 300, .inl f1)), (n2, .inr (5, [.ref a2, .int l2])), (a2, .inl (cI, 300, .inl f2)), (n3, .inr (5, [.ref a3, .int l3])), (a3, .inl (cI, 300, .inl f3)), (r1, .inl (cI, 258, .inl fR1)), (r2, .inl (cI, 258, .inl fR2)), (r3, .inl (cI, 774, .inl fR3)), (r4, .inl (cI, 258, .inl fR4)), (r5, .inl (cI, 258, .inl fR5)), (r6, .inl (cI, 774, .inl fR6)), (oQ, .inr (6, [.ref oC, .ref oH, .ref oK, .ref oE, .ref nq, .ref np, .ref nv, .ref q1, .ref q2, .ref q3, .ref q4, .int pr])), (oE, .inr (8, [.ref oC, .ref oK, .int reE, .int laE, .int suE, .int leE])), (nq, .inr (5, [.ref aq, .int lq])), (aq, .inl (cI, 480, .inl fq)), (np, .inr (5, [.ref ap, .int lp])), (ap, .inl (cI, 300, .inl fp)), (nv, .inr (5, [.ref av, .int lv])), (av, .inl (cI, 300, .inl fv)), (q1, .inl (cI, 61, .inl fQ1)), (q2, .inl (cI, 61, .inl fQ2)), (q3, .inl (cI, 61, .inl fQ3)), (q4, .inl (cI, 61, .inl fQ4)), (oW, .inr (1, [.ref oC, .ref oK, .ref nw, .ref w1, .ref w2, .ref w3, .ref o7, .ref o8, .ref o9, .ref w4, .ref w5, .ref w6, .ref w7, .int ke, .int tl, .int fsh, .int wi, .int ri, .int fm, .int lm])), (nw, .inr (5, [.ref aw, .int lw])), (aw, .inl (cI, 800, .inl fw)), (o7, .inr (8, [.ref oC, .ref oK, .int re7, .int la7, .int su7, .int le7])), (o8, .inr (8, [.ref oC, .ref oK, .int re8, .int la8, .int su8, .int le8])), (o9, .inr (8, [.ref oC, .ref oK, .int re9, .int la9, .int su9, .int le9])), (w1, .inl (cI, 801, .inl fW1)), (w2, .inl (cI, 801, .inl fW2)), (w3, .inl (cI, 801, .inl fW3)), (w4, .inl (cI, 200, .inl fW4)), (w5, .inl (cI, 200, .inl fW5)), (w6, .inl (cI, 200, .inl fW6)), (w7, .inl (cI, 200, .inl fW7)), (oM, .inr (12, [.ref mT, .int zt, .ref mS, .ref mX, .int zp, .int zf, .ref mL, .ref mB, .ref mD, .ref m1, .ref m2, .int zh, .ref mR, .int zr, .ref x1, .ref x2, .ref x3, .int zc, .ref mH, .int zy, .int za, .int zb, .int zs, .int zq, .int zw, .int ze, .ref mY, .int zn, .ref mE, .int zm, .int zl, .ref mW, .int zk, .ref mO, .int zd, .ref y1, .ref y2, .ref y3, .ref y4, .ref mZ])), (mT, .inl (cI, 900, .inl eT)), (mS, .inl (cI, 21, .inl eS)), (mX, .inl (cI, 6300, .inl eX)), (mL, .inl (cI, 512, .inl eL)), (mB, .inl (cS, 131072, .inl eB)), (mD, .inl (cI, 2, .inl eD)), (m1, .inl (cI, 6, .inl e1)), (m2, .inl (cI, 6, .inl e2)), (mR, .inl (cI, 1548, .inl eR)), (x1, .inl (cI, 300, .inl ec1)), (x2, .inl (cI, 300, .inl ec2)), (x3, .inl (cI, 300, .inl ec3)), (mH, .inl (cI, 800, .inl eH)), (mY, .inl (cI, 2600, .inl eY)), (mE, .inl (cI, 2600, .inl eE)), (mW, .inl (cI, 300, .inl eW)), (mO, .inl (cI, 300, .inl eO)), (y1, .inl (cI, 61, .inl er1)), (y2, .inl (cI, 61, .inl er2)), (y3, .inl (cI, 61, .inl er3)), (y4, .inl (cI, 61, .inl er4)), (mZ, .inl (cI, 600, .inl eZ)), (oJ, .inl (cJ, 1, .inr (.inl fJ)))] H := hP
  have hD : va_D A [(oX, .inr (11, [.ref nT, .ref nL, .ref nM, .ref oC, .ref oP, .ref oH, .ref oK, .ref oG, .ref oR, .ref oQ, .ref oW, .int fa])), (nT, .inr (5, [.ref aT, .int lT])), (aT, .inl (cI, 900, .inl fT)), (nL, .inr (5, [.ref aL, .int lL])), (aL, .inl (cI, 300, .inl fL)), (nM, .inr (5, [.ref aM, .int lM])), (aM, .inl (cI, 300, .inl fM)), (oC, .inr (2, [.ref o4, .ref o5])), (o4, .inr (10, [.ref a41, .ref a42, .ref a43, .int l4])), (a41, .inl (cI, 256, .inl f41)), (a42, .inl (cI, 512, .inl f42)), (a43, .inl (cI, 512, .inl f43)), (o5, .inr (10, [.ref a51, .ref a52, .ref a53, .int l5])), (a51, .inl (cI, 256, .inl f51)), (a52, .inl (cI, 512, .inl f52)), (a53, .inl (cI, 512, .inl f53)), (oP, .inr (7, [.ref oC, .ref nB, .int ft])), (nB, .inr (5, [.ref aB, .int lB])), (aB, .inl (cI, 2400, .inl fB)), (oH, .inr (4, [.ref oP, .ref h1, .ref h2, .int lH])), (h1, .inl (cI, 6, .inl fH1)), (h2, .inl (cI, 6, .inl fH2)), (oK, .inr (3, [.ref k1, .ref k2, .int lK])), (k1, .inl (cI, 1024, .inl fK1)), (k2, .inl (cI, 1024, .inl fK2)), (oG, .inr (0, [.ref g1, .ref g2, .int gn, .int lG])), (g1, .inl (cI, 6000, .inl fG1)), (g2, .inl (cI, 20, .inl fG2)), (oR, .inr (9, [.ref oH, .ref oK, .ref n1, .ref n2, .ref n3, .ref r1, .ref r2, .ref r3, .ref r4, .ref r5, .ref r6, .int lR])), (n1, .inr (5, [.ref a1, .int l1])), (a1, .inl (cI, 300, .inl f1)), (n2, .inr (5, [.ref a2, .int l2])), (a2, .inl (cI, 300, .inl f2)), (n3, .inr (5, [.ref a3, .int l3])), (a3, .inl (cI, 300, .inl f3)), (r1, .inl (cI, 258, .inl fR1)), (r2, .inl (cI, 258, .inl fR2)), (r3, .inl (cI, 774, .inl fR3)), (r4, .inl (cI, 258, .inl fR4)), (r5, .inl (cI, 258, .inl fR5)), (r6, .inl (cI, 774, .inl fR6)), (oQ, .inr (6, [.ref oC, .ref oH, .ref oK, .ref oE, .ref nq, .ref np, .ref nv, .ref q1, .ref q2, .ref q3, .ref q4, .int pr])), (oE, .inr (8, [.ref oC, .ref oK, .int reE, .int laE, .int suE, .int leE])), (nq, .inr (5, [.ref aq, .int lq])), (aq, .inl (cI, 480, .inl fq)), (np, .inr (5, [.ref ap, .int lp])), (ap, .inl (cI, 300, .inl fp)), (nv, .inr (5, [.ref av, .int lv])), (av, .inl (cI, 300, .inl fv)), (q1, .inl (cI, 61, .inl fQ1)), (q2, .inl (cI, 61, .inl fQ2)), (q3, .inl (cI, 61, .inl fQ3)), (q4, .inl (cI, 61, .inl fQ4)), (oW, .inr (1, [.ref oC, .ref oK, .ref nw, .ref w1, .ref w2, .ref w3, .ref o7, .ref o8, .ref o9, .ref w4, .ref w5, .ref w6, .ref w7, .int ke, .int tl, .int fsh, .int wi, .int ri, .int fm, .int lm])), (nw, .inr (5, [.ref aw, .int lw])), (aw, .inl (cI, 800, .inl fw)), (o7, .inr (8, [.ref oC, .ref oK, .int re7, .int la7, .int su7, .int le7])), (o8, .inr (8, [.ref oC, .ref oK, .int re8, .int la8, .int su8, .int le8])), (o9, .inr (8, [.ref oC, .ref oK, .int re9, .int la9, .int su9, .int le9])), (w1, .inl (cI, 801, .inl fW1)), (w2, .inl (cI, 801, .inl fW2)), (w3, .inl (cI, 801, .inl fW3)), (w4, .inl (cI, 200, .inl fW4)), (w5, .inl (cI, 200, .inl fW5)), (w6, .inl (cI, 200, .inl fW6)), (w7, .inl (cI, 200, .inl fW7)), (oM, .inr (12, [.ref mT, .int zt, .ref mS, .ref mX, .int zp, .int zf, .ref mL, .ref mB, .ref mD, .ref m1, .ref m2, .int zh, .ref mR, .int zr, .ref x1, .ref x2, .ref x3, .int zc, .ref mH, .int zy, .int za, .int zb, .int zs, .int zq, .int zw, .int ze, .ref mY, .int zn, .ref mE, .int zm, .int zl, .ref mW, .int zk, .ref mO, .int zd, .ref y1, .ref y2, .ref y3, .ref y4, .ref mZ])), (mT, .inl (cI, 900, .inl eT)), (mS, .inl (cI, 21, .inl eS)), (mX, .inl (cI, 6300, .inl eX)), (mL, .inl (cI, 512, .inl eL)), (mB, .inl (cS, 131072, .inl eB)), (mD, .inl (cI, 2, .inl eD)), (m1, .inl (cI, 6, .inl e1)), (m2, .inl (cI, 6, .inl e2)), (mR, .inl (cI, 1548, .inl eR)), (x1, .inl (cI, 300, .inl ec1)), (x2, .inl (cI, 300, .inl ec2)), (x3, .inl (cI, 300, .inl ec3)), (mH, .inl (cI, 800, .inl eH)), (mY, .inl (cI, 2600, .inl eY)), (mE, .inl (cI, 2600, .inl eE)), (mW, .inl (cI, 300, .inl eW)), (mO, .inl (cI, 300, .inl eO)), (y1, .inl (cI, 61, .inl er1)), (y2, .inl (cI, 61, .inl er2)), (y3, .inl (cI, 61, .inl er3)), (y4, .inl (cI, 61, .inl er4)), (mZ, .inl (cI, 600, .inl eZ)), (oJ, .inl (cJ, 1, .inr (.inl fJ)))] := hD
  replace g_lT := hid g_lT
  replace g_lM := hid g_lM
  replace g_lB := hid g_lB
  replace g_lR := hid g_lR
  replace g_l1 := hid g_l1
  replace g_l2 := hid g_l2
  replace g_l3 := hid g_l3
  replace g_lq := hid g_lq
  replace g_lp := hid g_lp
  replace g_lv := hid g_lv
  replace g_fm := hid g_fm
  replace g_lm := hid g_lm
  replace g_lw := hid g_lw
  replace g_zt := hid g_zt
  replace g_zr := hid g_zr
  replace g_zn := hid g_zn
  replace g_zm := hid g_zm
  replace g_zk := hid g_zk
  refine lv_aload_n hx hb dL_law_960 rfl (lv_at hl 1 rfl) ?_
  refine lv_aload_n hx hb dL_law_961 rfl (lv_at hl 0 rfl) ?_
  refine lv_iload hx hb dL_law_962 (lv_at hl 4 rfl) ?_
  refine lv_iconst (v := 1) hx hb dL_law_964 (by decide) ?_
  refine lv_iadd hx hb dL_law_965 ?_
  refine lv_topi (fun x_1 ex_1 => ?_)
  have tx_1 : x_1.toInt = i.toInt + 1 := v_addR (l2 := 1) (h2 := 1) ex_1 hi9 (by decide) (by decide) (by decide)
  refine va_sld hx hb hX hbl hbA hS (v_in (v_sld5 tx_1 hi (by decide))) dL_law_966 ?_
  refine lv_topi (fun x_2 ex_2 => ?_)
  refine lv_aload_n hx hb dL_law_967 rfl (lv_at hl 0 rfl) ?_
  refine lv_iload hx hb dL_law_968 (lv_at hl 4 rfl) ?_
  refine lv_iconst (v := 2) hx hb dL_law_970 (by decide) ?_
  refine lv_iadd hx hb dL_law_971 ?_
  refine lv_topi (fun x_3 ex_3 => ?_)
  have tx_3 : x_3.toInt = i.toInt + 2 := v_addR (l2 := 2) (h2 := 2) ex_3 hi9 (by decide) (by decide) (by decide)
  refine va_sld hx hb hX hbl hbA hS (v_in (v_sld5 tx_3 hi (by decide))) dL_law_972 ?_
  refine lv_topi (fun x_4 ex_4 => ?_)
  refine kV_i (rest := []) (q0 := 0) (ci := 11) hcf (x_choice l dC dI cI cS H.size oX nT nL nM oC oP oH oK oG oR oQ oW nw w1 w2 w3 o7 o8 o9 w4 w5 w6 w7 fa ke tl fsh wi ri fm lm fW4 fW5 fW6 fW7 x_2 x_4 (g_ke) (g_fsh) (g_fm) (g_lm)) kc_X11_choice gL_law_X11_choice rfl rfl rfl ⟨Nat.le_of_ble_eq_true rfl, Nat.le_of_ble_eq_true rfl⟩ kX_t hK hP hD hS hA (posT mk_43 0) (posF mk_43 0) (kC_of mk_43 rfl rfl) (by decide +kernel) rfl rfl rfl hl rfl (Nat.le_of_ble_eq_true rfl) dL_law_973 ⟨kfit1 hn (Nat.le_of_ble_eq_true rfl), ksix1 hn (Nat.le_of_ble_eq_true rfl)⟩ (fun r_5 H locs hB hJ hSn => ?_)
  have hPD9 := hB
  clear hB
  obtain ⟨hPn, hDn⟩ := kJi (m := mk_43) hJ rfl hPD9.1 hPD9.2 (wn := [(oX, .inr (11, [.ref nT, .ref nL, .ref nM, .ref oC, .ref oP, .ref oH, .ref oK, .ref oG, .ref oR, .ref oQ, .ref oW, .int fa])), (nT, .inr (5, [.ref aT, .int lT])), (aT, .inl (cI, 900, .inl fT)), (nL, .inr (5, [.ref aL, .int lL])), (aL, .inl (cI, 300, .inl fL)), (nM, .inr (5, [.ref aM, .int lM])), (aM, .inl (cI, 300, .inl fM)), (oC, .inr (2, [.ref o4, .ref o5])), (o4, .inr (10, [.ref a41, .ref a42, .ref a43, .int l4])), (a41, .inl (cI, 256, .inl f41)), (a42, .inl (cI, 512, .inl f42)), (a43, .inl (cI, 512, .inl f43)), (o5, .inr (10, [.ref a51, .ref a52, .ref a53, .int l5])), (a51, .inl (cI, 256, .inl f51)), (a52, .inl (cI, 512, .inl f52)), (a53, .inl (cI, 512, .inl f53)), (oP, .inr (7, [.ref oC, .ref nB, .int ft])), (nB, .inr (5, [.ref aB, .int lB])), (aB, .inl (cI, 2400, .inl fB)), (oH, .inr (4, [.ref oP, .ref h1, .ref h2, .int lH])), (h1, .inl (cI, 6, .inl fH1)), (h2, .inl (cI, 6, .inl fH2)), (oK, .inr (3, [.ref k1, .ref k2, .int lK])), (k1, .inl (cI, 1024, .inl fK1)), (k2, .inl (cI, 1024, .inl fK2)), (oG, .inr (0, [.ref g1, .ref g2, .int gn, .int lG])), (g1, .inl (cI, 6000, .inl fG1)), (g2, .inl (cI, 20, .inl fG2)), (oR, .inr (9, [.ref oH, .ref oK, .ref n1, .ref n2, .ref n3, .ref r1, .ref r2, .ref r3, .ref r4, .ref r5, .ref r6, .int lR])), (n1, .inr (5, [.ref a1, .int l1])), (a1, .inl (cI, 300, .inl f1)), (n2, .inr (5, [.ref a2, .int l2])), (a2, .inl (cI, 300, .inl f2)), (n3, .inr (5, [.ref a3, .int l3])), (a3, .inl (cI, 300, .inl f3)), (r1, .inl (cI, 258, .inl fR1)), (r2, .inl (cI, 258, .inl fR2)), (r3, .inl (cI, 774, .inl fR3)), (r4, .inl (cI, 258, .inl fR4)), (r5, .inl (cI, 258, .inl fR5)), (r6, .inl (cI, 774, .inl fR6)), (oQ, .inr (6, [.ref oC, .ref oH, .ref oK, .ref oE, .ref nq, .ref np, .ref nv, .ref q1, .ref q2, .ref q3, .ref q4, .int pr])), (oE, .inr (8, [.ref oC, .ref oK, .int reE, .int laE, .int suE, .int leE])), (nq, .inr (5, [.ref aq, .int lq])), (aq, .inl (cI, 480, .inl fq)), (np, .inr (5, [.ref ap, .int lp])), (ap, .inl (cI, 300, .inl fp)), (nv, .inr (5, [.ref av, .int lv])), (av, .inl (cI, 300, .inl fv)), (q1, .inl (cI, 61, .inl fQ1)), (q2, .inl (cI, 61, .inl fQ2)), (q3, .inl (cI, 61, .inl fQ3)), (q4, .inl (cI, 61, .inl fQ4)), (oW, .inr (1, [.ref oC, .ref oK, .ref nw, .ref w1, .ref w2, .ref w3, .ref o7, .ref o8, .ref o9, .ref w4, .ref w5, .ref w6, .ref w7, .int ke, .int tl, .int fsh, .int wi, .int ri, .int fm, .int lm])), (nw, .inr (5, [.ref aw, .int lw])), (aw, .inl (cI, 800, .inl fw)), (o7, .inr (8, [.ref oC, .ref oK, .int re7, .int la7, .int su7, .int le7])), (o8, .inr (8, [.ref oC, .ref oK, .int re8, .int la8, .int su8, .int le8])), (o9, .inr (8, [.ref oC, .ref oK, .int re9, .int la9, .int su9, .int le9])), (w1, .inl (cI, 801, .inl fW1)), (w2, .inl (cI, 801, .inl fW2)), (w3, .inl (cI, 801, .inl fW3)), (w4, .inl (cI, 200, .inl fW4)), (w5, .inl (cI, 200, .inl fW5)), (w6, .inl (cI, 200, .inl fW6)), (w7, .inl (cI, 200, .inl fW7)), (oM, .inr (12, [.ref mT, .int zt, .ref mS, .ref mX, .int zp, .int zf, .ref mL, .ref mB, .ref mD, .ref m1, .ref m2, .int zh, .ref mR, .int zr, .ref x1, .ref x2, .ref x3, .int zc, .ref mH, .int zy, .int za, .int zb, .int zs, .int zq, .int zw, .int ze, .ref mY, .int zn, .ref mE, .int zm, .int zl, .ref mW, .int zk, .ref mO, .int zd, .ref y1, .ref y2, .ref y3, .ref y4, .ref mZ])), (mT, .inl (cI, 900, .inl eT)), (mS, .inl (cI, 21, .inl eS)), (mX, .inl (cI, 6300, .inl eX)), (mL, .inl (cI, 512, .inl eL)), (mB, .inl (cS, 131072, .inl eB)), (mD, .inl (cI, 2, .inl eD)), (m1, .inl (cI, 6, .inl e1)), (m2, .inl (cI, 6, .inl e2)), (mR, .inl (cI, 1548, .inl eR)), (x1, .inl (cI, 300, .inl ec1)), (x2, .inl (cI, 300, .inl ec2)), (x3, .inl (cI, 300, .inl ec3)), (mH, .inl (cI, 800, .inl eH)), (mY, .inl (cI, 2600, .inl eY)), (mE, .inl (cI, 2600, .inl eE)), (mW, .inl (cI, 300, .inl eW)), (mO, .inl (cI, 300, .inl eO)), (y1, .inl (cI, 61, .inl er1)), (y2, .inl (cI, 61, .inl er2)), (y3, .inl (cI, 61, .inl er3)), (y4, .inl (cI, 61, .inl er4)), (mZ, .inl (cI, 600, .inl eZ)), (oJ, .inl (cJ, 1, .inr (.inl fJ)))]) rfl
  clear hP hD hS hJ hPD9
  have hP := hPn
  have hD := hDn
  have hS := hSn
  clear hPn hDn hSn
  refine lv_pop hx hb dL_law_976 rfl ?_
  refine lv_aload_n hx hb dL_law_977 rfl (lv_at hl 2 rfl) ?_
  refine lv_aload_n hx hb dL_law_978 rfl (lv_at hl 0 rfl) ?_
  refine lv_iload hx hb dL_law_979 (lv_at hl 4 rfl) ?_
  refine lv_iconst (v := 1) hx hb dL_law_981 (by decide) ?_
  refine lv_iadd hx hb dL_law_982 ?_
  refine lv_topi (fun x_6 ex_6 => ?_)
  have tx_6 : x_6.toInt = i.toInt + 1 := v_addR (l2 := 1) (h2 := 1) ex_6 hi9 (by decide) (by decide) (by decide)
  refine va_sld hx hb hX hbl hbA hS (v_in (v_sld5 tx_6 hi (by decide))) dL_law_983 ?_
  refine lv_topi (fun x_7 ex_7 => ?_)
  have es_7 : x_7 = x_2 := by rw [ex_7, ex_2, ex_6, ex_1]
  rw [es_7]
  refine lv_aload_n hx hb dL_law_984 rfl (lv_at hl 0 rfl) ?_
  refine lv_iload hx hb dL_law_985 (lv_at hl 4 rfl) ?_
  refine lv_iconst (v := 2) hx hb dL_law_987 (by decide) ?_
  refine lv_iadd hx hb dL_law_988 ?_
  refine lv_topi (fun x_8 ex_8 => ?_)
  have tx_8 : x_8.toInt = i.toInt + 2 := v_addR (l2 := 2) (h2 := 2) ex_8 hi9 (by decide) (by decide) (by decide)
  refine va_sld hx hb hX hbl hbA hS (v_in (v_sld5 tx_8 hi (by decide))) dL_law_989 ?_
  refine lv_topi (fun x_9 ex_9 => ?_)
  have es_9 : x_9 = x_4 := by rw [ex_9, ex_4, ex_8, ex_3]
  rw [es_9]
  refine kV_i (rest := []) (q0 := 0) (ci := 12) hcf (y_choice l dC dI cI cS H.size oM mT mS mX mL mB mD m1 m2 mR x1 x2 x3 mH mY mE mW mO y1 y2 y3 y4 mZ zt zp zf zh zr zc zy za zb zs zq zw ze zn zm zl zk zd eH x_2 x_4 (g_zt) (g_zp) (g_zf) (g_zh) (g_zr) (g_zc) (g_zy) (g_za) (g_zb) (g_zs) (g_zq) (g_zn) (g_zm) (g_zk) (by omega)) kc_X12_choice gL_law_X12_choice rfl rfl rfl ⟨Nat.le_of_ble_eq_true rfl, Nat.le_of_ble_eq_true rfl⟩ kX_t hK hP hD hS hA (posT mk_44 0) (posF mk_44 0) (kC_of mk_44 rfl rfl) (by decide +kernel) rfl rfl rfl hl rfl (Nat.le_of_ble_eq_true rfl) dL_law_990 ⟨kfit2 hn (Nat.le_of_ble_eq_true rfl), ksix2 hn (Nat.le_of_ble_eq_true rfl)⟩ (fun r_10 H locs hB hJ hSn => ?_)
  refine Exists.elim hB (fun ze_10 hB10_0 => ?_)
  have hPD9 := hB10_0
  clear hB hB10_0
  obtain ⟨hPn, hDn⟩ := kJi (m := mk_44) hJ rfl hPD9.1 hPD9.2 (wn := [(oX, .inr (11, [.ref nT, .ref nL, .ref nM, .ref oC, .ref oP, .ref oH, .ref oK, .ref oG, .ref oR, .ref oQ, .ref oW, .int fa])), (nT, .inr (5, [.ref aT, .int lT])), (aT, .inl (cI, 900, .inl fT)), (nL, .inr (5, [.ref aL, .int lL])), (aL, .inl (cI, 300, .inl fL)), (nM, .inr (5, [.ref aM, .int lM])), (aM, .inl (cI, 300, .inl fM)), (oC, .inr (2, [.ref o4, .ref o5])), (o4, .inr (10, [.ref a41, .ref a42, .ref a43, .int l4])), (a41, .inl (cI, 256, .inl f41)), (a42, .inl (cI, 512, .inl f42)), (a43, .inl (cI, 512, .inl f43)), (o5, .inr (10, [.ref a51, .ref a52, .ref a53, .int l5])), (a51, .inl (cI, 256, .inl f51)), (a52, .inl (cI, 512, .inl f52)), (a53, .inl (cI, 512, .inl f53)), (oP, .inr (7, [.ref oC, .ref nB, .int ft])), (nB, .inr (5, [.ref aB, .int lB])), (aB, .inl (cI, 2400, .inl fB)), (oH, .inr (4, [.ref oP, .ref h1, .ref h2, .int lH])), (h1, .inl (cI, 6, .inl fH1)), (h2, .inl (cI, 6, .inl fH2)), (oK, .inr (3, [.ref k1, .ref k2, .int lK])), (k1, .inl (cI, 1024, .inl fK1)), (k2, .inl (cI, 1024, .inl fK2)), (oG, .inr (0, [.ref g1, .ref g2, .int gn, .int lG])), (g1, .inl (cI, 6000, .inl fG1)), (g2, .inl (cI, 20, .inl fG2)), (oR, .inr (9, [.ref oH, .ref oK, .ref n1, .ref n2, .ref n3, .ref r1, .ref r2, .ref r3, .ref r4, .ref r5, .ref r6, .int lR])), (n1, .inr (5, [.ref a1, .int l1])), (a1, .inl (cI, 300, .inl f1)), (n2, .inr (5, [.ref a2, .int l2])), (a2, .inl (cI, 300, .inl f2)), (n3, .inr (5, [.ref a3, .int l3])), (a3, .inl (cI, 300, .inl f3)), (r1, .inl (cI, 258, .inl fR1)), (r2, .inl (cI, 258, .inl fR2)), (r3, .inl (cI, 774, .inl fR3)), (r4, .inl (cI, 258, .inl fR4)), (r5, .inl (cI, 258, .inl fR5)), (r6, .inl (cI, 774, .inl fR6)), (oQ, .inr (6, [.ref oC, .ref oH, .ref oK, .ref oE, .ref nq, .ref np, .ref nv, .ref q1, .ref q2, .ref q3, .ref q4, .int pr])), (oE, .inr (8, [.ref oC, .ref oK, .int reE, .int laE, .int suE, .int leE])), (nq, .inr (5, [.ref aq, .int lq])), (aq, .inl (cI, 480, .inl fq)), (np, .inr (5, [.ref ap, .int lp])), (ap, .inl (cI, 300, .inl fp)), (nv, .inr (5, [.ref av, .int lv])), (av, .inl (cI, 300, .inl fv)), (q1, .inl (cI, 61, .inl fQ1)), (q2, .inl (cI, 61, .inl fQ2)), (q3, .inl (cI, 61, .inl fQ3)), (q4, .inl (cI, 61, .inl fQ4)), (oW, .inr (1, [.ref oC, .ref oK, .ref nw, .ref w1, .ref w2, .ref w3, .ref o7, .ref o8, .ref o9, .ref w4, .ref w5, .ref w6, .ref w7, .int ke, .int tl, .int fsh, .int wi, .int ri, .int fm, .int lm])), (nw, .inr (5, [.ref aw, .int lw])), (aw, .inl (cI, 800, .inl fw)), (o7, .inr (8, [.ref oC, .ref oK, .int re7, .int la7, .int su7, .int le7])), (o8, .inr (8, [.ref oC, .ref oK, .int re8, .int la8, .int su8, .int le8])), (o9, .inr (8, [.ref oC, .ref oK, .int re9, .int la9, .int su9, .int le9])), (w1, .inl (cI, 801, .inl fW1)), (w2, .inl (cI, 801, .inl fW2)), (w3, .inl (cI, 801, .inl fW3)), (w4, .inl (cI, 200, .inl fW4)), (w5, .inl (cI, 200, .inl fW5)), (w6, .inl (cI, 200, .inl fW6)), (w7, .inl (cI, 200, .inl fW7)), (oM, .inr (12, [.ref mT, .int zt, .ref mS, .ref mX, .int zp, .int zf, .ref mL, .ref mB, .ref mD, .ref m1, .ref m2, .int zh, .ref mR, .int zr, .ref x1, .ref x2, .ref x3, .int zc, .ref mH, .int zy, .int za, .int zb, .int zs, .int zq, .int zw, .int ze_10, .ref mY, .int zn, .ref mE, .int zm, .int zl, .ref mW, .int zk, .ref mO, .int zd, .ref y1, .ref y2, .ref y3, .ref y4, .ref mZ])), (mT, .inl (cI, 900, .inl eT)), (mS, .inl (cI, 21, .inl eS)), (mX, .inl (cI, 6300, .inl eX)), (mL, .inl (cI, 512, .inl eL)), (mB, .inl (cS, 131072, .inl eB)), (mD, .inl (cI, 2, .inl eD)), (m1, .inl (cI, 6, .inl e1)), (m2, .inl (cI, 6, .inl e2)), (mR, .inl (cI, 1548, .inl eR)), (x1, .inl (cI, 300, .inl ec1)), (x2, .inl (cI, 300, .inl ec2)), (x3, .inl (cI, 300, .inl ec3)), (mH, .inl (cI, 800, .inl eH)), (mY, .inl (cI, 2600, .inl eY)), (mE, .inl (cI, 2600, .inl eE)), (mW, .inl (cI, 300, .inl eW)), (mO, .inl (cI, 300, .inl eO)), (y1, .inl (cI, 61, .inl er1)), (y2, .inl (cI, 61, .inl er2)), (y3, .inl (cI, 61, .inl er3)), (y4, .inl (cI, 61, .inl er4)), (mZ, .inl (cI, 600, .inl eZ)), (oJ, .inl (cJ, 1, .inr (.inl fJ)))]) rfl
  clear hP hD hS hJ hPD9
  have hP := hPn
  have hD := hDn
  have hS := hSn
  clear hPn hDn hSn
  refine lv_pop hx hb dL_law_993 rfl ?_
  refine lv_goto (tgt := 1022) hx hb dL_law_994 (by decide) ?_
  refine W.widen (k := 90 + (nc + 1)) (n := 172225 + 6 * (nc + 1)) (by omega) (by omega) ?_
  exact kk fa lT lL lM l4 l5 ft lB lH lK gn lG lR l1 l2 l3 pr reE laE suE leE lq lp lv ke tl fsh wi ri fm lm lw re7 la7 su7 le7 re8 la8 su8 le8 re9 la9 su9 le9 zt zp zf zh zr zc zy za zb zs zq zw ze_10 zn zm zl zk zd fT fL fM f41 f42 f43 f51 f52 f53 fB fH1 fH2 fK1 fK2 fG1 fG2 f1 f2 f3 fR1 fR2 fR3 fR4 fR5 fR6 fq fp fv fQ1 fQ2 fQ3 fQ4 fw fW1 fW2 fW3 fW4 fW5 fW6 fW7 eT eS eX eL eB eD e1 e2 eR ec1 ec2 ec3 eH eY eE eW eO er1 er2 er3 er4 eZ fJ _ _ _ ⟨g_lT, g_lL, g_lM, g_lB, g_lH, g_lK, g_gn, g_lG, g_lR, g_l1, g_l2, g_l3, g_lq, g_lp, g_lv, g_ke, g_fsh, g_fm, g_lm, g_lw, g_zt, g_zp, g_zf, g_zh, g_zr, g_zc, g_zy, g_za, g_zb, g_zs, g_zq, g_zn, g_zm, g_zk, g_fG2, g_eS, g_eX, g_eL, g_eB, g_e1, g_e2, g_eY, g_eE, g_eW, g_eO, g_eZ, by omega, hrel, hrc, hr4, hr5, hb4, hb5, hlz, hH, hHe, hKz, hT, ho, hal, hCV, hVk, hVr, hTX, hCH, hvc, hfr, hfx, hfs⟩ hP hD hS (lv_sub hl [0, 1, 2, 3, 4] rfl)

set_option maxHeartbeats 40000000 in
set_option maxRecDepth 100000 in
theorem law_chosen {p : Program} {l : Launch} {e : Env} {s : State} {m : MethodId} {below : List Frame} {meth : Method} {c : Code} {dC : Nat → ClassId} {dI : Nat → Nat → Nat} {cI cS cJ : ClassId} {A : Nat → Prop} {b L : Nat} {xs : Nat → Int32} (C0 : lw_At p s m meth c b L xs) (hAd : A = fun q : Nat => s.heap.size ≤ q) (hK3 : va_K (dC, dI) vwCl [(cI, .int), (cS, .short), (cJ, .long)] s) {oX nT aT nL aL nM aM oC o4 a41 a42 a43 o5 a51 a52 a53 oP nB aB oH h1 h2 oK k1 k2 oG g1 g2 oR n1 a1 n2 a2 n3 a3 r1 r2 r3 r4 r5 r6 oQ oE nq aq np ap nv av q1 q2 q3 q4 oW nw aw o7 o8 o9 w1 w2 w3 w4 w5 w6 w7 oM mT mS mX mL mB mD m1 m2 mR x1 x2 x3 mH mY mE mW mO y1 y2 y3 y4 mZ oJ : Nat} {fa : Int32} {lT : Int32} {lL : Int32} {lM : Int32} {l4 : Int32} {l5 : Int32} {ft : Int32} {lB : Int32} {lH : Int32} {lK : Int32} {gn : Int32} {lG : Int32} {lR : Int32} {l1 : Int32} {l2 : Int32} {l3 : Int32} {pr : Int32} {reE : Int32} {laE : Int32} {suE : Int32} {leE : Int32} {lq : Int32} {lp : Int32} {lv : Int32} {ke : Int32} {tl : Int32} {fsh : Int32} {wi : Int32} {ri : Int32} {fm : Int32} {lm : Int32} {lw : Int32} {re7 : Int32} {la7 : Int32} {su7 : Int32} {le7 : Int32} {re8 : Int32} {la8 : Int32} {su8 : Int32} {le8 : Int32} {re9 : Int32} {la9 : Int32} {su9 : Int32} {le9 : Int32} {zt : Int32} {zp : Int32} {zf : Int32} {zh : Int32} {zr : Int32} {zc : Int32} {zy : Int32} {za : Int32} {zb : Int32} {zs : Int32} {zq : Int32} {zw : Int32} {ze : Int32} {zn : Int32} {zm : Int32} {zl : Int32} {zk : Int32} {zd : Int32} {fT : Nat → Int32} {fL : Nat → Int32} {fM : Nat → Int32} {f41 : Nat → Int32} {f42 : Nat → Int32} {f43 : Nat → Int32} {f51 : Nat → Int32} {f52 : Nat → Int32} {f53 : Nat → Int32} {fB : Nat → Int32} {fH1 : Nat → Int32} {fH2 : Nat → Int32} {fK1 : Nat → Int32} {fK2 : Nat → Int32} {fG1 : Nat → Int32} {fG2 : Nat → Int32} {f1 : Nat → Int32} {f2 : Nat → Int32} {f3 : Nat → Int32} {fR1 : Nat → Int32} {fR2 : Nat → Int32} {fR3 : Nat → Int32} {fR4 : Nat → Int32} {fR5 : Nat → Int32} {fR6 : Nat → Int32} {fq : Nat → Int32} {fp : Nat → Int32} {fv : Nat → Int32} {fQ1 : Nat → Int32} {fQ2 : Nat → Int32} {fQ3 : Nat → Int32} {fQ4 : Nat → Int32} {fw : Nat → Int32} {fW1 : Nat → Int32} {fW2 : Nat → Int32} {fW3 : Nat → Int32} {fW4 : Nat → Int32} {fW5 : Nat → Int32} {fW6 : Nat → Int32} {fW7 : Nat → Int32} {eT : Nat → Int32} {eS : Nat → Int32} {eX : Nat → Int32} {eL : Nat → Int32} {eB : Nat → Int32} {eD : Nat → Int32} {e1 : Nat → Int32} {e2 : Nat → Int32} {eR : Nat → Int32} {ec1 : Nat → Int32} {ec2 : Nat → Int32} {ec3 : Nat → Int32} {eH : Nat → Int32} {eY : Nat → Int32} {eE : Nat → Int32} {eW : Nat → Int32} {eO : Nat → Int32} {er1 : Nat → Int32} {er2 : Nat → Int32} {er3 : Nat → Int32} {er4 : Nat → Int32} {eZ : Nat → Int32} {fJ : Nat → Int64} {H : Heap} {locs : List Loc} {ls : Array Slot} {i : Int32} {nc : Nat} (hn : nc ≤ 511) (hi : 0 ≤ i.toInt ∧ i.toInt + 5 < (L : Int)) (hL : L ≤ 3072) (hI : INV nc lT lL lM l4 l5 lB lH lK gn lG lR l1 l2 l3 lq lp lv ke fsh wi ri fm lm lw zt zp zf zh zr zc zy za zb zs zq zn zm zk fT fL f41 f42 f43 f51 f52 f53 fH1 fH2 fK1 fK2 fG1 fG2 fW4 fW5 fW6 fW7 eT eS eX eL eB eD e1 e2 ec1 ec2 ec3 eH eY eE eW eO eZ) (hP : va_P (dC, dI) vwCl (WLD cI cS cJ oX nT aT nL aL nM aM oC o4 a41 a42 a43 o5 a51 a52 a53 oP nB aB oH h1 h2 oK k1 k2 oG g1 g2 oR n1 a1 n2 a2 n3 a3 r1 r2 r3 r4 r5 r6 oQ oE nq aq np ap nv av q1 q2 q3 q4 oW nw aw o7 o8 o9 w1 w2 w3 w4 w5 w6 w7 oM mT mS mX mL mB mD m1 m2 mR x1 x2 x3 mH mY mE mW mO y1 y2 y3 y4 mZ oJ fa lT lL lM l4 l5 ft lB lH lK gn lG lR l1 l2 l3 pr reE laE suE leE lq lp lv ke tl fsh wi ri fm lm lw re7 la7 su7 le7 re8 la8 su8 le8 re9 la9 su9 le9 zt zp zf zh zr zc zy za zb zs zq zw ze zn zm zl zk zd fT fL fM f41 f42 f43 f51 f52 f53 fB fH1 fH2 fK1 fK2 fG1 fG2 f1 f2 f3 fR1 fR2 fR3 fR4 fR5 fR6 fq fp fv fQ1 fQ2 fQ3 fQ4 fw fW1 fW2 fW3 fW4 fW5 fW6 fW7 eT eS eX eL eB eD e1 e2 eR ec1 ec2 ec3 eH eY eE eW eO er1 er2 er3 er4 eZ fJ) H) (hD : va_D A (WLD cI cS cJ oX nT aT nL aL nM aM oC o4 a41 a42 a43 o5 a51 a52 a53 oP nB aB oH h1 h2 oK k1 k2 oG g1 g2 oR n1 a1 n2 a2 n3 a3 r1 r2 r3 r4 r5 r6 oQ oE nq aq np ap nv av q1 q2 q3 q4 oW nw aw o7 o8 o9 w1 w2 w3 w4 w5 w6 w7 oM mT mS mX mL mB mD m1 m2 mR x1 x2 x3 mH mY mE mW mO y1 y2 y3 y4 mZ oJ fa lT lL lM l4 l5 ft lB lH lK gn lG lR l1 l2 l3 pr reE laE suE leE lq lp lv ke tl fsh wi ri fm lm lw re7 la7 su7 le7 re8 la8 su8 le8 re9 la9 su9 le9 zt zp zf zh zr zc zy za zb zs zq zw ze zn zm zl zk zd fT fL fM f41 f42 f43 f51 f52 f53 fB fH1 fH2 fK1 fK2 fG1 fG2 f1 f2 f3 fR1 fR2 fR3 fR4 fR5 fR6 fq fp fv fQ1 fQ2 fQ3 fQ4 fw fW1 fW2 fW3 fW4 fW5 fW6 fW7 eT eS eX eL eB eD e1 e2 eR ec1 ec2 ec3 eH eY eE eW eO er1 er2 er3 er4 eZ fJ)) (hS : va_S A s.heap H locs) (hl : lv_has ls 7 [(0, .ref b), (1, .ref oX), (2, .ref oM), (3, .ref oJ), (4, .int i)]) (kk : KK p l e s m below meth c dC dI cI cS cJ A b oX nT aT nL aL nM aM oC o4 a41 a42 a43 o5 a51 a52 a53 oP nB aB oH h1 h2 oK k1 k2 oG g1 g2 oR n1 a1 n2 a2 n3 a3 r1 r2 r3 r4 r5 r6 oQ oE nq aq np ap nv av q1 q2 q3 q4 oW nw aw o7 o8 o9 w1 w2 w3 w4 w5 w6 w7 oM mT mS mX mL mB mD m1 m2 mR x1 x2 x3 mH mY mE mW mO y1 y2 y3 y4 mZ oJ i nc) : W p l e room_1 s m #[Value.ref b] below meth c H locs (90 + nc) (172225 + 6 * nc) (lw_Z below #[Value.ref b] s) (F0 m 997 ls []) := by
  refine And.elim (fun hx hBC_0 => ?_) C0
  refine And.elim (fun hb hBC_1 => ?_) hBC_0
  refine And.elim (fun hr hBC_2 => ?_) hBC_1
  refine And.elim (fun hml hBC_3 => ?_) hBC_2
  refine And.elim (fun hown hBC_4 => ?_) hBC_3
  refine And.elim (fun hts0 hBC_5 => ?_) hBC_4
  refine And.elim (fun hX hBC_6 => ?_) hBC_5
  refine And.elim (fun hbl hBC_7 => ?_) hBC_6
  refine And.elim (fun hlocks hBC_8 => ?_) hBC_7
  have hgv := hBC_8
  clear hBC_0 hBC_1 hBC_2 hBC_3 hBC_4 hBC_5 hBC_6 hBC_7 hBC_8
  refine And.elim (fun g_lT hBI_0 => ?_) hI
  refine And.elim (fun g_lL hBI_1 => ?_) hBI_0
  refine And.elim (fun g_lM hBI_2 => ?_) hBI_1
  refine And.elim (fun g_lB hBI_3 => ?_) hBI_2
  refine And.elim (fun g_lH hBI_4 => ?_) hBI_3
  refine And.elim (fun g_lK hBI_5 => ?_) hBI_4
  refine And.elim (fun g_gn hBI_6 => ?_) hBI_5
  refine And.elim (fun g_lG hBI_7 => ?_) hBI_6
  refine And.elim (fun g_lR hBI_8 => ?_) hBI_7
  refine And.elim (fun g_l1 hBI_9 => ?_) hBI_8
  refine And.elim (fun g_l2 hBI_10 => ?_) hBI_9
  refine And.elim (fun g_l3 hBI_11 => ?_) hBI_10
  refine And.elim (fun g_lq hBI_12 => ?_) hBI_11
  refine And.elim (fun g_lp hBI_13 => ?_) hBI_12
  refine And.elim (fun g_lv hBI_14 => ?_) hBI_13
  refine And.elim (fun g_ke hBI_15 => ?_) hBI_14
  refine And.elim (fun g_fsh hBI_16 => ?_) hBI_15
  refine And.elim (fun g_fm hBI_17 => ?_) hBI_16
  refine And.elim (fun g_lm hBI_18 => ?_) hBI_17
  refine And.elim (fun g_lw hBI_19 => ?_) hBI_18
  refine And.elim (fun g_zt hBI_20 => ?_) hBI_19
  refine And.elim (fun g_zp hBI_21 => ?_) hBI_20
  refine And.elim (fun g_zf hBI_22 => ?_) hBI_21
  refine And.elim (fun g_zh hBI_23 => ?_) hBI_22
  refine And.elim (fun g_zr hBI_24 => ?_) hBI_23
  refine And.elim (fun g_zc hBI_25 => ?_) hBI_24
  refine And.elim (fun g_zy hBI_26 => ?_) hBI_25
  refine And.elim (fun g_za hBI_27 => ?_) hBI_26
  refine And.elim (fun g_zb hBI_28 => ?_) hBI_27
  refine And.elim (fun g_zs hBI_29 => ?_) hBI_28
  refine And.elim (fun g_zq hBI_30 => ?_) hBI_29
  refine And.elim (fun g_zn hBI_31 => ?_) hBI_30
  refine And.elim (fun g_zm hBI_32 => ?_) hBI_31
  refine And.elim (fun g_zk hBI_33 => ?_) hBI_32
  refine And.elim (fun g_fG2 hBI_34 => ?_) hBI_33
  refine And.elim (fun g_eS hBI_35 => ?_) hBI_34
  refine And.elim (fun g_eX hBI_36 => ?_) hBI_35
  refine And.elim (fun g_eL hBI_37 => ?_) hBI_36
  refine And.elim (fun g_eB hBI_38 => ?_) hBI_37
  refine And.elim (fun g_e1 hBI_39 => ?_) hBI_38
  refine And.elim (fun g_e2 hBI_40 => ?_) hBI_39
  refine And.elim (fun g_eY hBI_41 => ?_) hBI_40
  refine And.elim (fun g_eE hBI_42 => ?_) hBI_41
  refine And.elim (fun g_eW hBI_43 => ?_) hBI_42
  refine And.elim (fun g_eO hBI_44 => ?_) hBI_43
  refine And.elim (fun g_eZ hBI_45 => ?_) hBI_44
  refine And.elim (fun hzn hBI_46 => ?_) hBI_45
  refine And.elim (fun hrel hBI_47 => ?_) hBI_46
  refine And.elim (fun hrc hBI_48 => ?_) hBI_47
  refine And.elim (fun hr4 hBI_49 => ?_) hBI_48
  refine And.elim (fun hr5 hBI_50 => ?_) hBI_49
  refine And.elim (fun hb4 hBI_51 => ?_) hBI_50
  refine And.elim (fun hb5 hBI_52 => ?_) hBI_51
  refine And.elim (fun hlz hBI_53 => ?_) hBI_52
  refine And.elim (fun hH hBI_54 => ?_) hBI_53
  refine And.elim (fun hHe hBI_55 => ?_) hBI_54
  refine And.elim (fun hKz hBI_56 => ?_) hBI_55
  refine And.elim (fun hT hBI_57 => ?_) hBI_56
  refine And.elim (fun ho hBI_58 => ?_) hBI_57
  refine And.elim (fun hal hBI_59 => ?_) hBI_58
  refine And.elim (fun hCV hBI_60 => ?_) hBI_59
  refine And.elim (fun hVk hBI_61 => ?_) hBI_60
  refine And.elim (fun hVr hBI_62 => ?_) hBI_61
  refine And.elim (fun hTX hBI_63 => ?_) hBI_62
  refine And.elim (fun hCH hBI_64 => ?_) hBI_63
  refine And.elim (fun hvc hBI_65 => ?_) hBI_64
  refine And.elim (fun hfr hBI_66 => ?_) hBI_65
  refine And.elim (fun hfx hBI_67 => ?_) hBI_66
  have hfs := hBI_67
  clear hI hBI_0 hBI_1 hBI_2 hBI_3 hBI_4 hBI_5 hBI_6 hBI_7 hBI_8 hBI_9 hBI_10 hBI_11 hBI_12 hBI_13 hBI_14 hBI_15 hBI_16 hBI_17 hBI_18 hBI_19 hBI_20 hBI_21 hBI_22 hBI_23 hBI_24 hBI_25 hBI_26 hBI_27 hBI_28 hBI_29 hBI_30 hBI_31 hBI_32 hBI_33 hBI_34 hBI_35 hBI_36 hBI_37 hBI_38 hBI_39 hBI_40 hBI_41 hBI_42 hBI_43 hBI_44 hBI_45 hBI_46 hBI_47 hBI_48 hBI_49 hBI_50 hBI_51 hBI_52 hBI_53 hBI_54 hBI_55 hBI_56 hBI_57 hBI_58 hBI_59 hBI_60 hBI_61 hBI_62 hBI_63 hBI_64 hBI_65 hBI_66 hBI_67
  have hK : va_K (dC, dI) vwCl [(cI, .int), (cS, .short)] s := hK3.sub [0, 1] rfl
  have hown : s.vm.findClass RL = some m.cls := hown
  have hts := hts0
  have hcf := k_cf hx hb hml hown hts
  have hi9 : 0 ≤ i.toInt ∧ i.toInt ≤ 3066 := by omega
  have hzs : zs.toInt ≤ 1000000 := by omega
  have hA : ∀ q : Nat, s.heap.size ≤ q → A q := fun q h => by rw [hAd]; exact h
  have hbA : ¬ A b := by rw [hAd]; exact Nat.not_le.mpr hbl
  have hP : va_P (dC, dI) vwCl [(oX, .inr (11, [.ref nT, .ref nL, .ref nM, .ref oC, .ref oP, .ref oH, .ref oK, .ref oG, .ref oR, .ref oQ, .ref oW, .int fa])), (nT, .inr (5, [.ref aT, .int lT])), (aT, .inl (cI, 900, .inl fT)), (nL, .inr (5, [.ref aL, .int lL])), (aL, .inl (cI, 300, .inl fL)), (nM, .inr (5, [.ref aM, .int lM])), (aM, .inl (cI, 300, .inl fM)), (oC, .inr (2, [.ref o4, .ref o5])), (o4, .inr (10, [.ref a41, .ref a42, .ref a43, .int l4])), (a41, .inl (cI, 256, .inl f41)), (a42, .inl (cI, 512, .inl f42)), (a43, .inl (cI, 512, .inl f43)), (o5, .inr (10, [.ref a51, .ref a52, .ref a53, .int l5])), (a51, .inl (cI, 256, .inl f51)), (a52, .inl (cI, 512, .inl f52)), (a53, .inl (cI, 512, .inl f53)), (oP, .inr (7, [.ref oC, .ref nB, .int ft])), (nB, .inr (5, [.ref aB, .int lB])), (aB, .inl (cI, 2400, .inl fB)), (oH, .inr (4, [.ref oP, .ref h1, .ref h2, .int lH])), (h1, .inl (cI, 6, .inl fH1)), (h2, .inl (cI, 6, .inl fH2)), (oK, .inr (3, [.ref k1, .ref k2, .int lK])), (k1, .inl (cI, 1024, .inl fK1)), (k2, .inl (cI, 1024, .inl fK2)), (oG, .inr (0, [.ref g1, .ref g2, .int gn, .int lG])), (g1, .inl (cI, 6000, .inl fG1)), (g2, .inl (cI, 20, .inl fG2)), (oR, .inr (9, [.ref oH, .ref oK, .ref n1, .ref n2, .ref n3, .ref r1, .ref r2, .ref r3, .ref r4, .ref r5, .ref r6, .int lR])), (n1, .inr (5, [.ref a1, .int l1])), (a1, .inl (cI, 300, .inl f1)), (n2, .inr (5, [.ref a2, .int l2])), (a2, .inl (cI, 300, .inl f2)), (n3, .inr (5, [.ref a3, .int l3])), (a3, .inl (cI, 300, .inl f3)), (r1, .inl (cI, 258, .inl fR1)), (r2, .inl (cI, 258, .inl fR2)), (r3, .inl (cI, 774, .inl fR3)), (r4, .inl (cI, 258, .inl fR4)), (r5, .inl (cI, 258, .inl fR5)), (r6, .inl (cI, 774, .inl fR6)), (oQ, .inr (6, [.ref oC, .ref oH, .ref oK, .ref oE, .ref nq, .ref np, .ref nv, .ref q1, .ref q2, .ref q3, .ref q4, .int pr])), (oE, .inr (8, [.ref oC, .ref oK, .int reE, .int laE, .int suE, .int leE])), (nq, .inr (5, [.ref aq, .int lq])), (aq, .inl (cI, 480, .inl fq)), (np, .inr (5, [.ref ap, .int lp])), (ap, .inl (cI, 300, .inl fp)), (nv, .inr (5, [.ref av, .int lv])), (av, .inl (cI, 300, .inl fv)), (q1, .inl (cI, 61, .inl fQ1)), (q2, .inl (cI, 61, .inl fQ2)), (q3, .inl (cI, 61, .inl fQ3)), (q4, .inl (cI, 61, .inl fQ4)), (oW, .inr (1, [.ref oC, .ref oK, .ref nw, .ref w1, .ref w2, .ref w3, .ref o7, .ref o8, .ref o9, .ref w4, .ref w5, .ref w6, .ref w7, .int ke, .int tl, .int fsh, .int wi, .int ri, .int fm, .int lm])), (nw, .inr (5, [.ref aw, .int lw])), (aw, .inl (cI, 800, .inl fw)), (o7, .inr (8, [.ref oC, .ref oK, .int re7, .int la7, .int su7, .int le7])), (o8, .inr (8, [.ref oC, .ref oK, .int re8, .int la8, .int su8, .int le8])), (o9, .inr (8, [.ref oC, .ref oK, .int re9, .int la9, .int su9, .int le9])), (w1, .inl (cI, 801, .inl fW1)), (w2, .inl (cI, 801, .inl fW2)), (w3, .inl (cI, 801, .inl fW3)), (w4, .inl (cI, 200, .inl fW4)), (w5, .inl (cI, 200, .inl fW5)), (w6, .inl (cI, 200, .inl fW6)), (w7, .inl (cI, 200, .inl fW7)), (oM, .inr (12, [.ref mT, .int zt, .ref mS, .ref mX, .int zp, .int zf, .ref mL, .ref mB, .ref mD, .ref m1, .ref m2, .int zh, .ref mR, .int zr, .ref x1, .ref x2, .ref x3, .int zc, .ref mH, .int zy, .int za, .int zb, .int zs, .int zq, .int zw, .int ze, .ref mY, .int zn, .ref mE, .int zm, .int zl, .ref mW, .int zk, .ref mO, .int zd, .ref y1, .ref y2, .ref y3, .ref y4, .ref mZ])), (mT, .inl (cI, 900, .inl eT)), (mS, .inl (cI, 21, .inl eS)), (mX, .inl (cI, 6300, .inl eX)), (mL, .inl (cI, 512, .inl eL)), (mB, .inl (cS, 131072, .inl eB)), (mD, .inl (cI, 2, .inl eD)), (m1, .inl (cI, 6, .inl e1)), (m2, .inl (cI, 6, .inl e2)), (mR, .inl (cI, 1548, .inl eR)), (x1, .inl (cI, 300, .inl ec1)), (x2, .inl (cI, 300, .inl ec2)), (x3, .inl (cI, 300, .inl ec3)), (mH, .inl (cI, 800, .inl eH)), (mY, .inl (cI, 2600, .inl eY)), (mE, .inl (cI, 2600, .inl eE)), (mW, .inl (cI, 300, .inl eW)), (mO, .inl (cI, 300, .inl eO)), (y1, .inl (cI, 61, .inl er1)), (y2, .inl (cI, 61, .inl er2)), (y3, .inl (cI, 61, .inl er3)), (y4, .inl (cI, 61, .inl er4)), (mZ, .inl (cI, 600, .inl eZ)), (oJ, .inl (cJ, 1, .inr (.inl fJ)))] H := hP
  have hD : va_D A [(oX, .inr (11, [.ref nT, .ref nL, .ref nM, .ref oC, .ref oP, .ref oH, .ref oK, .ref oG, .ref oR, .ref oQ, .ref oW, .int fa])), (nT, .inr (5, [.ref aT, .int lT])), (aT, .inl (cI, 900, .inl fT)), (nL, .inr (5, [.ref aL, .int lL])), (aL, .inl (cI, 300, .inl fL)), (nM, .inr (5, [.ref aM, .int lM])), (aM, .inl (cI, 300, .inl fM)), (oC, .inr (2, [.ref o4, .ref o5])), (o4, .inr (10, [.ref a41, .ref a42, .ref a43, .int l4])), (a41, .inl (cI, 256, .inl f41)), (a42, .inl (cI, 512, .inl f42)), (a43, .inl (cI, 512, .inl f43)), (o5, .inr (10, [.ref a51, .ref a52, .ref a53, .int l5])), (a51, .inl (cI, 256, .inl f51)), (a52, .inl (cI, 512, .inl f52)), (a53, .inl (cI, 512, .inl f53)), (oP, .inr (7, [.ref oC, .ref nB, .int ft])), (nB, .inr (5, [.ref aB, .int lB])), (aB, .inl (cI, 2400, .inl fB)), (oH, .inr (4, [.ref oP, .ref h1, .ref h2, .int lH])), (h1, .inl (cI, 6, .inl fH1)), (h2, .inl (cI, 6, .inl fH2)), (oK, .inr (3, [.ref k1, .ref k2, .int lK])), (k1, .inl (cI, 1024, .inl fK1)), (k2, .inl (cI, 1024, .inl fK2)), (oG, .inr (0, [.ref g1, .ref g2, .int gn, .int lG])), (g1, .inl (cI, 6000, .inl fG1)), (g2, .inl (cI, 20, .inl fG2)), (oR, .inr (9, [.ref oH, .ref oK, .ref n1, .ref n2, .ref n3, .ref r1, .ref r2, .ref r3, .ref r4, .ref r5, .ref r6, .int lR])), (n1, .inr (5, [.ref a1, .int l1])), (a1, .inl (cI, 300, .inl f1)), (n2, .inr (5, [.ref a2, .int l2])), (a2, .inl (cI, 300, .inl f2)), (n3, .inr (5, [.ref a3, .int l3])), (a3, .inl (cI, 300, .inl f3)), (r1, .inl (cI, 258, .inl fR1)), (r2, .inl (cI, 258, .inl fR2)), (r3, .inl (cI, 774, .inl fR3)), (r4, .inl (cI, 258, .inl fR4)), (r5, .inl (cI, 258, .inl fR5)), (r6, .inl (cI, 774, .inl fR6)), (oQ, .inr (6, [.ref oC, .ref oH, .ref oK, .ref oE, .ref nq, .ref np, .ref nv, .ref q1, .ref q2, .ref q3, .ref q4, .int pr])), (oE, .inr (8, [.ref oC, .ref oK, .int reE, .int laE, .int suE, .int leE])), (nq, .inr (5, [.ref aq, .int lq])), (aq, .inl (cI, 480, .inl fq)), (np, .inr (5, [.ref ap, .int lp])), (ap, .inl (cI, 300, .inl fp)), (nv, .inr (5, [.ref av, .int lv])), (av, .inl (cI, 300, .inl fv)), (q1, .inl (cI, 61, .inl fQ1)), (q2, .inl (cI, 61, .inl fQ2)), (q3, .inl (cI, 61, .inl fQ3)), (q4, .inl (cI, 61, .inl fQ4)), (oW, .inr (1, [.ref oC, .ref oK, .ref nw, .ref w1, .ref w2, .ref w3, .ref o7, .ref o8, .ref o9, .ref w4, .ref w5, .ref w6, .ref w7, .int ke, .int tl, .int fsh, .int wi, .int ri, .int fm, .int lm])), (nw, .inr (5, [.ref aw, .int lw])), (aw, .inl (cI, 800, .inl fw)), (o7, .inr (8, [.ref oC, .ref oK, .int re7, .int la7, .int su7, .int le7])), (o8, .inr (8, [.ref oC, .ref oK, .int re8, .int la8, .int su8, .int le8])), (o9, .inr (8, [.ref oC, .ref oK, .int re9, .int la9, .int su9, .int le9])), (w1, .inl (cI, 801, .inl fW1)), (w2, .inl (cI, 801, .inl fW2)), (w3, .inl (cI, 801, .inl fW3)), (w4, .inl (cI, 200, .inl fW4)), (w5, .inl (cI, 200, .inl fW5)), (w6, .inl (cI, 200, .inl fW6)), (w7, .inl (cI, 200, .inl fW7)), (oM, .inr (12, [.ref mT, .int zt, .ref mS, .ref mX, .int zp, .int zf, .ref mL, .ref mB, .ref mD, .ref m1, .ref m2, .int zh, .ref mR, .int zr, .ref x1, .ref x2, .ref x3, .int zc, .ref mH, .int zy, .int za, .int zb, .int zs, .int zq, .int zw, .int ze, .ref mY, .int zn, .ref mE, .int zm, .int zl, .ref mW, .int zk, .ref mO, .int zd, .ref y1, .ref y2, .ref y3, .ref y4, .ref mZ])), (mT, .inl (cI, 900, .inl eT)), (mS, .inl (cI, 21, .inl eS)), (mX, .inl (cI, 6300, .inl eX)), (mL, .inl (cI, 512, .inl eL)), (mB, .inl (cS, 131072, .inl eB)), (mD, .inl (cI, 2, .inl eD)), (m1, .inl (cI, 6, .inl e1)), (m2, .inl (cI, 6, .inl e2)), (mR, .inl (cI, 1548, .inl eR)), (x1, .inl (cI, 300, .inl ec1)), (x2, .inl (cI, 300, .inl ec2)), (x3, .inl (cI, 300, .inl ec3)), (mH, .inl (cI, 800, .inl eH)), (mY, .inl (cI, 2600, .inl eY)), (mE, .inl (cI, 2600, .inl eE)), (mW, .inl (cI, 300, .inl eW)), (mO, .inl (cI, 300, .inl eO)), (y1, .inl (cI, 61, .inl er1)), (y2, .inl (cI, 61, .inl er2)), (y3, .inl (cI, 61, .inl er3)), (y4, .inl (cI, 61, .inl er4)), (mZ, .inl (cI, 600, .inl eZ)), (oJ, .inl (cJ, 1, .inr (.inl fJ)))] := hD
  have hN52 : va_Nw (.methodLinkNest RX2 52 yX11_isLetter "TextMender") s := va_Nw.of rfl (hts0 _ q_3_4)
  replace g_lT := hid g_lT
  replace g_lM := hid g_lM
  replace g_lB := hid g_lB
  replace g_lR := hid g_lR
  replace g_l1 := hid g_l1
  replace g_l2 := hid g_l2
  replace g_l3 := hid g_l3
  replace g_lq := hid g_lq
  replace g_lp := hid g_lp
  replace g_lv := hid g_lv
  replace g_fm := hid g_fm
  replace g_lm := hid g_lm
  replace g_lw := hid g_lw
  replace g_zt := hid g_zt
  replace g_zr := hid g_zr
  replace g_zn := hid g_zn
  replace g_zm := hid g_zm
  replace g_zk := hid g_zk
  refine lv_aload_n hx hb dL_law_997 rfl (lv_at hl 1 rfl) ?_
  refine lv_aload_n hx hb dL_law_998 rfl (lv_at hl 0 rfl) ?_
  refine lv_iload hx hb dL_law_999 (lv_at hl 4 rfl) ?_
  refine lv_iconst (v := 1) hx hb dL_law_1001 (by decide) ?_
  refine lv_iadd hx hb dL_law_1002 ?_
  refine lv_topi (fun x_1 ex_1 => ?_)
  have tx_1 : x_1.toInt = i.toInt + 1 := v_addR (l2 := 1) (h2 := 1) ex_1 hi9 (by decide) (by decide) (by decide)
  refine va_sld hx hb hX hbl hbA hS (v_in (v_sld5 tx_1 hi (by decide))) dL_law_1003 ?_
  refine lv_topi (fun x_2 ex_2 => ?_)
  refine kV_i (rest := []) (q0 := 0) (ci := 11) hcf (f_X11_chosen l dC dI cI cS H.size oX nT nL nM oC oP oH oK oG oR oQ oW nw w1 w2 w3 o7 o8 o9 w4 w5 w6 w7 aw aL nB aM o4 o5 a41 a42 a43 a51 a52 a53 g1 g2 fa ke tl fsh wi ri fm lm fW4 fW5 lw fw lL fL ft lM fM l4 f41 f42 f43 l5 f51 f52 f53 gn lG fG1 fG2 x_2 (g_ke) (g_fsh) (g_fm) (g_lm) (g_lw) (g_lL) (g_lM) (g_gn) (g_lG) (g_fG2) (TX_p hTX) (frs_C hr4 hr5 g_eB hTX hvc hfr hfx hfs) (hr4.1) (occ_511 hr4.2.1) (hr5.1) (occ_511 hr5.2.1) (TR_r hr4 g_eL) (TR_r hr5 g_eL) (okB_cl hr4 hr5 g_eB)) kc_X11_chosen gL_law_X11_chosen rfl rfl rfl ⟨Nat.le_of_ble_eq_true rfl, Nat.le_of_ble_eq_true rfl⟩ (kX_1 hN52) hK hP hD hS hA ([0, 18, 21, 22, 19, 20, 1, 2, 14, 3, 4, 5, 6, 7, 8, 9, 10, 11, 12, 13, 15, 16, 17].filterMap (fun j => (posT mk_45 0)[j]?)) (posF mk_45 0) (kCp (ws := [(oX, .inr (11, [.ref nT, .ref nL, .ref nM, .ref oC, .ref oP, .ref oH, .ref oK, .ref oG, .ref oR, .ref oQ, .ref oW, .int fa])), (nL, .inr (5, [.ref aL, .int lL])), (aL, .inl (cI, 300, .inl fL)), (nM, .inr (5, [.ref aM, .int lM])), (aM, .inl (cI, 300, .inl fM)), (oC, .inr (2, [.ref o4, .ref o5])), (o4, .inr (10, [.ref a41, .ref a42, .ref a43, .int l4])), (a41, .inl (cI, 256, .inl f41)), (a42, .inl (cI, 512, .inl f42)), (a43, .inl (cI, 512, .inl f43)), (o5, .inr (10, [.ref a51, .ref a52, .ref a53, .int l5])), (a51, .inl (cI, 256, .inl f51)), (a52, .inl (cI, 512, .inl f52)), (a53, .inl (cI, 512, .inl f53)), (oP, .inr (7, [.ref oC, .ref nB, .int ft])), (oG, .inr (0, [.ref g1, .ref g2, .int gn, .int lG])), (g1, .inl (cI, 6000, .inl fG1)), (g2, .inl (cI, 20, .inl fG2)), (oW, .inr (1, [.ref oC, .ref oK, .ref nw, .ref w1, .ref w2, .ref w3, .ref o7, .ref o8, .ref o9, .ref w4, .ref w5, .ref w6, .ref w7, .int ke, .int tl, .int fsh, .int wi, .int ri, .int fm, .int lm])), (nw, .inr (5, [.ref aw, .int lw])), (aw, .inl (cI, 800, .inl fw)), (w4, .inl (cI, 200, .inl fW4)), (w5, .inl (cI, 200, .inl fW5))]) (kC_of mk_45 rfl rfl) rfl) (by decide +kernel) rfl rfl rfl hl rfl (Nat.le_of_ble_eq_true rfl) dL_law_1004 ⟨kfit1 hn (Nat.le_of_ble_eq_true rfl), ksix1 hn (Nat.le_of_ble_eq_true rfl)⟩ (fun r_3 H locs hB hJ hSn => ?_)
  refine Exists.elim hB (fun lw_3 hB3_0 => ?_)
  refine Exists.elim hB3_0 (fun fw_3 hB3_1 => ?_)
  refine Exists.elim hB3_1 (fun fm_3 hB3_2 => ?_)
  refine Exists.elim hB3_2 (fun lm_3 hB3_3 => ?_)
  refine Exists.elim hB3_3 (fun ft_3 hB3_4 => ?_)
  refine Exists.elim hB3_4 (fun lM_3 hB3_5 => ?_)
  refine Exists.elim hB3_5 (fun fM_3 hB3_6 => ?_)
  refine Exists.elim hB3_6 (fun lL_3 hB3_7 => ?_)
  refine Exists.elim hB3_7 (fun fL_3 hB3_8 => ?_)
  refine Exists.elim hB3_8 (fun fsh_3 hB3_9 => ?_)
  refine Exists.elim hB3_9 (fun gn_3 hB3_10 => ?_)
  refine Exists.elim hB3_10 (fun lG_3 hB3_11 => ?_)
  refine Exists.elim hB3_11 (fun fG1_3 hB3_12 => ?_)
  refine Exists.elim hB3_12 (fun fG2_3 hB3_13 => ?_)
  refine And.elim (fun hPD9 hB3_14 => ?_) hB3_13
  refine And.elim (fun hf3_0 hB3_15 => ?_) hB3_14
  refine And.elim (fun hf3_1 hB3_16 => ?_) hB3_15
  refine And.elim (fun hf3_2 hB3_17 => ?_) hB3_16
  refine And.elim (fun hf3_3 hB3_18 => ?_) hB3_17
  refine And.elim (fun hf3_4 hB3_19 => ?_) hB3_18
  refine And.elim (fun hf3_5 hB3_20 => ?_) hB3_19
  refine And.elim (fun hf3_6 hB3_21 => ?_) hB3_20
  refine And.elim (fun hf3_7 hB3_22 => ?_) hB3_21
  refine And.elim (fun hf3_8 hB3_23 => ?_) hB3_22
  refine And.elim (fun hf3_9 hB3_24 => ?_) hB3_23
  have hf3_10 := hB3_24
  clear hB hB3_0 hB3_1 hB3_2 hB3_3 hB3_4 hB3_5 hB3_6 hB3_7 hB3_8 hB3_9 hB3_10 hB3_11 hB3_12 hB3_13 hB3_14 hB3_15 hB3_16 hB3_17 hB3_18 hB3_19 hB3_20 hB3_21 hB3_22 hB3_23 hB3_24
  obtain ⟨hPn, hDn⟩ := kJm (m := mk_45) hJ rfl hPD9.1 hPD9.2 [0, 6, 7, 9, 10, 11, 12, 13, 14, 15, 16, 17, 18, 19, 8, 20, 21, 22, 1, 4, 5, 2, 3] (by decide +kernel) (ws := [(oX, .inr (11, [.ref nT, .ref nL, .ref nM, .ref oC, .ref oP, .ref oH, .ref oK, .ref oG, .ref oR, .ref oQ, .ref oW, .int fa])), (nL, .inr (5, [.ref aL, .int lL_3])), (aL, .inl (cI, 300, .inl fL_3)), (nM, .inr (5, [.ref aM, .int lM_3])), (aM, .inl (cI, 300, .inl fM_3)), (oC, .inr (2, [.ref o4, .ref o5])), (o4, .inr (10, [.ref a41, .ref a42, .ref a43, .int l4])), (a41, .inl (cI, 256, .inl f41)), (a42, .inl (cI, 512, .inl f42)), (a43, .inl (cI, 512, .inl f43)), (o5, .inr (10, [.ref a51, .ref a52, .ref a53, .int l5])), (a51, .inl (cI, 256, .inl f51)), (a52, .inl (cI, 512, .inl f52)), (a53, .inl (cI, 512, .inl f53)), (oP, .inr (7, [.ref oC, .ref nB, .int ft_3])), (oG, .inr (0, [.ref g1, .ref g2, .int gn_3, .int lG_3])), (g1, .inl (cI, 6000, .inl fG1_3)), (g2, .inl (cI, 20, .inl fG2_3)), (oW, .inr (1, [.ref oC, .ref oK, .ref nw, .ref w1, .ref w2, .ref w3, .ref o7, .ref o8, .ref o9, .ref w4, .ref w5, .ref w6, .ref w7, .int ke, .int tl, .int fsh_3, .int wi, .int ri, .int fm_3, .int lm_3])), (nw, .inr (5, [.ref aw, .int lw_3])), (aw, .inl (cI, 800, .inl fw_3)), (w4, .inl (cI, 200, .inl fW4)), (w5, .inl (cI, 200, .inl fW5))]) rfl (wn := [(oX, .inr (11, [.ref nT, .ref nL, .ref nM, .ref oC, .ref oP, .ref oH, .ref oK, .ref oG, .ref oR, .ref oQ, .ref oW, .int fa])), (nT, .inr (5, [.ref aT, .int lT])), (aT, .inl (cI, 900, .inl fT)), (nL, .inr (5, [.ref aL, .int lL_3])), (aL, .inl (cI, 300, .inl fL_3)), (nM, .inr (5, [.ref aM, .int lM_3])), (aM, .inl (cI, 300, .inl fM_3)), (oC, .inr (2, [.ref o4, .ref o5])), (o4, .inr (10, [.ref a41, .ref a42, .ref a43, .int l4])), (a41, .inl (cI, 256, .inl f41)), (a42, .inl (cI, 512, .inl f42)), (a43, .inl (cI, 512, .inl f43)), (o5, .inr (10, [.ref a51, .ref a52, .ref a53, .int l5])), (a51, .inl (cI, 256, .inl f51)), (a52, .inl (cI, 512, .inl f52)), (a53, .inl (cI, 512, .inl f53)), (oP, .inr (7, [.ref oC, .ref nB, .int ft_3])), (nB, .inr (5, [.ref aB, .int lB])), (aB, .inl (cI, 2400, .inl fB)), (oH, .inr (4, [.ref oP, .ref h1, .ref h2, .int lH])), (h1, .inl (cI, 6, .inl fH1)), (h2, .inl (cI, 6, .inl fH2)), (oK, .inr (3, [.ref k1, .ref k2, .int lK])), (k1, .inl (cI, 1024, .inl fK1)), (k2, .inl (cI, 1024, .inl fK2)), (oG, .inr (0, [.ref g1, .ref g2, .int gn_3, .int lG_3])), (g1, .inl (cI, 6000, .inl fG1_3)), (g2, .inl (cI, 20, .inl fG2_3)), (oR, .inr (9, [.ref oH, .ref oK, .ref n1, .ref n2, .ref n3, .ref r1, .ref r2, .ref r3, .ref r4, .ref r5, .ref r6, .int lR])), (n1, .inr (5, [.ref a1, .int l1])), (a1, .inl (cI, 300, .inl f1)), (n2, .inr (5, [.ref a2, .int l2])), (a2, .inl (cI, 300, .inl f2)), (n3, .inr (5, [.ref a3, .int l3])), (a3, .inl (cI, 300, .inl f3)), (r1, .inl (cI, 258, .inl fR1)), (r2, .inl (cI, 258, .inl fR2)), (r3, .inl (cI, 774, .inl fR3)), (r4, .inl (cI, 258, .inl fR4)), (r5, .inl (cI, 258, .inl fR5)), (r6, .inl (cI, 774, .inl fR6)), (oQ, .inr (6, [.ref oC, .ref oH, .ref oK, .ref oE, .ref nq, .ref np, .ref nv, .ref q1, .ref q2, .ref q3, .ref q4, .int pr])), (oE, .inr (8, [.ref oC, .ref oK, .int reE, .int laE, .int suE, .int leE])), (nq, .inr (5, [.ref aq, .int lq])), (aq, .inl (cI, 480, .inl fq)), (np, .inr (5, [.ref ap, .int lp])), (ap, .inl (cI, 300, .inl fp)), (nv, .inr (5, [.ref av, .int lv])), (av, .inl (cI, 300, .inl fv)), (q1, .inl (cI, 61, .inl fQ1)), (q2, .inl (cI, 61, .inl fQ2)), (q3, .inl (cI, 61, .inl fQ3)), (q4, .inl (cI, 61, .inl fQ4)), (oW, .inr (1, [.ref oC, .ref oK, .ref nw, .ref w1, .ref w2, .ref w3, .ref o7, .ref o8, .ref o9, .ref w4, .ref w5, .ref w6, .ref w7, .int ke, .int tl, .int fsh_3, .int wi, .int ri, .int fm_3, .int lm_3])), (nw, .inr (5, [.ref aw, .int lw_3])), (aw, .inl (cI, 800, .inl fw_3)), (o7, .inr (8, [.ref oC, .ref oK, .int re7, .int la7, .int su7, .int le7])), (o8, .inr (8, [.ref oC, .ref oK, .int re8, .int la8, .int su8, .int le8])), (o9, .inr (8, [.ref oC, .ref oK, .int re9, .int la9, .int su9, .int le9])), (w1, .inl (cI, 801, .inl fW1)), (w2, .inl (cI, 801, .inl fW2)), (w3, .inl (cI, 801, .inl fW3)), (w4, .inl (cI, 200, .inl fW4)), (w5, .inl (cI, 200, .inl fW5)), (w6, .inl (cI, 200, .inl fW6)), (w7, .inl (cI, 200, .inl fW7)), (oM, .inr (12, [.ref mT, .int zt, .ref mS, .ref mX, .int zp, .int zf, .ref mL, .ref mB, .ref mD, .ref m1, .ref m2, .int zh, .ref mR, .int zr, .ref x1, .ref x2, .ref x3, .int zc, .ref mH, .int zy, .int za, .int zb, .int zs, .int zq, .int zw, .int ze, .ref mY, .int zn, .ref mE, .int zm, .int zl, .ref mW, .int zk, .ref mO, .int zd, .ref y1, .ref y2, .ref y3, .ref y4, .ref mZ])), (mT, .inl (cI, 900, .inl eT)), (mS, .inl (cI, 21, .inl eS)), (mX, .inl (cI, 6300, .inl eX)), (mL, .inl (cI, 512, .inl eL)), (mB, .inl (cS, 131072, .inl eB)), (mD, .inl (cI, 2, .inl eD)), (m1, .inl (cI, 6, .inl e1)), (m2, .inl (cI, 6, .inl e2)), (mR, .inl (cI, 1548, .inl eR)), (x1, .inl (cI, 300, .inl ec1)), (x2, .inl (cI, 300, .inl ec2)), (x3, .inl (cI, 300, .inl ec3)), (mH, .inl (cI, 800, .inl eH)), (mY, .inl (cI, 2600, .inl eY)), (mE, .inl (cI, 2600, .inl eE)), (mW, .inl (cI, 300, .inl eW)), (mO, .inl (cI, 300, .inl eO)), (y1, .inl (cI, 61, .inl er1)), (y2, .inl (cI, 61, .inl er2)), (y3, .inl (cI, 61, .inl er3)), (y4, .inl (cI, 61, .inl er4)), (mZ, .inl (cI, 600, .inl eZ)), (oJ, .inl (cJ, 1, .inr (.inl fJ)))]) rfl
  clear hP hD hS hJ hPD9
  have hP := hPn
  have hD := hDn
  have hS := hSn
  clear hPn hDn hSn
  refine lv_pop hx hb dL_law_1007 rfl ?_
  refine lv_aload_n hx hb dL_law_1008 rfl (lv_at hl 2 rfl) ?_
  refine lv_aload_n hx hb dL_law_1009 rfl (lv_at hl 0 rfl) ?_
  refine lv_iload hx hb dL_law_1010 (lv_at hl 4 rfl) ?_
  refine lv_iconst (v := 1) hx hb dL_law_1012 (by decide) ?_
  refine lv_iadd hx hb dL_law_1013 ?_
  refine lv_topi (fun x_4 ex_4 => ?_)
  have tx_4 : x_4.toInt = i.toInt + 1 := v_addR (l2 := 1) (h2 := 1) ex_4 hi9 (by decide) (by decide) (by decide)
  refine va_sld hx hb hX hbl hbA hS (v_in (v_sld5 tx_4 hi (by decide))) dL_law_1014 ?_
  refine lv_topi (fun x_5 ex_5 => ?_)
  have es_5 : x_5 = x_2 := by rw [ex_5, ex_2, ex_4, ex_1]
  rw [es_5]
  refine kV_i (rest := []) (q0 := 0) (ci := 12) hcf (f_X12_chosen l dC dI cI cS H.size oM mT mS mX mL mB mD m1 m2 mR x1 x2 x3 mH mY mE mW mO y1 y2 y3 y4 mZ zt zp zf zh zr zc zy za zb zs zq zw ze zn zm zl zk zd eY eB eL eE eW eH eS eX x_2 (g_zt) (g_zp) (g_zf) (g_zh) (g_zr) (g_zc) (g_zy) (g_za) (g_zb) (g_zs) (g_zq) (g_zn) (g_zm) (g_zk) (g_eY) (g_eB) (g_eL) (g_eE) (g_eW) (g_eS) (g_eX) (TX_l hTX) (LBr_of hb4 hb5) (hlz) (hfs) (by omega)) kc_X12_chosen gL_law_X12_chosen rfl rfl rfl ⟨Nat.le_of_ble_eq_true rfl, Nat.le_of_ble_eq_true rfl⟩ kX_t hK hP hD hS hA ([0, 6, 4, 3, 7, 8, 5, 1, 2].filterMap (fun j => (posT mk_46 0)[j]?)) (posF mk_46 0) (kCp (ws := [(oM, .inr (12, [.ref mT, .int zt, .ref mS, .ref mX, .int zp, .int zf, .ref mL, .ref mB, .ref mD, .ref m1, .ref m2, .int zh, .ref mR, .int zr, .ref x1, .ref x2, .ref x3, .int zc, .ref mH, .int zy, .int za, .int zb, .int zs, .int zq, .int zw, .int ze, .ref mY, .int zn, .ref mE, .int zm, .int zl, .ref mW, .int zk, .ref mO, .int zd, .ref y1, .ref y2, .ref y3, .ref y4, .ref mZ])), (mS, .inl (cI, 21, .inl eS)), (mX, .inl (cI, 6300, .inl eX)), (mL, .inl (cI, 512, .inl eL)), (mB, .inl (cS, 131072, .inl eB)), (mH, .inl (cI, 800, .inl eH)), (mY, .inl (cI, 2600, .inl eY)), (mE, .inl (cI, 2600, .inl eE)), (mW, .inl (cI, 300, .inl eW))]) (kC_of mk_46 rfl rfl) rfl) (by decide +kernel) rfl rfl rfl hl rfl (Nat.le_of_ble_eq_true rfl) dL_law_1015 ⟨kfit2 hn (Nat.le_of_ble_eq_true rfl), ksix2 hn (Nat.le_of_ble_eq_true rfl)⟩ (fun r_6 H locs hB hJ hSn => ?_)
  refine Exists.elim hB (fun ze_6 hB6_0 => ?_)
  refine Exists.elim hB6_0 (fun zk_6 hB6_1 => ?_)
  refine Exists.elim hB6_1 (fun eW_6 hB6_2 => ?_)
  refine Exists.elim hB6_2 (fun zn_6 hB6_3 => ?_)
  refine Exists.elim hB6_3 (fun eY_6 hB6_4 => ?_)
  refine Exists.elim hB6_4 (fun zd_6 hB6_5 => ?_)
  refine Exists.elim hB6_5 (fun zm_6 hB6_6 => ?_)
  refine Exists.elim hB6_6 (fun zl_6 hB6_7 => ?_)
  refine Exists.elim hB6_7 (fun eE_6 hB6_8 => ?_)
  refine Exists.elim hB6_8 (fun zp_6 hB6_9 => ?_)
  refine Exists.elim hB6_9 (fun zf_6 hB6_10 => ?_)
  refine Exists.elim hB6_10 (fun zs_6 hB6_11 => ?_)
  refine Exists.elim hB6_11 (fun eS_6 hB6_12 => ?_)
  refine Exists.elim hB6_12 (fun eX_6 hB6_13 => ?_)
  refine And.elim (fun hPD9 hB6_14 => ?_) hB6_13
  refine And.elim (fun hf6_0 hB6_15 => ?_) hB6_14
  refine And.elim (fun hf6_1 hB6_16 => ?_) hB6_15
  refine And.elim (fun hf6_2 hB6_17 => ?_) hB6_16
  refine And.elim (fun hf6_3 hB6_18 => ?_) hB6_17
  refine And.elim (fun hf6_4 hB6_19 => ?_) hB6_18
  refine And.elim (fun hf6_5 hB6_20 => ?_) hB6_19
  refine And.elim (fun hf6_6 hB6_21 => ?_) hB6_20
  refine And.elim (fun hf6_7 hB6_22 => ?_) hB6_21
  refine And.elim (fun hf6_8 hB6_23 => ?_) hB6_22
  refine And.elim (fun hf6_9 hB6_24 => ?_) hB6_23
  refine And.elim (fun hf6_10 hB6_25 => ?_) hB6_24
  refine And.elim (fun hf6_11 hB6_26 => ?_) hB6_25
  refine And.elim (fun hf6_12 hB6_27 => ?_) hB6_26
  refine And.elim (fun hf6_13 hB6_28 => ?_) hB6_27
  have hf6_14 := hB6_28
  clear hB hB6_0 hB6_1 hB6_2 hB6_3 hB6_4 hB6_5 hB6_6 hB6_7 hB6_8 hB6_9 hB6_10 hB6_11 hB6_12 hB6_13 hB6_14 hB6_15 hB6_16 hB6_17 hB6_18 hB6_19 hB6_20 hB6_21 hB6_22 hB6_23 hB6_24 hB6_25 hB6_26 hB6_27 hB6_28
  obtain ⟨hPn, hDn⟩ := kJm (m := mk_46) hJ rfl hPD9.1 hPD9.2 [0, 7, 8, 3, 2, 6, 1, 4, 5] (by decide +kernel) (ws := [(oM, .inr (12, [.ref mT, .int zt, .ref mS, .ref mX, .int zp_6, .int zf_6, .ref mL, .ref mB, .ref mD, .ref m1, .ref m2, .int zh, .ref mR, .int zr, .ref x1, .ref x2, .ref x3, .int zc, .ref mH, .int zy, .int za, .int zb, .int zs_6, .int zq, .int zw, .int ze_6, .ref mY, .int zn_6, .ref mE, .int zm_6, .int zl_6, .ref mW, .int zk_6, .ref mO, .int zd_6, .ref y1, .ref y2, .ref y3, .ref y4, .ref mZ])), (mS, .inl (cI, 21, .inl eS_6)), (mX, .inl (cI, 6300, .inl eX_6)), (mL, .inl (cI, 512, .inl eL)), (mB, .inl (cS, 131072, .inl eB)), (mH, .inl (cI, 800, .inl eH)), (mY, .inl (cI, 2600, .inl eY_6)), (mE, .inl (cI, 2600, .inl eE_6)), (mW, .inl (cI, 300, .inl eW_6))]) rfl (wn := [(oX, .inr (11, [.ref nT, .ref nL, .ref nM, .ref oC, .ref oP, .ref oH, .ref oK, .ref oG, .ref oR, .ref oQ, .ref oW, .int fa])), (nT, .inr (5, [.ref aT, .int lT])), (aT, .inl (cI, 900, .inl fT)), (nL, .inr (5, [.ref aL, .int lL_3])), (aL, .inl (cI, 300, .inl fL_3)), (nM, .inr (5, [.ref aM, .int lM_3])), (aM, .inl (cI, 300, .inl fM_3)), (oC, .inr (2, [.ref o4, .ref o5])), (o4, .inr (10, [.ref a41, .ref a42, .ref a43, .int l4])), (a41, .inl (cI, 256, .inl f41)), (a42, .inl (cI, 512, .inl f42)), (a43, .inl (cI, 512, .inl f43)), (o5, .inr (10, [.ref a51, .ref a52, .ref a53, .int l5])), (a51, .inl (cI, 256, .inl f51)), (a52, .inl (cI, 512, .inl f52)), (a53, .inl (cI, 512, .inl f53)), (oP, .inr (7, [.ref oC, .ref nB, .int ft_3])), (nB, .inr (5, [.ref aB, .int lB])), (aB, .inl (cI, 2400, .inl fB)), (oH, .inr (4, [.ref oP, .ref h1, .ref h2, .int lH])), (h1, .inl (cI, 6, .inl fH1)), (h2, .inl (cI, 6, .inl fH2)), (oK, .inr (3, [.ref k1, .ref k2, .int lK])), (k1, .inl (cI, 1024, .inl fK1)), (k2, .inl (cI, 1024, .inl fK2)), (oG, .inr (0, [.ref g1, .ref g2, .int gn_3, .int lG_3])), (g1, .inl (cI, 6000, .inl fG1_3)), (g2, .inl (cI, 20, .inl fG2_3)), (oR, .inr (9, [.ref oH, .ref oK, .ref n1, .ref n2, .ref n3, .ref r1, .ref r2, .ref r3, .ref r4, .ref r5, .ref r6, .int lR])), (n1, .inr (5, [.ref a1, .int l1])), (a1, .inl (cI, 300, .inl f1)), (n2, .inr (5, [.ref a2, .int l2])), (a2, .inl (cI, 300, .inl f2)), (n3, .inr (5, [.ref a3, .int l3])), (a3, .inl (cI, 300, .inl f3)), (r1, .inl (cI, 258, .inl fR1)), (r2, .inl (cI, 258, .inl fR2)), (r3, .inl (cI, 774, .inl fR3)), (r4, .inl (cI, 258, .inl fR4)), (r5, .inl (cI, 258, .inl fR5)), (r6, .inl (cI, 774, .inl fR6)), (oQ, .inr (6, [.ref oC, .ref oH, .ref oK, .ref oE, .ref nq, .ref np, .ref nv, .ref q1, .ref q2, .ref q3, .ref q4, .int pr])), (oE, .inr (8, [.ref oC, .ref oK, .int reE, .int laE, .int suE, .int leE])), (nq, .inr (5, [.ref aq, .int lq])), (aq, .inl (cI, 480, .inl fq)), (np, .inr (5, [.ref ap, .int lp])), (ap, .inl (cI, 300, .inl fp)), (nv, .inr (5, [.ref av, .int lv])), (av, .inl (cI, 300, .inl fv)), (q1, .inl (cI, 61, .inl fQ1)), (q2, .inl (cI, 61, .inl fQ2)), (q3, .inl (cI, 61, .inl fQ3)), (q4, .inl (cI, 61, .inl fQ4)), (oW, .inr (1, [.ref oC, .ref oK, .ref nw, .ref w1, .ref w2, .ref w3, .ref o7, .ref o8, .ref o9, .ref w4, .ref w5, .ref w6, .ref w7, .int ke, .int tl, .int fsh_3, .int wi, .int ri, .int fm_3, .int lm_3])), (nw, .inr (5, [.ref aw, .int lw_3])), (aw, .inl (cI, 800, .inl fw_3)), (o7, .inr (8, [.ref oC, .ref oK, .int re7, .int la7, .int su7, .int le7])), (o8, .inr (8, [.ref oC, .ref oK, .int re8, .int la8, .int su8, .int le8])), (o9, .inr (8, [.ref oC, .ref oK, .int re9, .int la9, .int su9, .int le9])), (w1, .inl (cI, 801, .inl fW1)), (w2, .inl (cI, 801, .inl fW2)), (w3, .inl (cI, 801, .inl fW3)), (w4, .inl (cI, 200, .inl fW4)), (w5, .inl (cI, 200, .inl fW5)), (w6, .inl (cI, 200, .inl fW6)), (w7, .inl (cI, 200, .inl fW7)), (oM, .inr (12, [.ref mT, .int zt, .ref mS, .ref mX, .int zp_6, .int zf_6, .ref mL, .ref mB, .ref mD, .ref m1, .ref m2, .int zh, .ref mR, .int zr, .ref x1, .ref x2, .ref x3, .int zc, .ref mH, .int zy, .int za, .int zb, .int zs_6, .int zq, .int zw, .int ze_6, .ref mY, .int zn_6, .ref mE, .int zm_6, .int zl_6, .ref mW, .int zk_6, .ref mO, .int zd_6, .ref y1, .ref y2, .ref y3, .ref y4, .ref mZ])), (mT, .inl (cI, 900, .inl eT)), (mS, .inl (cI, 21, .inl eS_6)), (mX, .inl (cI, 6300, .inl eX_6)), (mL, .inl (cI, 512, .inl eL)), (mB, .inl (cS, 131072, .inl eB)), (mD, .inl (cI, 2, .inl eD)), (m1, .inl (cI, 6, .inl e1)), (m2, .inl (cI, 6, .inl e2)), (mR, .inl (cI, 1548, .inl eR)), (x1, .inl (cI, 300, .inl ec1)), (x2, .inl (cI, 300, .inl ec2)), (x3, .inl (cI, 300, .inl ec3)), (mH, .inl (cI, 800, .inl eH)), (mY, .inl (cI, 2600, .inl eY_6)), (mE, .inl (cI, 2600, .inl eE_6)), (mW, .inl (cI, 300, .inl eW_6)), (mO, .inl (cI, 300, .inl eO)), (y1, .inl (cI, 61, .inl er1)), (y2, .inl (cI, 61, .inl er2)), (y3, .inl (cI, 61, .inl er3)), (y4, .inl (cI, 61, .inl er4)), (mZ, .inl (cI, 600, .inl eZ)), (oJ, .inl (cJ, 1, .inr (.inl fJ)))]) rfl
  clear hP hD hS hJ hPD9
  have hP := hPn
  have hD := hDn
  have hS := hSn
  clear hPn hDn hSn
  refine lv_pop hx hb dL_law_1018 rfl ?_
  refine lv_goto (tgt := 1022) hx hb dL_law_1019 (by decide) ?_
  have hcg := chg_rel hTX hCH hf3_10 hf6_14 (cs_iff hr4 hr5 g_eB hTX hvc hfr hfx hfs) (cs_ok hlz g_eB (TX_q hTX) hfs) g_lL.1 g_lL.2 g_gn g_zp g_zf g_fG2
  have hdf : DFr fsh fsh_3 zs zs_6 := hcg.2.2.2
  refine W.widen (k := 90 + (nc + 1)) (n := 172225 + 6 * (nc + 1)) (by omega) (by omega) ?_
  exact kk fa lT lL_3 lM_3 l4 l5 ft_3 lB lH lK gn_3 lG_3 lR l1 l2 l3 pr reE laE suE leE lq lp lv ke tl fsh_3 wi ri fm_3 lm_3 lw_3 re7 la7 su7 le7 re8 la8 su8 le8 re9 la9 su9 le9 zt zp_6 zf_6 zh zr zc zy za zb zs_6 zq zw ze_6 zn_6 zm_6 zl_6 zk_6 zd_6 fT fL_3 fM_3 f41 f42 f43 f51 f52 f53 fB fH1 fH2 fK1 fK2 fG1_3 fG2_3 f1 f2 f3 fR1 fR2 fR3 fR4 fR5 fR6 fq fp fv fQ1 fQ2 fQ3 fQ4 fw_3 fW1 fW2 fW3 fW4 fW5 fW6 fW7 eT eS_6 eX_6 eL eB eD e1 e2 eR ec1 ec2 ec3 eH eY_6 eE_6 eW_6 eO er1 er2 er3 er4 eZ fJ _ _ _ ⟨g_lT, hf3_4, hf3_3, g_lB, g_lH, g_lK, hf3_6, hf3_7, g_lR, g_l1, g_l2, g_l3, g_lq, g_lp, g_lv, g_ke, hf3_5, hf3_1, hf3_2, hf3_0, g_zt, hf6_6, hf6_7, g_zh, g_zr, g_zc, g_zy, g_za, g_zb, hf6_8, g_zq, hf6_2, hf6_4, hf6_0, hf3_8, hf6_9, hf6_10, g_eL, g_eB, g_e1, g_e2, hf6_3, hf6_5, hf6_1, g_eO, g_eZ, by omega, hrel, hrc, hr4, hr5, hb4, hb5, hlz, hH, hHe, hKz, hT, ho, hal, hCV, hVk, hVr, hcg.2.1, hcg.2.2.1, hvc, fr_d hfr hdf, fx_d hfx hdf, frs_st hfs hfr hf6_13⟩ hP hD hS (lv_sub hl [0, 1, 2, 3, 4] rfl)

end
