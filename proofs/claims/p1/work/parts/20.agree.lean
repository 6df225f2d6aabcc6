theorem dX7_pairsOf_0 : decode cX7_pairsOf 0 = .ok (.iconst 0, 1) := by decide +kernel
theorem dX7_pairsOf_1 : decode cX7_pairsOf 1 = .ok (.istore_n 1, 1) := by decide +kernel
theorem dX7_pairsOf_2 : decode cX7_pairsOf 2 = .ok (.iconst 0, 1) := by decide +kernel
theorem dX7_pairsOf_3 : decode cX7_pairsOf 3 = .ok (.istore_n 2, 1) := by decide +kernel
theorem dX7_pairsOf_4 : decode cX7_pairsOf 4 = .ok (.iload_n 2, 1) := by decide +kernel
theorem dX7_pairsOf_5 : decode cX7_pairsOf 5 = .ok (.bipush 8, 2) := by decide +kernel
theorem dX7_pairsOf_7 : decode cX7_pairsOf 7 = .ok (.if_icmp .ge 28, 3) := by decide +kernel
theorem dX7_pairsOf_10 : decode cX7_pairsOf 10 = .ok (.iload_n 0, 1) := by decide +kernel
theorem dX7_pairsOf_11 : decode cX7_pairsOf 11 = .ok (.iload_n 2, 1) := by decide +kernel
theorem dX7_pairsOf_12 : decode cX7_pairsOf 12 = .ok (.iushr, 1) := by decide +kernel
theorem dX7_pairsOf_13 : decode cX7_pairsOf 13 = .ok (.iconst 1, 1) := by decide +kernel
theorem dX7_pairsOf_14 : decode cX7_pairsOf 14 = .ok (.iand, 1) := by decide +kernel
theorem dX7_pairsOf_15 : decode cX7_pairsOf 15 = .ok (.ifCond .eq 14, 3) := by decide +kernel
theorem dX7_pairsOf_29 : decode cX7_pairsOf 29 = .ok (.iinc 2 1, 3) := by decide +kernel
theorem dX7_pairsOf_32 : decode cX7_pairsOf 32 = .ok (.goto (-28), 3) := by decide +kernel
theorem dX7_pairsOf_35 : decode cX7_pairsOf 35 = .ok (.iload_n 1, 1) := by decide +kernel
theorem dX7_pairsOf_36 : decode cX7_pairsOf 36 = .ok (.ireturn, 1) := by decide +kernel
theorem dX4_prepare_0 : decode cX4_prepare 0 = .ok (.aload_n 0, 1) := by decide +kernel
theorem dX4_prepare_1 : decode cX4_prepare 1 = .ok (.aload_n 1, 1) := by decide +kernel
theorem dX4_prepare_2 : decode cX4_prepare 2 = .ok (.putfield 33, 3) := by decide +kernel
theorem dX4_prepare_5 : decode cX4_prepare 5 = .ok (.aload_n 0, 1) := by decide +kernel
theorem dX4_prepare_6 : decode cX4_prepare 6 = .ok (.iload_n 2, 1) := by decide +kernel
theorem dX4_prepare_7 : decode cX4_prepare 7 = .ok (.invokestatic 37, 3) := by decide +kernel
theorem dX4_prepare_10 : decode cX4_prepare 10 = .ok (.putfield 41, 3) := by decide +kernel
theorem dX4_prepare_13 : decode cX4_prepare 13 = .ok (.aload_n 0, 1) := by decide +kernel
theorem dX4_prepare_14 : decode cX4_prepare 14 = .ok (.iconst 0, 1) := by decide +kernel
theorem dX4_prepare_15 : decode cX4_prepare 15 = .ok (.putfield 45, 3) := by decide +kernel
theorem dX4_prepare_18 : decode cX4_prepare 18 = .ok (.aload_n 0, 1) := by decide +kernel
theorem dX4_prepare_19 : decode cX4_prepare 19 = .ok (.iconst 0, 1) := by decide +kernel
theorem dX4_prepare_20 : decode cX4_prepare 20 = .ok (.putfield 48, 3) := by decide +kernel
theorem dX4_prepare_23 : decode cX4_prepare 23 = .ok (.aload_n 0, 1) := by decide +kernel
theorem dX4_prepare_24 : decode cX4_prepare 24 = .ok (.getfield 21, 3) := by decide +kernel
theorem dX4_prepare_27 : decode cX4_prepare 27 = .ok (.iconst 0, 1) := by decide +kernel
theorem dX4_prepare_28 : decode cX4_prepare 28 = .ok (.invokestatic 52, 3) := by decide +kernel
theorem dX4_prepare_31 : decode cX4_prepare 31 = .ok (.return_, 1) := by decide +kernel
theorem dX4_readFaces_0 : decode cX4_readFaces 0 = .ok (.iconst 0, 1) := by decide +kernel
theorem dX4_readFaces_1 : decode cX4_readFaces 1 = .ok (.istore_n 2, 1) := by decide +kernel
theorem dX4_readFaces_2 : decode cX4_readFaces 2 = .ok (.iconst 0, 1) := by decide +kernel
theorem dX4_readFaces_3 : decode cX4_readFaces 3 = .ok (.istore_n 3, 1) := by decide +kernel
theorem dX4_readFaces_4 : decode cX4_readFaces 4 = .ok (.iload_n 3, 1) := by decide +kernel
theorem dX4_readFaces_5 : decode cX4_readFaces 5 = .ok (.iload_n 1, 1) := by decide +kernel
theorem dX4_readFaces_6 : decode cX4_readFaces 6 = .ok (.if_icmp .ge 61, 3) := by decide +kernel
theorem dX4_readFaces_67 : decode cX4_readFaces 67 = .ok (.iload_n 2, 1) := by decide +kernel
theorem dX4_readFaces_68 : decode cX4_readFaces 68 = .ok (.ireturn, 1) := by decide +kernel
theorem dX4_chooseNext_0 : decode cX4_chooseNext 0 = .ok (.aload_n 0, 1) := by decide +kernel
theorem dX4_chooseNext_1 : decode cX4_chooseNext 1 = .ok (.getfield 62, 3) := by decide +kernel
theorem dX4_chooseNext_4 : decode cX4_chooseNext 4 = .ok (.sipush 128, 3) := by decide +kernel
theorem dX4_chooseNext_7 : decode cX4_chooseNext 7 = .ok (.invokestatic 70, 3) := by decide +kernel
theorem dX4_chooseNext_10 : decode cX4_chooseNext 10 = .ok (.iconst 1, 1) := by decide +kernel
theorem dX4_chooseNext_11 : decode cX4_chooseNext 11 = .ok (.isub, 1) := by decide +kernel
theorem dX4_chooseNext_12 : decode cX4_chooseNext 12 = .ok (.istore_n 1, 1) := by decide +kernel
theorem dX4_chooseNext_13 : decode cX4_chooseNext 13 = .ok (.iload_n 1, 1) := by decide +kernel
theorem dX4_chooseNext_14 : decode cX4_chooseNext 14 = .ok (.ifCond .lt 34, 3) := by decide +kernel
theorem dX4_chooseNext_48 : decode cX4_chooseNext 48 = .ok (.iconst 0, 1) := by decide +kernel
theorem dX4_chooseNext_49 : decode cX4_chooseNext 49 = .ok (.ireturn, 1) := by decide +kernel
theorem dX4_runTo_0 : decode cX4_runTo 0 = .ok (.aload_n 0, 1) := by decide +kernel
theorem dX4_runTo_1 : decode cX4_runTo 1 = .ok (.iconst 0, 1) := by decide +kernel
theorem dX4_runTo_2 : decode cX4_runTo 2 = .ok (.putfield 62, 3) := by decide +kernel
theorem dX4_runTo_5 : decode cX4_runTo 5 = .ok (.aload_n 0, 1) := by decide +kernel
theorem dX4_runTo_6 : decode cX4_runTo 6 = .ok (.getfield 9, 3) := by decide +kernel
theorem dX4_runTo_9 : decode cX4_runTo 9 = .ok (.iconst 0, 1) := by decide +kernel
theorem dX4_runTo_10 : decode cX4_runTo 10 = .ok (.invokestatic 52, 3) := by decide +kernel
theorem dX4_runTo_13 : decode cX4_runTo 13 = .ok (.aload_n 0, 1) := by decide +kernel
theorem dX4_runTo_14 : decode cX4_runTo 14 = .ok (.getfield 15, 3) := by decide +kernel
theorem dX4_runTo_17 : decode cX4_runTo 17 = .ok (.iconst 0, 1) := by decide +kernel
theorem dX4_runTo_18 : decode cX4_runTo 18 = .ok (.invokestatic 52, 3) := by decide +kernel
theorem dX4_runTo_21 : decode cX4_runTo 21 = .ok (.aload_n 0, 1) := by decide +kernel
theorem dX4_runTo_22 : decode cX4_runTo 22 = .ok (.getfield 24, 3) := by decide +kernel
theorem dX4_runTo_25 : decode cX4_runTo 25 = .ok (.iconst (-1), 1) := by decide +kernel
theorem dX4_runTo_26 : decode cX4_runTo 26 = .ok (.invokestatic 52, 3) := by decide +kernel
theorem dX4_runTo_29 : decode cX4_runTo 29 = .ok (.aload_n 0, 1) := by decide +kernel
theorem dX4_runTo_30 : decode cX4_runTo 30 = .ok (.getfield 33, 3) := by decide +kernel
theorem dX4_runTo_33 : decode cX4_runTo 33 = .ok (.getfield 65, 3) := by decide +kernel
theorem dX4_runTo_36 : decode cX4_runTo 36 = .ok (.iconst 4, 1) := by decide +kernel
theorem dX4_runTo_37 : decode cX4_runTo 37 = .ok (.invokestatic 70, 3) := by decide +kernel
theorem dX4_runTo_40 : decode cX4_runTo 40 = .ok (.istore_n 2, 1) := by decide +kernel
theorem dX4_runTo_41 : decode cX4_runTo 41 = .ok (.iconst 0, 1) := by decide +kernel
theorem dX4_runTo_42 : decode cX4_runTo 42 = .ok (.istore_n 3, 1) := by decide +kernel
theorem dX4_runTo_43 : decode cX4_runTo 43 = .ok (.iload_n 3, 1) := by decide +kernel
theorem dX4_runTo_44 : decode cX4_runTo 44 = .ok (.iload_n 2, 1) := by decide +kernel
theorem dX4_runTo_45 : decode cX4_runTo 45 = .ok (.if_icmp .ge 40, 3) := by decide +kernel
theorem dX4_runTo_85 : decode cX4_runTo 85 = .ok (.iconst 0, 1) := by decide +kernel
theorem dX4_runTo_86 : decode cX4_runTo 86 = .ok (.istore_n 3, 1) := by decide +kernel
theorem dX4_runTo_87 : decode cX4_runTo 87 = .ok (.iload_n 3, 1) := by decide +kernel
theorem dX4_runTo_88 : decode cX4_runTo 88 = .ok (.iload_n 1, 1) := by decide +kernel
theorem dX4_runTo_89 : decode cX4_runTo 89 = .ok (.if_icmp .ge 68, 3) := by decide +kernel
theorem dX4_runTo_157 : decode cX4_runTo 157 = .ok (.iload_n 1, 1) := by decide +kernel
theorem dX4_runTo_158 : decode cX4_runTo 158 = .ok (.ifCond .lt 20, 3) := by decide +kernel
theorem dX4_runTo_161 : decode cX4_runTo 161 = .ok (.iload_n 1, 1) := by decide +kernel
theorem dX4_runTo_162 : decode cX4_runTo 162 = .ok (.bipush 40, 2) := by decide +kernel
theorem dX4_runTo_164 : decode cX4_runTo 164 = .ok (.if_icmp .gt 14, 3) := by decide +kernel
theorem dX4_runTo_167 : decode cX4_runTo 167 = .ok (.aload_n 0, 1) := by decide +kernel
theorem dX4_runTo_168 : decode cX4_runTo 168 = .ok (.getfield 18, 3) := by decide +kernel
theorem dX4_runTo_171 : decode cX4_runTo 171 = .ok (.iload_n 1, 1) := by decide +kernel
theorem dX4_runTo_172 : decode cX4_runTo 172 = .ok (.aload_n 0, 1) := by decide +kernel
theorem dX4_runTo_173 : decode cX4_runTo 173 = .ok (.iload_n 2, 1) := by decide +kernel
theorem dX4_runTo_174 : decode cX4_runTo 174 = .ok (.invokevirtual 88, 3) := by decide +kernel
theorem dX4_runTo_177 : decode cX4_runTo 177 = .ok (.iastore, 1) := by decide +kernel
theorem dX4_runTo_178 : decode cX4_runTo 178 = .ok (.return_, 1) := by decide +kernel
theorem dX1_store_0 : decode cX1_store 0 = .ok (.aload_n 1, 1) := by decide +kernel
theorem dX1_store_1 : decode cX1_store 1 = .ok (.getfield 81, 3) := by decide +kernel
theorem dX1_store_4 : decode cX1_store 4 = .ok (.iconst 0, 1) := by decide +kernel
theorem dX1_store_5 : decode cX1_store 5 = .ok (.aload_n 0, 1) := by decide +kernel
theorem dX1_store_6 : decode cX1_store 6 = .ok (.getfield 9, 3) := by decide +kernel
theorem dX1_store_9 : decode cX1_store 9 = .ok (.iload_n 2, 1) := by decide +kernel
theorem dX1_store_10 : decode cX1_store 10 = .ok (.bipush 40, 2) := by decide +kernel
theorem dX1_store_12 : decode cX1_store 12 = .ok (.imul, 1) := by decide +kernel
theorem dX1_store_13 : decode cX1_store 13 = .ok (.aload_n 0, 1) := by decide +kernel
theorem dX1_store_14 : decode cX1_store 14 = .ok (.getfield 42, 3) := by decide +kernel
theorem dX1_store_17 : decode cX1_store 17 = .ok (.invokestatic 82, 3) := by decide +kernel
theorem dX1_store_20 : decode cX1_store 20 = .ok (.aload_n 1, 1) := by decide +kernel
theorem dX1_store_21 : decode cX1_store 21 = .ok (.getfield 88, 3) := by decide +kernel
theorem dX1_store_24 : decode cX1_store 24 = .ok (.iconst 0, 1) := by decide +kernel
theorem dX1_store_25 : decode cX1_store 25 = .ok (.aload_n 0, 1) := by decide +kernel
theorem dX1_store_26 : decode cX1_store 26 = .ok (.getfield 15, 3) := by decide +kernel
theorem dX1_store_29 : decode cX1_store 29 = .ok (.iload_n 2, 1) := by decide +kernel
theorem dX1_store_30 : decode cX1_store 30 = .ok (.bipush 41, 2) := by decide +kernel
theorem dX1_store_32 : decode cX1_store 32 = .ok (.imul, 1) := by decide +kernel
theorem dX1_store_33 : decode cX1_store 33 = .ok (.aload_n 0, 1) := by decide +kernel
theorem dX1_store_34 : decode cX1_store 34 = .ok (.getfield 42, 3) := by decide +kernel
theorem dX1_store_37 : decode cX1_store 37 = .ok (.iconst 1, 1) := by decide +kernel
theorem dX1_store_38 : decode cX1_store 38 = .ok (.iadd, 1) := by decide +kernel
theorem dX1_store_39 : decode cX1_store 39 = .ok (.invokestatic 82, 3) := by decide +kernel
theorem dX1_store_42 : decode cX1_store 42 = .ok (.aload_n 0, 1) := by decide +kernel
theorem dX1_store_43 : decode cX1_store 43 = .ok (.iload_n 2, 1) := by decide +kernel
theorem dX1_store_44 : decode cX1_store 44 = .ok (.iconst 1, 1) := by decide +kernel
theorem dX1_store_45 : decode cX1_store 45 = .ok (.iadd, 1) := by decide +kernel
theorem dX1_store_46 : decode cX1_store 46 = .ok (.putfield 47, 3) := by decide +kernel
theorem dX1_store_49 : decode cX1_store 49 = .ok (.return_, 1) := by decide +kernel
theorem dX1_sortSights_0 : decode cX1_sortSights 0 = .ok (.iconst 0, 1) := by decide +kernel
theorem dX1_sortSights_1 : decode cX1_sortSights 1 = .ok (.istore_n 1, 1) := by decide +kernel
theorem dX1_sortSights_2 : decode cX1_sortSights 2 = .ok (.iload_n 1, 1) := by decide +kernel
theorem dX1_sortSights_3 : decode cX1_sortSights 3 = .ok (.aload_n 0, 1) := by decide +kernel
theorem dX1_sortSights_4 : decode cX1_sortSights 4 = .ok (.getfield 46, 3) := by decide +kernel
theorem dX1_sortSights_7 : decode cX1_sortSights 7 = .ok (.if_icmp .ge 65, 3) := by decide +kernel
theorem dX1_sortSights_72 : decode cX1_sortSights 72 = .ok (.return_, 1) := by decide +kernel
theorem dX1_build_0 : decode cX1_build 0 = .ok (.aload_n 0, 1) := by decide +kernel
theorem dX1_build_1 : decode cX1_build 1 = .ok (.aload_n 1, 1) := by decide +kernel
theorem dX1_build_2 : decode cX1_build 2 = .ok (.getfield 30, 3) := by decide +kernel
theorem dX1_build_5 : decode cX1_build 5 = .ok (.bipush 40, 2) := by decide +kernel
theorem dX1_build_7 : decode cX1_build 7 = .ok (.invokestatic 36, 3) := by decide +kernel
theorem dX1_build_10 : decode cX1_build 10 = .ok (.putfield 42, 3) := by decide +kernel
theorem dX1_build_13 : decode cX1_build 13 = .ok (.aload_n 0, 1) := by decide +kernel
theorem dX1_build_14 : decode cX1_build 14 = .ok (.aload_n 1, 1) := by decide +kernel
theorem dX1_build_15 : decode cX1_build 15 = .ok (.getfield 43, 3) := by decide +kernel
theorem dX1_build_18 : decode cX1_build 18 = .ok (.bipush 8, 2) := by decide +kernel
theorem dX1_build_20 : decode cX1_build 20 = .ok (.invokestatic 36, 3) := by decide +kernel
theorem dX1_build_23 : decode cX1_build 23 = .ok (.putfield 46, 3) := by decide +kernel
theorem dX1_build_26 : decode cX1_build 26 = .ok (.aload_n 0, 1) := by decide +kernel
theorem dX1_build_27 : decode cX1_build 27 = .ok (.iconst 0, 1) := by decide +kernel
theorem dX1_build_28 : decode cX1_build 28 = .ok (.putfield 47, 3) := by decide +kernel
theorem dX1_build_31 : decode cX1_build 31 = .ok (.aload_n 0, 1) := by decide +kernel
theorem dX1_build_32 : decode cX1_build 32 = .ok (.iconst 0, 1) := by decide +kernel
theorem dX1_build_33 : decode cX1_build 33 = .ok (.putfield 50, 3) := by decide +kernel
theorem dX1_build_36 : decode cX1_build 36 = .ok (.iconst 1, 1) := by decide +kernel
theorem dX1_build_37 : decode cX1_build 37 = .ok (.istore_n 3, 1) := by decide +kernel
theorem dX1_build_38 : decode cX1_build 38 = .ok (.aload_n 2, 1) := by decide +kernel
theorem dX1_build_39 : decode cX1_build 39 = .ok (.aload_n 1, 1) := by decide +kernel
theorem dX1_build_40 : decode cX1_build 40 = .ok (.aload_n 1, 1) := by decide +kernel
theorem dX1_build_41 : decode cX1_build 41 = .ok (.getfield 54, 3) := by decide +kernel
theorem dX1_build_44 : decode cX1_build 44 = .ok (.invokevirtual 57, 3) := by decide +kernel
theorem dX1_build_47 : decode cX1_build 47 = .ok (.iconst 0, 1) := by decide +kernel
theorem dX1_build_48 : decode cX1_build 48 = .ok (.istore 4, 2) := by decide +kernel
theorem dX1_build_50 : decode cX1_build 50 = .ok (.iload 4, 2) := by decide +kernel
theorem dX1_build_52 : decode cX1_build 52 = .ok (.sipush 128, 3) := by decide +kernel
theorem dX1_build_55 : decode cX1_build 55 = .ok (.if_icmp .ge 49, 3) := by decide +kernel
theorem dX1_build_58 : decode cX1_build 58 = .ok (.iload_n 3, 1) := by decide +kernel
theorem dX1_build_59 : decode cX1_build 59 = .ok (.ifCond .eq 45, 3) := by decide +kernel
theorem dX1_build_62 : decode cX1_build 62 = .ok (.aload_n 2, 1) := by decide +kernel
theorem dX1_build_63 : decode cX1_build 63 = .ok (.aload_n 0, 1) := by decide +kernel
theorem dX1_build_64 : decode cX1_build 64 = .ok (.getfield 42, 3) := by decide +kernel
theorem dX1_build_67 : decode cX1_build 67 = .ok (.invokevirtual 63, 3) := by decide +kernel
theorem dX1_build_70 : decode cX1_build 70 = .ok (.aload_n 2, 1) := by decide +kernel
theorem dX1_build_71 : decode cX1_build 71 = .ok (.getfield 67, 3) := by decide +kernel
theorem dX1_build_74 : decode cX1_build 74 = .ok (.sipush 128, 3) := by decide +kernel
theorem dX1_build_77 : decode cX1_build 77 = .ok (.if_icmp .lt 9, 3) := by decide +kernel
theorem dX1_build_86 : decode cX1_build 86 = .ok (.aload_n 0, 1) := by decide +kernel
theorem dX1_build_87 : decode cX1_build 87 = .ok (.aload_n 2, 1) := by decide +kernel
theorem dX1_build_88 : decode cX1_build 88 = .ok (.iload 4, 2) := by decide +kernel
theorem dX1_build_90 : decode cX1_build 90 = .ok (.invokevirtual 70, 3) := by decide +kernel
theorem dX1_build_93 : decode cX1_build 93 = .ok (.aload_n 2, 1) := by decide +kernel
theorem dX1_build_94 : decode cX1_build 94 = .ok (.invokevirtual 74, 3) := by decide +kernel
theorem dX1_build_97 : decode cX1_build 97 = .ok (.istore_n 3, 1) := by decide +kernel
theorem dX1_build_98 : decode cX1_build 98 = .ok (.iinc 4 1, 3) := by decide +kernel
theorem dX1_build_101 : decode cX1_build 101 = .ok (.goto (-51), 3) := by decide +kernel
theorem dX1_build_104 : decode cX1_build 104 = .ok (.aload_n 0, 1) := by decide +kernel
theorem dX1_build_105 : decode cX1_build 105 = .ok (.iload_n 3, 1) := by decide +kernel
theorem dX1_build_106 : decode cX1_build 106 = .ok (.putfield 50, 3) := by decide +kernel
theorem dX1_build_109 : decode cX1_build 109 = .ok (.aload_n 0, 1) := by decide +kernel
theorem dX1_build_110 : decode cX1_build 110 = .ok (.getfield 50, 3) := by decide +kernel
theorem dX1_build_113 : decode cX1_build 113 = .ok (.ifCond .ne 7, 3) := by decide +kernel
theorem dX1_build_116 : decode cX1_build 116 = .ok (.aload_n 0, 1) := by decide +kernel
theorem dX1_build_117 : decode cX1_build 117 = .ok (.invokevirtual 78, 3) := by decide +kernel
theorem dX1_build_120 : decode cX1_build 120 = .ok (.return_, 1) := by decide +kernel
theorem dX7_allCourses_0 : decode cX7_allCourses 0 = .ok (.aload_n 0, 1) := by decide +kernel
theorem dX7_allCourses_1 : decode cX7_allCourses 1 = .ok (.getfield 104, 3) := by decide +kernel
theorem dX7_allCourses_4 : decode cX7_allCourses 4 = .ok (.ifnonnull 14, 3) := by decide +kernel
theorem dX7_allCourses_7 : decode cX7_allCourses 7 = .ok (.aload_n 0, 1) := by decide +kernel
theorem dX7_allCourses_8 : decode cX7_allCourses 8 = .ok (.new 108, 3) := by decide +kernel
theorem dX7_allCourses_11 : decode cX7_allCourses 11 = .ok (.dup, 1) := by decide +kernel
theorem dX7_allCourses_12 : decode cX7_allCourses 12 = .ok (.invokespecial 110, 3) := by decide +kernel
theorem dX7_allCourses_15 : decode cX7_allCourses 15 = .ok (.putfield 104, 3) := by decide +kernel
theorem dX7_allCourses_18 : decode cX7_allCourses 18 = .ok (.aload_n 0, 1) := by decide +kernel
theorem dX7_allCourses_19 : decode cX7_allCourses 19 = .ok (.getfield 88, 3) := by decide +kernel
theorem dX7_allCourses_22 : decode cX7_allCourses 22 = .ok (.ifCond .ne 23, 3) := by decide +kernel
theorem dX7_allCourses_25 : decode cX7_allCourses 25 = .ok (.aload_n 0, 1) := by decide +kernel
theorem dX7_allCourses_26 : decode cX7_allCourses 26 = .ok (.getfield 104, 3) := by decide +kernel
theorem dX7_allCourses_29 : decode cX7_allCourses 29 = .ok (.aload_n 0, 1) := by decide +kernel
theorem dX7_allCourses_30 : decode cX7_allCourses 30 = .ok (.getfield 27, 3) := by decide +kernel
theorem dX7_allCourses_33 : decode cX7_allCourses 33 = .ok (.aload_n 0, 1) := by decide +kernel
theorem dX7_allCourses_34 : decode cX7_allCourses 34 = .ok (.getfield 45, 3) := by decide +kernel
theorem dX7_allCourses_37 : decode cX7_allCourses 37 = .ok (.invokevirtual 111, 3) := by decide +kernel
theorem dX7_allCourses_40 : decode cX7_allCourses 40 = .ok (.aload_n 0, 1) := by decide +kernel
theorem dX7_allCourses_41 : decode cX7_allCourses 41 = .ok (.iconst 1, 1) := by decide +kernel
theorem dX7_allCourses_42 : decode cX7_allCourses 42 = .ok (.putfield 88, 3) := by decide +kernel
theorem dX7_allCourses_45 : decode cX7_allCourses 45 = .ok (.aload_n 0, 1) := by decide +kernel
theorem dX7_allCourses_46 : decode cX7_allCourses 46 = .ok (.getfield 104, 3) := by decide +kernel
theorem dX7_allCourses_49 : decode cX7_allCourses 49 = .ok (.areturn, 1) := by decide +kernel
theorem dX7_sightingTrouble_0 : decode cX7_sightingTrouble 0 = .ok (.iload_n 1, 1) := by decide +kernel
theorem dX7_sightingTrouble_1 : decode cX7_sightingTrouble 1 = .ok (.invokestatic 281, 3) := by decide +kernel
theorem dX7_sightingTrouble_4 : decode cX7_sightingTrouble 4 = .ok (.ifCond .ne 10, 3) := by decide +kernel
theorem dX7_sightingTrouble_7 : decode cX7_sightingTrouble 7 = .ok (.aload_n 0, 1) := by decide +kernel
theorem dX7_sightingTrouble_8 : decode cX7_sightingTrouble 8 = .ok (.invokevirtual 208, 3) := by decide +kernel
theorem dX7_sightingTrouble_11 : decode cX7_sightingTrouble 11 = .ok (.ifCond .eq 6, 3) := by decide +kernel
theorem dX7_sightingTrouble_14 : decode cX7_sightingTrouble 14 = .ok (.bipush (-2), 2) := by decide +kernel
theorem dX7_sightingTrouble_16 : decode cX7_sightingTrouble 16 = .ok (.ireturn, 1) := by decide +kernel
theorem dX7_agree_0 : decode cX7_agree 0 = .ok (.aload_n 0, 1) := by decide +kernel
theorem dX7_agree_1 : decode cX7_agree 1 = .ok (.invokevirtual 249, 3) := by decide +kernel
theorem dX7_agree_4 : decode cX7_agree 4 = .ok (.astore_n 2, 1) := by decide +kernel
theorem dX7_agree_5 : decode cX7_agree 5 = .ok (.aload_n 0, 1) := by decide +kernel
theorem dX7_agree_6 : decode cX7_agree 6 = .ok (.iload_n 1, 1) := by decide +kernel
theorem dX7_agree_7 : decode cX7_agree 7 = .ok (.aload_n 2, 1) := by decide +kernel
theorem dX7_agree_8 : decode cX7_agree 8 = .ok (.invokevirtual 264, 3) := by decide +kernel
theorem dX7_agree_11 : decode cX7_agree 11 = .ok (.istore_n 3, 1) := by decide +kernel
theorem dX7_agree_12 : decode cX7_agree 12 = .ok (.iload_n 3, 1) := by decide +kernel
theorem dX7_agree_13 : decode cX7_agree 13 = .ok (.ifCond .eq 5, 3) := by decide +kernel
theorem dX7_agree_16 : decode cX7_agree 16 = .ok (.iload_n 3, 1) := by decide +kernel
theorem dX7_agree_17 : decode cX7_agree 17 = .ok (.ireturn, 1) := by decide +kernel
def v_m_pairsOf : List Cond := .code yX7_pairsOf cX7_pairsOf 3 (some .int) :: ([])
set_option maxHeartbeats 2000000 in
set_option maxRecDepth 100000 in
theorem m_pairsOf (l : Launch) (D : va_G) (E : Nat → ClassId) (sz : Nat)  : Met l yX7_pairsOf v_m_pairsOf ({ frames := 0, cells := 0, slots := 0, locals := 0 }) (va_Pc [.int 0] (pre D E ([]) sz)) (qI (S := Unit) (fun r _ => r = 0) (fun _ => []) D (va_A ([]) sz)) 0 0 (va_A ([]) sz) := by
  refine c_int (cc := cX7_pairsOf) (maxL := 3) (ret := (some .int)) (by decide) rfl (Nat.le_of_ble_eq_true rfl) ?_
  intro p e s m below meth c ls A ⟨hx, hb, hr, hts, hown, hlocks, hin, hml⟩ hP hK hD hN hA hS hl
  have hown : s.vm.findClass RX7 = some m.cls := hown
  have hl : lv_has ls 3 [(0, .int 0)] := hl
  refine lv_iconst (v := 0) hx hb dX7_pairsOf_0 (by decide) ?_
  refine lv_istore_n (lv' := [(1, .int 0), (0, .int 0)]) hx hb dX7_pairsOf_1 rfl hl (by decide) rfl (fun ls hl => ?_)
  refine lv_iconst (v := 0) hx hb dX7_pairsOf_2 (by decide) ?_
  refine lv_istore_n (lv' := [(2, .int 0), (1, .int 0), (0, .int 0)]) hx hb dX7_pairsOf_3 rfl hl (by decide) rfl (fun ls hl => ?_)
  refine lv_iload_n hx hb dX7_pairsOf_4 rfl (lv_at hl 0 rfl) ?_
  refine lv_bipush (v := 8) hx hb dX7_pairsOf_5 (by decide) ?_
  refine lv_icmp_ge (tgt := 35) hx hb dX7_pairsOf_7 (by decide) (fun h9 => absurd h9 (by decide)) (fun _ => ?_)
  refine lv_iload_n hx hb dX7_pairsOf_10 rfl (lv_at hl 2 rfl) ?_
  refine lv_iload_n hx hb dX7_pairsOf_11 rfl (lv_at hl 0 rfl) ?_
  refine lv_iushr (v := 0) hx hb dX7_pairsOf_12 (by decide) ?_
  refine lv_iconst (v := 1) hx hb dX7_pairsOf_13 (by decide) ?_
  refine lv_iand hx hb dX7_pairsOf_14 ?_
  refine lv_toc (y := 0) (by decide) ?_
  refine lv_if_eq (tgt := 29) hx hb dX7_pairsOf_15 (by decide) (fun _ => ?_) (fun h9 => absurd (by decide) h9)
  refine lv_iinc (v := 1) (lv' := [(2, .int 1), (1, .int 0), (0, .int 0)]) hx hb dX7_pairsOf_29 hl (k := 0) rfl (by decide) (by decide) rfl (fun ls hl => ?_)
  refine lv_goto (tgt := 4) hx hb dX7_pairsOf_32 (by decide) ?_
  refine lv_iload_n hx hb dX7_pairsOf_4 rfl (lv_at hl 0 rfl) ?_
  refine lv_bipush (v := 8) hx hb dX7_pairsOf_5 (by decide) ?_
  refine lv_icmp_ge (tgt := 35) hx hb dX7_pairsOf_7 (by decide) (fun h9 => absurd h9 (by decide)) (fun _ => ?_)
  refine lv_iload_n hx hb dX7_pairsOf_10 rfl (lv_at hl 2 rfl) ?_
  refine lv_iload_n hx hb dX7_pairsOf_11 rfl (lv_at hl 0 rfl) ?_
  refine lv_iushr (v := 0) hx hb dX7_pairsOf_12 (by decide) ?_
  refine lv_iconst (v := 1) hx hb dX7_pairsOf_13 (by decide) ?_
  refine lv_iand hx hb dX7_pairsOf_14 ?_
  refine lv_toc (y := 0) (by decide) ?_
  refine lv_if_eq (tgt := 29) hx hb dX7_pairsOf_15 (by decide) (fun _ => ?_) (fun h9 => absurd (by decide) h9)
  refine lv_iinc (v := 2) (lv' := [(2, .int 2), (1, .int 0), (0, .int 0)]) hx hb dX7_pairsOf_29 hl (k := 0) rfl (by decide) (by decide) rfl (fun ls hl => ?_)
  refine lv_goto (tgt := 4) hx hb dX7_pairsOf_32 (by decide) ?_
  refine lv_iload_n hx hb dX7_pairsOf_4 rfl (lv_at hl 0 rfl) ?_
  refine lv_bipush (v := 8) hx hb dX7_pairsOf_5 (by decide) ?_
  refine lv_icmp_ge (tgt := 35) hx hb dX7_pairsOf_7 (by decide) (fun h9 => absurd h9 (by decide)) (fun _ => ?_)
  refine lv_iload_n hx hb dX7_pairsOf_10 rfl (lv_at hl 2 rfl) ?_
  refine lv_iload_n hx hb dX7_pairsOf_11 rfl (lv_at hl 0 rfl) ?_
  refine lv_iushr (v := 0) hx hb dX7_pairsOf_12 (by decide) ?_
  refine lv_iconst (v := 1) hx hb dX7_pairsOf_13 (by decide) ?_
  refine lv_iand hx hb dX7_pairsOf_14 ?_
  refine lv_toc (y := 0) (by decide) ?_
  refine lv_if_eq (tgt := 29) hx hb dX7_pairsOf_15 (by decide) (fun _ => ?_) (fun h9 => absurd (by decide) h9)
  refine lv_iinc (v := 3) (lv' := [(2, .int 3), (1, .int 0), (0, .int 0)]) hx hb dX7_pairsOf_29 hl (k := 0) rfl (by decide) (by decide) rfl (fun ls hl => ?_)
  refine lv_goto (tgt := 4) hx hb dX7_pairsOf_32 (by decide) ?_
  refine lv_iload_n hx hb dX7_pairsOf_4 rfl (lv_at hl 0 rfl) ?_
  refine lv_bipush (v := 8) hx hb dX7_pairsOf_5 (by decide) ?_
  refine lv_icmp_ge (tgt := 35) hx hb dX7_pairsOf_7 (by decide) (fun h9 => absurd h9 (by decide)) (fun _ => ?_)
  refine lv_iload_n hx hb dX7_pairsOf_10 rfl (lv_at hl 2 rfl) ?_
  refine lv_iload_n hx hb dX7_pairsOf_11 rfl (lv_at hl 0 rfl) ?_
  refine lv_iushr (v := 0) hx hb dX7_pairsOf_12 (by decide) ?_
  refine lv_iconst (v := 1) hx hb dX7_pairsOf_13 (by decide) ?_
  refine lv_iand hx hb dX7_pairsOf_14 ?_
  refine lv_toc (y := 0) (by decide) ?_
  refine lv_if_eq (tgt := 29) hx hb dX7_pairsOf_15 (by decide) (fun _ => ?_) (fun h9 => absurd (by decide) h9)
  refine lv_iinc (v := 4) (lv' := [(2, .int 4), (1, .int 0), (0, .int 0)]) hx hb dX7_pairsOf_29 hl (k := 0) rfl (by decide) (by decide) rfl (fun ls hl => ?_)
  refine lv_goto (tgt := 4) hx hb dX7_pairsOf_32 (by decide) ?_
  refine lv_iload_n hx hb dX7_pairsOf_4 rfl (lv_at hl 0 rfl) ?_
  refine lv_bipush (v := 8) hx hb dX7_pairsOf_5 (by decide) ?_
  refine lv_icmp_ge (tgt := 35) hx hb dX7_pairsOf_7 (by decide) (fun h9 => absurd h9 (by decide)) (fun _ => ?_)
  refine lv_iload_n hx hb dX7_pairsOf_10 rfl (lv_at hl 2 rfl) ?_
  refine lv_iload_n hx hb dX7_pairsOf_11 rfl (lv_at hl 0 rfl) ?_
  refine lv_iushr (v := 0) hx hb dX7_pairsOf_12 (by decide) ?_
  refine lv_iconst (v := 1) hx hb dX7_pairsOf_13 (by decide) ?_
  refine lv_iand hx hb dX7_pairsOf_14 ?_
  refine lv_toc (y := 0) (by decide) ?_
  refine lv_if_eq (tgt := 29) hx hb dX7_pairsOf_15 (by decide) (fun _ => ?_) (fun h9 => absurd (by decide) h9)
  refine lv_iinc (v := 5) (lv' := [(2, .int 5), (1, .int 0), (0, .int 0)]) hx hb dX7_pairsOf_29 hl (k := 0) rfl (by decide) (by decide) rfl (fun ls hl => ?_)
  refine lv_goto (tgt := 4) hx hb dX7_pairsOf_32 (by decide) ?_
  refine lv_iload_n hx hb dX7_pairsOf_4 rfl (lv_at hl 0 rfl) ?_
  refine lv_bipush (v := 8) hx hb dX7_pairsOf_5 (by decide) ?_
  refine lv_icmp_ge (tgt := 35) hx hb dX7_pairsOf_7 (by decide) (fun h9 => absurd h9 (by decide)) (fun _ => ?_)
  refine lv_iload_n hx hb dX7_pairsOf_10 rfl (lv_at hl 2 rfl) ?_
  refine lv_iload_n hx hb dX7_pairsOf_11 rfl (lv_at hl 0 rfl) ?_
  refine lv_iushr (v := 0) hx hb dX7_pairsOf_12 (by decide) ?_
  refine lv_iconst (v := 1) hx hb dX7_pairsOf_13 (by decide) ?_
  refine lv_iand hx hb dX7_pairsOf_14 ?_
  refine lv_toc (y := 0) (by decide) ?_
  refine lv_if_eq (tgt := 29) hx hb dX7_pairsOf_15 (by decide) (fun _ => ?_) (fun h9 => absurd (by decide) h9)
  refine lv_iinc (v := 6) (lv' := [(2, .int 6), (1, .int 0), (0, .int 0)]) hx hb dX7_pairsOf_29 hl (k := 0) rfl (by decide) (by decide) rfl (fun ls hl => ?_)
  refine lv_goto (tgt := 4) hx hb dX7_pairsOf_32 (by decide) ?_
  refine lv_iload_n hx hb dX7_pairsOf_4 rfl (lv_at hl 0 rfl) ?_
  refine lv_bipush (v := 8) hx hb dX7_pairsOf_5 (by decide) ?_
  refine lv_icmp_ge (tgt := 35) hx hb dX7_pairsOf_7 (by decide) (fun h9 => absurd h9 (by decide)) (fun _ => ?_)
  refine lv_iload_n hx hb dX7_pairsOf_10 rfl (lv_at hl 2 rfl) ?_
  refine lv_iload_n hx hb dX7_pairsOf_11 rfl (lv_at hl 0 rfl) ?_
  refine lv_iushr (v := 0) hx hb dX7_pairsOf_12 (by decide) ?_
  refine lv_iconst (v := 1) hx hb dX7_pairsOf_13 (by decide) ?_
  refine lv_iand hx hb dX7_pairsOf_14 ?_
  refine lv_toc (y := 0) (by decide) ?_
  refine lv_if_eq (tgt := 29) hx hb dX7_pairsOf_15 (by decide) (fun _ => ?_) (fun h9 => absurd (by decide) h9)
  refine lv_iinc (v := 7) (lv' := [(2, .int 7), (1, .int 0), (0, .int 0)]) hx hb dX7_pairsOf_29 hl (k := 0) rfl (by decide) (by decide) rfl (fun ls hl => ?_)
  refine lv_goto (tgt := 4) hx hb dX7_pairsOf_32 (by decide) ?_
  refine lv_iload_n hx hb dX7_pairsOf_4 rfl (lv_at hl 0 rfl) ?_
  refine lv_bipush (v := 8) hx hb dX7_pairsOf_5 (by decide) ?_
  refine lv_icmp_ge (tgt := 35) hx hb dX7_pairsOf_7 (by decide) (fun h9 => absurd h9 (by decide)) (fun _ => ?_)
  refine lv_iload_n hx hb dX7_pairsOf_10 rfl (lv_at hl 2 rfl) ?_
  refine lv_iload_n hx hb dX7_pairsOf_11 rfl (lv_at hl 0 rfl) ?_
  refine lv_iushr (v := 0) hx hb dX7_pairsOf_12 (by decide) ?_
  refine lv_iconst (v := 1) hx hb dX7_pairsOf_13 (by decide) ?_
  refine lv_iand hx hb dX7_pairsOf_14 ?_
  refine lv_toc (y := 0) (by decide) ?_
  refine lv_if_eq (tgt := 29) hx hb dX7_pairsOf_15 (by decide) (fun _ => ?_) (fun h9 => absurd (by decide) h9)
  refine lv_iinc (v := 8) (lv' := [(2, .int 8), (1, .int 0), (0, .int 0)]) hx hb dX7_pairsOf_29 hl (k := 0) rfl (by decide) (by decide) rfl (fun ls hl => ?_)
  refine lv_goto (tgt := 4) hx hb dX7_pairsOf_32 (by decide) ?_
  refine lv_iload_n hx hb dX7_pairsOf_4 rfl (lv_at hl 0 rfl) ?_
  refine lv_bipush (v := 8) hx hb dX7_pairsOf_5 (by decide) ?_
  refine lv_icmp_ge (tgt := 35) hx hb dX7_pairsOf_7 (by decide) (fun _ => ?_) (fun h9 => absurd (by decide) h9)
  refine lv_iload_n hx hb dX7_pairsOf_35 rfl (lv_at hl 1 rfl) ?_
  exact e_i (v := 0) hx hb hr rfl (()) rfl p_nil d_nil hS hlocks dX7_pairsOf_36

def v_m_prepare : List Cond := .code yX4_prepare cX4_prepare 3 none :: ([.fieldLink RX4 33 "UnseenClock$Play" "plan" "LUnseenClock$Plan;", .code yX7_pairsOf cX7_pairsOf 3 (some .int), .initialized RX7, .static yX7_pairsOf, .fieldLink RX4 41 "UnseenClock$Play" "hidden" "I", .fieldLink RX4 45 "UnseenClock$Play" "chosen" "I", .fieldLink RX4 48 "UnseenClock$Play" "drawn" "Z", .fieldLink RX4 21 "UnseenClock$Play" "keeper" "[I", .code yJ7_fill_53178 cJ7_fill_53178 4 none, .methodLink RX4 52 yJ7_fill_53178, .static yJ7_fill_53178, .initialized RJ7] ++ (wsX40))
theorem in_m_prepare_X4 : ∀ w ∈ u_ws RX4 TX4 15, w ∈ v_m_prepare := fun w h => List.mem_cons_of_mem _ (List.mem_append_right _ (h))
set_option maxRecDepth 20000 in
theorem g_m_prepare_m_pairsOf : GoodIn v_m_prepare (v_m_pairsOf) := g_rows _ [2] rfl (by decide +kernel)
set_option maxRecDepth 20000 in
theorem g_m_prepare_fI4 : GoodIn v_m_prepare (va_wsS RX4 52 yJ7_fill_53178 v_fI4) := g_rows _ [10, 11, 12, 9] rfl (by decide +kernel)
set_option maxHeartbeats 2000000 in
set_option maxRecDepth 100000 in
theorem m_prepare (l : Launch) (D : va_G) (E : Nat → ClassId) (sz : Nat) (h0 h1 : Nat) (u : Nat → Nat) : Met l yX4_prepare v_m_prepare ({ frames := 1, cells := 0, slots := 0, locals := 23 }) (va_Pc [.ref h0, .ref h1, .int 0] (pre D E ([(h0, .inr (4, [.ref (u 0), .ref (u 1), .ref (u 2), .ref (u 3), .ref (u 4), .int 0, .ref (u 5), .ref (u 6), .int 0, .null, .int 0, .int 0, .long 0, .int 0, .int 0])), (u 3, .inl (E 0, 4, .inl (fun _ => 0)))]) sz)) (qV (S := Nat → Int32) (fun _ => True) (fun f => [(h0, .inr (4, [.ref (u 0), .ref (u 1), .ref (u 2), .ref (u 3), .ref (u 4), .int 0, .ref (u 5), .ref (u 6), .int 0, .ref h1, .int 0, .int 0, .long 0, .int 0, .int 0])), (u 3, .inl (E 0, 4, .inl f))]) D (va_A ([(h0, .inr (4, [.ref (u 0), .ref (u 1), .ref (u 2), .ref (u 3), .ref (u 4), .int 0, .ref (u 5), .ref (u 6), .int 0, .null, .int 0, .int 0, .long 0, .int 0, .int 0])), (u 3, .inl (E 0, 4, .inl (fun _ => 0)))]) sz)) 0 0 (va_A ([(h0, .inr (4, [.ref (u 0), .ref (u 1), .ref (u 2), .ref (u 3), .ref (u 4), .int 0, .ref (u 5), .ref (u 6), .int 0, .null, .int 0, .int 0, .long 0, .int 0, .int 0])), (u 3, .inl (E 0, 4, .inl (fun _ => 0)))]) sz) := by
  refine c_void (cc := cX4_prepare) (maxL := 3) (ret := none) (by decide) rfl (Nat.le_of_ble_eq_true rfl) ?_
  intro p e s m below meth c ls A ⟨hx, hb, hr, hts, hown, hlocks, hin, hml⟩ hP hK hD hN hA hS hl
  have hown : s.vm.findClass RX4 = some m.cls := hown
  have hl : lv_has ls 3 [(0, .ref h0), (1, .ref h1), (2, .int 0)] := hl
  refine lv_aload_n hx hb dX4_prepare_0 rfl (lv_at hl 0 rfl) ?_
  refine lv_aload_n hx hb dX4_prepare_1 rfl (lv_at hl 1 rfl) ?_
  refine va_put (ci := 4) (v := .ref h1) (ty := (.object "UnseenClock$Plan")) (C := RX4) (T := TX4) (N := 15) hx hb hts in_m_prepare_X4 tyX4 tyX4_ok nmX4 hown hK hP hD hS 0 rfl rfl 9 (by decide) (hts (.fieldLink RX4 33 "UnseenClock$Play" "plan" "LUnseenClock$Plan;") (List.mem_of_getElem? (i := 1) rfl)) (fun _ h9 => h9) rfl (by decide +kernel) rfl rfl (Nat.le_of_ble_eq_true rfl) dX4_prepare_2 (fun H locs hP hD hS => ?_)
  have hP : va_P D vwCl [(h0, .inr (4, [.ref (u 0), .ref (u 1), .ref (u 2), .ref (u 3), .ref (u 4), .int 0, .ref (u 5), .ref (u 6), .int 0, .ref h1, .int 0, .int 0, .long 0, .int 0, .int 0])), (u 3, .inl (E 0, 4, .inl (fun _ => 0)))] H := hP
  have hD : va_D A [(h0, .inr (4, [.ref (u 0), .ref (u 1), .ref (u 2), .ref (u 3), .ref (u 4), .int 0, .ref (u 5), .ref (u 6), .int 0, .ref h1, .int 0, .int 0, .long 0, .int 0, .int 0])), (u 3, .inl (E 0, 4, .inl (fun _ => 0)))] := hD
  refine lv_aload_n hx hb dX4_prepare_5 rfl (lv_at hl 0 rfl) ?_
  refine lv_iload_n hx hb dX4_prepare_6 rfl (lv_at hl 2 rfl) ?_
  have hPc := hP.sub (ws' := []) [] rfl
  have hDc := hD.sub (ws' := []) [] (by decide) rfl
  refine k_i (wr := [(h0, .inr (4, [.ref (u 0), .ref (u 1), .ref (u 2), .ref (u 3), .ref (u 4), .int 0, .ref (u 5), .ref (u 6), .int 0, .ref h1, .int 0, .int 0, .long 0, .int 0, .int 0])), (u 3, .inl (E 0, 4, .inl (fun _ => 0)))]) (va_runSN (As := [.int 0]) (rest := [.ref h0]) ⟨hx, hb, hml, hown, hts⟩ (m_pairsOf l D E H.size ) ⟨va_cnB 1 hts g_m_prepare_m_pairsOf rfl rfl rfl hN.2.2.2.2.2.1 (hts (.initialized RX7) (List.mem_of_getElem? (i := 3) rfl)) (by decide +kernel) ⟨Nat.le_of_ble_eq_true rfl, Nat.le_of_ble_eq_true rfl⟩, (hts (.static yX7_pairsOf) (List.mem_of_getElem? (i := 4) rfl)), trivial⟩ ⟨pre_blind, pre_at hPc hK hDc hN⟩ rfl rfl hl.1 rfl (lv_room (Nat.le_of_ble_eq_true rfl)) dX4_prepare_7 ⟨Nat.le_of_ble_eq_true rfl, Nat.le_of_ble_eq_true rfl⟩) hP hD hS hA [] [0, 1] rfl rfl (by decide +kernel) (by decide +kernel) (fun r_2 u_1 H locs hw hP hD hS => ?_)
  have hP : va_P D vwCl [(h0, .inr (4, [.ref (u 0), .ref (u 1), .ref (u 2), .ref (u 3), .ref (u 4), .int 0, .ref (u 5), .ref (u 6), .int 0, .ref h1, .int 0, .int 0, .long 0, .int 0, .int 0])), (u 3, .inl (E 0, 4, .inl (fun _ => 0)))] H := hP
  have hD : va_D A [(h0, .inr (4, [.ref (u 0), .ref (u 1), .ref (u 2), .ref (u 3), .ref (u 4), .int 0, .ref (u 5), .ref (u 6), .int 0, .ref h1, .int 0, .int 0, .long 0, .int 0, .int 0])), (u 3, .inl (E 0, 4, .inl (fun _ => 0)))] := hD
  obtain rfl := hw
  refine va_put (ci := 4) (v := .int 0) (ty := .int) (C := RX4) (T := TX4) (N := 15) hx hb hts in_m_prepare_X4 tyX4 tyX4_ok nmX4 hown hK hP hD hS 0 rfl rfl 10 (by decide) (hts (.fieldLink RX4 41 "UnseenClock$Play" "hidden" "I") (List.mem_of_getElem? (i := 5) rfl)) (fun _ h9 => h9) rfl (by decide +kernel) rfl rfl (Nat.le_of_ble_eq_true rfl) dX4_prepare_10 (fun H locs hP hD hS => ?_)
  have hP : va_P D vwCl [(h0, .inr (4, [.ref (u 0), .ref (u 1), .ref (u 2), .ref (u 3), .ref (u 4), .int 0, .ref (u 5), .ref (u 6), .int 0, .ref h1, .int 0, .int 0, .long 0, .int 0, .int 0])), (u 3, .inl (E 0, 4, .inl (fun _ => 0)))] H := hP
  have hD : va_D A [(h0, .inr (4, [.ref (u 0), .ref (u 1), .ref (u 2), .ref (u 3), .ref (u 4), .int 0, .ref (u 5), .ref (u 6), .int 0, .ref h1, .int 0, .int 0, .long 0, .int 0, .int 0])), (u 3, .inl (E 0, 4, .inl (fun _ => 0)))] := hD
  refine lv_aload_n hx hb dX4_prepare_13 rfl (lv_at hl 0 rfl) ?_
  refine lv_iconst (v := 0) hx hb dX4_prepare_14 (by decide) ?_
  refine va_put (ci := 4) (v := .int 0) (ty := .int) (C := RX4) (T := TX4) (N := 15) hx hb hts in_m_prepare_X4 tyX4 tyX4_ok nmX4 hown hK hP hD hS 0 rfl rfl 8 (by decide) (hts (.fieldLink RX4 45 "UnseenClock$Play" "chosen" "I") (List.mem_of_getElem? (i := 6) rfl)) (fun _ h9 => h9) rfl (by decide +kernel) rfl rfl (Nat.le_of_ble_eq_true rfl) dX4_prepare_15 (fun H locs hP hD hS => ?_)
  have hP : va_P D vwCl [(h0, .inr (4, [.ref (u 0), .ref (u 1), .ref (u 2), .ref (u 3), .ref (u 4), .int 0, .ref (u 5), .ref (u 6), .int 0, .ref h1, .int 0, .int 0, .long 0, .int 0, .int 0])), (u 3, .inl (E 0, 4, .inl (fun _ => 0)))] H := hP
  have hD : va_D A [(h0, .inr (4, [.ref (u 0), .ref (u 1), .ref (u 2), .ref (u 3), .ref (u 4), .int 0, .ref (u 5), .ref (u 6), .int 0, .ref h1, .int 0, .int 0, .long 0, .int 0, .int 0])), (u 3, .inl (E 0, 4, .inl (fun _ => 0)))] := hD
  refine lv_aload_n hx hb dX4_prepare_18 rfl (lv_at hl 0 rfl) ?_
  refine lv_iconst (v := 0) hx hb dX4_prepare_19 (by decide) ?_
  refine va_put (ci := 4) (v := .int 0) (ty := .boolean) (C := RX4) (T := TX4) (N := 15) hx hb hts in_m_prepare_X4 tyX4 tyX4_ok nmX4 hown hK hP hD hS 0 rfl rfl 11 (by decide) (hts (.fieldLink RX4 48 "UnseenClock$Play" "drawn" "Z") (List.mem_of_getElem? (i := 7) rfl)) (fun _ h9 => h9) rfl (by decide +kernel) rfl rfl (Nat.le_of_ble_eq_true rfl) dX4_prepare_20 (fun H locs hP hD hS => ?_)
  have hP : va_P D vwCl [(h0, .inr (4, [.ref (u 0), .ref (u 1), .ref (u 2), .ref (u 3), .ref (u 4), .int 0, .ref (u 5), .ref (u 6), .int 0, .ref h1, .int 0, .int 0, .long 0, .int 0, .int 0])), (u 3, .inl (E 0, 4, .inl (fun _ => 0)))] H := hP
  have hD : va_D A [(h0, .inr (4, [.ref (u 0), .ref (u 1), .ref (u 2), .ref (u 3), .ref (u 4), .int 0, .ref (u 5), .ref (u 6), .int 0, .ref h1, .int 0, .int 0, .long 0, .int 0, .int 0])), (u 3, .inl (E 0, 4, .inl (fun _ => 0)))] := hD
  refine lv_aload_n hx hb dX4_prepare_23 rfl (lv_at hl 0 rfl) ?_
  refine va_get (ci := 4) (v := .ref (u 3)) (C := RX4) (T := TX4) (N := 15) hx hb hts in_m_prepare_X4 hown hK hP 0 rfl rfl 3 (by decide) (hts (.fieldLink RX4 21 "UnseenClock$Play" "keeper" "[I") (List.mem_of_getElem? (i := 8) rfl)) (fun _ h9 => h9) rfl dX4_prepare_24 ?_
  refine lv_iconst (v := 0) hx hb dX4_prepare_27 (by decide) ?_
  have hPc := hP.sub (ws' := [(u 3, .inl (E 0, 4, .inl (fun _ => 0)))]) [1] rfl
  have hDc := hD.sub (ws' := [(u 3, .inl (E 0, 4, .inl (fun _ => 0)))]) [1] (by decide) rfl
  refine k_v (wr := [(h0, .inr (4, [.ref (u 0), .ref (u 1), .ref (u 2), .ref (u 3), .ref (u 4), .int 0, .ref (u 5), .ref (u 6), .int 0, .ref h1, .int 0, .int 0, .long 0, .int 0, .int 0]))]) (va_runS (As := [.ref (u 3), .int 0]) (rest := []) ⟨hx, hb, hml, hown, hts⟩ (fI4 l D E H.size (u 3) (fun _ => 0) 0) (va_cwS 2 hts g_m_prepare_fI4 rfl rfl rfl (by decide +kernel) ⟨Nat.le_of_ble_eq_true rfl, Nat.le_of_ble_eq_true rfl⟩) ⟨pre_blind, pre_at hPc hK hDc hN⟩ rfl rfl hl.1 rfl (lv_room (Nat.le_of_ble_eq_true rfl)) dX4_prepare_28 ⟨Nat.le_of_ble_eq_true rfl, Nat.le_of_ble_eq_true rfl⟩) hP hD hS hA [1] [0] rfl rfl (by decide +kernel) (by decide +kernel) (fun u_3 H locs hw hP hD hS => ?_)
  have hP : va_P D vwCl [(h0, .inr (4, [.ref (u 0), .ref (u 1), .ref (u 2), .ref (u 3), .ref (u 4), .int 0, .ref (u 5), .ref (u 6), .int 0, .ref h1, .int 0, .int 0, .long 0, .int 0, .int 0])), (u 3, .inl (E 0, 4, .inl u_3))] H := hP
  have hD : va_D A [(h0, .inr (4, [.ref (u 0), .ref (u 1), .ref (u 2), .ref (u 3), .ref (u 4), .int 0, .ref (u 5), .ref (u 6), .int 0, .ref h1, .int 0, .int 0, .long 0, .int 0, .int 0])), (u 3, .inl (E 0, 4, .inl u_3))] := hD
  exact e_v hx hb hr (u_3) trivial hP hD hS hlocks dX4_prepare_31

def v_m_readFaces : List Cond := .code yX4_readFaces cX4_readFaces 5 (some .int) :: ([])
set_option maxHeartbeats 2000000 in
set_option maxRecDepth 100000 in
theorem m_readFaces (l : Launch) (D : va_G) (E : Nat → ClassId) (sz : Nat) (h0 h1 : Nat) (u : Nat → Nat) : Met l yX4_readFaces v_m_readFaces ({ frames := 0, cells := 0, slots := 0, locals := 0 }) (va_Pc [.ref h0, .int 0] (pre D E ([(h0, .inr (4, [.ref (u 0), .ref (u 1), .ref (u 2), .ref (u 3), .ref (u 4), .int 0, .ref (u 5), .ref (u 6), .int 0, .ref h1, .int 0, .int 0, .long 0, .int 0, .int 0]))]) sz)) (vp_Si (fun r => r = 0)) 0 0 (fun _ => False) := by
  refine c_read (cc := cX4_readFaces) (maxL := 5) (ret := (some .int)) (by decide) rfl (Nat.le_of_ble_eq_true rfl) ?_
  intro p e s m below meth c ls ⟨hx, hb, hr, hts, hown, hlocks, hin, hml⟩ hP hK hD hN hl
  have hown : s.vm.findClass RX4 = some m.cls := hown
  have hl : lv_has ls 5 [(0, .ref h0), (1, .int 0)] := hl
  refine lv_iconst (v := 0) hx hb dX4_readFaces_0 (by decide) ?_
  refine lv_istore_n (lv' := [(2, .int 0), (0, .ref h0), (1, .int 0)]) hx hb dX4_readFaces_1 rfl hl (by decide) rfl (fun ls hl => ?_)
  refine lv_iconst (v := 0) hx hb dX4_readFaces_2 (by decide) ?_
  refine lv_istore_n (lv' := [(3, .int 0), (2, .int 0), (0, .ref h0), (1, .int 0)]) hx hb dX4_readFaces_3 rfl hl (by decide) rfl (fun ls hl => ?_)
  refine lv_iload_n hx hb dX4_readFaces_4 rfl (lv_at hl 0 rfl) ?_
  refine lv_iload_n hx hb dX4_readFaces_5 rfl (lv_at hl 3 rfl) ?_
  refine lv_icmp_ge (tgt := 67) hx hb dX4_readFaces_6 (by decide) (fun _ => ?_) (fun h9 => absurd (by decide) h9)
  refine lv_iload_n hx hb dX4_readFaces_67 rfl (lv_at hl 1 rfl) ?_
  exact e_s (v := 0) hx hb hr rfl rfl hlocks dX4_readFaces_68

def v_m_chooseNext : List Cond := .code yX4_chooseNext cX4_chooseNext 2 (some .boolean) :: ([.fieldLink RX4 62 "UnseenClock$Play" "opens" "I", .methodLink RX4 70 Lib.Math.min.name, .static Lib.Math.min.name, .initialized "java/lang/Math", .code Lib.Math.min.name Lib.Math.min.code 2 (some .int)] ++ (wsX40))
theorem in_m_chooseNext_X4 : ∀ w ∈ u_ws RX4 TX4 15, w ∈ v_m_chooseNext := fun w h => List.mem_cons_of_mem _ (List.mem_append_right _ (h))
set_option maxHeartbeats 2000000 in
set_option maxRecDepth 100000 in
theorem m_chooseNext (l : Launch) (D : va_G) (E : Nat → ClassId) (sz : Nat) (h0 h1 : Nat) (u : Nat → Nat) : Met l yX4_chooseNext v_m_chooseNext ({ frames := 1, cells := 0, slots := 0, locals := 13 }) (va_Pc [.ref h0] (pre D E ([(h0, .inr (4, [.ref (u 0), .ref (u 1), .ref (u 2), .ref (u 3), .ref (u 4), .int 0, .ref (u 5), .ref (u 6), .int 0, .ref h1, .int 0, .int 0, .long 0, .int 0, .int 0]))]) sz)) (vp_Si (fun r => r = 0)) 0 0 (fun _ => False) := by
  refine c_read (cc := cX4_chooseNext) (maxL := 2) (ret := (some .boolean)) (by decide) rfl (Nat.le_of_ble_eq_true rfl) ?_
  intro p e s m below meth c ls ⟨hx, hb, hr, hts, hown, hlocks, hin, hml⟩ hP hK hD hN hl
  have hown : s.vm.findClass RX4 = some m.cls := hown
  have hl : lv_has ls 2 [(0, .ref h0)] := hl
  refine lv_aload_n hx hb dX4_chooseNext_0 rfl (lv_at hl 0 rfl) ?_
  refine va_get (ci := 4) (v := .int 0) (C := RX4) (T := TX4) (N := 15) hx hb hts in_m_chooseNext_X4 hown hK hP 0 rfl rfl 5 (by decide) (hts (.fieldLink RX4 62 "UnseenClock$Play" "opens" "I") (List.mem_of_getElem? (i := 1) rfl)) (fun _ h9 => h9) rfl dX4_chooseNext_1 ?_
  refine lv_sipush (v := 128) hx hb dX4_chooseNext_4 (by decide) ?_
  refine va_mmin hx hb (by rw [hml]; exact hl.1.symm) hown (hts (.methodLink RX4 70 Lib.Math.min.name) (List.mem_of_getElem? (i := 2) rfl)) (hts (.static Lib.Math.min.name) (List.mem_of_getElem? (i := 3) rfl)) (hts (.initialized "java/lang/Math") (List.mem_of_getElem? (i := 4) rfl)) (hts (.code Lib.Math.min.name Lib.Math.min.code 2 (some .int)) (List.mem_of_getElem? (i := 5) rfl)) (Nat.le_of_ble_eq_true rfl) (Nat.le_of_ble_eq_true rfl) (Nat.le_of_ble_eq_true rfl) (Nat.le_of_ble_eq_true rfl) dX4_chooseNext_7 ?_
  refine lv_toc (y := 0) (by decide) ?_
  refine lv_iconst (v := 1) hx hb dX4_chooseNext_10 (by decide) ?_
  refine lv_isub hx hb dX4_chooseNext_11 ?_
  refine lv_toc (y := (-1)) (by decide) ?_
  refine lv_istore_n (lv' := [(1, .int (-1)), (0, .ref h0)]) hx hb dX4_chooseNext_12 rfl hl (by decide) rfl (fun ls hl => ?_)
  refine lv_iload_n hx hb dX4_chooseNext_13 rfl (lv_at hl 0 rfl) ?_
  refine lv_if_lt (tgt := 48) hx hb dX4_chooseNext_14 (by decide) (fun _ => ?_) (fun h9 => absurd (by decide) h9)
  refine lv_iconst (v := 0) hx hb dX4_chooseNext_48 (by decide) ?_
  exact e_s (v := 0) hx hb hr rfl rfl hlocks dX4_chooseNext_49

def v_m_runTo : List Cond := .code yX4_runTo cX4_runTo 5 none :: ([.fieldLink RX4 62 "UnseenClock$Play" "opens" "I", .fieldLink RX4 9 "UnseenClock$Play" "looked" "[I", .code yJ7_fill_53178 cJ7_fill_53178 4 none, .methodLink RX4 52 yJ7_fill_53178, .static yJ7_fill_53178, .initialized RJ7, .fieldLink RX4 15 "UnseenClock$Play" "opened" "[I", .fieldLink RX4 24 "UnseenClock$Play" "keptLast" "[I", .fieldLink RX4 33 "UnseenClock$Play" "plan" "LUnseenClock$Plan;", .fieldLink RX4 65 "UnseenClock$Plan" "clocks" "I", .methodLink RX4 70 Lib.Math.min.name, .static Lib.Math.min.name, .initialized "java/lang/Math", .code Lib.Math.min.name Lib.Math.min.code 2 (some .int), .fieldLink RX4 18 "UnseenClock$Play" "faces" "[I", .code yX4_readFaces cX4_readFaces 5 (some .int), .methodLink RX4 88 yX4_readFaces, .instanceMethod yX4_readFaces, .selects RX4 yX4_readFaces yX4_readFaces, .initialized RX4] ++ (wsX40 ++ (wsX30)))
theorem in_m_runTo_X4 : ∀ w ∈ u_ws RX4 TX4 15, w ∈ v_m_runTo := fun w h => List.mem_cons_of_mem _ (List.mem_append_right _ (List.mem_append_left _ h))
theorem in_m_runTo_X3 : ∀ w ∈ u_ws RX3 TX3 12, w ∈ v_m_runTo := fun w h => List.mem_cons_of_mem _ (List.mem_append_right _ (List.mem_append_right _ (h)))
set_option maxRecDepth 20000 in
theorem g_m_runTo_fI40 : GoodIn v_m_runTo (va_wsS RX4 52 yJ7_fill_53178 v_fI40) := g_rows _ [4, 5, 6, 3] rfl (by decide +kernel)
set_option maxRecDepth 20000 in
theorem g_m_runTo_fI4 : GoodIn v_m_runTo (va_wsS RX4 52 yJ7_fill_53178 v_fI4) := g_rows _ [4, 5, 6, 3] rfl (by decide +kernel)
set_option maxRecDepth 20000 in
theorem g_m_runTo_m_readFaces : GoodIn v_m_runTo (wsV RX4 88 RX4 yX4_readFaces v_m_readFaces) := g_rows _ [17, 18, 19, 20, 16] rfl (by decide +kernel)
set_option maxHeartbeats 2000000 in
set_option maxRecDepth 100000 in
theorem m_runTo (l : Launch) (D : va_G) (E : Nat → ClassId) (sz : Nat) (h0 h1 : Nat) (u w : Nat → Nat) : Met l yX4_runTo v_m_runTo ({ frames := 1, cells := 0, slots := 0, locals := 24 }) (va_Pc [.ref h0, .int 0] (pre D E ([(h0, .inr (4, [.ref (u 0), .ref (u 1), .ref (u 2), .ref (u 3), .ref (u 4), .int 0, .ref (u 5), .ref (u 6), .int 0, .ref h1, .int 0, .int 0, .long 0, .int 0, .int 0])), (u 0, .inl (E 0, 40, .inl (fun _ => 0))), (u 1, .inl (E 0, 40, .inl (fun _ => 0))), (u 4, .inl (E 0, 4, .inl (fun _ => 0))), (u 2, .inl (E 0, 41, .inl (fun _ => 0))), (h1, .inr (3, [.int 0, .int 0, .int 0, .int 0, .int 0, .int 0, .int 0, .int 0, .ref (w 0), .ref (w 1), .ref (w 2), .ref (w 3)]))]) sz)) (qV (S := Nat → Nat → Int32) (fun _ => True) (fun f => [(h0, .inr (4, [.ref (u 0), .ref (u 1), .ref (u 2), .ref (u 3), .ref (u 4), .int 0, .ref (u 5), .ref (u 6), .int 0, .ref h1, .int 0, .int 0, .long 0, .int 0, .int 0])), (u 0, .inl (E 0, 40, .inl (f 0))), (u 2, .inl (E 0, 41, .inl (f 1))), (h1, .inr (3, [.int 0, .int 0, .int 0, .int 0, .int 0, .int 0, .int 0, .int 0, .ref (w 0), .ref (w 1), .ref (w 2), .ref (w 3)]))]) D (va_A ([(h0, .inr (4, [.ref (u 0), .ref (u 1), .ref (u 2), .ref (u 3), .ref (u 4), .int 0, .ref (u 5), .ref (u 6), .int 0, .ref h1, .int 0, .int 0, .long 0, .int 0, .int 0])), (u 0, .inl (E 0, 40, .inl (fun _ => 0))), (u 1, .inl (E 0, 40, .inl (fun _ => 0))), (u 4, .inl (E 0, 4, .inl (fun _ => 0))), (u 2, .inl (E 0, 41, .inl (fun _ => 0))), (h1, .inr (3, [.int 0, .int 0, .int 0, .int 0, .int 0, .int 0, .int 0, .int 0, .ref (w 0), .ref (w 1), .ref (w 2), .ref (w 3)]))]) sz)) 0 0 (va_A ([(h0, .inr (4, [.ref (u 0), .ref (u 1), .ref (u 2), .ref (u 3), .ref (u 4), .int 0, .ref (u 5), .ref (u 6), .int 0, .ref h1, .int 0, .int 0, .long 0, .int 0, .int 0])), (u 0, .inl (E 0, 40, .inl (fun _ => 0))), (u 1, .inl (E 0, 40, .inl (fun _ => 0))), (u 4, .inl (E 0, 4, .inl (fun _ => 0))), (u 2, .inl (E 0, 41, .inl (fun _ => 0))), (h1, .inr (3, [.int 0, .int 0, .int 0, .int 0, .int 0, .int 0, .int 0, .int 0, .ref (w 0), .ref (w 1), .ref (w 2), .ref (w 3)]))]) sz) := by
  refine c_void (cc := cX4_runTo) (maxL := 5) (ret := none) (by decide) rfl (Nat.le_of_ble_eq_true rfl) ?_
  intro p e s m below meth c ls A ⟨hx, hb, hr, hts, hown, hlocks, hin, hml⟩ hP hK hD hN hA hS hl
  have hown : s.vm.findClass RX4 = some m.cls := hown
  have hl : lv_has ls 5 [(0, .ref h0), (1, .int 0)] := hl
  refine lv_aload_n hx hb dX4_runTo_0 rfl (lv_at hl 0 rfl) ?_
  refine lv_iconst (v := 0) hx hb dX4_runTo_1 (by decide) ?_
  refine va_put (ci := 4) (v := .int 0) (ty := .int) (C := RX4) (T := TX4) (N := 15) hx hb hts in_m_runTo_X4 tyX4 tyX4_ok nmX4 hown hK hP hD hS 0 rfl rfl 5 (by decide) (hts (.fieldLink RX4 62 "UnseenClock$Play" "opens" "I") (List.mem_of_getElem? (i := 1) rfl)) (fun _ h9 => h9) rfl (by decide +kernel) rfl rfl (Nat.le_of_ble_eq_true rfl) dX4_runTo_2 (fun H locs hP hD hS => ?_)
  have hP : va_P D vwCl [(h0, .inr (4, [.ref (u 0), .ref (u 1), .ref (u 2), .ref (u 3), .ref (u 4), .int 0, .ref (u 5), .ref (u 6), .int 0, .ref h1, .int 0, .int 0, .long 0, .int 0, .int 0])), (u 0, .inl (E 0, 40, .inl (fun _ => 0))), (u 1, .inl (E 0, 40, .inl (fun _ => 0))), (u 4, .inl (E 0, 4, .inl (fun _ => 0))), (u 2, .inl (E 0, 41, .inl (fun _ => 0))), (h1, .inr (3, [.int 0, .int 0, .int 0, .int 0, .int 0, .int 0, .int 0, .int 0, .ref (w 0), .ref (w 1), .ref (w 2), .ref (w 3)]))] H := hP
  have hD : va_D A [(h0, .inr (4, [.ref (u 0), .ref (u 1), .ref (u 2), .ref (u 3), .ref (u 4), .int 0, .ref (u 5), .ref (u 6), .int 0, .ref h1, .int 0, .int 0, .long 0, .int 0, .int 0])), (u 0, .inl (E 0, 40, .inl (fun _ => 0))), (u 1, .inl (E 0, 40, .inl (fun _ => 0))), (u 4, .inl (E 0, 4, .inl (fun _ => 0))), (u 2, .inl (E 0, 41, .inl (fun _ => 0))), (h1, .inr (3, [.int 0, .int 0, .int 0, .int 0, .int 0, .int 0, .int 0, .int 0, .ref (w 0), .ref (w 1), .ref (w 2), .ref (w 3)]))] := hD
  refine lv_aload_n hx hb dX4_runTo_5 rfl (lv_at hl 0 rfl) ?_
  refine va_get (ci := 4) (v := .ref (u 0)) (C := RX4) (T := TX4) (N := 15) hx hb hts in_m_runTo_X4 hown hK hP 0 rfl rfl 0 (by decide) (hts (.fieldLink RX4 9 "UnseenClock$Play" "looked" "[I") (List.mem_of_getElem? (i := 2) rfl)) (fun _ h9 => h9) rfl dX4_runTo_6 ?_
  refine lv_iconst (v := 0) hx hb dX4_runTo_9 (by decide) ?_
  have hPc := hP.sub (ws' := [(u 0, .inl (E 0, 40, .inl (fun _ => 0)))]) [1] rfl
  have hDc := hD.sub (ws' := [(u 0, .inl (E 0, 40, .inl (fun _ => 0)))]) [1] (by decide) rfl
  refine k_v (wr := [(h0, .inr (4, [.ref (u 0), .ref (u 1), .ref (u 2), .ref (u 3), .ref (u 4), .int 0, .ref (u 5), .ref (u 6), .int 0, .ref h1, .int 0, .int 0, .long 0, .int 0, .int 0])), (u 1, .inl (E 0, 40, .inl (fun _ => 0))), (u 4, .inl (E 0, 4, .inl (fun _ => 0))), (u 2, .inl (E 0, 41, .inl (fun _ => 0))), (h1, .inr (3, [.int 0, .int 0, .int 0, .int 0, .int 0, .int 0, .int 0, .int 0, .ref (w 0), .ref (w 1), .ref (w 2), .ref (w 3)]))]) (va_runS (As := [.ref (u 0), .int 0]) (rest := []) ⟨hx, hb, hml, hown, hts⟩ (fI40 l D E H.size (u 0) (fun _ => 0) 0) (va_cwS 2 hts g_m_runTo_fI40 rfl rfl rfl (by decide +kernel) ⟨Nat.le_of_ble_eq_true rfl, Nat.le_of_ble_eq_true rfl⟩) ⟨pre_blind, pre_at hPc hK hDc hN⟩ rfl rfl hl.1 rfl (lv_room (Nat.le_of_ble_eq_true rfl)) dX4_runTo_10 ⟨Nat.le_of_ble_eq_true rfl, Nat.le_of_ble_eq_true rfl⟩) hP hD hS hA [1] [0, 2, 3, 4, 5] rfl rfl (by decide +kernel) (by decide +kernel) (fun u_1 H locs hw hP hD hS => ?_)
  have hP : va_P D vwCl [(h0, .inr (4, [.ref (u 0), .ref (u 1), .ref (u 2), .ref (u 3), .ref (u 4), .int 0, .ref (u 5), .ref (u 6), .int 0, .ref h1, .int 0, .int 0, .long 0, .int 0, .int 0])), (u 1, .inl (E 0, 40, .inl (fun _ => 0))), (u 4, .inl (E 0, 4, .inl (fun _ => 0))), (u 2, .inl (E 0, 41, .inl (fun _ => 0))), (h1, .inr (3, [.int 0, .int 0, .int 0, .int 0, .int 0, .int 0, .int 0, .int 0, .ref (w 0), .ref (w 1), .ref (w 2), .ref (w 3)])), (u 0, .inl (E 0, 40, .inl u_1))] H := hP
  have hD : va_D A [(h0, .inr (4, [.ref (u 0), .ref (u 1), .ref (u 2), .ref (u 3), .ref (u 4), .int 0, .ref (u 5), .ref (u 6), .int 0, .ref h1, .int 0, .int 0, .long 0, .int 0, .int 0])), (u 1, .inl (E 0, 40, .inl (fun _ => 0))), (u 4, .inl (E 0, 4, .inl (fun _ => 0))), (u 2, .inl (E 0, 41, .inl (fun _ => 0))), (h1, .inr (3, [.int 0, .int 0, .int 0, .int 0, .int 0, .int 0, .int 0, .int 0, .ref (w 0), .ref (w 1), .ref (w 2), .ref (w 3)])), (u 0, .inl (E 0, 40, .inl u_1))] := hD
  refine lv_aload_n hx hb dX4_runTo_13 rfl (lv_at hl 0 rfl) ?_
  refine va_get (ci := 4) (v := .ref (u 1)) (C := RX4) (T := TX4) (N := 15) hx hb hts in_m_runTo_X4 hown hK hP 0 rfl rfl 1 (by decide) (hts (.fieldLink RX4 15 "UnseenClock$Play" "opened" "[I") (List.mem_of_getElem? (i := 7) rfl)) (fun _ h9 => h9) rfl dX4_runTo_14 ?_
  refine lv_iconst (v := 0) hx hb dX4_runTo_17 (by decide) ?_
  have hPc := hP.sub (ws' := [(u 1, .inl (E 0, 40, .inl (fun _ => 0)))]) [1] rfl
  have hDc := hD.sub (ws' := [(u 1, .inl (E 0, 40, .inl (fun _ => 0)))]) [1] (by decide) rfl
  refine k_v (wr := [(h0, .inr (4, [.ref (u 0), .ref (u 1), .ref (u 2), .ref (u 3), .ref (u 4), .int 0, .ref (u 5), .ref (u 6), .int 0, .ref h1, .int 0, .int 0, .long 0, .int 0, .int 0])), (u 4, .inl (E 0, 4, .inl (fun _ => 0))), (u 2, .inl (E 0, 41, .inl (fun _ => 0))), (h1, .inr (3, [.int 0, .int 0, .int 0, .int 0, .int 0, .int 0, .int 0, .int 0, .ref (w 0), .ref (w 1), .ref (w 2), .ref (w 3)])), (u 0, .inl (E 0, 40, .inl u_1))]) (va_runS (As := [.ref (u 1), .int 0]) (rest := []) ⟨hx, hb, hml, hown, hts⟩ (fI40 l D E H.size (u 1) (fun _ => 0) 0) (va_cwS 2 hts g_m_runTo_fI40 rfl rfl rfl (by decide +kernel) ⟨Nat.le_of_ble_eq_true rfl, Nat.le_of_ble_eq_true rfl⟩) ⟨pre_blind, pre_at hPc hK hDc hN⟩ rfl rfl hl.1 rfl (lv_room (Nat.le_of_ble_eq_true rfl)) dX4_runTo_18 ⟨Nat.le_of_ble_eq_true rfl, Nat.le_of_ble_eq_true rfl⟩) hP hD hS hA [1] [0, 2, 3, 4, 5] rfl rfl (by decide +kernel) (by decide +kernel) (fun u_3 H locs hw hP hD hS => ?_)
  have hP : va_P D vwCl [(h0, .inr (4, [.ref (u 0), .ref (u 1), .ref (u 2), .ref (u 3), .ref (u 4), .int 0, .ref (u 5), .ref (u 6), .int 0, .ref h1, .int 0, .int 0, .long 0, .int 0, .int 0])), (u 4, .inl (E 0, 4, .inl (fun _ => 0))), (u 2, .inl (E 0, 41, .inl (fun _ => 0))), (h1, .inr (3, [.int 0, .int 0, .int 0, .int 0, .int 0, .int 0, .int 0, .int 0, .ref (w 0), .ref (w 1), .ref (w 2), .ref (w 3)])), (u 0, .inl (E 0, 40, .inl u_1)), (u 1, .inl (E 0, 40, .inl u_3))] H := hP
  have hD : va_D A [(h0, .inr (4, [.ref (u 0), .ref (u 1), .ref (u 2), .ref (u 3), .ref (u 4), .int 0, .ref (u 5), .ref (u 6), .int 0, .ref h1, .int 0, .int 0, .long 0, .int 0, .int 0])), (u 4, .inl (E 0, 4, .inl (fun _ => 0))), (u 2, .inl (E 0, 41, .inl (fun _ => 0))), (h1, .inr (3, [.int 0, .int 0, .int 0, .int 0, .int 0, .int 0, .int 0, .int 0, .ref (w 0), .ref (w 1), .ref (w 2), .ref (w 3)])), (u 0, .inl (E 0, 40, .inl u_1)), (u 1, .inl (E 0, 40, .inl u_3))] := hD
  refine lv_aload_n hx hb dX4_runTo_21 rfl (lv_at hl 0 rfl) ?_
  refine va_get (ci := 4) (v := .ref (u 4)) (C := RX4) (T := TX4) (N := 15) hx hb hts in_m_runTo_X4 hown hK hP 0 rfl rfl 4 (by decide) (hts (.fieldLink RX4 24 "UnseenClock$Play" "keptLast" "[I") (List.mem_of_getElem? (i := 8) rfl)) (fun _ h9 => h9) rfl dX4_runTo_22 ?_
  refine lv_iconst (v := (-1)) hx hb dX4_runTo_25 (by decide) ?_
  have hPc := hP.sub (ws' := [(u 4, .inl (E 0, 4, .inl (fun _ => 0)))]) [1] rfl
  have hDc := hD.sub (ws' := [(u 4, .inl (E 0, 4, .inl (fun _ => 0)))]) [1] (by decide) rfl
  refine k_v (wr := [(h0, .inr (4, [.ref (u 0), .ref (u 1), .ref (u 2), .ref (u 3), .ref (u 4), .int 0, .ref (u 5), .ref (u 6), .int 0, .ref h1, .int 0, .int 0, .long 0, .int 0, .int 0])), (u 2, .inl (E 0, 41, .inl (fun _ => 0))), (h1, .inr (3, [.int 0, .int 0, .int 0, .int 0, .int 0, .int 0, .int 0, .int 0, .ref (w 0), .ref (w 1), .ref (w 2), .ref (w 3)])), (u 0, .inl (E 0, 40, .inl u_1)), (u 1, .inl (E 0, 40, .inl u_3))]) (va_runS (As := [.ref (u 4), .int (-1)]) (rest := []) ⟨hx, hb, hml, hown, hts⟩ (fI4 l D E H.size (u 4) (fun _ => 0) (-1)) (va_cwS 2 hts g_m_runTo_fI4 rfl rfl rfl (by decide +kernel) ⟨Nat.le_of_ble_eq_true rfl, Nat.le_of_ble_eq_true rfl⟩) ⟨pre_blind, pre_at hPc hK hDc hN⟩ rfl rfl hl.1 rfl (lv_room (Nat.le_of_ble_eq_true rfl)) dX4_runTo_26 ⟨Nat.le_of_ble_eq_true rfl, Nat.le_of_ble_eq_true rfl⟩) hP hD hS hA [1] [0, 2, 3, 4, 5] rfl rfl (by decide +kernel) (by decide +kernel) (fun u_5 H locs hw hP hD hS => ?_)
  have hP : va_P D vwCl [(h0, .inr (4, [.ref (u 0), .ref (u 1), .ref (u 2), .ref (u 3), .ref (u 4), .int 0, .ref (u 5), .ref (u 6), .int 0, .ref h1, .int 0, .int 0, .long 0, .int 0, .int 0])), (u 2, .inl (E 0, 41, .inl (fun _ => 0))), (h1, .inr (3, [.int 0, .int 0, .int 0, .int 0, .int 0, .int 0, .int 0, .int 0, .ref (w 0), .ref (w 1), .ref (w 2), .ref (w 3)])), (u 0, .inl (E 0, 40, .inl u_1)), (u 1, .inl (E 0, 40, .inl u_3)), (u 4, .inl (E 0, 4, .inl u_5))] H := hP
  have hD : va_D A [(h0, .inr (4, [.ref (u 0), .ref (u 1), .ref (u 2), .ref (u 3), .ref (u 4), .int 0, .ref (u 5), .ref (u 6), .int 0, .ref h1, .int 0, .int 0, .long 0, .int 0, .int 0])), (u 2, .inl (E 0, 41, .inl (fun _ => 0))), (h1, .inr (3, [.int 0, .int 0, .int 0, .int 0, .int 0, .int 0, .int 0, .int 0, .ref (w 0), .ref (w 1), .ref (w 2), .ref (w 3)])), (u 0, .inl (E 0, 40, .inl u_1)), (u 1, .inl (E 0, 40, .inl u_3)), (u 4, .inl (E 0, 4, .inl u_5))] := hD
  refine lv_aload_n hx hb dX4_runTo_29 rfl (lv_at hl 0 rfl) ?_
  refine va_get (ci := 4) (v := .ref h1) (C := RX4) (T := TX4) (N := 15) hx hb hts in_m_runTo_X4 hown hK hP 0 rfl rfl 9 (by decide) (hts (.fieldLink RX4 33 "UnseenClock$Play" "plan" "LUnseenClock$Plan;") (List.mem_of_getElem? (i := 9) rfl)) (fun _ h9 => h9) rfl dX4_runTo_30 ?_
  refine va_get (ci := 3) (v := .int 0) (C := RX3) (T := TX3) (N := 12) hx hb hts in_m_runTo_X3 hown hK hP 2 rfl rfl 5 (by decide) (hts (.fieldLink RX4 65 "UnseenClock$Plan" "clocks" "I") (List.mem_of_getElem? (i := 10) rfl)) (fun _ h9 => h9) rfl dX4_runTo_33 ?_
  refine lv_iconst (v := 4) hx hb dX4_runTo_36 (by decide) ?_
  refine va_mmin hx hb (by rw [hml]; exact hl.1.symm) hown (hts (.methodLink RX4 70 Lib.Math.min.name) (List.mem_of_getElem? (i := 11) rfl)) (hts (.static Lib.Math.min.name) (List.mem_of_getElem? (i := 12) rfl)) (hts (.initialized "java/lang/Math") (List.mem_of_getElem? (i := 13) rfl)) (hts (.code Lib.Math.min.name Lib.Math.min.code 2 (some .int)) (List.mem_of_getElem? (i := 14) rfl)) (Nat.le_of_ble_eq_true rfl) (Nat.le_of_ble_eq_true rfl) (Nat.le_of_ble_eq_true rfl) (Nat.le_of_ble_eq_true rfl) dX4_runTo_37 ?_
  refine lv_toc (y := 0) (by decide) ?_
  refine lv_istore_n (lv' := [(2, .int 0), (0, .ref h0), (1, .int 0)]) hx hb dX4_runTo_40 rfl hl (by decide) rfl (fun ls hl => ?_)
  refine lv_iconst (v := 0) hx hb dX4_runTo_41 (by decide) ?_
  refine lv_istore_n (lv' := [(3, .int 0), (2, .int 0), (0, .ref h0), (1, .int 0)]) hx hb dX4_runTo_42 rfl hl (by decide) rfl (fun ls hl => ?_)
  refine lv_iload_n hx hb dX4_runTo_43 rfl (lv_at hl 0 rfl) ?_
  refine lv_iload_n hx hb dX4_runTo_44 rfl (lv_at hl 1 rfl) ?_
  refine lv_icmp_ge (tgt := 85) hx hb dX4_runTo_45 (by decide) (fun _ => ?_) (fun h9 => absurd (by decide) h9)
  refine lv_iconst (v := 0) hx hb dX4_runTo_85 (by decide) ?_
  refine lv_istore_n (lv' := [(3, .int 0), (2, .int 0), (0, .ref h0), (1, .int 0)]) hx hb dX4_runTo_86 rfl hl (by decide) rfl (fun ls hl => ?_)
  refine lv_iload_n hx hb dX4_runTo_87 rfl (lv_at hl 0 rfl) ?_
  refine lv_iload_n hx hb dX4_runTo_88 rfl (lv_at hl 3 rfl) ?_
  refine lv_icmp_ge (tgt := 157) hx hb dX4_runTo_89 (by decide) (fun _ => ?_) (fun h9 => absurd (by decide) h9)
  refine lv_iload_n hx hb dX4_runTo_157 rfl (lv_at hl 3 rfl) ?_
  refine lv_if_lt (tgt := 178) hx hb dX4_runTo_158 (by decide) (fun h9 => absurd h9 (by decide)) (fun _ => ?_)
  refine lv_iload_n hx hb dX4_runTo_161 rfl (lv_at hl 3 rfl) ?_
  refine lv_bipush (v := 40) hx hb dX4_runTo_162 (by decide) ?_
  refine lv_icmp_gt (tgt := 178) hx hb dX4_runTo_164 (by decide) (fun h9 => absurd h9 (by decide)) (fun _ => ?_)
  refine lv_aload_n hx hb dX4_runTo_167 rfl (lv_at hl 2 rfl) ?_
  refine va_get (ci := 4) (v := .ref (u 2)) (C := RX4) (T := TX4) (N := 15) hx hb hts in_m_runTo_X4 hown hK hP 0 rfl rfl 2 (by decide) (hts (.fieldLink RX4 18 "UnseenClock$Play" "faces" "[I") (List.mem_of_getElem? (i := 15) rfl)) (fun _ h9 => h9) rfl dX4_runTo_168 ?_
  refine lv_iload_n hx hb dX4_runTo_171 rfl (lv_at hl 3 rfl) ?_
  refine lv_aload_n hx hb dX4_runTo_172 rfl (lv_at hl 2 rfl) ?_
  refine lv_iload_n hx hb dX4_runTo_173 rfl (lv_at hl 1 rfl) ?_
  have hPc := hP.sub (ws' := [(h0, .inr (4, [.ref (u 0), .ref (u 1), .ref (u 2), .ref (u 3), .ref (u 4), .int 0, .ref (u 5), .ref (u 6), .int 0, .ref h1, .int 0, .int 0, .long 0, .int 0, .int 0]))]) [0] rfl
  have hDc := hD.sub (ws' := [(h0, .inr (4, [.ref (u 0), .ref (u 1), .ref (u 2), .ref (u 3), .ref (u 4), .int 0, .ref (u 5), .ref (u 6), .int 0, .ref h1, .int 0, .int 0, .long 0, .int 0, .int 0]))]) [0] (by decide) rfl
  refine vp_callSi (W.runV (As := [.int 0]) (rest := [.int 0, .ref (u 2)]) ⟨hx, hb, hml, hown, hts⟩ (m_readFaces l D E H.size h0 h1 u) (cwV 1 hts g_m_runTo_m_readFaces rfl rfl rfl (by decide +kernel) ⟨Nat.le_of_ble_eq_true rfl, Nat.le_of_ble_eq_true rfl⟩) ⟨pre_blind, va_recv hK hPc (ci := 4) (q0 := 0) rfl rfl, pre_at hPc hK hDc hN⟩ rfl rfl hl.1 rfl (lv_room (Nat.le_of_ble_eq_true rfl)) dX4_runTo_174 ⟨Nat.le_of_ble_eq_true rfl, Nat.le_of_ble_eq_true rfl⟩) (fun r_11 er_11 => ?_)
  subst er_11
  refine va_iast hx hb hK hP hD hS 1 0 rfl rfl (by unfold vp_in; decide) dX4_runTo_177 (fun H locs hP hD hS => ?_)
  have hP : va_P D vwCl [(h0, .inr (4, [.ref (u 0), .ref (u 1), .ref (u 2), .ref (u 3), .ref (u 4), .int 0, .ref (u 5), .ref (u 6), .int 0, .ref h1, .int 0, .int 0, .long 0, .int 0, .int 0])), (u 2, .inl (E 0, 41, .inl (upd (fun _ => 0) 0 0))), (h1, .inr (3, [.int 0, .int 0, .int 0, .int 0, .int 0, .int 0, .int 0, .int 0, .ref (w 0), .ref (w 1), .ref (w 2), .ref (w 3)])), (u 0, .inl (E 0, 40, .inl u_1)), (u 1, .inl (E 0, 40, .inl u_3)), (u 4, .inl (E 0, 4, .inl u_5))] H := hP
  have hD : va_D A [(h0, .inr (4, [.ref (u 0), .ref (u 1), .ref (u 2), .ref (u 3), .ref (u 4), .int 0, .ref (u 5), .ref (u 6), .int 0, .ref h1, .int 0, .int 0, .long 0, .int 0, .int 0])), (u 2, .inl (E 0, 41, .inl (upd (fun _ => 0) 0 0))), (h1, .inr (3, [.int 0, .int 0, .int 0, .int 0, .int 0, .int 0, .int 0, .int 0, .ref (w 0), .ref (w 1), .ref (w 2), .ref (w 3)])), (u 0, .inl (E 0, 40, .inl u_1)), (u 1, .inl (E 0, 40, .inl u_3)), (u 4, .inl (E 0, 4, .inl u_5))] := hD
  have hP := hP.sub (ws' := [(h0, .inr (4, [.ref (u 0), .ref (u 1), .ref (u 2), .ref (u 3), .ref (u 4), .int 0, .ref (u 5), .ref (u 6), .int 0, .ref h1, .int 0, .int 0, .long 0, .int 0, .int 0])), (u 0, .inl (E 0, 40, .inl u_1)), (u 2, .inl (E 0, 41, .inl (upd (fun _ => 0) 0 0))), (h1, .inr (3, [.int 0, .int 0, .int 0, .int 0, .int 0, .int 0, .int 0, .int 0, .ref (w 0), .ref (w 1), .ref (w 2), .ref (w 3)]))]) [0, 3, 1, 2] rfl
  have hD := hD.sub (ws' := [(h0, .inr (4, [.ref (u 0), .ref (u 1), .ref (u 2), .ref (u 3), .ref (u 4), .int 0, .ref (u 5), .ref (u 6), .int 0, .ref h1, .int 0, .int 0, .long 0, .int 0, .int 0])), (u 0, .inl (E 0, 40, .inl u_1)), (u 2, .inl (E 0, 41, .inl (upd (fun _ => 0) 0 0))), (h1, .inr (3, [.int 0, .int 0, .int 0, .int 0, .int 0, .int 0, .int 0, .int 0, .ref (w 0), .ref (w 1), .ref (w 2), .ref (w 3)]))]) [0, 3, 1, 2] (by decide) rfl
  exact e_v hx hb hr (fun k => ([u_1, upd (fun _ => 0) 0 0] : List (Nat → Int32)).getD k (fun _ => 0)) trivial hP hD hS hlocks dX4_runTo_178

def v_m_store : List Cond := .code yX1_store cX1_store 3 none :: ([.fieldLink RX1 81 "UnseenClock$Play" "looked" "[I", .fieldLink RX1 9 "UnseenClock$CourseSet" "looked" "[I", .fieldLink RX1 42 "UnseenClock$CourseSet" "minutes" "I", .methodLink RX1 82 arraycopyName, .native arraycopyName, .static arraycopyName, .initialized "java/lang/System", .fieldLink RX1 88 "UnseenClock$Play" "faces" "[I", .fieldLink RX1 15 "UnseenClock$CourseSet" "faces" "[I", .fieldLink RX1 47 "UnseenClock$CourseSet" "size" "I"] ++ (wsX40 ++ (wsX10)))
theorem in_m_store_X4 : ∀ w ∈ u_ws RX4 TX4 15, w ∈ v_m_store := fun w h => List.mem_cons_of_mem _ (List.mem_append_right _ (List.mem_append_left _ h))
theorem in_m_store_X1 : ∀ w ∈ u_ws RX1 TX1 10, w ∈ v_m_store := fun w h => List.mem_cons_of_mem _ (List.mem_append_right _ (List.mem_append_right _ (h)))
set_option maxHeartbeats 2000000 in
set_option maxRecDepth 100000 in
theorem m_store (l : Launch) (D : va_G) (E : Nat → ClassId) (sz : Nat) (h0 h1 h2 : Nat) (u w : Nat → Nat) (f : Nat → Nat → Int32) : Met l yX1_store v_m_store ({ frames := 1, cells := 0, slots := 0, locals := 18 }) (va_Pc [.ref h0, .ref h1, .int 0] (pre D E ([(h0, .inr (1, [.int 0, .int 0, .int 0, .int 0, .ref (u 0), .ref (u 1), .ref (u 2), .ref (u 3), .ref (u 4), .ref (u 5)])), (u 0, .inl (E 0, 5120, .inl (fun _ => 0))), (u 1, .inl (E 0, 5248, .inl (fun _ => 0))), (h1, .inr (4, [.ref (w 0), .ref (w 1), .ref (w 2), .ref (w 3), .ref (w 4), .int 0, .ref (w 5), .ref (w 6), .int 0, .ref h2, .int 0, .int 0, .long 0, .int 0, .int 0])), (w 0, .inl (E 0, 40, .inl (f 0))), (w 2, .inl (E 0, 41, .inl (f 1)))]) sz)) (qV (S := Unit) (fun _ => True) (fun _ => [(h0, .inr (1, [.int 1, .int 0, .int 0, .int 0, .ref (u 0), .ref (u 1), .ref (u 2), .ref (u 3), .ref (u 4), .ref (u 5)])), (h1, .inr (4, [.ref (w 0), .ref (w 1), .ref (w 2), .ref (w 3), .ref (w 4), .int 0, .ref (w 5), .ref (w 6), .int 0, .ref h2, .int 0, .int 0, .long 0, .int 0, .int 0]))]) D (va_A ([(h0, .inr (1, [.int 0, .int 0, .int 0, .int 0, .ref (u 0), .ref (u 1), .ref (u 2), .ref (u 3), .ref (u 4), .ref (u 5)])), (u 0, .inl (E 0, 5120, .inl (fun _ => 0))), (u 1, .inl (E 0, 5248, .inl (fun _ => 0))), (h1, .inr (4, [.ref (w 0), .ref (w 1), .ref (w 2), .ref (w 3), .ref (w 4), .int 0, .ref (w 5), .ref (w 6), .int 0, .ref h2, .int 0, .int 0, .long 0, .int 0, .int 0])), (w 0, .inl (E 0, 40, .inl (f 0))), (w 2, .inl (E 0, 41, .inl (f 1)))]) sz)) 0 0 (va_A ([(h0, .inr (1, [.int 0, .int 0, .int 0, .int 0, .ref (u 0), .ref (u 1), .ref (u 2), .ref (u 3), .ref (u 4), .ref (u 5)])), (u 0, .inl (E 0, 5120, .inl (fun _ => 0))), (u 1, .inl (E 0, 5248, .inl (fun _ => 0))), (h1, .inr (4, [.ref (w 0), .ref (w 1), .ref (w 2), .ref (w 3), .ref (w 4), .int 0, .ref (w 5), .ref (w 6), .int 0, .ref h2, .int 0, .int 0, .long 0, .int 0, .int 0])), (w 0, .inl (E 0, 40, .inl (f 0))), (w 2, .inl (E 0, 41, .inl (f 1)))]) sz) := by
  refine c_void (cc := cX1_store) (maxL := 3) (ret := none) (by decide) rfl (Nat.le_of_ble_eq_true rfl) ?_
  intro p e s m below meth c ls A ⟨hx, hb, hr, hts, hown, hlocks, hin, hml⟩ hP hK hD hN hA hS hl
  have hown : s.vm.findClass RX1 = some m.cls := hown
  have hl : lv_has ls 3 [(0, .ref h0), (1, .ref h1), (2, .int 0)] := hl
  refine lv_aload_n hx hb dX1_store_0 rfl (lv_at hl 1 rfl) ?_
  refine va_get (ci := 4) (v := .ref (w 0)) (C := RX4) (T := TX4) (N := 15) hx hb hts in_m_store_X4 hown hK hP 3 rfl rfl 0 (by decide) (hts (.fieldLink RX1 81 "UnseenClock$Play" "looked" "[I") (List.mem_of_getElem? (i := 1) rfl)) (fun _ h9 => h9) rfl dX1_store_1 ?_
  refine lv_iconst (v := 0) hx hb dX1_store_4 (by decide) ?_
  refine lv_aload_n hx hb dX1_store_5 rfl (lv_at hl 0 rfl) ?_
  refine va_get (ci := 1) (v := .ref (u 0)) (C := RX1) (T := TX1) (N := 10) hx hb hts in_m_store_X1 hown hK hP 0 rfl rfl 4 (by decide) (hts (.fieldLink RX1 9 "UnseenClock$CourseSet" "looked" "[I") (List.mem_of_getElem? (i := 2) rfl)) (fun _ h9 => h9) rfl dX1_store_6 ?_
  refine lv_iload_n hx hb dX1_store_9 rfl (lv_at hl 2 rfl) ?_
  refine lv_bipush (v := 40) hx hb dX1_store_10 (by decide) ?_
  refine lv_imul hx hb dX1_store_12 ?_
  refine lv_toc (y := 0) (by decide) ?_
  refine lv_aload_n hx hb dX1_store_13 rfl (lv_at hl 0 rfl) ?_
  refine va_get (ci := 1) (v := .int 0) (C := RX1) (T := TX1) (N := 10) hx hb hts in_m_store_X1 hown hK hP 0 rfl rfl 2 (by decide) (hts (.fieldLink RX1 42 "UnseenClock$CourseSet" "minutes" "I") (List.mem_of_getElem? (i := 3) rfl)) (fun _ h9 => h9) rfl dX1_store_14 ?_
  refine va_copyi (ty := .int) hx hb (by rw [hml]; exact hl.1.symm) hown (hts (.methodLink RX1 82 arraycopyName) (List.mem_of_getElem? (i := 4) rfl)) (hts (.native arraycopyName) (List.mem_of_getElem? (i := 5) rfl)) (hts (.static arraycopyName) (List.mem_of_getElem? (i := 6) rfl)) (hts (.initialized "java/lang/System") (List.mem_of_getElem? (i := 7) rfl)) hK hP hD hS 4 1 0 0 rfl rfl rfl rfl rfl (by decide) (by decide) (by decide) (by decide) (by decide) (fun _ _ => rfl) (Nat.le_of_ble_eq_true rfl) (Nat.le_of_ble_eq_true rfl) dX1_store_17 (fun H locs hP hD hS => ?_)
  have hP : va_P D vwCl [(h0, .inr (1, [.int 0, .int 0, .int 0, .int 0, .ref (u 0), .ref (u 1), .ref (u 2), .ref (u 3), .ref (u 4), .ref (u 5)])), (u 0, .inl (E 0, 5120, .inl (va_cpy (f 0) (fun _ => 0) 0 0 0))), (u 1, .inl (E 0, 5248, .inl (fun _ => 0))), (h1, .inr (4, [.ref (w 0), .ref (w 1), .ref (w 2), .ref (w 3), .ref (w 4), .int 0, .ref (w 5), .ref (w 6), .int 0, .ref h2, .int 0, .int 0, .long 0, .int 0, .int 0])), (w 0, .inl (E 0, 40, .inl (f 0))), (w 2, .inl (E 0, 41, .inl (f 1)))] H := hP
  have hD : va_D A [(h0, .inr (1, [.int 0, .int 0, .int 0, .int 0, .ref (u 0), .ref (u 1), .ref (u 2), .ref (u 3), .ref (u 4), .ref (u 5)])), (u 0, .inl (E 0, 5120, .inl (va_cpy (f 0) (fun _ => 0) 0 0 0))), (u 1, .inl (E 0, 5248, .inl (fun _ => 0))), (h1, .inr (4, [.ref (w 0), .ref (w 1), .ref (w 2), .ref (w 3), .ref (w 4), .int 0, .ref (w 5), .ref (w 6), .int 0, .ref h2, .int 0, .int 0, .long 0, .int 0, .int 0])), (w 0, .inl (E 0, 40, .inl (f 0))), (w 2, .inl (E 0, 41, .inl (f 1)))] := hD
  refine lv_aload_n hx hb dX1_store_20 rfl (lv_at hl 1 rfl) ?_
  refine va_get (ci := 4) (v := .ref (w 2)) (C := RX4) (T := TX4) (N := 15) hx hb hts in_m_store_X4 hown hK hP 3 rfl rfl 2 (by decide) (hts (.fieldLink RX1 88 "UnseenClock$Play" "faces" "[I") (List.mem_of_getElem? (i := 8) rfl)) (fun _ h9 => h9) rfl dX1_store_21 ?_
  refine lv_iconst (v := 0) hx hb dX1_store_24 (by decide) ?_
  refine lv_aload_n hx hb dX1_store_25 rfl (lv_at hl 0 rfl) ?_
  refine va_get (ci := 1) (v := .ref (u 1)) (C := RX1) (T := TX1) (N := 10) hx hb hts in_m_store_X1 hown hK hP 0 rfl rfl 5 (by decide) (hts (.fieldLink RX1 15 "UnseenClock$CourseSet" "faces" "[I") (List.mem_of_getElem? (i := 9) rfl)) (fun _ h9 => h9) rfl dX1_store_26 ?_
  refine lv_iload_n hx hb dX1_store_29 rfl (lv_at hl 2 rfl) ?_
  refine lv_bipush (v := 41) hx hb dX1_store_30 (by decide) ?_
  refine lv_imul hx hb dX1_store_32 ?_
  refine lv_toc (y := 0) (by decide) ?_
  refine lv_aload_n hx hb dX1_store_33 rfl (lv_at hl 0 rfl) ?_
  refine va_get (ci := 1) (v := .int 0) (C := RX1) (T := TX1) (N := 10) hx hb hts in_m_store_X1 hown hK hP 0 rfl rfl 2 (by decide) (hts (.fieldLink RX1 42 "UnseenClock$CourseSet" "minutes" "I") (List.mem_of_getElem? (i := 3) rfl)) (fun _ h9 => h9) rfl dX1_store_34 ?_
  refine lv_iconst (v := 1) hx hb dX1_store_37 (by decide) ?_
  refine lv_iadd hx hb dX1_store_38 ?_
  refine lv_toc (y := 1) (by decide) ?_
  refine va_copyi (ty := .int) hx hb (by rw [hml]; exact hl.1.symm) hown (hts (.methodLink RX1 82 arraycopyName) (List.mem_of_getElem? (i := 4) rfl)) (hts (.native arraycopyName) (List.mem_of_getElem? (i := 5) rfl)) (hts (.static arraycopyName) (List.mem_of_getElem? (i := 6) rfl)) (hts (.initialized "java/lang/System") (List.mem_of_getElem? (i := 7) rfl)) hK hP hD hS 5 2 0 0 rfl rfl rfl rfl rfl (by decide) (by decide) (by decide) (by decide) (by decide) (fun _ _ => rfl) (Nat.le_of_ble_eq_true rfl) (Nat.le_of_ble_eq_true rfl) dX1_store_39 (fun H locs hP hD hS => ?_)
  have hP : va_P D vwCl [(h0, .inr (1, [.int 0, .int 0, .int 0, .int 0, .ref (u 0), .ref (u 1), .ref (u 2), .ref (u 3), .ref (u 4), .ref (u 5)])), (u 0, .inl (E 0, 5120, .inl (va_cpy (f 0) (fun _ => 0) 0 0 0))), (u 1, .inl (E 0, 5248, .inl (va_cpy (f 1) (fun _ => 0) 0 0 1))), (h1, .inr (4, [.ref (w 0), .ref (w 1), .ref (w 2), .ref (w 3), .ref (w 4), .int 0, .ref (w 5), .ref (w 6), .int 0, .ref h2, .int 0, .int 0, .long 0, .int 0, .int 0])), (w 0, .inl (E 0, 40, .inl (f 0))), (w 2, .inl (E 0, 41, .inl (f 1)))] H := hP
  have hD : va_D A [(h0, .inr (1, [.int 0, .int 0, .int 0, .int 0, .ref (u 0), .ref (u 1), .ref (u 2), .ref (u 3), .ref (u 4), .ref (u 5)])), (u 0, .inl (E 0, 5120, .inl (va_cpy (f 0) (fun _ => 0) 0 0 0))), (u 1, .inl (E 0, 5248, .inl (va_cpy (f 1) (fun _ => 0) 0 0 1))), (h1, .inr (4, [.ref (w 0), .ref (w 1), .ref (w 2), .ref (w 3), .ref (w 4), .int 0, .ref (w 5), .ref (w 6), .int 0, .ref h2, .int 0, .int 0, .long 0, .int 0, .int 0])), (w 0, .inl (E 0, 40, .inl (f 0))), (w 2, .inl (E 0, 41, .inl (f 1)))] := hD
  refine lv_aload_n hx hb dX1_store_42 rfl (lv_at hl 0 rfl) ?_
  refine lv_iload_n hx hb dX1_store_43 rfl (lv_at hl 2 rfl) ?_
  refine lv_iconst (v := 1) hx hb dX1_store_44 (by decide) ?_
  refine lv_iadd hx hb dX1_store_45 ?_
  refine lv_toc (y := 1) (by decide) ?_
  refine va_put (ci := 1) (v := .int 1) (ty := .int) (C := RX1) (T := TX1) (N := 10) hx hb hts in_m_store_X1 tyX1 tyX1_ok nmX1 hown hK hP hD hS 0 rfl rfl 0 (by decide) (hts (.fieldLink RX1 47 "UnseenClock$CourseSet" "size" "I") (List.mem_of_getElem? (i := 10) rfl)) (fun _ h9 => h9) rfl (by decide +kernel) rfl rfl (Nat.le_of_ble_eq_true rfl) dX1_store_46 (fun H locs hP hD hS => ?_)
  have hP : va_P D vwCl [(h0, .inr (1, [.int 1, .int 0, .int 0, .int 0, .ref (u 0), .ref (u 1), .ref (u 2), .ref (u 3), .ref (u 4), .ref (u 5)])), (u 0, .inl (E 0, 5120, .inl (va_cpy (f 0) (fun _ => 0) 0 0 0))), (u 1, .inl (E 0, 5248, .inl (va_cpy (f 1) (fun _ => 0) 0 0 1))), (h1, .inr (4, [.ref (w 0), .ref (w 1), .ref (w 2), .ref (w 3), .ref (w 4), .int 0, .ref (w 5), .ref (w 6), .int 0, .ref h2, .int 0, .int 0, .long 0, .int 0, .int 0])), (w 0, .inl (E 0, 40, .inl (f 0))), (w 2, .inl (E 0, 41, .inl (f 1)))] H := hP
  have hD : va_D A [(h0, .inr (1, [.int 1, .int 0, .int 0, .int 0, .ref (u 0), .ref (u 1), .ref (u 2), .ref (u 3), .ref (u 4), .ref (u 5)])), (u 0, .inl (E 0, 5120, .inl (va_cpy (f 0) (fun _ => 0) 0 0 0))), (u 1, .inl (E 0, 5248, .inl (va_cpy (f 1) (fun _ => 0) 0 0 1))), (h1, .inr (4, [.ref (w 0), .ref (w 1), .ref (w 2), .ref (w 3), .ref (w 4), .int 0, .ref (w 5), .ref (w 6), .int 0, .ref h2, .int 0, .int 0, .long 0, .int 0, .int 0])), (w 0, .inl (E 0, 40, .inl (f 0))), (w 2, .inl (E 0, 41, .inl (f 1)))] := hD
  have hP := hP.sub (ws' := [(h0, .inr (1, [.int 1, .int 0, .int 0, .int 0, .ref (u 0), .ref (u 1), .ref (u 2), .ref (u 3), .ref (u 4), .ref (u 5)])), (h1, .inr (4, [.ref (w 0), .ref (w 1), .ref (w 2), .ref (w 3), .ref (w 4), .int 0, .ref (w 5), .ref (w 6), .int 0, .ref h2, .int 0, .int 0, .long 0, .int 0, .int 0]))]) [0, 3] rfl
  have hD := hD.sub (ws' := [(h0, .inr (1, [.int 1, .int 0, .int 0, .int 0, .ref (u 0), .ref (u 1), .ref (u 2), .ref (u 3), .ref (u 4), .ref (u 5)])), (h1, .inr (4, [.ref (w 0), .ref (w 1), .ref (w 2), .ref (w 3), .ref (w 4), .int 0, .ref (w 5), .ref (w 6), .int 0, .ref h2, .int 0, .int 0, .long 0, .int 0, .int 0]))]) [0, 3] (by decide) rfl
  exact e_v hx hb hr (()) trivial hP hD hS hlocks dX1_store_49

def v_m_sortSights : List Cond := .code yX1_sortSights cX1_sortSights 4 none :: ([.fieldLink RX1 46 "UnseenClock$CourseSet" "people" "I"] ++ (wsX10))
theorem in_m_sortSights_X1 : ∀ w ∈ u_ws RX1 TX1 10, w ∈ v_m_sortSights := fun w h => List.mem_cons_of_mem _ (List.mem_append_right _ (h))
set_option maxHeartbeats 2000000 in
set_option maxRecDepth 100000 in
theorem m_sortSights (l : Launch) (D : va_G) (E : Nat → ClassId) (sz : Nat) (h0 : Nat) (u : Nat → Nat) : Met l yX1_sortSights v_m_sortSights ({ frames := 0, cells := 0, slots := 0, locals := 0 }) (va_Pc [.ref h0] (pre D E ([(h0, .inr (1, [.int 1, .int 0, .int 0, .int 0, .ref (u 0), .ref (u 1), .ref (u 2), .ref (u 3), .ref (u 4), .ref (u 5)]))]) sz)) (qV (S := Unit) (fun _ => True) (fun _ => [(h0, .inr (1, [.int 1, .int 0, .int 0, .int 0, .ref (u 0), .ref (u 1), .ref (u 2), .ref (u 3), .ref (u 4), .ref (u 5)]))]) D (va_A ([(h0, .inr (1, [.int 1, .int 0, .int 0, .int 0, .ref (u 0), .ref (u 1), .ref (u 2), .ref (u 3), .ref (u 4), .ref (u 5)]))]) sz)) 0 0 (va_A ([(h0, .inr (1, [.int 1, .int 0, .int 0, .int 0, .ref (u 0), .ref (u 1), .ref (u 2), .ref (u 3), .ref (u 4), .ref (u 5)]))]) sz) := by
  refine c_void (cc := cX1_sortSights) (maxL := 4) (ret := none) (by decide) rfl (Nat.le_of_ble_eq_true rfl) ?_
  intro p e s m below meth c ls A ⟨hx, hb, hr, hts, hown, hlocks, hin, hml⟩ hP hK hD hN hA hS hl
  have hown : s.vm.findClass RX1 = some m.cls := hown
  have hl : lv_has ls 4 [(0, .ref h0)] := hl
  refine lv_iconst (v := 0) hx hb dX1_sortSights_0 (by decide) ?_
  refine lv_istore_n (lv' := [(1, .int 0), (0, .ref h0)]) hx hb dX1_sortSights_1 rfl hl (by decide) rfl (fun ls hl => ?_)
  refine lv_iload_n hx hb dX1_sortSights_2 rfl (lv_at hl 0 rfl) ?_
  refine lv_aload_n hx hb dX1_sortSights_3 rfl (lv_at hl 1 rfl) ?_
  refine va_get (ci := 1) (v := .int 0) (C := RX1) (T := TX1) (N := 10) hx hb hts in_m_sortSights_X1 hown hK hP 0 rfl rfl 3 (by decide) (hts (.fieldLink RX1 46 "UnseenClock$CourseSet" "people" "I") (List.mem_of_getElem? (i := 1) rfl)) (fun _ h9 => h9) rfl dX1_sortSights_4 ?_
  refine lv_icmp_ge (tgt := 72) hx hb dX1_sortSights_7 (by decide) (fun _ => ?_) (fun h9 => absurd (by decide) h9)
  exact e_v hx hb hr (()) trivial hP hD hS hlocks dX1_sortSights_72

def v_m_build : List Cond := .code yX1_build cX1_build 5 none :: ([.fieldLink RX1 30 "UnseenClock$Plan" "minutes" "I", .methodLink RX1 36 Lib.Math.min.name, .static Lib.Math.min.name, .initialized "java/lang/Math", .code Lib.Math.min.name Lib.Math.min.code 2 (some .int), .fieldLink RX1 42 "UnseenClock$CourseSet" "minutes" "I", .fieldLink RX1 43 "UnseenClock$Plan" "people" "I", .fieldLink RX1 46 "UnseenClock$CourseSet" "people" "I", .fieldLink RX1 47 "UnseenClock$CourseSet" "size" "I", .fieldLink RX1 50 "UnseenClock$CourseSet" "over" "Z", .fieldLink RX1 54 "UnseenClock$Plan" "away" "I", .fieldLink RX4 33 "UnseenClock$Play" "plan" "LUnseenClock$Plan;", .code yX7_pairsOf cX7_pairsOf 3 (some .int), .initialized RX7, .static yX7_pairsOf, .fieldLink RX4 41 "UnseenClock$Play" "hidden" "I", .fieldLink RX4 45 "UnseenClock$Play" "chosen" "I", .fieldLink RX4 48 "UnseenClock$Play" "drawn" "Z", .fieldLink RX4 21 "UnseenClock$Play" "keeper" "[I", .code yJ7_fill_53178 cJ7_fill_53178 4 none, .methodLink RX4 52 yJ7_fill_53178, .static yJ7_fill_53178, .initialized RJ7, .code yX4_prepare cX4_prepare 3 none, .methodLink RX1 57 yX4_prepare, .instanceMethod yX4_prepare, .selects RX4 yX4_prepare yX4_prepare, .initialized RX4, .fieldLink RX4 62 "UnseenClock$Play" "opens" "I", .fieldLink RX4 9 "UnseenClock$Play" "looked" "[I", .fieldLink RX4 15 "UnseenClock$Play" "opened" "[I", .fieldLink RX4 24 "UnseenClock$Play" "keptLast" "[I", .fieldLink RX4 65 "UnseenClock$Plan" "clocks" "I", .methodLink RX4 70 Lib.Math.min.name, .fieldLink RX4 18 "UnseenClock$Play" "faces" "[I", .code yX4_readFaces cX4_readFaces 5 (some .int), .methodLink RX4 88 yX4_readFaces, .instanceMethod yX4_readFaces, .selects RX4 yX4_readFaces yX4_readFaces, .code yX4_runTo cX4_runTo 5 none, .methodLink RX1 63 yX4_runTo, .instanceMethod yX4_runTo, .selects RX4 yX4_runTo yX4_runTo, .fieldLink RX1 67 "UnseenClock$Play" "opens" "I", .fieldLink RX1 81 "UnseenClock$Play" "looked" "[I", .fieldLink RX1 9 "UnseenClock$CourseSet" "looked" "[I", .methodLink RX1 82 arraycopyName, .native arraycopyName, .static arraycopyName, .initialized "java/lang/System", .fieldLink RX1 88 "UnseenClock$Play" "faces" "[I", .fieldLink RX1 15 "UnseenClock$CourseSet" "faces" "[I", .code yX1_store cX1_store 3 none, .methodLink RX1 70 yX1_store, .instanceMethod yX1_store, .selects RX1 yX1_store yX1_store, .initialized RX1, .code yX4_chooseNext cX4_chooseNext 2 (some .boolean), .methodLink RX1 74 yX4_chooseNext, .instanceMethod yX4_chooseNext, .selects RX4 yX4_chooseNext yX4_chooseNext, .code yX1_sortSights cX1_sortSights 4 none, .methodLink RX1 78 yX1_sortSights, .instanceMethod yX1_sortSights, .selects RX1 yX1_sortSights yX1_sortSights] ++ (wsX30 ++ (wsX10 ++ (wsX40))))
theorem in_m_build_X3 : ∀ w ∈ u_ws RX3 TX3 12, w ∈ v_m_build := fun w h => List.mem_cons_of_mem _ (List.mem_append_right _ (List.mem_append_left _ h))
theorem in_m_build_X1 : ∀ w ∈ u_ws RX1 TX1 10, w ∈ v_m_build := fun w h => List.mem_cons_of_mem _ (List.mem_append_right _ (List.mem_append_right _ (List.mem_append_left _ h)))
theorem in_m_build_X4 : ∀ w ∈ u_ws RX4 TX4 15, w ∈ v_m_build := fun w h => List.mem_cons_of_mem _ (List.mem_append_right _ (List.mem_append_right _ (List.mem_append_right _ (h))))
set_option maxRecDepth 20000 in
theorem g_m_build_m_prepare : GoodIn v_m_build (wsV RX1 57 RX4 yX4_prepare v_m_prepare) := g_rows _ [25, 26, 27, 28, 24, 12, 13, 14, 15, 16, 17, 18, 19, 20, 21, 22, 23, 88, 89, 90, 91, 92, 93, 94, 95, 96, 97, 98, 99, 100, 101, 102] rfl (by decide +kernel)
set_option maxRecDepth 20000 in
theorem g_m_build_m_runTo : GoodIn v_m_build (wsV RX1 63 RX4 yX4_runTo v_m_runTo) := g_rows _ [41, 42, 43, 28, 40, 29, 30, 20, 21, 22, 23, 31, 32, 12, 33, 34, 3, 4, 5, 35, 36, 37, 38, 39, 28, 88, 89, 90, 91, 92, 93, 94, 95, 96, 97, 98, 99, 100, 101, 102, 66, 67, 68, 69, 70, 71, 72, 73, 74, 75, 76, 77] rfl (by decide +kernel)
set_option maxRecDepth 20000 in
theorem g_m_build_m_store : GoodIn v_m_build (wsV RX1 70 RX1 yX1_store v_m_store) := g_rows _ [54, 55, 56, 57, 53, 45, 46, 6, 47, 48, 49, 50, 51, 52, 9, 88, 89, 90, 91, 92, 93, 94, 95, 96, 97, 98, 99, 100, 101, 102, 78, 79, 80, 81, 82, 83, 84, 85, 86, 87] rfl (by decide +kernel)
set_option maxRecDepth 20000 in
theorem g_m_build_m_chooseNext : GoodIn v_m_build (wsV RX1 74 RX4 yX4_chooseNext v_m_chooseNext) := g_rows _ [59, 60, 61, 28, 58, 29, 34, 3, 4, 5, 88, 89, 90, 91, 92, 93, 94, 95, 96, 97, 98, 99, 100, 101, 102] rfl (by decide +kernel)
set_option maxRecDepth 20000 in
theorem g_m_build_m_sortSights : GoodIn v_m_build (wsV RX1 78 RX1 yX1_sortSights v_m_sortSights) := g_rows _ [63, 64, 65, 57, 62, 8, 78, 79, 80, 81, 82, 83, 84, 85, 86, 87] rfl (by decide +kernel)
set_option maxHeartbeats 2000000 in
set_option maxRecDepth 100000 in
theorem m_build (l : Launch) (D : va_G) (E : Nat → ClassId) (sz : Nat) (h0 h1 h2 : Nat) (u w v : Nat → Nat) : Met l yX1_build v_m_build ({ frames := 2, cells := 0, slots := 0, locals := 48 }) (va_Pc [.ref h0, .ref h1, .ref h2] (pre D E ([(h0, .inr (1, [.int 0, .int 0, .int 0, .int 0, .ref (u 0), .ref (u 1), .ref (u 2), .ref (u 3), .ref (u 4), .ref (u 5)])), (u 0, .inl (E 0, 5120, .inl (fun _ => 0))), (u 1, .inl (E 0, 5248, .inl (fun _ => 0))), (h1, .inr (3, [.int 0, .int 0, .int 0, .int 0, .int 0, .int 0, .int 0, .int 0, .ref (w 0), .ref (w 1), .ref (w 2), .ref (w 3)])), (h2, .inr (4, [.ref (v 0), .ref (v 1), .ref (v 2), .ref (v 3), .ref (v 4), .int 0, .ref (v 5), .ref (v 6), .int 0, .null, .int 0, .int 0, .long 0, .int 0, .int 0])), (v 0, .inl (E 0, 40, .inl (fun _ => 0))), (v 1, .inl (E 0, 40, .inl (fun _ => 0))), (v 2, .inl (E 0, 41, .inl (fun _ => 0))), (v 3, .inl (E 0, 4, .inl (fun _ => 0))), (v 4, .inl (E 0, 4, .inl (fun _ => 0)))]) sz)) (qV (S := Unit) (fun _ => True) (fun _ => [(h1, .inr (3, [.int 0, .int 0, .int 0, .int 0, .int 0, .int 0, .int 0, .int 0, .ref (w 0), .ref (w 1), .ref (w 2), .ref (w 3)]))]) D (va_A ([(h0, .inr (1, [.int 0, .int 0, .int 0, .int 0, .ref (u 0), .ref (u 1), .ref (u 2), .ref (u 3), .ref (u 4), .ref (u 5)])), (u 0, .inl (E 0, 5120, .inl (fun _ => 0))), (u 1, .inl (E 0, 5248, .inl (fun _ => 0))), (h1, .inr (3, [.int 0, .int 0, .int 0, .int 0, .int 0, .int 0, .int 0, .int 0, .ref (w 0), .ref (w 1), .ref (w 2), .ref (w 3)])), (h2, .inr (4, [.ref (v 0), .ref (v 1), .ref (v 2), .ref (v 3), .ref (v 4), .int 0, .ref (v 5), .ref (v 6), .int 0, .null, .int 0, .int 0, .long 0, .int 0, .int 0])), (v 0, .inl (E 0, 40, .inl (fun _ => 0))), (v 1, .inl (E 0, 40, .inl (fun _ => 0))), (v 2, .inl (E 0, 41, .inl (fun _ => 0))), (v 3, .inl (E 0, 4, .inl (fun _ => 0))), (v 4, .inl (E 0, 4, .inl (fun _ => 0)))]) sz)) 0 0 (va_A ([(h0, .inr (1, [.int 0, .int 0, .int 0, .int 0, .ref (u 0), .ref (u 1), .ref (u 2), .ref (u 3), .ref (u 4), .ref (u 5)])), (u 0, .inl (E 0, 5120, .inl (fun _ => 0))), (u 1, .inl (E 0, 5248, .inl (fun _ => 0))), (h1, .inr (3, [.int 0, .int 0, .int 0, .int 0, .int 0, .int 0, .int 0, .int 0, .ref (w 0), .ref (w 1), .ref (w 2), .ref (w 3)])), (h2, .inr (4, [.ref (v 0), .ref (v 1), .ref (v 2), .ref (v 3), .ref (v 4), .int 0, .ref (v 5), .ref (v 6), .int 0, .null, .int 0, .int 0, .long 0, .int 0, .int 0])), (v 0, .inl (E 0, 40, .inl (fun _ => 0))), (v 1, .inl (E 0, 40, .inl (fun _ => 0))), (v 2, .inl (E 0, 41, .inl (fun _ => 0))), (v 3, .inl (E 0, 4, .inl (fun _ => 0))), (v 4, .inl (E 0, 4, .inl (fun _ => 0)))]) sz) := by
  refine c_void (cc := cX1_build) (maxL := 5) (ret := none) (by decide) rfl (Nat.le_of_ble_eq_true rfl) ?_
  intro p e s m below meth c ls A ⟨hx, hb, hr, hts, hown, hlocks, hin, hml⟩ hP hK hD hN hA hS hl
  have hown : s.vm.findClass RX1 = some m.cls := hown
  have hl : lv_has ls 5 [(0, .ref h0), (1, .ref h1), (2, .ref h2)] := hl
  refine lv_aload_n hx hb dX1_build_0 rfl (lv_at hl 0 rfl) ?_
  refine lv_aload_n hx hb dX1_build_1 rfl (lv_at hl 1 rfl) ?_
  refine va_get (ci := 3) (v := .int 0) (C := RX3) (T := TX3) (N := 12) hx hb hts in_m_build_X3 hown hK hP 3 rfl rfl 2 (by decide) (hts (.fieldLink RX1 30 "UnseenClock$Plan" "minutes" "I") (List.mem_of_getElem? (i := 1) rfl)) (fun _ h9 => h9) rfl dX1_build_2 ?_
  refine lv_bipush (v := 40) hx hb dX1_build_5 (by decide) ?_
  refine va_mmin hx hb (by rw [hml]; exact hl.1.symm) hown (hts (.methodLink RX1 36 Lib.Math.min.name) (List.mem_of_getElem? (i := 2) rfl)) (hts (.static Lib.Math.min.name) (List.mem_of_getElem? (i := 3) rfl)) (hts (.initialized "java/lang/Math") (List.mem_of_getElem? (i := 4) rfl)) (hts (.code Lib.Math.min.name Lib.Math.min.code 2 (some .int)) (List.mem_of_getElem? (i := 5) rfl)) (Nat.le_of_ble_eq_true rfl) (Nat.le_of_ble_eq_true rfl) (Nat.le_of_ble_eq_true rfl) (Nat.le_of_ble_eq_true rfl) dX1_build_7 ?_
  refine lv_toc (y := 0) (by decide) ?_
  refine va_put (ci := 1) (v := .int 0) (ty := .int) (C := RX1) (T := TX1) (N := 10) hx hb hts in_m_build_X1 tyX1 tyX1_ok nmX1 hown hK hP hD hS 0 rfl rfl 2 (by decide) (hts (.fieldLink RX1 42 "UnseenClock$CourseSet" "minutes" "I") (List.mem_of_getElem? (i := 6) rfl)) (fun _ h9 => h9) rfl (by decide +kernel) rfl rfl (Nat.le_of_ble_eq_true rfl) dX1_build_10 (fun H locs hP hD hS => ?_)
  have hP : va_P D vwCl [(h0, .inr (1, [.int 0, .int 0, .int 0, .int 0, .ref (u 0), .ref (u 1), .ref (u 2), .ref (u 3), .ref (u 4), .ref (u 5)])), (u 0, .inl (E 0, 5120, .inl (fun _ => 0))), (u 1, .inl (E 0, 5248, .inl (fun _ => 0))), (h1, .inr (3, [.int 0, .int 0, .int 0, .int 0, .int 0, .int 0, .int 0, .int 0, .ref (w 0), .ref (w 1), .ref (w 2), .ref (w 3)])), (h2, .inr (4, [.ref (v 0), .ref (v 1), .ref (v 2), .ref (v 3), .ref (v 4), .int 0, .ref (v 5), .ref (v 6), .int 0, .null, .int 0, .int 0, .long 0, .int 0, .int 0])), (v 0, .inl (E 0, 40, .inl (fun _ => 0))), (v 1, .inl (E 0, 40, .inl (fun _ => 0))), (v 2, .inl (E 0, 41, .inl (fun _ => 0))), (v 3, .inl (E 0, 4, .inl (fun _ => 0))), (v 4, .inl (E 0, 4, .inl (fun _ => 0)))] H := hP
  have hD : va_D A [(h0, .inr (1, [.int 0, .int 0, .int 0, .int 0, .ref (u 0), .ref (u 1), .ref (u 2), .ref (u 3), .ref (u 4), .ref (u 5)])), (u 0, .inl (E 0, 5120, .inl (fun _ => 0))), (u 1, .inl (E 0, 5248, .inl (fun _ => 0))), (h1, .inr (3, [.int 0, .int 0, .int 0, .int 0, .int 0, .int 0, .int 0, .int 0, .ref (w 0), .ref (w 1), .ref (w 2), .ref (w 3)])), (h2, .inr (4, [.ref (v 0), .ref (v 1), .ref (v 2), .ref (v 3), .ref (v 4), .int 0, .ref (v 5), .ref (v 6), .int 0, .null, .int 0, .int 0, .long 0, .int 0, .int 0])), (v 0, .inl (E 0, 40, .inl (fun _ => 0))), (v 1, .inl (E 0, 40, .inl (fun _ => 0))), (v 2, .inl (E 0, 41, .inl (fun _ => 0))), (v 3, .inl (E 0, 4, .inl (fun _ => 0))), (v 4, .inl (E 0, 4, .inl (fun _ => 0)))] := hD
  refine lv_aload_n hx hb dX1_build_13 rfl (lv_at hl 0 rfl) ?_
  refine lv_aload_n hx hb dX1_build_14 rfl (lv_at hl 1 rfl) ?_
  refine va_get (ci := 3) (v := .int 0) (C := RX3) (T := TX3) (N := 12) hx hb hts in_m_build_X3 hown hK hP 3 rfl rfl 6 (by decide) (hts (.fieldLink RX1 43 "UnseenClock$Plan" "people" "I") (List.mem_of_getElem? (i := 7) rfl)) (fun _ h9 => h9) rfl dX1_build_15 ?_
  refine lv_bipush (v := 8) hx hb dX1_build_18 (by decide) ?_
  refine va_mmin hx hb (by rw [hml]; exact hl.1.symm) hown (hts (.methodLink RX1 36 Lib.Math.min.name) (List.mem_of_getElem? (i := 2) rfl)) (hts (.static Lib.Math.min.name) (List.mem_of_getElem? (i := 3) rfl)) (hts (.initialized "java/lang/Math") (List.mem_of_getElem? (i := 4) rfl)) (hts (.code Lib.Math.min.name Lib.Math.min.code 2 (some .int)) (List.mem_of_getElem? (i := 5) rfl)) (Nat.le_of_ble_eq_true rfl) (Nat.le_of_ble_eq_true rfl) (Nat.le_of_ble_eq_true rfl) (Nat.le_of_ble_eq_true rfl) dX1_build_20 ?_
  refine lv_toc (y := 0) (by decide) ?_
  refine va_put (ci := 1) (v := .int 0) (ty := .int) (C := RX1) (T := TX1) (N := 10) hx hb hts in_m_build_X1 tyX1 tyX1_ok nmX1 hown hK hP hD hS 0 rfl rfl 3 (by decide) (hts (.fieldLink RX1 46 "UnseenClock$CourseSet" "people" "I") (List.mem_of_getElem? (i := 8) rfl)) (fun _ h9 => h9) rfl (by decide +kernel) rfl rfl (Nat.le_of_ble_eq_true rfl) dX1_build_23 (fun H locs hP hD hS => ?_)
  have hP : va_P D vwCl [(h0, .inr (1, [.int 0, .int 0, .int 0, .int 0, .ref (u 0), .ref (u 1), .ref (u 2), .ref (u 3), .ref (u 4), .ref (u 5)])), (u 0, .inl (E 0, 5120, .inl (fun _ => 0))), (u 1, .inl (E 0, 5248, .inl (fun _ => 0))), (h1, .inr (3, [.int 0, .int 0, .int 0, .int 0, .int 0, .int 0, .int 0, .int 0, .ref (w 0), .ref (w 1), .ref (w 2), .ref (w 3)])), (h2, .inr (4, [.ref (v 0), .ref (v 1), .ref (v 2), .ref (v 3), .ref (v 4), .int 0, .ref (v 5), .ref (v 6), .int 0, .null, .int 0, .int 0, .long 0, .int 0, .int 0])), (v 0, .inl (E 0, 40, .inl (fun _ => 0))), (v 1, .inl (E 0, 40, .inl (fun _ => 0))), (v 2, .inl (E 0, 41, .inl (fun _ => 0))), (v 3, .inl (E 0, 4, .inl (fun _ => 0))), (v 4, .inl (E 0, 4, .inl (fun _ => 0)))] H := hP
  have hD : va_D A [(h0, .inr (1, [.int 0, .int 0, .int 0, .int 0, .ref (u 0), .ref (u 1), .ref (u 2), .ref (u 3), .ref (u 4), .ref (u 5)])), (u 0, .inl (E 0, 5120, .inl (fun _ => 0))), (u 1, .inl (E 0, 5248, .inl (fun _ => 0))), (h1, .inr (3, [.int 0, .int 0, .int 0, .int 0, .int 0, .int 0, .int 0, .int 0, .ref (w 0), .ref (w 1), .ref (w 2), .ref (w 3)])), (h2, .inr (4, [.ref (v 0), .ref (v 1), .ref (v 2), .ref (v 3), .ref (v 4), .int 0, .ref (v 5), .ref (v 6), .int 0, .null, .int 0, .int 0, .long 0, .int 0, .int 0])), (v 0, .inl (E 0, 40, .inl (fun _ => 0))), (v 1, .inl (E 0, 40, .inl (fun _ => 0))), (v 2, .inl (E 0, 41, .inl (fun _ => 0))), (v 3, .inl (E 0, 4, .inl (fun _ => 0))), (v 4, .inl (E 0, 4, .inl (fun _ => 0)))] := hD
  refine lv_aload_n hx hb dX1_build_26 rfl (lv_at hl 0 rfl) ?_
  refine lv_iconst (v := 0) hx hb dX1_build_27 (by decide) ?_
  refine va_put (ci := 1) (v := .int 0) (ty := .int) (C := RX1) (T := TX1) (N := 10) hx hb hts in_m_build_X1 tyX1 tyX1_ok nmX1 hown hK hP hD hS 0 rfl rfl 0 (by decide) (hts (.fieldLink RX1 47 "UnseenClock$CourseSet" "size" "I") (List.mem_of_getElem? (i := 9) rfl)) (fun _ h9 => h9) rfl (by decide +kernel) rfl rfl (Nat.le_of_ble_eq_true rfl) dX1_build_28 (fun H locs hP hD hS => ?_)
  have hP : va_P D vwCl [(h0, .inr (1, [.int 0, .int 0, .int 0, .int 0, .ref (u 0), .ref (u 1), .ref (u 2), .ref (u 3), .ref (u 4), .ref (u 5)])), (u 0, .inl (E 0, 5120, .inl (fun _ => 0))), (u 1, .inl (E 0, 5248, .inl (fun _ => 0))), (h1, .inr (3, [.int 0, .int 0, .int 0, .int 0, .int 0, .int 0, .int 0, .int 0, .ref (w 0), .ref (w 1), .ref (w 2), .ref (w 3)])), (h2, .inr (4, [.ref (v 0), .ref (v 1), .ref (v 2), .ref (v 3), .ref (v 4), .int 0, .ref (v 5), .ref (v 6), .int 0, .null, .int 0, .int 0, .long 0, .int 0, .int 0])), (v 0, .inl (E 0, 40, .inl (fun _ => 0))), (v 1, .inl (E 0, 40, .inl (fun _ => 0))), (v 2, .inl (E 0, 41, .inl (fun _ => 0))), (v 3, .inl (E 0, 4, .inl (fun _ => 0))), (v 4, .inl (E 0, 4, .inl (fun _ => 0)))] H := hP
  have hD : va_D A [(h0, .inr (1, [.int 0, .int 0, .int 0, .int 0, .ref (u 0), .ref (u 1), .ref (u 2), .ref (u 3), .ref (u 4), .ref (u 5)])), (u 0, .inl (E 0, 5120, .inl (fun _ => 0))), (u 1, .inl (E 0, 5248, .inl (fun _ => 0))), (h1, .inr (3, [.int 0, .int 0, .int 0, .int 0, .int 0, .int 0, .int 0, .int 0, .ref (w 0), .ref (w 1), .ref (w 2), .ref (w 3)])), (h2, .inr (4, [.ref (v 0), .ref (v 1), .ref (v 2), .ref (v 3), .ref (v 4), .int 0, .ref (v 5), .ref (v 6), .int 0, .null, .int 0, .int 0, .long 0, .int 0, .int 0])), (v 0, .inl (E 0, 40, .inl (fun _ => 0))), (v 1, .inl (E 0, 40, .inl (fun _ => 0))), (v 2, .inl (E 0, 41, .inl (fun _ => 0))), (v 3, .inl (E 0, 4, .inl (fun _ => 0))), (v 4, .inl (E 0, 4, .inl (fun _ => 0)))] := hD
  refine lv_aload_n hx hb dX1_build_31 rfl (lv_at hl 0 rfl) ?_
  refine lv_iconst (v := 0) hx hb dX1_build_32 (by decide) ?_
  refine va_put (ci := 1) (v := .int 0) (ty := .boolean) (C := RX1) (T := TX1) (N := 10) hx hb hts in_m_build_X1 tyX1 tyX1_ok nmX1 hown hK hP hD hS 0 rfl rfl 1 (by decide) (hts (.fieldLink RX1 50 "UnseenClock$CourseSet" "over" "Z") (List.mem_of_getElem? (i := 10) rfl)) (fun _ h9 => h9) rfl (by decide +kernel) rfl rfl (Nat.le_of_ble_eq_true rfl) dX1_build_33 (fun H locs hP hD hS => ?_)
  have hP : va_P D vwCl [(h0, .inr (1, [.int 0, .int 0, .int 0, .int 0, .ref (u 0), .ref (u 1), .ref (u 2), .ref (u 3), .ref (u 4), .ref (u 5)])), (u 0, .inl (E 0, 5120, .inl (fun _ => 0))), (u 1, .inl (E 0, 5248, .inl (fun _ => 0))), (h1, .inr (3, [.int 0, .int 0, .int 0, .int 0, .int 0, .int 0, .int 0, .int 0, .ref (w 0), .ref (w 1), .ref (w 2), .ref (w 3)])), (h2, .inr (4, [.ref (v 0), .ref (v 1), .ref (v 2), .ref (v 3), .ref (v 4), .int 0, .ref (v 5), .ref (v 6), .int 0, .null, .int 0, .int 0, .long 0, .int 0, .int 0])), (v 0, .inl (E 0, 40, .inl (fun _ => 0))), (v 1, .inl (E 0, 40, .inl (fun _ => 0))), (v 2, .inl (E 0, 41, .inl (fun _ => 0))), (v 3, .inl (E 0, 4, .inl (fun _ => 0))), (v 4, .inl (E 0, 4, .inl (fun _ => 0)))] H := hP
  have hD : va_D A [(h0, .inr (1, [.int 0, .int 0, .int 0, .int 0, .ref (u 0), .ref (u 1), .ref (u 2), .ref (u 3), .ref (u 4), .ref (u 5)])), (u 0, .inl (E 0, 5120, .inl (fun _ => 0))), (u 1, .inl (E 0, 5248, .inl (fun _ => 0))), (h1, .inr (3, [.int 0, .int 0, .int 0, .int 0, .int 0, .int 0, .int 0, .int 0, .ref (w 0), .ref (w 1), .ref (w 2), .ref (w 3)])), (h2, .inr (4, [.ref (v 0), .ref (v 1), .ref (v 2), .ref (v 3), .ref (v 4), .int 0, .ref (v 5), .ref (v 6), .int 0, .null, .int 0, .int 0, .long 0, .int 0, .int 0])), (v 0, .inl (E 0, 40, .inl (fun _ => 0))), (v 1, .inl (E 0, 40, .inl (fun _ => 0))), (v 2, .inl (E 0, 41, .inl (fun _ => 0))), (v 3, .inl (E 0, 4, .inl (fun _ => 0))), (v 4, .inl (E 0, 4, .inl (fun _ => 0)))] := hD
  refine lv_iconst (v := 1) hx hb dX1_build_36 (by decide) ?_
  refine lv_istore_n (lv' := [(3, .int 1), (0, .ref h0), (1, .ref h1), (2, .ref h2)]) hx hb dX1_build_37 rfl hl (by decide) rfl (fun ls hl => ?_)
  refine lv_aload_n hx hb dX1_build_38 rfl (lv_at hl 3 rfl) ?_
  refine lv_aload_n hx hb dX1_build_39 rfl (lv_at hl 2 rfl) ?_
  refine lv_aload_n hx hb dX1_build_40 rfl (lv_at hl 2 rfl) ?_
  refine va_get (ci := 3) (v := .int 0) (C := RX3) (T := TX3) (N := 12) hx hb hts in_m_build_X3 hown hK hP 3 rfl rfl 7 (by decide) (hts (.fieldLink RX1 54 "UnseenClock$Plan" "away" "I") (List.mem_of_getElem? (i := 11) rfl)) (fun _ h9 => h9) rfl dX1_build_41 ?_
  have hPc := hP.sub (ws' := [(h2, .inr (4, [.ref (v 0), .ref (v 1), .ref (v 2), .ref (v 3), .ref (v 4), .int 0, .ref (v 5), .ref (v 6), .int 0, .null, .int 0, .int 0, .long 0, .int 0, .int 0])), (v 3, .inl (E 0, 4, .inl (fun _ => 0)))]) [4, 8] rfl
  have hDc := hD.sub (ws' := [(h2, .inr (4, [.ref (v 0), .ref (v 1), .ref (v 2), .ref (v 3), .ref (v 4), .int 0, .ref (v 5), .ref (v 6), .int 0, .null, .int 0, .int 0, .long 0, .int 0, .int 0])), (v 3, .inl (E 0, 4, .inl (fun _ => 0)))]) [4, 8] (by decide) rfl
  refine k_v (wr := [(h0, .inr (1, [.int 0, .int 0, .int 0, .int 0, .ref (u 0), .ref (u 1), .ref (u 2), .ref (u 3), .ref (u 4), .ref (u 5)])), (u 0, .inl (E 0, 5120, .inl (fun _ => 0))), (u 1, .inl (E 0, 5248, .inl (fun _ => 0))), (h1, .inr (3, [.int 0, .int 0, .int 0, .int 0, .int 0, .int 0, .int 0, .int 0, .ref (w 0), .ref (w 1), .ref (w 2), .ref (w 3)])), (v 0, .inl (E 0, 40, .inl (fun _ => 0))), (v 1, .inl (E 0, 40, .inl (fun _ => 0))), (v 2, .inl (E 0, 41, .inl (fun _ => 0))), (v 4, .inl (E 0, 4, .inl (fun _ => 0)))]) (va_runV (As := [.ref h1, .int 0]) (rest := []) ⟨hx, hb, hml, hown, hts⟩ (m_prepare l D E H.size h2 h1 v) (cwV 2 hts g_m_build_m_prepare rfl rfl rfl (by decide +kernel) ⟨Nat.le_of_ble_eq_true rfl, Nat.le_of_ble_eq_true rfl⟩) ⟨pre_blind, va_recv hK hPc (ci := 4) (q0 := 0) rfl rfl, pre_at hPc hK hDc hN⟩ rfl rfl hl.1 rfl (lv_room (Nat.le_of_ble_eq_true rfl)) dX1_build_44 ⟨Nat.le_of_ble_eq_true rfl, Nat.le_of_ble_eq_true rfl⟩) hP hD hS hA [4, 8] [0, 1, 2, 3, 5, 6, 7, 9] rfl rfl (by decide +kernel) (by decide +kernel) (fun u_1 H locs hw hP hD hS => ?_)
  have hP : va_P D vwCl [(h0, .inr (1, [.int 0, .int 0, .int 0, .int 0, .ref (u 0), .ref (u 1), .ref (u 2), .ref (u 3), .ref (u 4), .ref (u 5)])), (u 0, .inl (E 0, 5120, .inl (fun _ => 0))), (u 1, .inl (E 0, 5248, .inl (fun _ => 0))), (h1, .inr (3, [.int 0, .int 0, .int 0, .int 0, .int 0, .int 0, .int 0, .int 0, .ref (w 0), .ref (w 1), .ref (w 2), .ref (w 3)])), (v 0, .inl (E 0, 40, .inl (fun _ => 0))), (v 1, .inl (E 0, 40, .inl (fun _ => 0))), (v 2, .inl (E 0, 41, .inl (fun _ => 0))), (v 4, .inl (E 0, 4, .inl (fun _ => 0))), (h2, .inr (4, [.ref (v 0), .ref (v 1), .ref (v 2), .ref (v 3), .ref (v 4), .int 0, .ref (v 5), .ref (v 6), .int 0, .ref h1, .int 0, .int 0, .long 0, .int 0, .int 0])), (v 3, .inl (E 0, 4, .inl u_1))] H := hP
  have hD : va_D A [(h0, .inr (1, [.int 0, .int 0, .int 0, .int 0, .ref (u 0), .ref (u 1), .ref (u 2), .ref (u 3), .ref (u 4), .ref (u 5)])), (u 0, .inl (E 0, 5120, .inl (fun _ => 0))), (u 1, .inl (E 0, 5248, .inl (fun _ => 0))), (h1, .inr (3, [.int 0, .int 0, .int 0, .int 0, .int 0, .int 0, .int 0, .int 0, .ref (w 0), .ref (w 1), .ref (w 2), .ref (w 3)])), (v 0, .inl (E 0, 40, .inl (fun _ => 0))), (v 1, .inl (E 0, 40, .inl (fun _ => 0))), (v 2, .inl (E 0, 41, .inl (fun _ => 0))), (v 4, .inl (E 0, 4, .inl (fun _ => 0))), (h2, .inr (4, [.ref (v 0), .ref (v 1), .ref (v 2), .ref (v 3), .ref (v 4), .int 0, .ref (v 5), .ref (v 6), .int 0, .ref h1, .int 0, .int 0, .long 0, .int 0, .int 0])), (v 3, .inl (E 0, 4, .inl u_1))] := hD
  refine lv_iconst (v := 0) hx hb dX1_build_47 (by decide) ?_
  refine lv_istore (lv' := [(4, .int 0), (3, .int 1), (0, .ref h0), (1, .ref h1), (2, .ref h2)]) hx hb dX1_build_48 hl (by decide) rfl (fun ls hl => ?_)
  refine lv_iload hx hb dX1_build_50 (lv_at hl 0 rfl) ?_
  refine lv_sipush (v := 128) hx hb dX1_build_52 (by decide) ?_
  refine lv_icmp_ge (tgt := 104) hx hb dX1_build_55 (by decide) (fun h9 => absurd h9 (by decide)) (fun _ => ?_)
  refine lv_iload_n hx hb dX1_build_58 rfl (lv_at hl 1 rfl) ?_
  refine lv_if_eq (tgt := 104) hx hb dX1_build_59 (by decide) (fun h9 => absurd h9 (by decide)) (fun _ => ?_)
  refine lv_aload_n hx hb dX1_build_62 rfl (lv_at hl 4 rfl) ?_
  refine lv_aload_n hx hb dX1_build_63 rfl (lv_at hl 2 rfl) ?_
  refine va_get (ci := 1) (v := .int 0) (C := RX1) (T := TX1) (N := 10) hx hb hts in_m_build_X1 hown hK hP 0 rfl rfl 2 (by decide) (hts (.fieldLink RX1 42 "UnseenClock$CourseSet" "minutes" "I") (List.mem_of_getElem? (i := 6) rfl)) (fun _ h9 => h9) rfl dX1_build_64 ?_
  have hPc := hP.sub (ws' := [(h2, .inr (4, [.ref (v 0), .ref (v 1), .ref (v 2), .ref (v 3), .ref (v 4), .int 0, .ref (v 5), .ref (v 6), .int 0, .ref h1, .int 0, .int 0, .long 0, .int 0, .int 0])), (v 0, .inl (E 0, 40, .inl (fun _ => 0))), (v 1, .inl (E 0, 40, .inl (fun _ => 0))), (v 4, .inl (E 0, 4, .inl (fun _ => 0))), (v 2, .inl (E 0, 41, .inl (fun _ => 0))), (h1, .inr (3, [.int 0, .int 0, .int 0, .int 0, .int 0, .int 0, .int 0, .int 0, .ref (w 0), .ref (w 1), .ref (w 2), .ref (w 3)]))]) [8, 4, 5, 7, 6, 3] rfl
  have hDc := hD.sub (ws' := [(h2, .inr (4, [.ref (v 0), .ref (v 1), .ref (v 2), .ref (v 3), .ref (v 4), .int 0, .ref (v 5), .ref (v 6), .int 0, .ref h1, .int 0, .int 0, .long 0, .int 0, .int 0])), (v 0, .inl (E 0, 40, .inl (fun _ => 0))), (v 1, .inl (E 0, 40, .inl (fun _ => 0))), (v 4, .inl (E 0, 4, .inl (fun _ => 0))), (v 2, .inl (E 0, 41, .inl (fun _ => 0))), (h1, .inr (3, [.int 0, .int 0, .int 0, .int 0, .int 0, .int 0, .int 0, .int 0, .ref (w 0), .ref (w 1), .ref (w 2), .ref (w 3)]))]) [8, 4, 5, 7, 6, 3] (by decide) rfl
  refine k_v (wr := [(h0, .inr (1, [.int 0, .int 0, .int 0, .int 0, .ref (u 0), .ref (u 1), .ref (u 2), .ref (u 3), .ref (u 4), .ref (u 5)])), (u 0, .inl (E 0, 5120, .inl (fun _ => 0))), (u 1, .inl (E 0, 5248, .inl (fun _ => 0))), (v 3, .inl (E 0, 4, .inl u_1))]) (va_runV (As := [.int 0]) (rest := []) ⟨hx, hb, hml, hown, hts⟩ (m_runTo l D E H.size h2 h1 v w) (cwV 1 hts g_m_build_m_runTo rfl rfl rfl (by decide +kernel) ⟨Nat.le_of_ble_eq_true rfl, Nat.le_of_ble_eq_true rfl⟩) ⟨pre_blind, va_recv hK hPc (ci := 4) (q0 := 0) rfl rfl, pre_at hPc hK hDc hN⟩ rfl rfl hl.1 rfl (lv_room (Nat.le_of_ble_eq_true rfl)) dX1_build_67 ⟨Nat.le_of_ble_eq_true rfl, Nat.le_of_ble_eq_true rfl⟩) hP hD hS hA [8, 4, 5, 7, 6, 3] [0, 1, 2, 9] rfl rfl (by decide +kernel) (by decide +kernel) (fun u_5 H locs hw hP hD hS => ?_)
  have hP : va_P D vwCl [(h0, .inr (1, [.int 0, .int 0, .int 0, .int 0, .ref (u 0), .ref (u 1), .ref (u 2), .ref (u 3), .ref (u 4), .ref (u 5)])), (u 0, .inl (E 0, 5120, .inl (fun _ => 0))), (u 1, .inl (E 0, 5248, .inl (fun _ => 0))), (v 3, .inl (E 0, 4, .inl u_1)), (h2, .inr (4, [.ref (v 0), .ref (v 1), .ref (v 2), .ref (v 3), .ref (v 4), .int 0, .ref (v 5), .ref (v 6), .int 0, .ref h1, .int 0, .int 0, .long 0, .int 0, .int 0])), (v 0, .inl (E 0, 40, .inl (u_5 0))), (v 2, .inl (E 0, 41, .inl (u_5 1))), (h1, .inr (3, [.int 0, .int 0, .int 0, .int 0, .int 0, .int 0, .int 0, .int 0, .ref (w 0), .ref (w 1), .ref (w 2), .ref (w 3)]))] H := hP
  have hD : va_D A [(h0, .inr (1, [.int 0, .int 0, .int 0, .int 0, .ref (u 0), .ref (u 1), .ref (u 2), .ref (u 3), .ref (u 4), .ref (u 5)])), (u 0, .inl (E 0, 5120, .inl (fun _ => 0))), (u 1, .inl (E 0, 5248, .inl (fun _ => 0))), (v 3, .inl (E 0, 4, .inl u_1)), (h2, .inr (4, [.ref (v 0), .ref (v 1), .ref (v 2), .ref (v 3), .ref (v 4), .int 0, .ref (v 5), .ref (v 6), .int 0, .ref h1, .int 0, .int 0, .long 0, .int 0, .int 0])), (v 0, .inl (E 0, 40, .inl (u_5 0))), (v 2, .inl (E 0, 41, .inl (u_5 1))), (h1, .inr (3, [.int 0, .int 0, .int 0, .int 0, .int 0, .int 0, .int 0, .int 0, .ref (w 0), .ref (w 1), .ref (w 2), .ref (w 3)]))] := hD
  refine lv_aload_n hx hb dX1_build_70 rfl (lv_at hl 4 rfl) ?_
  refine va_get (ci := 4) (v := .int 0) (C := RX4) (T := TX4) (N := 15) hx hb hts in_m_build_X4 hown hK hP 4 rfl rfl 5 (by decide) (hts (.fieldLink RX1 67 "UnseenClock$Play" "opens" "I") (List.mem_of_getElem? (i := 44) rfl)) (fun _ h9 => h9) rfl dX1_build_71 ?_
  refine lv_sipush (v := 128) hx hb dX1_build_74 (by decide) ?_
  refine lv_icmp_lt (tgt := 86) hx hb dX1_build_77 (by decide) (fun _ => ?_) (fun h9 => absurd (by decide) h9)
  refine lv_aload_n hx hb dX1_build_86 rfl (lv_at hl 2 rfl) ?_
  refine lv_aload_n hx hb dX1_build_87 rfl (lv_at hl 4 rfl) ?_
  refine lv_iload hx hb dX1_build_88 (lv_at hl 0 rfl) ?_
  have hPc := hP.sub (ws' := [(h0, .inr (1, [.int 0, .int 0, .int 0, .int 0, .ref (u 0), .ref (u 1), .ref (u 2), .ref (u 3), .ref (u 4), .ref (u 5)])), (u 0, .inl (E 0, 5120, .inl (fun _ => 0))), (u 1, .inl (E 0, 5248, .inl (fun _ => 0))), (h2, .inr (4, [.ref (v 0), .ref (v 1), .ref (v 2), .ref (v 3), .ref (v 4), .int 0, .ref (v 5), .ref (v 6), .int 0, .ref h1, .int 0, .int 0, .long 0, .int 0, .int 0])), (v 0, .inl (E 0, 40, .inl (u_5 0))), (v 2, .inl (E 0, 41, .inl (u_5 1)))]) [0, 1, 2, 4, 5, 6] rfl
  have hDc := hD.sub (ws' := [(h0, .inr (1, [.int 0, .int 0, .int 0, .int 0, .ref (u 0), .ref (u 1), .ref (u 2), .ref (u 3), .ref (u 4), .ref (u 5)])), (u 0, .inl (E 0, 5120, .inl (fun _ => 0))), (u 1, .inl (E 0, 5248, .inl (fun _ => 0))), (h2, .inr (4, [.ref (v 0), .ref (v 1), .ref (v 2), .ref (v 3), .ref (v 4), .int 0, .ref (v 5), .ref (v 6), .int 0, .ref h1, .int 0, .int 0, .long 0, .int 0, .int 0])), (v 0, .inl (E 0, 40, .inl (u_5 0))), (v 2, .inl (E 0, 41, .inl (u_5 1)))]) [0, 1, 2, 4, 5, 6] (by decide) rfl
  refine k_v (wr := [(v 3, .inl (E 0, 4, .inl u_1)), (h1, .inr (3, [.int 0, .int 0, .int 0, .int 0, .int 0, .int 0, .int 0, .int 0, .ref (w 0), .ref (w 1), .ref (w 2), .ref (w 3)]))]) (va_runV (As := [.ref h2, .int 0]) (rest := []) ⟨hx, hb, hml, hown, hts⟩ (m_store l D E H.size h0 h2 h1 u v u_5) (cwV 2 hts g_m_build_m_store rfl rfl rfl (by decide +kernel) ⟨Nat.le_of_ble_eq_true rfl, Nat.le_of_ble_eq_true rfl⟩) ⟨pre_blind, va_recv hK hPc (ci := 1) (q0 := 0) rfl rfl, pre_at hPc hK hDc hN⟩ rfl rfl hl.1 rfl (lv_room (Nat.le_of_ble_eq_true rfl)) dX1_build_90 ⟨Nat.le_of_ble_eq_true rfl, Nat.le_of_ble_eq_true rfl⟩) hP hD hS hA [0, 1, 2, 4, 5, 6] [3, 7] rfl rfl (by decide +kernel) (by decide +kernel) (fun u_8 H locs hw hP hD hS => ?_)
  have hP : va_P D vwCl [(v 3, .inl (E 0, 4, .inl u_1)), (h1, .inr (3, [.int 0, .int 0, .int 0, .int 0, .int 0, .int 0, .int 0, .int 0, .ref (w 0), .ref (w 1), .ref (w 2), .ref (w 3)])), (h0, .inr (1, [.int 1, .int 0, .int 0, .int 0, .ref (u 0), .ref (u 1), .ref (u 2), .ref (u 3), .ref (u 4), .ref (u 5)])), (h2, .inr (4, [.ref (v 0), .ref (v 1), .ref (v 2), .ref (v 3), .ref (v 4), .int 0, .ref (v 5), .ref (v 6), .int 0, .ref h1, .int 0, .int 0, .long 0, .int 0, .int 0]))] H := hP
  have hD : va_D A [(v 3, .inl (E 0, 4, .inl u_1)), (h1, .inr (3, [.int 0, .int 0, .int 0, .int 0, .int 0, .int 0, .int 0, .int 0, .ref (w 0), .ref (w 1), .ref (w 2), .ref (w 3)])), (h0, .inr (1, [.int 1, .int 0, .int 0, .int 0, .ref (u 0), .ref (u 1), .ref (u 2), .ref (u 3), .ref (u 4), .ref (u 5)])), (h2, .inr (4, [.ref (v 0), .ref (v 1), .ref (v 2), .ref (v 3), .ref (v 4), .int 0, .ref (v 5), .ref (v 6), .int 0, .ref h1, .int 0, .int 0, .long 0, .int 0, .int 0]))] := hD
  refine lv_aload_n hx hb dX1_build_93 rfl (lv_at hl 4 rfl) ?_
  have hPc := hP.sub (ws' := [(h2, .inr (4, [.ref (v 0), .ref (v 1), .ref (v 2), .ref (v 3), .ref (v 4), .int 0, .ref (v 5), .ref (v 6), .int 0, .ref h1, .int 0, .int 0, .long 0, .int 0, .int 0]))]) [3] rfl
  have hDc := hD.sub (ws' := [(h2, .inr (4, [.ref (v 0), .ref (v 1), .ref (v 2), .ref (v 3), .ref (v 4), .int 0, .ref (v 5), .ref (v 6), .int 0, .ref h1, .int 0, .int 0, .long 0, .int 0, .int 0]))]) [3] (by decide) rfl
  refine vp_callSi (W.runV (As := []) (rest := []) ⟨hx, hb, hml, hown, hts⟩ (m_chooseNext l D E H.size h2 h1 v) (cwV 0 hts g_m_build_m_chooseNext rfl rfl rfl (by decide +kernel) ⟨Nat.le_of_ble_eq_true rfl, Nat.le_of_ble_eq_true rfl⟩) ⟨pre_blind, va_recv hK hPc (ci := 4) (q0 := 0) rfl rfl, pre_at hPc hK hDc hN⟩ rfl rfl hl.1 rfl (lv_room (Nat.le_of_ble_eq_true rfl)) dX1_build_94 ⟨Nat.le_of_ble_eq_true rfl, Nat.le_of_ble_eq_true rfl⟩) (fun r_10 er_10 => ?_)
  subst er_10
  refine lv_istore_n (lv' := [(3, .int 0), (4, .int 0), (0, .ref h0), (1, .ref h1), (2, .ref h2)]) hx hb dX1_build_97 rfl hl (by decide) rfl (fun ls hl => ?_)
  refine lv_iinc (v := 1) (lv' := [(4, .int 1), (3, .int 0), (0, .ref h0), (1, .ref h1), (2, .ref h2)]) hx hb dX1_build_98 hl (k := 1) rfl (by decide) (by decide) rfl (fun ls hl => ?_)
  refine lv_goto (tgt := 50) hx hb dX1_build_101 (by decide) ?_
  refine lv_iload hx hb dX1_build_50 (lv_at hl 0 rfl) ?_
  refine lv_sipush (v := 128) hx hb dX1_build_52 (by decide) ?_
  refine lv_icmp_ge (tgt := 104) hx hb dX1_build_55 (by decide) (fun h9 => absurd h9 (by decide)) (fun _ => ?_)
  refine lv_iload_n hx hb dX1_build_58 rfl (lv_at hl 1 rfl) ?_
  refine lv_if_eq (tgt := 104) hx hb dX1_build_59 (by decide) (fun _ => ?_) (fun h9 => absurd (by decide) h9)
  refine lv_aload_n hx hb dX1_build_104 rfl (lv_at hl 2 rfl) ?_
  refine lv_iload_n hx hb dX1_build_105 rfl (lv_at hl 1 rfl) ?_
  refine va_put (ci := 1) (v := .int 0) (ty := .boolean) (C := RX1) (T := TX1) (N := 10) hx hb hts in_m_build_X1 tyX1 tyX1_ok nmX1 hown hK hP hD hS 2 rfl rfl 1 (by decide) (hts (.fieldLink RX1 50 "UnseenClock$CourseSet" "over" "Z") (List.mem_of_getElem? (i := 10) rfl)) (fun _ h9 => h9) rfl (by decide +kernel) rfl rfl (Nat.le_of_ble_eq_true rfl) dX1_build_106 (fun H locs hP hD hS => ?_)
  have hP : va_P D vwCl [(v 3, .inl (E 0, 4, .inl u_1)), (h1, .inr (3, [.int 0, .int 0, .int 0, .int 0, .int 0, .int 0, .int 0, .int 0, .ref (w 0), .ref (w 1), .ref (w 2), .ref (w 3)])), (h0, .inr (1, [.int 1, .int 0, .int 0, .int 0, .ref (u 0), .ref (u 1), .ref (u 2), .ref (u 3), .ref (u 4), .ref (u 5)])), (h2, .inr (4, [.ref (v 0), .ref (v 1), .ref (v 2), .ref (v 3), .ref (v 4), .int 0, .ref (v 5), .ref (v 6), .int 0, .ref h1, .int 0, .int 0, .long 0, .int 0, .int 0]))] H := hP
  have hD : va_D A [(v 3, .inl (E 0, 4, .inl u_1)), (h1, .inr (3, [.int 0, .int 0, .int 0, .int 0, .int 0, .int 0, .int 0, .int 0, .ref (w 0), .ref (w 1), .ref (w 2), .ref (w 3)])), (h0, .inr (1, [.int 1, .int 0, .int 0, .int 0, .ref (u 0), .ref (u 1), .ref (u 2), .ref (u 3), .ref (u 4), .ref (u 5)])), (h2, .inr (4, [.ref (v 0), .ref (v 1), .ref (v 2), .ref (v 3), .ref (v 4), .int 0, .ref (v 5), .ref (v 6), .int 0, .ref h1, .int 0, .int 0, .long 0, .int 0, .int 0]))] := hD
  refine lv_aload_n hx hb dX1_build_109 rfl (lv_at hl 2 rfl) ?_
  refine va_get (ci := 1) (v := .int 0) (C := RX1) (T := TX1) (N := 10) hx hb hts in_m_build_X1 hown hK hP 2 rfl rfl 1 (by decide) (hts (.fieldLink RX1 50 "UnseenClock$CourseSet" "over" "Z") (List.mem_of_getElem? (i := 10) rfl)) (fun _ h9 => h9) rfl dX1_build_110 ?_
  refine lv_if_ne (tgt := 120) hx hb dX1_build_113 (by decide) (fun h9 => absurd (by decide) h9) (fun _ => ?_)
  refine lv_aload_n hx hb dX1_build_116 rfl (lv_at hl 2 rfl) ?_
  have hPc := hP.sub (ws' := [(h0, .inr (1, [.int 1, .int 0, .int 0, .int 0, .ref (u 0), .ref (u 1), .ref (u 2), .ref (u 3), .ref (u 4), .ref (u 5)]))]) [2] rfl
  have hDc := hD.sub (ws' := [(h0, .inr (1, [.int 1, .int 0, .int 0, .int 0, .ref (u 0), .ref (u 1), .ref (u 2), .ref (u 3), .ref (u 4), .ref (u 5)]))]) [2] (by decide) rfl
  refine k_v (wr := [(v 3, .inl (E 0, 4, .inl u_1)), (h1, .inr (3, [.int 0, .int 0, .int 0, .int 0, .int 0, .int 0, .int 0, .int 0, .ref (w 0), .ref (w 1), .ref (w 2), .ref (w 3)])), (h2, .inr (4, [.ref (v 0), .ref (v 1), .ref (v 2), .ref (v 3), .ref (v 4), .int 0, .ref (v 5), .ref (v 6), .int 0, .ref h1, .int 0, .int 0, .long 0, .int 0, .int 0]))]) (va_runV (As := []) (rest := []) ⟨hx, hb, hml, hown, hts⟩ (m_sortSights l D E H.size h0 u) (cwV 0 hts g_m_build_m_sortSights rfl rfl rfl (by decide +kernel) ⟨Nat.le_of_ble_eq_true rfl, Nat.le_of_ble_eq_true rfl⟩) ⟨pre_blind, va_recv hK hPc (ci := 1) (q0 := 0) rfl rfl, pre_at hPc hK hDc hN⟩ rfl rfl hl.1 rfl (lv_room (Nat.le_of_ble_eq_true rfl)) dX1_build_117 ⟨Nat.le_of_ble_eq_true rfl, Nat.le_of_ble_eq_true rfl⟩) hP hD hS hA [2] [0, 1, 3] rfl rfl (by decide +kernel) (by decide +kernel) (fun u_14 H locs hw hP hD hS => ?_)
  have hP : va_P D vwCl [(v 3, .inl (E 0, 4, .inl u_1)), (h1, .inr (3, [.int 0, .int 0, .int 0, .int 0, .int 0, .int 0, .int 0, .int 0, .ref (w 0), .ref (w 1), .ref (w 2), .ref (w 3)])), (h2, .inr (4, [.ref (v 0), .ref (v 1), .ref (v 2), .ref (v 3), .ref (v 4), .int 0, .ref (v 5), .ref (v 6), .int 0, .ref h1, .int 0, .int 0, .long 0, .int 0, .int 0])), (h0, .inr (1, [.int 1, .int 0, .int 0, .int 0, .ref (u 0), .ref (u 1), .ref (u 2), .ref (u 3), .ref (u 4), .ref (u 5)]))] H := hP
  have hD : va_D A [(v 3, .inl (E 0, 4, .inl u_1)), (h1, .inr (3, [.int 0, .int 0, .int 0, .int 0, .int 0, .int 0, .int 0, .int 0, .ref (w 0), .ref (w 1), .ref (w 2), .ref (w 3)])), (h2, .inr (4, [.ref (v 0), .ref (v 1), .ref (v 2), .ref (v 3), .ref (v 4), .int 0, .ref (v 5), .ref (v 6), .int 0, .ref h1, .int 0, .int 0, .long 0, .int 0, .int 0])), (h0, .inr (1, [.int 1, .int 0, .int 0, .int 0, .ref (u 0), .ref (u 1), .ref (u 2), .ref (u 3), .ref (u 4), .ref (u 5)]))] := hD
  have hP := hP.sub (ws' := [(h1, .inr (3, [.int 0, .int 0, .int 0, .int 0, .int 0, .int 0, .int 0, .int 0, .ref (w 0), .ref (w 1), .ref (w 2), .ref (w 3)]))]) [1] rfl
  have hD := hD.sub (ws' := [(h1, .inr (3, [.int 0, .int 0, .int 0, .int 0, .int 0, .int 0, .int 0, .int 0, .ref (w 0), .ref (w 1), .ref (w 2), .ref (w 3)]))]) [1] (by decide) rfl
  exact e_v hx hb hr (()) trivial hP hD hS hlocks dX1_build_120

def v_m_allCourses : List Cond := .code yX7_allCourses cX7_allCourses 1 (some (.object "UnseenClock$CourseSet")) :: ([.fieldLink RX7 104 "UnseenClock" "branches" "LUnseenClock$CourseSet;", .classLink RX7 108 RX1, .instantiable RX1 10, .initialized RX1, .methodLink RX1 3 objectInit, .instanceMethod objectInit, .code objectInit ⟨#[0xb1]⟩ 1 none, .arrayClass .int, .fieldLink RX1 9 "UnseenClock$CourseSet" "looked" "[I", .fieldLink RX1 15 "UnseenClock$CourseSet" "faces" "[I", .fieldLink RX1 18 "UnseenClock$CourseSet" "sight" "[I", .fieldLink RX1 21 "UnseenClock$CourseSet" "met" "[I", .fieldLink RX1 24 "UnseenClock$CourseSet" "mark" "[I", .fieldLink RX1 27 "UnseenClock$CourseSet" "queue" "[I", .code yX1_init cX1_init 1 none, .instanceMethod yX1_init, .fieldLink RX7 88 "UnseenClock" "branchesStand" "Z", .fieldLink RX7 27 "UnseenClock" "plan" "LUnseenClock$Plan;", .fieldLink RX7 45 "UnseenClock" "trial" "LUnseenClock$Play;", .fieldLink RX1 30 "UnseenClock$Plan" "minutes" "I", .methodLink RX1 36 Lib.Math.min.name, .static Lib.Math.min.name, .initialized "java/lang/Math", .code Lib.Math.min.name Lib.Math.min.code 2 (some .int), .fieldLink RX1 42 "UnseenClock$CourseSet" "minutes" "I", .fieldLink RX1 43 "UnseenClock$Plan" "people" "I", .fieldLink RX1 46 "UnseenClock$CourseSet" "people" "I", .fieldLink RX1 47 "UnseenClock$CourseSet" "size" "I", .fieldLink RX1 50 "UnseenClock$CourseSet" "over" "Z", .fieldLink RX1 54 "UnseenClock$Plan" "away" "I", .fieldLink RX4 33 "UnseenClock$Play" "plan" "LUnseenClock$Plan;", .code yX7_pairsOf cX7_pairsOf 3 (some .int), .initialized RX7, .static yX7_pairsOf, .fieldLink RX4 41 "UnseenClock$Play" "hidden" "I", .fieldLink RX4 45 "UnseenClock$Play" "chosen" "I", .fieldLink RX4 48 "UnseenClock$Play" "drawn" "Z", .fieldLink RX4 21 "UnseenClock$Play" "keeper" "[I", .code yJ7_fill_53178 cJ7_fill_53178 4 none, .methodLink RX4 52 yJ7_fill_53178, .static yJ7_fill_53178, .initialized RJ7, .code yX4_prepare cX4_prepare 3 none, .methodLink RX1 57 yX4_prepare, .instanceMethod yX4_prepare, .selects RX4 yX4_prepare yX4_prepare, .initialized RX4, .fieldLink RX4 62 "UnseenClock$Play" "opens" "I", .fieldLink RX4 9 "UnseenClock$Play" "looked" "[I", .fieldLink RX4 15 "UnseenClock$Play" "opened" "[I", .fieldLink RX4 24 "UnseenClock$Play" "keptLast" "[I", .fieldLink RX4 65 "UnseenClock$Plan" "clocks" "I", .methodLink RX4 70 Lib.Math.min.name, .fieldLink RX4 18 "UnseenClock$Play" "faces" "[I", .code yX4_readFaces cX4_readFaces 5 (some .int), .methodLink RX4 88 yX4_readFaces, .instanceMethod yX4_readFaces, .selects RX4 yX4_readFaces yX4_readFaces, .code yX4_runTo cX4_runTo 5 none, .methodLink RX1 63 yX4_runTo, .instanceMethod yX4_runTo, .selects RX4 yX4_runTo yX4_runTo, .fieldLink RX1 67 "UnseenClock$Play" "opens" "I", .fieldLink RX1 81 "UnseenClock$Play" "looked" "[I", .methodLink RX1 82 arraycopyName, .native arraycopyName, .static arraycopyName, .initialized "java/lang/System", .fieldLink RX1 88 "UnseenClock$Play" "faces" "[I", .code yX1_store cX1_store 3 none, .methodLink RX1 70 yX1_store, .instanceMethod yX1_store, .selects RX1 yX1_store yX1_store, .code yX4_chooseNext cX4_chooseNext 2 (some .boolean), .methodLink RX1 74 yX4_chooseNext, .instanceMethod yX4_chooseNext, .selects RX4 yX4_chooseNext yX4_chooseNext, .code yX1_sortSights cX1_sortSights 4 none, .methodLink RX1 78 yX1_sortSights, .instanceMethod yX1_sortSights, .selects RX1 yX1_sortSights yX1_sortSights, .code yX1_build cX1_build 5 none, .methodLink RX7 111 yX1_build, .instanceMethod yX1_build, .selects RX1 yX1_build yX1_build] ++ (wsX70 ++ (wsX10 ++ (wsX30 ++ (wsX40)))))
theorem in_m_allCourses_X7 : ∀ w ∈ u_ws RX7 TX7 14, w ∈ v_m_allCourses := fun w h => List.mem_cons_of_mem _ (List.mem_append_right _ (List.mem_append_left _ h))
theorem in_m_allCourses_X1 : ∀ w ∈ u_ws RX1 TX1 10, w ∈ v_m_allCourses := fun w h => List.mem_cons_of_mem _ (List.mem_append_right _ (List.mem_append_right _ (List.mem_append_left _ h)))
theorem in_m_allCourses_X3 : ∀ w ∈ u_ws RX3 TX3 12, w ∈ v_m_allCourses := fun w h => List.mem_cons_of_mem _ (List.mem_append_right _ (List.mem_append_right _ (List.mem_append_right _ (List.mem_append_left _ h))))
theorem in_m_allCourses_X4 : ∀ w ∈ u_ws RX4 TX4 15, w ∈ v_m_allCourses := fun w h => List.mem_cons_of_mem _ (List.mem_append_right _ (List.mem_append_right _ (List.mem_append_right _ (List.mem_append_right _ (h)))))
set_option maxRecDepth 20000 in
theorem g_m_allCourses_c_Course_init : GoodIn v_m_allCourses (v_c_Course_init) := g_rows _ [15, 5, 6, 7, 8, 9, 10, 11, 12, 13, 14, 100, 101, 102, 103, 104, 105, 106, 107, 108, 109] rfl (by decide +kernel)
set_option maxRecDepth 20000 in
theorem g_m_allCourses_m_build : GoodIn v_m_allCourses (wsV RX7 111 RX1 yX1_build v_m_build) := g_rows _ [83, 84, 85, 4, 82, 20, 21, 22, 23, 24, 25, 26, 27, 28, 29, 30, 31, 32, 33, 34, 35, 36, 37, 38, 39, 40, 41, 42, 43, 44, 45, 46, 47, 48, 49, 50, 51, 52, 53, 54, 55, 56, 57, 58, 59, 60, 61, 62, 63, 64, 9, 65, 66, 67, 68, 69, 10, 70, 71, 72, 73, 4, 74, 75, 76, 77, 78, 79, 80, 81, 110, 111, 112, 113, 114, 115, 116, 117, 118, 119, 120, 121, 100, 101, 102, 103, 104, 105, 106, 107, 108, 109, 122, 123, 124, 125, 126, 127, 128, 129, 130, 131, 132, 133, 134, 135, 136] rfl (by decide +kernel)
set_option maxHeartbeats 2000000 in
set_option maxRecDepth 100000 in
theorem m_allCourses (l : Launch) (D : va_G) (E : Nat → ClassId) (sz : Nat) (h0 : Nat) (u : Nat → Nat) : Met l yX7_allCourses v_m_allCourses ({ frames := 3, cells := 7, slots := 11786, locals := 72 }) (va_Pc [.ref h0] (pre D E ([(h0, .inr (7, [.ref (u 1), .int 0, .ref (u 2), .int 0, .int (-1), .ref (u 0), .ref (u 3), .ref (u 6), .ref (u 98), .int 0, .ref (u 7), .null, .int 0, .ref (u 15)])), (u 0, .inr (3, [.int 0, .int 0, .int 0, .int 0, .int 0, .int 0, .int 0, .int 0, .ref (u 24), .ref (u 25), .ref (u 26), .ref (u 27)])), (u 7, .inr (4, [.ref (u 8), .ref (u 9), .ref (u 10), .ref (u 11), .ref (u 12), .int 0, .ref (u 13), .ref (u 14), .int 0, .null, .int 0, .int 0, .long 0, .int 0, .int 0])), (u 8, .inl (E 0, 40, .inl (fun _ => 0))), (u 9, .inl (E 0, 40, .inl (fun _ => 0))), (u 10, .inl (E 0, 41, .inl (fun _ => 0))), (u 11, .inl (E 0, 4, .inl (fun _ => 0))), (u 12, .inl (E 0, 4, .inl (fun _ => 0)))]) sz)) (qR (S := Unit) (fun _ => True) (fun _ a => [(h0, .inr (7, [.ref (u 1), .int 0, .ref (u 2), .int 0, .int (-1), .ref (u 0), .ref (u 3), .ref (u 6), .ref (u 98), .int 0, .ref (u 7), .ref a, .int 1, .ref (u 15)])), (u 0, .inr (3, [.int 0, .int 0, .int 0, .int 0, .int 0, .int 0, .int 0, .int 0, .ref (u 24), .ref (u 25), .ref (u 26), .ref (u 27)]))]) D (va_A ([(h0, .inr (7, [.ref (u 1), .int 0, .ref (u 2), .int 0, .int (-1), .ref (u 0), .ref (u 3), .ref (u 6), .ref (u 98), .int 0, .ref (u 7), .null, .int 0, .ref (u 15)])), (u 0, .inr (3, [.int 0, .int 0, .int 0, .int 0, .int 0, .int 0, .int 0, .int 0, .ref (u 24), .ref (u 25), .ref (u 26), .ref (u 27)])), (u 7, .inr (4, [.ref (u 8), .ref (u 9), .ref (u 10), .ref (u 11), .ref (u 12), .int 0, .ref (u 13), .ref (u 14), .int 0, .null, .int 0, .int 0, .long 0, .int 0, .int 0])), (u 8, .inl (E 0, 40, .inl (fun _ => 0))), (u 9, .inl (E 0, 40, .inl (fun _ => 0))), (u 10, .inl (E 0, 41, .inl (fun _ => 0))), (u 11, .inl (E 0, 4, .inl (fun _ => 0))), (u 12, .inl (E 0, 4, .inl (fun _ => 0)))]) sz)) 7 11786 (va_A ([(h0, .inr (7, [.ref (u 1), .int 0, .ref (u 2), .int 0, .int (-1), .ref (u 0), .ref (u 3), .ref (u 6), .ref (u 98), .int 0, .ref (u 7), .null, .int 0, .ref (u 15)])), (u 0, .inr (3, [.int 0, .int 0, .int 0, .int 0, .int 0, .int 0, .int 0, .int 0, .ref (u 24), .ref (u 25), .ref (u 26), .ref (u 27)])), (u 7, .inr (4, [.ref (u 8), .ref (u 9), .ref (u 10), .ref (u 11), .ref (u 12), .int 0, .ref (u 13), .ref (u 14), .int 0, .null, .int 0, .int 0, .long 0, .int 0, .int 0])), (u 8, .inl (E 0, 40, .inl (fun _ => 0))), (u 9, .inl (E 0, 40, .inl (fun _ => 0))), (u 10, .inl (E 0, 41, .inl (fun _ => 0))), (u 11, .inl (E 0, 4, .inl (fun _ => 0))), (u 12, .inl (E 0, 4, .inl (fun _ => 0)))]) sz) := by
  refine c_ref (cc := cX7_allCourses) (maxL := 1) (ret := (some (.object "UnseenClock$CourseSet"))) (by decide) rfl (Nat.le_of_ble_eq_true rfl) ?_
  intro p e s m below meth c ls A ⟨hx, hb, hr, hts, hown, hlocks, hin, hml⟩ hP hK hD hN hA hS hl
  have hown : s.vm.findClass RX7 = some m.cls := hown
  have hl : lv_has ls 1 [(0, .ref h0)] := hl
  refine lv_aload_n hx hb dX7_allCourses_0 rfl (lv_at hl 0 rfl) ?_
  refine va_get (ci := 7) (v := .null) (C := RX7) (T := TX7) (N := 14) hx hb hts in_m_allCourses_X7 hown hK hP 0 rfl rfl 11 (by decide) (hts (.fieldLink RX7 104 "UnseenClock" "branches" "LUnseenClock$CourseSet;") (List.mem_of_getElem? (i := 1) rfl)) (fun _ h9 => h9) rfl dX7_allCourses_1 ?_
  refine lv_ifnonnullN hx hb dX7_allCourses_4 ?_
  refine lv_aload_n hx hb dX7_allCourses_7 rfl (lv_at hl 0 rfl) ?_
  refine va_new (ci := 1) (fs := [.int 0, .int 0, .int 0, .int 0, .null, .null, .null, .null, .null, .null]) (C := RX1) (T := TX1) (N := 10) hx hb hts in_m_allCourses_X1 tyX1 tyX1_ok hown (hts (.classLink RX7 108 RX1) (List.mem_of_getElem? (i := 2) rfl)) (hts (.instantiable RX1 10) (List.mem_of_getElem? (i := 3) rfl)) (hts (.initialized RX1) (List.mem_of_getElem? (i := 4) rfl)) hK hP hD hS hA rfl (fun j hj => by rcases (show j = 0 ∨ j = 1 ∨ j = 2 ∨ j = 3 ∨ j = 4 ∨ j = 5 ∨ j = 6 ∨ j = 7 ∨ j = 8 ∨ j = 9 by omega) with rfl | rfl | rfl | rfl | rfl | rfl | rfl | rfl | rfl | rfl <;> rfl) (Nat.le_of_ble_eq_true rfl) (Nat.le_of_ble_eq_true rfl) dX7_allCourses_8 (fun q_1 H hP hD hS => ?_)
  have hP : va_P D vwCl [(h0, .inr (7, [.ref (u 1), .int 0, .ref (u 2), .int 0, .int (-1), .ref (u 0), .ref (u 3), .ref (u 6), .ref (u 98), .int 0, .ref (u 7), .null, .int 0, .ref (u 15)])), (u 0, .inr (3, [.int 0, .int 0, .int 0, .int 0, .int 0, .int 0, .int 0, .int 0, .ref (u 24), .ref (u 25), .ref (u 26), .ref (u 27)])), (u 7, .inr (4, [.ref (u 8), .ref (u 9), .ref (u 10), .ref (u 11), .ref (u 12), .int 0, .ref (u 13), .ref (u 14), .int 0, .null, .int 0, .int 0, .long 0, .int 0, .int 0])), (u 8, .inl (E 0, 40, .inl (fun _ => 0))), (u 9, .inl (E 0, 40, .inl (fun _ => 0))), (u 10, .inl (E 0, 41, .inl (fun _ => 0))), (u 11, .inl (E 0, 4, .inl (fun _ => 0))), (u 12, .inl (E 0, 4, .inl (fun _ => 0))), (q_1, .inr (1, [.int 0, .int 0, .int 0, .int 0, .null, .null, .null, .null, .null, .null]))] H := hP
  have hD : va_D A [(h0, .inr (7, [.ref (u 1), .int 0, .ref (u 2), .int 0, .int (-1), .ref (u 0), .ref (u 3), .ref (u 6), .ref (u 98), .int 0, .ref (u 7), .null, .int 0, .ref (u 15)])), (u 0, .inr (3, [.int 0, .int 0, .int 0, .int 0, .int 0, .int 0, .int 0, .int 0, .ref (u 24), .ref (u 25), .ref (u 26), .ref (u 27)])), (u 7, .inr (4, [.ref (u 8), .ref (u 9), .ref (u 10), .ref (u 11), .ref (u 12), .int 0, .ref (u 13), .ref (u 14), .int 0, .null, .int 0, .int 0, .long 0, .int 0, .int 0])), (u 8, .inl (E 0, 40, .inl (fun _ => 0))), (u 9, .inl (E 0, 40, .inl (fun _ => 0))), (u 10, .inl (E 0, 41, .inl (fun _ => 0))), (u 11, .inl (E 0, 4, .inl (fun _ => 0))), (u 12, .inl (E 0, 4, .inl (fun _ => 0))), (q_1, .inr (1, [.int 0, .int 0, .int 0, .int 0, .null, .null, .null, .null, .null, .null]))] := hD
  refine lv_dup hx hb dX7_allCourses_11 rfl ?_
  have hPc := hP.sub (ws' := [(q_1, .inr (1, [.int 0, .int 0, .int 0, .int 0, .null, .null, .null, .null, .null, .null]))]) [8] rfl
  have hDc := hD.sub (ws' := [(q_1, .inr (1, [.int 0, .int 0, .int 0, .int 0, .null, .null, .null, .null, .null, .null]))]) [8] (by decide) rfl
  refine k_v (wr := [(h0, .inr (7, [.ref (u 1), .int 0, .ref (u 2), .int 0, .int (-1), .ref (u 0), .ref (u 3), .ref (u 6), .ref (u 98), .int 0, .ref (u 7), .null, .int 0, .ref (u 15)])), (u 0, .inr (3, [.int 0, .int 0, .int 0, .int 0, .int 0, .int 0, .int 0, .int 0, .ref (u 24), .ref (u 25), .ref (u 26), .ref (u 27)])), (u 7, .inr (4, [.ref (u 8), .ref (u 9), .ref (u 10), .ref (u 11), .ref (u 12), .int 0, .ref (u 13), .ref (u 14), .int 0, .null, .int 0, .int 0, .long 0, .int 0, .int 0])), (u 8, .inl (E 0, 40, .inl (fun _ => 0))), (u 9, .inl (E 0, 40, .inl (fun _ => 0))), (u 10, .inl (E 0, 41, .inl (fun _ => 0))), (u 11, .inl (E 0, 4, .inl (fun _ => 0))), (u 12, .inl (E 0, 4, .inl (fun _ => 0)))]) (va_runIN (As := []) (rest := [.ref q_1, .ref h0]) ⟨hx, hb, hml, hown, hts⟩ (c_Course_init l D E H.size (q_1)) ⟨va_cnB 0 hts g_m_allCourses_c_Course_init rfl rfl rfl hN.2.2.2.2.2.2.1 (hts (.initialized RX1) (List.mem_of_getElem? (i := 4) rfl)) (by decide +kernel) ⟨Nat.le_of_ble_eq_true rfl, Nat.le_of_ble_eq_true rfl⟩, rfl, (hts (.instanceMethod yX1_init) (List.mem_of_getElem? (i := 16) rfl))⟩ ⟨pre_blind, pre_at hPc hK hDc hN⟩ rfl rfl hl.1 rfl (lv_room (Nat.le_of_ble_eq_true rfl)) dX7_allCourses_12 ⟨Nat.le_of_ble_eq_true rfl, Nat.le_of_ble_eq_true rfl⟩) hP hD hS hA [8] [0, 1, 2, 3, 4, 5, 6, 7] rfl rfl (by decide +kernel) (by decide +kernel) (fun u_2 H locs hw hP hD hS => ?_)
  have hP : va_P D vwCl [(h0, .inr (7, [.ref (u 1), .int 0, .ref (u 2), .int 0, .int (-1), .ref (u 0), .ref (u 3), .ref (u 6), .ref (u 98), .int 0, .ref (u 7), .null, .int 0, .ref (u 15)])), (u 0, .inr (3, [.int 0, .int 0, .int 0, .int 0, .int 0, .int 0, .int 0, .int 0, .ref (u 24), .ref (u 25), .ref (u 26), .ref (u 27)])), (u 7, .inr (4, [.ref (u 8), .ref (u 9), .ref (u 10), .ref (u 11), .ref (u 12), .int 0, .ref (u 13), .ref (u 14), .int 0, .null, .int 0, .int 0, .long 0, .int 0, .int 0])), (u 8, .inl (E 0, 40, .inl (fun _ => 0))), (u 9, .inl (E 0, 40, .inl (fun _ => 0))), (u 10, .inl (E 0, 41, .inl (fun _ => 0))), (u 11, .inl (E 0, 4, .inl (fun _ => 0))), (u 12, .inl (E 0, 4, .inl (fun _ => 0))), (q_1, .inr (1, [.int 0, .int 0, .int 0, .int 0, .ref (u_2 0), .ref (u_2 1), .ref (u_2 2), .ref (u_2 3), .ref (u_2 4), .ref (u_2 5)])), (u_2 0, .inl (E 0, 5120, .inl (fun _ => 0))), (u_2 1, .inl (E 0, 5248, .inl (fun _ => 0))), (u_2 2, .inl (E 0, 1024, .inl (fun _ => 0))), (u_2 3, .inl (E 0, 128, .inl (fun _ => 0))), (u_2 4, .inl (E 0, 128, .inl (fun _ => 0))), (u_2 5, .inl (E 0, 128, .inl (fun _ => 0)))] H := hP
  have hD : va_D A [(h0, .inr (7, [.ref (u 1), .int 0, .ref (u 2), .int 0, .int (-1), .ref (u 0), .ref (u 3), .ref (u 6), .ref (u 98), .int 0, .ref (u 7), .null, .int 0, .ref (u 15)])), (u 0, .inr (3, [.int 0, .int 0, .int 0, .int 0, .int 0, .int 0, .int 0, .int 0, .ref (u 24), .ref (u 25), .ref (u 26), .ref (u 27)])), (u 7, .inr (4, [.ref (u 8), .ref (u 9), .ref (u 10), .ref (u 11), .ref (u 12), .int 0, .ref (u 13), .ref (u 14), .int 0, .null, .int 0, .int 0, .long 0, .int 0, .int 0])), (u 8, .inl (E 0, 40, .inl (fun _ => 0))), (u 9, .inl (E 0, 40, .inl (fun _ => 0))), (u 10, .inl (E 0, 41, .inl (fun _ => 0))), (u 11, .inl (E 0, 4, .inl (fun _ => 0))), (u 12, .inl (E 0, 4, .inl (fun _ => 0))), (q_1, .inr (1, [.int 0, .int 0, .int 0, .int 0, .ref (u_2 0), .ref (u_2 1), .ref (u_2 2), .ref (u_2 3), .ref (u_2 4), .ref (u_2 5)])), (u_2 0, .inl (E 0, 5120, .inl (fun _ => 0))), (u_2 1, .inl (E 0, 5248, .inl (fun _ => 0))), (u_2 2, .inl (E 0, 1024, .inl (fun _ => 0))), (u_2 3, .inl (E 0, 128, .inl (fun _ => 0))), (u_2 4, .inl (E 0, 128, .inl (fun _ => 0))), (u_2 5, .inl (E 0, 128, .inl (fun _ => 0)))] := hD
  refine va_put (ci := 7) (v := .ref q_1) (ty := (.object "UnseenClock$CourseSet")) (C := RX7) (T := TX7) (N := 14) hx hb hts in_m_allCourses_X7 tyX7 tyX7_ok nmX7 hown hK hP hD hS 0 rfl rfl 11 (by decide) (hts (.fieldLink RX7 104 "UnseenClock" "branches" "LUnseenClock$CourseSet;") (List.mem_of_getElem? (i := 1) rfl)) (fun _ h9 => h9) rfl (by decide +kernel) rfl rfl (Nat.le_of_ble_eq_true rfl) dX7_allCourses_15 (fun H locs hP hD hS => ?_)
  have hP : va_P D vwCl [(h0, .inr (7, [.ref (u 1), .int 0, .ref (u 2), .int 0, .int (-1), .ref (u 0), .ref (u 3), .ref (u 6), .ref (u 98), .int 0, .ref (u 7), .ref q_1, .int 0, .ref (u 15)])), (u 0, .inr (3, [.int 0, .int 0, .int 0, .int 0, .int 0, .int 0, .int 0, .int 0, .ref (u 24), .ref (u 25), .ref (u 26), .ref (u 27)])), (u 7, .inr (4, [.ref (u 8), .ref (u 9), .ref (u 10), .ref (u 11), .ref (u 12), .int 0, .ref (u 13), .ref (u 14), .int 0, .null, .int 0, .int 0, .long 0, .int 0, .int 0])), (u 8, .inl (E 0, 40, .inl (fun _ => 0))), (u 9, .inl (E 0, 40, .inl (fun _ => 0))), (u 10, .inl (E 0, 41, .inl (fun _ => 0))), (u 11, .inl (E 0, 4, .inl (fun _ => 0))), (u 12, .inl (E 0, 4, .inl (fun _ => 0))), (q_1, .inr (1, [.int 0, .int 0, .int 0, .int 0, .ref (u_2 0), .ref (u_2 1), .ref (u_2 2), .ref (u_2 3), .ref (u_2 4), .ref (u_2 5)])), (u_2 0, .inl (E 0, 5120, .inl (fun _ => 0))), (u_2 1, .inl (E 0, 5248, .inl (fun _ => 0))), (u_2 2, .inl (E 0, 1024, .inl (fun _ => 0))), (u_2 3, .inl (E 0, 128, .inl (fun _ => 0))), (u_2 4, .inl (E 0, 128, .inl (fun _ => 0))), (u_2 5, .inl (E 0, 128, .inl (fun _ => 0)))] H := hP
  have hD : va_D A [(h0, .inr (7, [.ref (u 1), .int 0, .ref (u 2), .int 0, .int (-1), .ref (u 0), .ref (u 3), .ref (u 6), .ref (u 98), .int 0, .ref (u 7), .ref q_1, .int 0, .ref (u 15)])), (u 0, .inr (3, [.int 0, .int 0, .int 0, .int 0, .int 0, .int 0, .int 0, .int 0, .ref (u 24), .ref (u 25), .ref (u 26), .ref (u 27)])), (u 7, .inr (4, [.ref (u 8), .ref (u 9), .ref (u 10), .ref (u 11), .ref (u 12), .int 0, .ref (u 13), .ref (u 14), .int 0, .null, .int 0, .int 0, .long 0, .int 0, .int 0])), (u 8, .inl (E 0, 40, .inl (fun _ => 0))), (u 9, .inl (E 0, 40, .inl (fun _ => 0))), (u 10, .inl (E 0, 41, .inl (fun _ => 0))), (u 11, .inl (E 0, 4, .inl (fun _ => 0))), (u 12, .inl (E 0, 4, .inl (fun _ => 0))), (q_1, .inr (1, [.int 0, .int 0, .int 0, .int 0, .ref (u_2 0), .ref (u_2 1), .ref (u_2 2), .ref (u_2 3), .ref (u_2 4), .ref (u_2 5)])), (u_2 0, .inl (E 0, 5120, .inl (fun _ => 0))), (u_2 1, .inl (E 0, 5248, .inl (fun _ => 0))), (u_2 2, .inl (E 0, 1024, .inl (fun _ => 0))), (u_2 3, .inl (E 0, 128, .inl (fun _ => 0))), (u_2 4, .inl (E 0, 128, .inl (fun _ => 0))), (u_2 5, .inl (E 0, 128, .inl (fun _ => 0)))] := hD
  refine lv_aload_n hx hb dX7_allCourses_18 rfl (lv_at hl 0 rfl) ?_
  refine va_get (ci := 7) (v := .int 0) (C := RX7) (T := TX7) (N := 14) hx hb hts in_m_allCourses_X7 hown hK hP 0 rfl rfl 12 (by decide) (hts (.fieldLink RX7 88 "UnseenClock" "branchesStand" "Z") (List.mem_of_getElem? (i := 17) rfl)) (fun _ h9 => h9) rfl dX7_allCourses_19 ?_
  refine lv_if_ne (tgt := 45) hx hb dX7_allCourses_22 (by decide) (fun h9 => absurd (by decide) h9) (fun _ => ?_)
  refine lv_aload_n hx hb dX7_allCourses_25 rfl (lv_at hl 0 rfl) ?_
  refine va_get (ci := 7) (v := .ref q_1) (C := RX7) (T := TX7) (N := 14) hx hb hts in_m_allCourses_X7 hown hK hP 0 rfl rfl 11 (by decide) (hts (.fieldLink RX7 104 "UnseenClock" "branches" "LUnseenClock$CourseSet;") (List.mem_of_getElem? (i := 1) rfl)) (fun _ h9 => h9) rfl dX7_allCourses_26 ?_
  refine lv_aload_n hx hb dX7_allCourses_29 rfl (lv_at hl 0 rfl) ?_
  refine va_get (ci := 7) (v := .ref (u 0)) (C := RX7) (T := TX7) (N := 14) hx hb hts in_m_allCourses_X7 hown hK hP 0 rfl rfl 5 (by decide) (hts (.fieldLink RX7 27 "UnseenClock" "plan" "LUnseenClock$Plan;") (List.mem_of_getElem? (i := 18) rfl)) (fun _ h9 => h9) rfl dX7_allCourses_30 ?_
  refine lv_aload_n hx hb dX7_allCourses_33 rfl (lv_at hl 0 rfl) ?_
  refine va_get (ci := 7) (v := .ref (u 7)) (C := RX7) (T := TX7) (N := 14) hx hb hts in_m_allCourses_X7 hown hK hP 0 rfl rfl 10 (by decide) (hts (.fieldLink RX7 45 "UnseenClock" "trial" "LUnseenClock$Play;") (List.mem_of_getElem? (i := 19) rfl)) (fun _ h9 => h9) rfl dX7_allCourses_34 ?_
  have hPc := hP.sub (ws' := [(q_1, .inr (1, [.int 0, .int 0, .int 0, .int 0, .ref (u_2 0), .ref (u_2 1), .ref (u_2 2), .ref (u_2 3), .ref (u_2 4), .ref (u_2 5)])), (u_2 0, .inl (E 0, 5120, .inl (fun _ => 0))), (u_2 1, .inl (E 0, 5248, .inl (fun _ => 0))), (u 0, .inr (3, [.int 0, .int 0, .int 0, .int 0, .int 0, .int 0, .int 0, .int 0, .ref (u 24), .ref (u 25), .ref (u 26), .ref (u 27)])), (u 7, .inr (4, [.ref (u 8), .ref (u 9), .ref (u 10), .ref (u 11), .ref (u 12), .int 0, .ref (u 13), .ref (u 14), .int 0, .null, .int 0, .int 0, .long 0, .int 0, .int 0])), (u 8, .inl (E 0, 40, .inl (fun _ => 0))), (u 9, .inl (E 0, 40, .inl (fun _ => 0))), (u 10, .inl (E 0, 41, .inl (fun _ => 0))), (u 11, .inl (E 0, 4, .inl (fun _ => 0))), (u 12, .inl (E 0, 4, .inl (fun _ => 0)))]) [8, 9, 10, 1, 2, 3, 4, 5, 6, 7] rfl
  have hDc := hD.sub (ws' := [(q_1, .inr (1, [.int 0, .int 0, .int 0, .int 0, .ref (u_2 0), .ref (u_2 1), .ref (u_2 2), .ref (u_2 3), .ref (u_2 4), .ref (u_2 5)])), (u_2 0, .inl (E 0, 5120, .inl (fun _ => 0))), (u_2 1, .inl (E 0, 5248, .inl (fun _ => 0))), (u 0, .inr (3, [.int 0, .int 0, .int 0, .int 0, .int 0, .int 0, .int 0, .int 0, .ref (u 24), .ref (u 25), .ref (u 26), .ref (u 27)])), (u 7, .inr (4, [.ref (u 8), .ref (u 9), .ref (u 10), .ref (u 11), .ref (u 12), .int 0, .ref (u 13), .ref (u 14), .int 0, .null, .int 0, .int 0, .long 0, .int 0, .int 0])), (u 8, .inl (E 0, 40, .inl (fun _ => 0))), (u 9, .inl (E 0, 40, .inl (fun _ => 0))), (u 10, .inl (E 0, 41, .inl (fun _ => 0))), (u 11, .inl (E 0, 4, .inl (fun _ => 0))), (u 12, .inl (E 0, 4, .inl (fun _ => 0)))]) [8, 9, 10, 1, 2, 3, 4, 5, 6, 7] (by decide) rfl
  refine k_v (wr := [(h0, .inr (7, [.ref (u 1), .int 0, .ref (u 2), .int 0, .int (-1), .ref (u 0), .ref (u 3), .ref (u 6), .ref (u 98), .int 0, .ref (u 7), .ref q_1, .int 0, .ref (u 15)])), (u_2 2, .inl (E 0, 1024, .inl (fun _ => 0))), (u_2 3, .inl (E 0, 128, .inl (fun _ => 0))), (u_2 4, .inl (E 0, 128, .inl (fun _ => 0))), (u_2 5, .inl (E 0, 128, .inl (fun _ => 0)))]) (va_runV (As := [.ref (u 0), .ref (u 7)]) (rest := []) ⟨hx, hb, hml, hown, hts⟩ (m_build l D E H.size (q_1) (u 0) (u 7) u_2 (fun k => u (24 + k)) (fun k => u (8 + k))) (cwV 2 hts g_m_allCourses_m_build rfl rfl rfl (by decide +kernel) ⟨Nat.le_of_ble_eq_true rfl, Nat.le_of_ble_eq_true rfl⟩) ⟨pre_blind, va_recv hK hPc (ci := 1) (q0 := 0) rfl rfl, pre_at hPc hK hDc hN⟩ rfl rfl hl.1 rfl (lv_room (Nat.le_of_ble_eq_true rfl)) dX7_allCourses_37 ⟨Nat.le_of_ble_eq_true rfl, Nat.le_of_ble_eq_true rfl⟩) hP hD hS hA [8, 9, 10, 1, 2, 3, 4, 5, 6, 7] [0, 11, 12, 13, 14] rfl rfl (by decide +kernel) (by decide +kernel) (fun u_5 H locs hw hP hD hS => ?_)
  have hP : va_P D vwCl [(h0, .inr (7, [.ref (u 1), .int 0, .ref (u 2), .int 0, .int (-1), .ref (u 0), .ref (u 3), .ref (u 6), .ref (u 98), .int 0, .ref (u 7), .ref q_1, .int 0, .ref (u 15)])), (u_2 2, .inl (E 0, 1024, .inl (fun _ => 0))), (u_2 3, .inl (E 0, 128, .inl (fun _ => 0))), (u_2 4, .inl (E 0, 128, .inl (fun _ => 0))), (u_2 5, .inl (E 0, 128, .inl (fun _ => 0))), (u 0, .inr (3, [.int 0, .int 0, .int 0, .int 0, .int 0, .int 0, .int 0, .int 0, .ref (u 24), .ref (u 25), .ref (u 26), .ref (u 27)]))] H := hP
  have hD : va_D A [(h0, .inr (7, [.ref (u 1), .int 0, .ref (u 2), .int 0, .int (-1), .ref (u 0), .ref (u 3), .ref (u 6), .ref (u 98), .int 0, .ref (u 7), .ref q_1, .int 0, .ref (u 15)])), (u_2 2, .inl (E 0, 1024, .inl (fun _ => 0))), (u_2 3, .inl (E 0, 128, .inl (fun _ => 0))), (u_2 4, .inl (E 0, 128, .inl (fun _ => 0))), (u_2 5, .inl (E 0, 128, .inl (fun _ => 0))), (u 0, .inr (3, [.int 0, .int 0, .int 0, .int 0, .int 0, .int 0, .int 0, .int 0, .ref (u 24), .ref (u 25), .ref (u 26), .ref (u 27)]))] := hD
  refine lv_aload_n hx hb dX7_allCourses_40 rfl (lv_at hl 0 rfl) ?_
  refine lv_iconst (v := 1) hx hb dX7_allCourses_41 (by decide) ?_
  refine va_put (ci := 7) (v := .int 1) (ty := .boolean) (C := RX7) (T := TX7) (N := 14) hx hb hts in_m_allCourses_X7 tyX7 tyX7_ok nmX7 hown hK hP hD hS 0 rfl rfl 12 (by decide) (hts (.fieldLink RX7 88 "UnseenClock" "branchesStand" "Z") (List.mem_of_getElem? (i := 17) rfl)) (fun _ h9 => h9) rfl (by decide +kernel) rfl rfl (Nat.le_of_ble_eq_true rfl) dX7_allCourses_42 (fun H locs hP hD hS => ?_)
  have hP : va_P D vwCl [(h0, .inr (7, [.ref (u 1), .int 0, .ref (u 2), .int 0, .int (-1), .ref (u 0), .ref (u 3), .ref (u 6), .ref (u 98), .int 0, .ref (u 7), .ref q_1, .int 1, .ref (u 15)])), (u_2 2, .inl (E 0, 1024, .inl (fun _ => 0))), (u_2 3, .inl (E 0, 128, .inl (fun _ => 0))), (u_2 4, .inl (E 0, 128, .inl (fun _ => 0))), (u_2 5, .inl (E 0, 128, .inl (fun _ => 0))), (u 0, .inr (3, [.int 0, .int 0, .int 0, .int 0, .int 0, .int 0, .int 0, .int 0, .ref (u 24), .ref (u 25), .ref (u 26), .ref (u 27)]))] H := hP
  have hD : va_D A [(h0, .inr (7, [.ref (u 1), .int 0, .ref (u 2), .int 0, .int (-1), .ref (u 0), .ref (u 3), .ref (u 6), .ref (u 98), .int 0, .ref (u 7), .ref q_1, .int 1, .ref (u 15)])), (u_2 2, .inl (E 0, 1024, .inl (fun _ => 0))), (u_2 3, .inl (E 0, 128, .inl (fun _ => 0))), (u_2 4, .inl (E 0, 128, .inl (fun _ => 0))), (u_2 5, .inl (E 0, 128, .inl (fun _ => 0))), (u 0, .inr (3, [.int 0, .int 0, .int 0, .int 0, .int 0, .int 0, .int 0, .int 0, .ref (u 24), .ref (u 25), .ref (u 26), .ref (u 27)]))] := hD
  refine lv_aload_n hx hb dX7_allCourses_45 rfl (lv_at hl 0 rfl) ?_
  refine va_get (ci := 7) (v := .ref q_1) (C := RX7) (T := TX7) (N := 14) hx hb hts in_m_allCourses_X7 hown hK hP 0 rfl rfl 11 (by decide) (hts (.fieldLink RX7 104 "UnseenClock" "branches" "LUnseenClock$CourseSet;") (List.mem_of_getElem? (i := 1) rfl)) (fun _ h9 => h9) rfl dX7_allCourses_46 ?_
  refine W.widen (k := 7) (n := 11786) (Nat.le_of_ble_eq_true rfl) (Nat.le_of_ble_eq_true rfl) ?_
  have hP := hP.sub (ws' := [(h0, .inr (7, [.ref (u 1), .int 0, .ref (u 2), .int 0, .int (-1), .ref (u 0), .ref (u 3), .ref (u 6), .ref (u 98), .int 0, .ref (u 7), .ref q_1, .int 1, .ref (u 15)])), (u 0, .inr (3, [.int 0, .int 0, .int 0, .int 0, .int 0, .int 0, .int 0, .int 0, .ref (u 24), .ref (u 25), .ref (u 26), .ref (u 27)]))]) [0, 5] rfl
  have hD := hD.sub (ws' := [(h0, .inr (7, [.ref (u 1), .int 0, .ref (u 2), .int 0, .int (-1), .ref (u 0), .ref (u 3), .ref (u 6), .ref (u 98), .int 0, .ref (u 7), .ref q_1, .int 1, .ref (u 15)])), (u 0, .inr (3, [.int 0, .int 0, .int 0, .int 0, .int 0, .int 0, .int 0, .int 0, .ref (u 24), .ref (u 25), .ref (u 26), .ref (u 27)]))]) [0, 5] (by decide) rfl
  exact e_r (a := q_1) hx hb hr (()) trivial hP hD hS hlocks dX7_allCourses_49

def v_r2_noSlot : List Cond := .code yX7_noSlot cX7_noSlot 1 (some .boolean) :: ([])
set_option maxHeartbeats 2000000 in
set_option maxRecDepth 100000 in
theorem r2_noSlot (l : Launch) (D : va_G) (E : Nat → ClassId) (sz : Nat) (h0 b : Nat) (u : Nat → Nat) (a1 : Int32) : Met l yX7_noSlot v_r2_noSlot ({ frames := 0, cells := 0, slots := 0, locals := 0 }) (va_Pc [.int a1] (pre D E ([(h0, .inr (7, [.ref (u 1), .int 0, .ref (u 2), .int 0, .int (-1), .ref (u 0), .ref (u 3), .ref (u 6), .ref (u 98), .int 0, .ref (u 7), .ref b, .int 1, .ref (u 15)])), (u 0, .inr (3, [.int 0, .int 0, .int 0, .int 0, .int 0, .int 0, .int 0, .int 0, .ref (u 24), .ref (u 25), .ref (u 26), .ref (u 27)]))]) sz)) (vp_Si (fun r => True)) 0 0 (fun _ => False) := by
  refine c_read (cc := cX7_noSlot) (maxL := 1) (ret := (some .boolean)) (by decide) rfl (Nat.le_of_ble_eq_true rfl) ?_
  intro p e s m below meth c ls ⟨hx, hb, hr, hts, hown, hlocks, hin, hml⟩ hP hK hD hN hl
  have hown : s.vm.findClass RX7 = some m.cls := hown
  have hl : lv_has ls 1 [(0, .int a1)] := hl
  refine lv_iload_n hx hb dX7_noSlot_0 rfl (lv_at hl 0 rfl) ?_
  refine lv_if_lt (tgt := 9) hx hb dX7_noSlot_1 (by decide) (fun h_1 => ?_) (fun h_1 => ?_)
  · refine lv_iconst (v := 1) hx hb dX7_noSlot_9 (by decide) ?_
    refine lv_goto (tgt := 14) hx hb dX7_noSlot_10 (by decide) ?_
    exact e_s (v := 1) hx hb hr rfl trivial hlocks dX7_noSlot_14
  · refine lv_iload_n hx hb dX7_noSlot_4 rfl (lv_at hl 0 rfl) ?_
    refine lv_iconst (v := 4) hx hb dX7_noSlot_5 (by decide) ?_
    refine lv_icmp_lt (tgt := 13) hx hb dX7_noSlot_6 (by decide) (fun h_2 => ?_) (fun h_2 => ?_)
    · refine lv_iconst (v := 0) hx hb dX7_noSlot_13 (by decide) ?_
      exact e_s (v := 0) hx hb hr rfl trivial hlocks dX7_noSlot_14
    · refine lv_iconst (v := 1) hx hb dX7_noSlot_9 (by decide) ?_
      refine lv_goto (tgt := 14) hx hb dX7_noSlot_10 (by decide) ?_
      exact e_s (v := 1) hx hb hr rfl trivial hlocks dX7_noSlot_14

def v_r2_noSquare : List Cond := .code yX7_noSquare cX7_noSquare 1 (some .boolean) :: ([.fieldLink RX7 27 "UnseenClock" "plan" "LUnseenClock$Plan;", .fieldLink RX7 81 "UnseenClock$Plan" "lines" "I"] ++ (wsX70 ++ (wsX30)))
theorem in_r2_noSquare_X7 : ∀ w ∈ u_ws RX7 TX7 14, w ∈ v_r2_noSquare := fun w h => List.mem_cons_of_mem _ (List.mem_append_right _ (List.mem_append_left _ h))
theorem in_r2_noSquare_X3 : ∀ w ∈ u_ws RX3 TX3 12, w ∈ v_r2_noSquare := fun w h => List.mem_cons_of_mem _ (List.mem_append_right _ (List.mem_append_right _ (h)))
set_option maxHeartbeats 2000000 in
set_option maxRecDepth 100000 in
theorem r2_noSquare (l : Launch) (D : va_G) (E : Nat → ClassId) (sz : Nat) (h0 b : Nat) (u : Nat → Nat) : Met l yX7_noSquare v_r2_noSquare ({ frames := 0, cells := 0, slots := 0, locals := 0 }) (va_Pc [.ref h0] (pre D E ([(h0, .inr (7, [.ref (u 1), .int 0, .ref (u 2), .int 0, .int (-1), .ref (u 0), .ref (u 3), .ref (u 6), .ref (u 98), .int 0, .ref (u 7), .ref b, .int 1, .ref (u 15)])), (u 0, .inr (3, [.int 0, .int 0, .int 0, .int 0, .int 0, .int 0, .int 0, .int 0, .ref (u 24), .ref (u 25), .ref (u 26), .ref (u 27)]))]) sz)) (vp_Si (fun r => r = 1)) 0 0 (fun _ => False) := by
  refine c_read (cc := cX7_noSquare) (maxL := 1) (ret := (some .boolean)) (by decide) rfl (Nat.le_of_ble_eq_true rfl) ?_
  intro p e s m below meth c ls ⟨hx, hb, hr, hts, hown, hlocks, hin, hml⟩ hP hK hD hN hl
  have hown : s.vm.findClass RX7 = some m.cls := hown
  have hl : lv_has ls 1 [(0, .ref h0)] := hl
  refine lv_aload_n hx hb dX7_noSquare_0 rfl (lv_at hl 0 rfl) ?_
  refine va_get (ci := 7) (v := .ref (u 0)) (C := RX7) (T := TX7) (N := 14) hx hb hts in_r2_noSquare_X7 hown hK hP 0 rfl rfl 5 (by decide) (hts (.fieldLink RX7 27 "UnseenClock" "plan" "LUnseenClock$Plan;") (List.mem_of_getElem? (i := 1) rfl)) (fun _ h9 => h9) rfl dX7_noSquare_1 ?_
  refine va_get (ci := 3) (v := .int 0) (C := RX3) (T := TX3) (N := 12) hx hb hts in_r2_noSquare_X3 hown hK hP 1 rfl rfl 3 (by decide) (hts (.fieldLink RX7 81 "UnseenClock$Plan" "lines" "I") (List.mem_of_getElem? (i := 2) rfl)) (fun _ h9 => h9) rfl dX7_noSquare_4 ?_
  refine lv_if_ne (tgt := 14) hx hb dX7_noSquare_7 (by decide) (fun h9 => absurd (by decide) h9) (fun _ => ?_)
  refine lv_iconst (v := 1) hx hb dX7_noSquare_10 (by decide) ?_
  refine lv_goto (tgt := 15) hx hb dX7_noSquare_11 (by decide) ?_
  exact e_s (v := 1) hx hb hr rfl rfl hlocks dX7_noSquare_15

def v_r2_sightingTrouble : List Cond := .code yX7_sightingTrouble cX7_sightingTrouble 9 (some .int) :: ([.code yX7_noSlot cX7_noSlot 1 (some .boolean), .methodLink RX7 281 yX7_noSlot, .static yX7_noSlot, .initialized RX7, .fieldLink RX7 27 "UnseenClock" "plan" "LUnseenClock$Plan;", .fieldLink RX7 81 "UnseenClock$Plan" "lines" "I", .code yX7_noSquare cX7_noSquare 1 (some .boolean), .methodLink RX7 208 yX7_noSquare, .instanceMethod yX7_noSquare, .selects RX7 yX7_noSquare yX7_noSquare] ++ (wsX70 ++ (wsX30)))
theorem in_r2_sightingTrouble_X7 : ∀ w ∈ u_ws RX7 TX7 14, w ∈ v_r2_sightingTrouble := fun w h => List.mem_cons_of_mem _ (List.mem_append_right _ (List.mem_append_left _ h))
theorem in_r2_sightingTrouble_X3 : ∀ w ∈ u_ws RX3 TX3 12, w ∈ v_r2_sightingTrouble := fun w h => List.mem_cons_of_mem _ (List.mem_append_right _ (List.mem_append_right _ (h)))
set_option maxRecDepth 20000 in
theorem g_r2_sightingTrouble_r2_noSlot : GoodIn v_r2_sightingTrouble (va_wsS RX7 281 yX7_noSlot v_r2_noSlot) := g_rows _ [2, 3, 4, 1] rfl (by decide +kernel)
set_option maxRecDepth 20000 in
theorem g_r2_sightingTrouble_r2_noSquare : GoodIn v_r2_sightingTrouble (wsV RX7 208 RX7 yX7_noSquare v_r2_noSquare) := g_rows _ [8, 9, 10, 4, 7, 5, 6, 11, 12, 13, 14, 15, 16, 17, 18, 19, 20, 21, 22, 23, 24, 25, 26, 27, 28, 29, 30, 31, 32, 33, 34, 35, 36] rfl (by decide +kernel)
set_option maxHeartbeats 2000000 in
set_option maxRecDepth 100000 in
theorem r2_sightingTrouble (l : Launch) (D : va_G) (E : Nat → ClassId) (sz : Nat) (h0 b : Nat) (u : Nat → Nat) (a1 : Int32) : Met l yX7_sightingTrouble v_r2_sightingTrouble ({ frames := 1, cells := 0, slots := 0, locals := 20 }) (va_Pc [.ref h0, .int a1, .ref b] (pre D E ([(h0, .inr (7, [.ref (u 1), .int 0, .ref (u 2), .int 0, .int (-1), .ref (u 0), .ref (u 3), .ref (u 6), .ref (u 98), .int 0, .ref (u 7), .ref b, .int 1, .ref (u 15)])), (u 0, .inr (3, [.int 0, .int 0, .int 0, .int 0, .int 0, .int 0, .int 0, .int 0, .ref (u 24), .ref (u 25), .ref (u 26), .ref (u 27)]))]) sz)) (vp_Si (fun r => r = -2)) 0 0 (fun _ => False) := by
  refine c_read (cc := cX7_sightingTrouble) (maxL := 9) (ret := (some .int)) (by decide) rfl (Nat.le_of_ble_eq_true rfl) ?_
  intro p e s m below meth c ls ⟨hx, hb, hr, hts, hown, hlocks, hin, hml⟩ hP hK hD hN hl
  have hown : s.vm.findClass RX7 = some m.cls := hown
  have hl : lv_has ls 9 [(0, .ref h0), (1, .int a1), (2, .ref b)] := hl
  refine lv_iload_n hx hb dX7_sightingTrouble_0 rfl (lv_at hl 1 rfl) ?_
  refine vp_callSi (W.runS (As := [.int a1]) (rest := []) ⟨hx, hb, hml, hown, hts⟩ (r2_noSlot l D E s.heap.size h0 b u a1) (va_cwS 1 hts g_r2_sightingTrouble_r2_noSlot rfl rfl rfl (by decide +kernel) ⟨Nat.le_of_ble_eq_true rfl, Nat.le_of_ble_eq_true rfl⟩) ⟨pre_blind, pre_at hP hK hD hN⟩ rfl rfl hl.1 rfl (lv_room (Nat.le_of_ble_eq_true rfl)) dX7_sightingTrouble_1 ⟨Nat.le_of_ble_eq_true rfl, Nat.le_of_ble_eq_true rfl⟩) (fun r_1 er_1 => ?_)
  refine lv_if_ne (tgt := 14) hx hb dX7_sightingTrouble_4 (by decide) (fun h_2 => ?_) (fun h_2 => ?_)
  · refine lv_bipush (v := (-2)) hx hb dX7_sightingTrouble_14 (by decide) ?_
    exact e_s (v := (-2)) hx hb hr rfl rfl hlocks dX7_sightingTrouble_16
  · refine lv_aload_n hx hb dX7_sightingTrouble_7 rfl (lv_at hl 0 rfl) ?_
    refine vp_callSi (W.runV (As := []) (rest := []) ⟨hx, hb, hml, hown, hts⟩ (r2_noSquare l D E s.heap.size h0 b u) (cwV 0 hts g_r2_sightingTrouble_r2_noSquare rfl rfl rfl (by decide +kernel) ⟨Nat.le_of_ble_eq_true rfl, Nat.le_of_ble_eq_true rfl⟩) ⟨pre_blind, va_recv hK hP (ci := 7) (q0 := 0) rfl rfl, pre_at hP hK hD hN⟩ rfl rfl hl.1 rfl (lv_room (Nat.le_of_ble_eq_true rfl)) dX7_sightingTrouble_8 ⟨Nat.le_of_ble_eq_true rfl, Nat.le_of_ble_eq_true rfl⟩) (fun r_3 er_3 => ?_)
    subst er_3
    refine lv_if_eq (tgt := 17) hx hb dX7_sightingTrouble_11 (by decide) (fun h9 => absurd h9 (by decide)) (fun _ => ?_)
    refine lv_bipush (v := (-2)) hx hb dX7_sightingTrouble_14 (by decide) ?_
    exact e_s (v := (-2)) hx hb hr rfl rfl hlocks dX7_sightingTrouble_16

def v_m_X_agree : List Cond := .code yX7_agree cX7_agree 4 (some .int) :: ([.fieldLink RX7 104 "UnseenClock" "branches" "LUnseenClock$CourseSet;", .classLink RX7 108 RX1, .instantiable RX1 10, .initialized RX1, .methodLink RX1 3 objectInit, .instanceMethod objectInit, .code objectInit ⟨#[0xb1]⟩ 1 none, .arrayClass .int, .fieldLink RX1 9 "UnseenClock$CourseSet" "looked" "[I", .fieldLink RX1 15 "UnseenClock$CourseSet" "faces" "[I", .fieldLink RX1 18 "UnseenClock$CourseSet" "sight" "[I", .fieldLink RX1 21 "UnseenClock$CourseSet" "met" "[I", .fieldLink RX1 24 "UnseenClock$CourseSet" "mark" "[I", .fieldLink RX1 27 "UnseenClock$CourseSet" "queue" "[I", .code yX1_init cX1_init 1 none, .instanceMethod yX1_init, .fieldLink RX7 88 "UnseenClock" "branchesStand" "Z", .fieldLink RX7 27 "UnseenClock" "plan" "LUnseenClock$Plan;", .fieldLink RX7 45 "UnseenClock" "trial" "LUnseenClock$Play;", .fieldLink RX1 30 "UnseenClock$Plan" "minutes" "I", .methodLink RX1 36 Lib.Math.min.name, .static Lib.Math.min.name, .initialized "java/lang/Math", .code Lib.Math.min.name Lib.Math.min.code 2 (some .int), .fieldLink RX1 42 "UnseenClock$CourseSet" "minutes" "I", .fieldLink RX1 43 "UnseenClock$Plan" "people" "I", .fieldLink RX1 46 "UnseenClock$CourseSet" "people" "I", .fieldLink RX1 47 "UnseenClock$CourseSet" "size" "I", .fieldLink RX1 50 "UnseenClock$CourseSet" "over" "Z", .fieldLink RX1 54 "UnseenClock$Plan" "away" "I", .fieldLink RX4 33 "UnseenClock$Play" "plan" "LUnseenClock$Plan;", .code yX7_pairsOf cX7_pairsOf 3 (some .int), .initialized RX7, .static yX7_pairsOf, .fieldLink RX4 41 "UnseenClock$Play" "hidden" "I", .fieldLink RX4 45 "UnseenClock$Play" "chosen" "I", .fieldLink RX4 48 "UnseenClock$Play" "drawn" "Z", .fieldLink RX4 21 "UnseenClock$Play" "keeper" "[I", .code yJ7_fill_53178 cJ7_fill_53178 4 none, .methodLink RX4 52 yJ7_fill_53178, .static yJ7_fill_53178, .initialized RJ7, .code yX4_prepare cX4_prepare 3 none, .methodLink RX1 57 yX4_prepare, .instanceMethod yX4_prepare, .selects RX4 yX4_prepare yX4_prepare, .initialized RX4, .fieldLink RX4 62 "UnseenClock$Play" "opens" "I", .fieldLink RX4 9 "UnseenClock$Play" "looked" "[I", .fieldLink RX4 15 "UnseenClock$Play" "opened" "[I", .fieldLink RX4 24 "UnseenClock$Play" "keptLast" "[I", .fieldLink RX4 65 "UnseenClock$Plan" "clocks" "I", .methodLink RX4 70 Lib.Math.min.name, .fieldLink RX4 18 "UnseenClock$Play" "faces" "[I", .code yX4_readFaces cX4_readFaces 5 (some .int), .methodLink RX4 88 yX4_readFaces, .instanceMethod yX4_readFaces, .selects RX4 yX4_readFaces yX4_readFaces, .code yX4_runTo cX4_runTo 5 none, .methodLink RX1 63 yX4_runTo, .instanceMethod yX4_runTo, .selects RX4 yX4_runTo yX4_runTo, .fieldLink RX1 67 "UnseenClock$Play" "opens" "I", .fieldLink RX1 81 "UnseenClock$Play" "looked" "[I", .methodLink RX1 82 arraycopyName, .native arraycopyName, .static arraycopyName, .initialized "java/lang/System", .fieldLink RX1 88 "UnseenClock$Play" "faces" "[I", .code yX1_store cX1_store 3 none, .methodLink RX1 70 yX1_store, .instanceMethod yX1_store, .selects RX1 yX1_store yX1_store, .code yX4_chooseNext cX4_chooseNext 2 (some .boolean), .methodLink RX1 74 yX4_chooseNext, .instanceMethod yX4_chooseNext, .selects RX4 yX4_chooseNext yX4_chooseNext, .code yX1_sortSights cX1_sortSights 4 none, .methodLink RX1 78 yX1_sortSights, .instanceMethod yX1_sortSights, .selects RX1 yX1_sortSights yX1_sortSights, .code yX1_build cX1_build 5 none, .methodLink RX7 111 yX1_build, .instanceMethod yX1_build, .selects RX1 yX1_build yX1_build, .code yX7_allCourses cX7_allCourses 1 (some (.object "UnseenClock$CourseSet")), .methodLink RX7 249 yX7_allCourses, .instanceMethod yX7_allCourses, .selects RX7 yX7_allCourses yX7_allCourses, .code yX7_noSlot cX7_noSlot 1 (some .boolean), .methodLink RX7 281 yX7_noSlot, .static yX7_noSlot, .fieldLink RX7 81 "UnseenClock$Plan" "lines" "I", .code yX7_noSquare cX7_noSquare 1 (some .boolean), .methodLink RX7 208 yX7_noSquare, .instanceMethod yX7_noSquare, .selects RX7 yX7_noSquare yX7_noSquare, .code yX7_sightingTrouble cX7_sightingTrouble 9 (some .int), .methodLink RX7 264 yX7_sightingTrouble, .instanceMethod yX7_sightingTrouble, .selects RX7 yX7_sightingTrouble yX7_sightingTrouble] ++ (wsX70 ++ (wsX10 ++ (wsX30 ++ (wsX40)))))
theorem in_m_X_agree_X7 : ∀ w ∈ u_ws RX7 TX7 14, w ∈ v_m_X_agree := fun w h => List.mem_cons_of_mem _ (List.mem_append_right _ (List.mem_append_left _ h))
theorem in_m_X_agree_X1 : ∀ w ∈ u_ws RX1 TX1 10, w ∈ v_m_X_agree := fun w h => List.mem_cons_of_mem _ (List.mem_append_right _ (List.mem_append_right _ (List.mem_append_left _ h)))
theorem in_m_X_agree_X3 : ∀ w ∈ u_ws RX3 TX3 12, w ∈ v_m_X_agree := fun w h => List.mem_cons_of_mem _ (List.mem_append_right _ (List.mem_append_right _ (List.mem_append_right _ (List.mem_append_left _ h))))
theorem in_m_X_agree_X4 : ∀ w ∈ u_ws RX4 TX4 15, w ∈ v_m_X_agree := fun w h => List.mem_cons_of_mem _ (List.mem_append_right _ (List.mem_append_right _ (List.mem_append_right _ (List.mem_append_right _ (h)))))
set_option maxRecDepth 20000 in
theorem g_m_X_agree_m_allCourses : GoodIn v_m_X_agree (wsV RX7 249 RX7 yX7_allCourses v_m_allCourses) := g_rows _ [87, 88, 89, 33, 86, 1, 2, 3, 4, 5, 6, 7, 8, 9, 10, 11, 12, 13, 14, 15, 16, 17, 18, 19, 20, 21, 22, 23, 24, 25, 26, 27, 28, 29, 30, 31, 32, 33, 34, 35, 36, 37, 38, 39, 40, 41, 42, 43, 44, 45, 46, 47, 48, 49, 50, 51, 52, 53, 54, 55, 56, 57, 58, 59, 60, 61, 62, 63, 64, 65, 66, 67, 68, 69, 70, 71, 72, 73, 74, 75, 76, 77, 78, 79, 80, 81, 82, 83, 84, 85, 102, 103, 104, 105, 106, 107, 108, 109, 110, 111, 112, 113, 114, 115, 116, 117, 118, 119, 120, 121, 122, 123, 124, 125, 126, 127, 128, 129, 130, 131, 132, 133, 134, 135, 136, 137, 138, 139, 140, 141, 142, 143, 144, 145, 146, 147, 148, 149, 150, 151, 152] rfl (by decide +kernel)
set_option maxRecDepth 20000 in
theorem g_m_X_agree_r2_sightingTrouble : GoodIn v_m_X_agree (wsV RX7 264 RX7 yX7_sightingTrouble v_r2_sightingTrouble) := g_rows _ [99, 100, 101, 33, 98, 90, 91, 92, 33, 18, 93, 94, 95, 96, 97, 102, 103, 104, 105, 106, 107, 108, 109, 110, 111, 112, 113, 114, 115, 126, 127, 128, 129, 130, 131, 132, 133, 134, 135, 136, 137] rfl (by decide +kernel)
set_option maxHeartbeats 2000000 in
set_option maxRecDepth 100000 in
theorem m_X_agree (l : Launch) (D : va_G) (E : Nat → ClassId) (sz : Nat) (h0 : Nat) (u : Nat → Nat) (a1 : Int32) : Met l yX7_agree v_m_X_agree ({ frames := 4, cells := 7, slots := 11786, locals := 92 }) (va_Pc [.ref h0, .int a1] (pre D E (wX E h0 u) sz)) (qI (S := Unit) (fun r _ => r = -2) (fun _ => []) D (va_A (wX E h0 u) sz)) 7 11786 (va_A (wX E h0 u) sz) := by
  refine c_int (cc := cX7_agree) (maxL := 4) (ret := (some .int)) (by decide) rfl (Nat.le_of_ble_eq_true rfl) ?_
  intro p e s m below meth c ls A ⟨hx, hb, hr, hts, hown, hlocks, hin, hml⟩ hP hK hD hN hA hS hl
  have hown : s.vm.findClass RX7 = some m.cls := hown
  have hl : lv_has ls 4 [(0, .ref h0), (1, .int a1)] := hl
  have hP := hP.sub (ws' := [(h0, .inr (7, [.ref (u 1), .int 0, .ref (u 2), .int 0, .int (-1), .ref (u 0), .ref (u 3), .ref (u 6), .ref (u 98), .int 0, .ref (u 7), .null, .int 0, .ref (u 15)])), (u 0, .inr (3, [.int 0, .int 0, .int 0, .int 0, .int 0, .int 0, .int 0, .int 0, .ref (u 24), .ref (u 25), .ref (u 26), .ref (u 27)])), (u 7, .inr (4, [.ref (u 8), .ref (u 9), .ref (u 10), .ref (u 11), .ref (u 12), .int 0, .ref (u 13), .ref (u 14), .int 0, .null, .int 0, .int 0, .long 0, .int 0, .int 0])), (u 8, .inl (E 0, 40, .inl (fun _ => 0))), (u 9, .inl (E 0, 40, .inl (fun _ => 0))), (u 10, .inl (E 0, 41, .inl (fun _ => 0))), (u 11, .inl (E 0, 4, .inl (fun _ => 0))), (u 12, .inl (E 0, 4, .inl (fun _ => 0)))]) [0, 1, 8, 9, 10, 11, 12, 13] rfl
  have hD := hD.sub (ws' := [(h0, .inr (7, [.ref (u 1), .int 0, .ref (u 2), .int 0, .int (-1), .ref (u 0), .ref (u 3), .ref (u 6), .ref (u 98), .int 0, .ref (u 7), .null, .int 0, .ref (u 15)])), (u 0, .inr (3, [.int 0, .int 0, .int 0, .int 0, .int 0, .int 0, .int 0, .int 0, .ref (u 24), .ref (u 25), .ref (u 26), .ref (u 27)])), (u 7, .inr (4, [.ref (u 8), .ref (u 9), .ref (u 10), .ref (u 11), .ref (u 12), .int 0, .ref (u 13), .ref (u 14), .int 0, .null, .int 0, .int 0, .long 0, .int 0, .int 0])), (u 8, .inl (E 0, 40, .inl (fun _ => 0))), (u 9, .inl (E 0, 40, .inl (fun _ => 0))), (u 10, .inl (E 0, 41, .inl (fun _ => 0))), (u 11, .inl (E 0, 4, .inl (fun _ => 0))), (u 12, .inl (E 0, 4, .inl (fun _ => 0)))]) [0, 1, 8, 9, 10, 11, 12, 13] (by decide) rfl
  refine lv_aload_n hx hb dX7_agree_0 rfl (lv_at hl 0 rfl) ?_
  have hPc := hP.sub (ws' := [(h0, .inr (7, [.ref (u 1), .int 0, .ref (u 2), .int 0, .int (-1), .ref (u 0), .ref (u 3), .ref (u 6), .ref (u 98), .int 0, .ref (u 7), .null, .int 0, .ref (u 15)])), (u 0, .inr (3, [.int 0, .int 0, .int 0, .int 0, .int 0, .int 0, .int 0, .int 0, .ref (u 24), .ref (u 25), .ref (u 26), .ref (u 27)])), (u 7, .inr (4, [.ref (u 8), .ref (u 9), .ref (u 10), .ref (u 11), .ref (u 12), .int 0, .ref (u 13), .ref (u 14), .int 0, .null, .int 0, .int 0, .long 0, .int 0, .int 0])), (u 8, .inl (E 0, 40, .inl (fun _ => 0))), (u 9, .inl (E 0, 40, .inl (fun _ => 0))), (u 10, .inl (E 0, 41, .inl (fun _ => 0))), (u 11, .inl (E 0, 4, .inl (fun _ => 0))), (u 12, .inl (E 0, 4, .inl (fun _ => 0)))]) [0, 1, 2, 3, 4, 5, 6, 7] rfl
  have hDc := hD.sub (ws' := [(h0, .inr (7, [.ref (u 1), .int 0, .ref (u 2), .int 0, .int (-1), .ref (u 0), .ref (u 3), .ref (u 6), .ref (u 98), .int 0, .ref (u 7), .null, .int 0, .ref (u 15)])), (u 0, .inr (3, [.int 0, .int 0, .int 0, .int 0, .int 0, .int 0, .int 0, .int 0, .ref (u 24), .ref (u 25), .ref (u 26), .ref (u 27)])), (u 7, .inr (4, [.ref (u 8), .ref (u 9), .ref (u 10), .ref (u 11), .ref (u 12), .int 0, .ref (u 13), .ref (u 14), .int 0, .null, .int 0, .int 0, .long 0, .int 0, .int 0])), (u 8, .inl (E 0, 40, .inl (fun _ => 0))), (u 9, .inl (E 0, 40, .inl (fun _ => 0))), (u 10, .inl (E 0, 41, .inl (fun _ => 0))), (u 11, .inl (E 0, 4, .inl (fun _ => 0))), (u 12, .inl (E 0, 4, .inl (fun _ => 0)))]) [0, 1, 2, 3, 4, 5, 6, 7] (by decide) rfl
  refine k_r (wr := []) (va_runV (As := []) (rest := []) ⟨hx, hb, hml, hown, hts⟩ (m_allCourses l D E s.heap.size h0 u) (cwV 0 hts g_m_X_agree_m_allCourses rfl rfl rfl (by decide +kernel) ⟨Nat.le_of_ble_eq_true rfl, Nat.le_of_ble_eq_true rfl⟩) ⟨pre_blind, va_recv hK hPc (ci := 7) (q0 := 0) rfl rfl, pre_at hPc hK hDc hN⟩ rfl rfl hl.1 rfl (lv_room (Nat.le_of_ble_eq_true rfl)) dX7_agree_1 ⟨Nat.le_of_ble_eq_true rfl, Nat.le_of_ble_eq_true rfl⟩) hP hD hS hA [0, 1, 2, 3, 4, 5, 6, 7] [] rfl rfl (by decide +kernel) (by decide +kernel) (fun u_1 r_2 H locs hw hP hD hS => ?_)
  have hP : va_P D vwCl [(h0, .inr (7, [.ref (u 1), .int 0, .ref (u 2), .int 0, .int (-1), .ref (u 0), .ref (u 3), .ref (u 6), .ref (u 98), .int 0, .ref (u 7), .ref r_2, .int 1, .ref (u 15)])), (u 0, .inr (3, [.int 0, .int 0, .int 0, .int 0, .int 0, .int 0, .int 0, .int 0, .ref (u 24), .ref (u 25), .ref (u 26), .ref (u 27)]))] H := hP
  have hD : va_D A [(h0, .inr (7, [.ref (u 1), .int 0, .ref (u 2), .int 0, .int (-1), .ref (u 0), .ref (u 3), .ref (u 6), .ref (u 98), .int 0, .ref (u 7), .ref r_2, .int 1, .ref (u 15)])), (u 0, .inr (3, [.int 0, .int 0, .int 0, .int 0, .int 0, .int 0, .int 0, .int 0, .ref (u 24), .ref (u 25), .ref (u 26), .ref (u 27)]))] := hD
  refine lv_astore_n (lv' := [(2, .ref r_2), (0, .ref h0), (1, .int a1)]) hx hb dX7_agree_4 rfl hl (by decide) rfl (fun ls hl => ?_)
  refine lv_aload_n hx hb dX7_agree_5 rfl (lv_at hl 1 rfl) ?_
  refine lv_iload_n hx hb dX7_agree_6 rfl (lv_at hl 2 rfl) ?_
  refine lv_aload_n hx hb dX7_agree_7 rfl (lv_at hl 0 rfl) ?_
  refine vp_callSi (W.runV (As := [.int a1, .ref r_2]) (rest := []) ⟨hx, hb, hml, hown, hts⟩ (r2_sightingTrouble l D E H.size h0 r_2 u a1) (cwV 2 hts g_m_X_agree_r2_sightingTrouble rfl rfl rfl (by decide +kernel) ⟨Nat.le_of_ble_eq_true rfl, Nat.le_of_ble_eq_true rfl⟩) ⟨pre_blind, va_recv hK hP (ci := 7) (q0 := 0) rfl rfl, pre_at hP hK hD hN⟩ rfl rfl hl.1 rfl (lv_room (Nat.le_of_ble_eq_true rfl)) dX7_agree_8 ⟨Nat.le_of_ble_eq_true rfl, Nat.le_of_ble_eq_true rfl⟩) (fun r_3 er_3 => ?_)
  subst er_3
  refine lv_istore_n (lv' := [(3, .int (-2)), (2, .ref r_2), (0, .ref h0), (1, .int a1)]) hx hb dX7_agree_11 rfl hl (by decide) rfl (fun ls hl => ?_)
  refine lv_iload_n hx hb dX7_agree_12 rfl (lv_at hl 0 rfl) ?_
  refine lv_if_eq (tgt := 18) hx hb dX7_agree_13 (by decide) (fun h9 => absurd h9 (by decide)) (fun _ => ?_)
  refine lv_iload_n hx hb dX7_agree_16 rfl (lv_at hl 0 rfl) ?_
  refine W.widen (k := 7) (n := 11786) (Nat.le_of_ble_eq_true rfl) (Nat.le_of_ble_eq_true rfl) ?_
  exact e_i (v := (-2)) hx hb hr rfl (()) rfl p_nil d_nil hS hlocks dX7_agree_17

