theorem dX0_init_0 : decode cX0_init 0 = .ok (.aload_n 0, 1) := by decide +kernel
theorem dX0_init_1 : decode cX0_init 1 = .ok (.invokespecial 3, 3) := by decide +kernel
theorem dX0_init_4 : decode cX0_init 4 = .ok (.aload_n 0, 1) := by decide +kernel
theorem dX0_init_5 : decode cX0_init 5 = .ok (.bipush 100, 2) := by decide +kernel
theorem dX0_init_7 : decode cX0_init 7 = .ok (.newarray .int, 2) := by decide +kernel
theorem dX0_init_9 : decode cX0_init 9 = .ok (.putfield 9, 3) := by decide +kernel
theorem dX0_init_12 : decode cX0_init 12 = .ok (.aload_n 0, 1) := by decide +kernel
theorem dX0_init_13 : decode cX0_init 13 = .ok (.bipush 100, 2) := by decide +kernel
theorem dX0_init_15 : decode cX0_init 15 = .ok (.newarray .int, 2) := by decide +kernel
theorem dX0_init_17 : decode cX0_init 17 = .ok (.putfield 15, 3) := by decide +kernel
theorem dX0_init_20 : decode cX0_init 20 = .ok (.aload_n 0, 1) := by decide +kernel
theorem dX0_init_21 : decode cX0_init 21 = .ok (.bipush 100, 2) := by decide +kernel
theorem dX0_init_23 : decode cX0_init 23 = .ok (.newarray .int, 2) := by decide +kernel
theorem dX0_init_25 : decode cX0_init 25 = .ok (.putfield 18, 3) := by decide +kernel
theorem dX0_init_28 : decode cX0_init 28 = .ok (.aload_n 0, 1) := by decide +kernel
theorem dX0_init_29 : decode cX0_init 29 = .ok (.bipush 100, 2) := by decide +kernel
theorem dX0_init_31 : decode cX0_init 31 = .ok (.newarray .int, 2) := by decide +kernel
theorem dX0_init_33 : decode cX0_init 33 = .ok (.putfield 21, 3) := by decide +kernel
theorem dX0_init_36 : decode cX0_init 36 = .ok (.aload_n 0, 1) := by decide +kernel
theorem dX0_init_37 : decode cX0_init 37 = .ok (.bipush 100, 2) := by decide +kernel
theorem dX0_init_39 : decode cX0_init 39 = .ok (.newarray .int, 2) := by decide +kernel
theorem dX0_init_41 : decode cX0_init 41 = .ok (.putfield 24, 3) := by decide +kernel
theorem dX0_init_44 : decode cX0_init 44 = .ok (.aload_n 0, 1) := by decide +kernel
theorem dX0_init_45 : decode cX0_init 45 = .ok (.bipush 100, 2) := by decide +kernel
theorem dX0_init_47 : decode cX0_init 47 = .ok (.newarray .int, 2) := by decide +kernel
theorem dX0_init_49 : decode cX0_init 49 = .ok (.putfield 27, 3) := by decide +kernel
theorem dX0_init_52 : decode cX0_init 52 = .ok (.aload_n 0, 1) := by decide +kernel
theorem dX0_init_53 : decode cX0_init 53 = .ok (.bipush 100, 2) := by decide +kernel
theorem dX0_init_55 : decode cX0_init 55 = .ok (.newarray .int, 2) := by decide +kernel
theorem dX0_init_57 : decode cX0_init 57 = .ok (.putfield 30, 3) := by decide +kernel
theorem dX0_init_60 : decode cX0_init 60 = .ok (.aload_n 0, 1) := by decide +kernel
theorem dX0_init_61 : decode cX0_init 61 = .ok (.bipush 100, 2) := by decide +kernel
theorem dX0_init_63 : decode cX0_init 63 = .ok (.newarray .long, 2) := by decide +kernel
theorem dX0_init_65 : decode cX0_init 65 = .ok (.putfield 33, 3) := by decide +kernel
theorem dX0_init_68 : decode cX0_init 68 = .ok (.aload_n 0, 1) := by decide +kernel
theorem dX0_init_69 : decode cX0_init 69 = .ok (.bipush 100, 2) := by decide +kernel
theorem dX0_init_71 : decode cX0_init 71 = .ok (.newarray .long, 2) := by decide +kernel
theorem dX0_init_73 : decode cX0_init 73 = .ok (.putfield 37, 3) := by decide +kernel
theorem dX0_init_76 : decode cX0_init 76 = .ok (.aload_n 0, 1) := by decide +kernel
theorem dX0_init_77 : decode cX0_init 77 = .ok (.iconst 0, 1) := by decide +kernel
theorem dX0_init_78 : decode cX0_init 78 = .ok (.iconst (-1), 1) := by decide +kernel
theorem dX0_init_79 : decode cX0_init 79 = .ok (.iconst (-1), 1) := by decide +kernel
theorem dX0_init_80 : decode cX0_init 80 = .ok (.invokevirtual 40, 3) := by decide +kernel
theorem dX0_init_83 : decode cX0_init 83 = .ok (.pop, 1) := by decide +kernel
theorem dX0_init_84 : decode cX0_init 84 = .ok (.return_, 1) := by decide +kernel
theorem dX0_addChange_0 : decode cX0_addChange 0 = .ok (.aload_n 0, 1) := by decide +kernel
theorem dX0_addChange_1 : decode cX0_addChange 1 = .ok (.iconst 1, 1) := by decide +kernel
theorem dX0_addChange_2 : decode cX0_addChange 2 = .ok (.iload_n 1, 1) := by decide +kernel
theorem dX0_addChange_3 : decode cX0_addChange 3 = .ok (.iconst (-1), 1) := by decide +kernel
theorem dX0_addChange_4 : decode cX0_addChange 4 = .ok (.invokevirtual 40, 3) := by decide +kernel
theorem dX0_addChange_7 : decode cX0_addChange 7 = .ok (.istore 4, 2) := by decide +kernel
theorem dX0_addChange_9 : decode cX0_addChange 9 = .ok (.aload_n 0, 1) := by decide +kernel
theorem dX0_addChange_10 : decode cX0_addChange 10 = .ok (.getfield 21, 3) := by decide +kernel
theorem dX0_addChange_13 : decode cX0_addChange 13 = .ok (.iload 4, 2) := by decide +kernel
theorem dX0_addChange_15 : decode cX0_addChange 15 = .ok (.iload_n 2, 1) := by decide +kernel
theorem dX0_addChange_16 : decode cX0_addChange 16 = .ok (.iastore, 1) := by decide +kernel
theorem dX0_addChange_17 : decode cX0_addChange 17 = .ok (.aload_n 0, 1) := by decide +kernel
theorem dX0_addChange_18 : decode cX0_addChange 18 = .ok (.getfield 24, 3) := by decide +kernel
theorem dX0_addChange_21 : decode cX0_addChange 21 = .ok (.iload 4, 2) := by decide +kernel
theorem dX0_addChange_23 : decode cX0_addChange 23 = .ok (.iload_n 3, 1) := by decide +kernel
theorem dX0_addChange_24 : decode cX0_addChange 24 = .ok (.iastore, 1) := by decide +kernel
theorem dX0_addChange_25 : decode cX0_addChange 25 = .ok (.iload 4, 2) := by decide +kernel
theorem dX0_addChange_27 : decode cX0_addChange 27 = .ok (.ireturn, 1) := by decide +kernel
theorem dX0_addMerge_0 : decode cX0_addMerge 0 = .ok (.aload_n 0, 1) := by decide +kernel
theorem dX0_addMerge_1 : decode cX0_addMerge 1 = .ok (.iconst 2, 1) := by decide +kernel
theorem dX0_addMerge_2 : decode cX0_addMerge 2 = .ok (.iload_n 1, 1) := by decide +kernel
theorem dX0_addMerge_3 : decode cX0_addMerge 3 = .ok (.iload_n 2, 1) := by decide +kernel
theorem dX0_addMerge_4 : decode cX0_addMerge 4 = .ok (.invokevirtual 40, 3) := by decide +kernel
theorem dX0_addMerge_7 : decode cX0_addMerge 7 = .ok (.istore 4, 2) := by decide +kernel
theorem dX0_addMerge_9 : decode cX0_addMerge 9 = .ok (.aload_n 0, 1) := by decide +kernel
theorem dX0_addMerge_10 : decode cX0_addMerge 10 = .ok (.getfield 30, 3) := by decide +kernel
theorem dX0_addMerge_13 : decode cX0_addMerge 13 = .ok (.iload 4, 2) := by decide +kernel
theorem dX0_addMerge_15 : decode cX0_addMerge 15 = .ok (.iload_n 3, 1) := by decide +kernel
theorem dX0_addMerge_16 : decode cX0_addMerge 16 = .ok (.iastore, 1) := by decide +kernel
theorem dX0_addMerge_17 : decode cX0_addMerge 17 = .ok (.iload 4, 2) := by decide +kernel
theorem dX0_addMerge_19 : decode cX0_addMerge 19 = .ok (.ireturn, 1) := by decide +kernel
theorem dX0_addPick_0 : decode cX0_addPick 0 = .ok (.aload_n 0, 1) := by decide +kernel
theorem dX0_addPick_1 : decode cX0_addPick 1 = .ok (.iconst 3, 1) := by decide +kernel
theorem dX0_addPick_2 : decode cX0_addPick 2 = .ok (.iload_n 1, 1) := by decide +kernel
theorem dX0_addPick_3 : decode cX0_addPick 3 = .ok (.iconst (-1), 1) := by decide +kernel
theorem dX0_addPick_4 : decode cX0_addPick 4 = .ok (.invokevirtual 40, 3) := by decide +kernel
theorem dX0_addPick_7 : decode cX0_addPick 7 = .ok (.istore_n 3, 1) := by decide +kernel
theorem dX0_addPick_8 : decode cX0_addPick 8 = .ok (.aload_n 0, 1) := by decide +kernel
theorem dX0_addPick_9 : decode cX0_addPick 9 = .ok (.getfield 27, 3) := by decide +kernel
theorem dX0_addPick_12 : decode cX0_addPick 12 = .ok (.iload_n 3, 1) := by decide +kernel
theorem dX0_addPick_13 : decode cX0_addPick 13 = .ok (.iload_n 2, 1) := by decide +kernel
theorem dX0_addPick_14 : decode cX0_addPick 14 = .ok (.iastore, 1) := by decide +kernel
theorem dX0_addPick_15 : decode cX0_addPick 15 = .ok (.iload_n 3, 1) := by decide +kernel
theorem dX0_addPick_16 : decode cX0_addPick 16 = .ok (.ireturn, 1) := by decide +kernel
theorem dX0_addLine_0 : decode cX0_addLine 0 = .ok (.aload_n 0, 1) := by decide +kernel
theorem dX0_addLine_1 : decode cX0_addLine 1 = .ok (.getfield 44, 3) := by decide +kernel
theorem dX0_addLine_4 : decode cX0_addLine 4 = .ok (.istore 4, 2) := by decide +kernel
theorem dX0_addLine_6 : decode cX0_addLine 6 = .ok (.aload_n 0, 1) := by decide +kernel
theorem dX0_addLine_7 : decode cX0_addLine 7 = .ok (.getfield 9, 3) := by decide +kernel
theorem dX0_addLine_10 : decode cX0_addLine 10 = .ok (.iload 4, 2) := by decide +kernel
theorem dX0_addLine_12 : decode cX0_addLine 12 = .ok (.iload_n 1, 1) := by decide +kernel
theorem dX0_addLine_13 : decode cX0_addLine 13 = .ok (.iastore, 1) := by decide +kernel
theorem dX0_addLine_14 : decode cX0_addLine 14 = .ok (.aload_n 0, 1) := by decide +kernel
theorem dX0_addLine_15 : decode cX0_addLine 15 = .ok (.getfield 15, 3) := by decide +kernel
theorem dX0_addLine_18 : decode cX0_addLine 18 = .ok (.iload 4, 2) := by decide +kernel
theorem dX0_addLine_20 : decode cX0_addLine 20 = .ok (.iload_n 2, 1) := by decide +kernel
theorem dX0_addLine_21 : decode cX0_addLine 21 = .ok (.iastore, 1) := by decide +kernel
theorem dX0_addLine_22 : decode cX0_addLine 22 = .ok (.aload_n 0, 1) := by decide +kernel
theorem dX0_addLine_23 : decode cX0_addLine 23 = .ok (.getfield 18, 3) := by decide +kernel
theorem dX0_addLine_26 : decode cX0_addLine 26 = .ok (.iload 4, 2) := by decide +kernel
theorem dX0_addLine_28 : decode cX0_addLine 28 = .ok (.iload_n 3, 1) := by decide +kernel
theorem dX0_addLine_29 : decode cX0_addLine 29 = .ok (.iastore, 1) := by decide +kernel
theorem dX0_addLine_30 : decode cX0_addLine 30 = .ok (.aload_n 0, 1) := by decide +kernel
theorem dX0_addLine_31 : decode cX0_addLine 31 = .ok (.getfield 33, 3) := by decide +kernel
theorem dX0_addLine_34 : decode cX0_addLine 34 = .ok (.iload 4, 2) := by decide +kernel
theorem dX0_addLine_36 : decode cX0_addLine 36 = .ok (.iload 4, 2) := by decide +kernel
theorem dX0_addLine_38 : decode cX0_addLine 38 = .ok (.invokestatic 48, 3) := by decide +kernel
theorem dX0_addLine_41 : decode cX0_addLine 41 = .ok (.lastore, 1) := by decide +kernel
theorem dX0_addLine_42 : decode cX0_addLine 42 = .ok (.aload_n 0, 1) := by decide +kernel
theorem dX0_addLine_43 : decode cX0_addLine 43 = .ok (.getfield 37, 3) := by decide +kernel
theorem dX0_addLine_46 : decode cX0_addLine 46 = .ok (.iload 4, 2) := by decide +kernel
theorem dX0_addLine_48 : decode cX0_addLine 48 = .ok (.iload 4, 2) := by decide +kernel
theorem dX0_addLine_50 : decode cX0_addLine 50 = .ok (.invokestatic 52, 3) := by decide +kernel
theorem dX0_addLine_53 : decode cX0_addLine 53 = .ok (.lastore, 1) := by decide +kernel
theorem dX0_addLine_54 : decode cX0_addLine 54 = .ok (.aload_n 0, 1) := by decide +kernel
theorem dX0_addLine_55 : decode cX0_addLine 55 = .ok (.iload 4, 2) := by decide +kernel
theorem dX0_addLine_57 : decode cX0_addLine 57 = .ok (.iload_n 2, 1) := by decide +kernel
theorem dX0_addLine_58 : decode cX0_addLine 58 = .ok (.invokevirtual 55, 3) := by decide +kernel
theorem dX0_addLine_61 : decode cX0_addLine 61 = .ok (.aload_n 0, 1) := by decide +kernel
theorem dX0_addLine_62 : decode cX0_addLine 62 = .ok (.iload 4, 2) := by decide +kernel
theorem dX0_addLine_64 : decode cX0_addLine 64 = .ok (.iload_n 3, 1) := by decide +kernel
theorem dX0_addLine_65 : decode cX0_addLine 65 = .ok (.invokevirtual 55, 3) := by decide +kernel
theorem dX0_addLine_68 : decode cX0_addLine 68 = .ok (.aload_n 0, 1) := by decide +kernel
theorem dX0_addLine_69 : decode cX0_addLine 69 = .ok (.dup, 1) := by decide +kernel
theorem dX0_addLine_70 : decode cX0_addLine 70 = .ok (.getfield 44, 3) := by decide +kernel
theorem dX0_addLine_73 : decode cX0_addLine 73 = .ok (.iconst 1, 1) := by decide +kernel
theorem dX0_addLine_74 : decode cX0_addLine 74 = .ok (.iadd, 1) := by decide +kernel
theorem dX0_addLine_75 : decode cX0_addLine 75 = .ok (.putfield 44, 3) := by decide +kernel
theorem dX0_addLine_78 : decode cX0_addLine 78 = .ok (.iload 4, 2) := by decide +kernel
theorem dX0_addLine_80 : decode cX0_addLine 80 = .ok (.ireturn, 1) := by decide +kernel
theorem dX0_addAncestorsOf_0 : decode cX0_addAncestorsOf 0 = .ok (.iload_n 2, 1) := by decide +kernel
theorem dX0_addAncestorsOf_1 : decode cX0_addAncestorsOf 1 = .ok (.iconst (-1), 1) := by decide +kernel
theorem dX0_addAncestorsOf_2 : decode cX0_addAncestorsOf 2 = .ok (.if_icmp .eq 33, 3) := by decide +kernel
theorem dX0_addAncestorsOf_5 : decode cX0_addAncestorsOf 5 = .ok (.aload_n 0, 1) := by decide +kernel
theorem dX0_addAncestorsOf_6 : decode cX0_addAncestorsOf 6 = .ok (.getfield 33, 3) := by decide +kernel
theorem dX0_addAncestorsOf_9 : decode cX0_addAncestorsOf 9 = .ok (.iload_n 1, 1) := by decide +kernel
theorem dX0_addAncestorsOf_10 : decode cX0_addAncestorsOf 10 = .ok (.dup2, 1) := by decide +kernel
theorem dX0_addAncestorsOf_11 : decode cX0_addAncestorsOf 11 = .ok (.laload, 1) := by decide +kernel
theorem dX0_addAncestorsOf_12 : decode cX0_addAncestorsOf 12 = .ok (.aload_n 0, 1) := by decide +kernel
theorem dX0_addAncestorsOf_13 : decode cX0_addAncestorsOf 13 = .ok (.getfield 33, 3) := by decide +kernel
theorem dX0_addAncestorsOf_16 : decode cX0_addAncestorsOf 16 = .ok (.iload_n 2, 1) := by decide +kernel
theorem dX0_addAncestorsOf_17 : decode cX0_addAncestorsOf 17 = .ok (.laload, 1) := by decide +kernel
theorem dX0_addAncestorsOf_18 : decode cX0_addAncestorsOf 18 = .ok (.lor, 1) := by decide +kernel
theorem dX0_addAncestorsOf_19 : decode cX0_addAncestorsOf 19 = .ok (.lastore, 1) := by decide +kernel
theorem dX0_addAncestorsOf_20 : decode cX0_addAncestorsOf 20 = .ok (.aload_n 0, 1) := by decide +kernel
theorem dX0_addAncestorsOf_21 : decode cX0_addAncestorsOf 21 = .ok (.getfield 37, 3) := by decide +kernel
theorem dX0_addAncestorsOf_24 : decode cX0_addAncestorsOf 24 = .ok (.iload_n 1, 1) := by decide +kernel
theorem dX0_addAncestorsOf_25 : decode cX0_addAncestorsOf 25 = .ok (.dup2, 1) := by decide +kernel
theorem dX0_addAncestorsOf_26 : decode cX0_addAncestorsOf 26 = .ok (.laload, 1) := by decide +kernel
theorem dX0_addAncestorsOf_27 : decode cX0_addAncestorsOf 27 = .ok (.aload_n 0, 1) := by decide +kernel
theorem dX0_addAncestorsOf_28 : decode cX0_addAncestorsOf 28 = .ok (.getfield 37, 3) := by decide +kernel
theorem dX0_addAncestorsOf_31 : decode cX0_addAncestorsOf 31 = .ok (.iload_n 2, 1) := by decide +kernel
theorem dX0_addAncestorsOf_32 : decode cX0_addAncestorsOf 32 = .ok (.laload, 1) := by decide +kernel
theorem dX0_addAncestorsOf_33 : decode cX0_addAncestorsOf 33 = .ok (.lor, 1) := by decide +kernel
theorem dX0_addAncestorsOf_34 : decode cX0_addAncestorsOf 34 = .ok (.lastore, 1) := by decide +kernel
theorem dX0_addAncestorsOf_35 : decode cX0_addAncestorsOf 35 = .ok (.return_, 1) := by decide +kernel
theorem dX0_parentCount_0 : decode cX0_parentCount 0 = .ok (.aload_n 0, 1) := by decide +kernel
theorem dX0_parentCount_1 : decode cX0_parentCount 1 = .ok (.getfield 15, 3) := by decide +kernel
theorem dX0_parentCount_4 : decode cX0_parentCount 4 = .ok (.iload_n 1, 1) := by decide +kernel
theorem dX0_parentCount_5 : decode cX0_parentCount 5 = .ok (.iaload, 1) := by decide +kernel
theorem dX0_parentCount_6 : decode cX0_parentCount 6 = .ok (.iconst (-1), 1) := by decide +kernel
theorem dX0_parentCount_7 : decode cX0_parentCount 7 = .ok (.if_icmp .ne 5, 3) := by decide +kernel
theorem dX0_parentCount_10 : decode cX0_parentCount 10 = .ok (.iconst 0, 1) := by decide +kernel
theorem dX0_parentCount_11 : decode cX0_parentCount 11 = .ok (.ireturn, 1) := by decide +kernel
theorem dX0_parentCount_12 : decode cX0_parentCount 12 = .ok (.aload_n 0, 1) := by decide +kernel
theorem dX0_parentCount_13 : decode cX0_parentCount 13 = .ok (.getfield 18, 3) := by decide +kernel
theorem dX0_parentCount_16 : decode cX0_parentCount 16 = .ok (.iload_n 1, 1) := by decide +kernel
theorem dX0_parentCount_17 : decode cX0_parentCount 17 = .ok (.iaload, 1) := by decide +kernel
theorem dX0_parentCount_18 : decode cX0_parentCount 18 = .ok (.iconst (-1), 1) := by decide +kernel
theorem dX0_parentCount_19 : decode cX0_parentCount 19 = .ok (.if_icmp .ne 7, 3) := by decide +kernel
theorem dX0_parentCount_22 : decode cX0_parentCount 22 = .ok (.iconst 1, 1) := by decide +kernel
theorem dX0_parentCount_23 : decode cX0_parentCount 23 = .ok (.goto 4, 3) := by decide +kernel
theorem dX0_parentCount_26 : decode cX0_parentCount 26 = .ok (.iconst 2, 1) := by decide +kernel
theorem dX0_parentCount_27 : decode cX0_parentCount 27 = .ok (.ireturn, 1) := by decide +kernel
theorem dX0_descends_0 : decode cX0_descends 0 = .ok (.aload_n 0, 1) := by decide +kernel
theorem dX0_descends_1 : decode cX0_descends 1 = .ok (.getfield 33, 3) := by decide +kernel
theorem dX0_descends_4 : decode cX0_descends 4 = .ok (.iload_n 1, 1) := by decide +kernel
theorem dX0_descends_5 : decode cX0_descends 5 = .ok (.laload, 1) := by decide +kernel
theorem dX0_descends_6 : decode cX0_descends 6 = .ok (.aload_n 0, 1) := by decide +kernel
theorem dX0_descends_7 : decode cX0_descends 7 = .ok (.getfield 37, 3) := by decide +kernel
theorem dX0_descends_10 : decode cX0_descends 10 = .ok (.iload_n 1, 1) := by decide +kernel
theorem dX0_descends_11 : decode cX0_descends 11 = .ok (.laload, 1) := by decide +kernel
theorem dX0_descends_12 : decode cX0_descends 12 = .ok (.iload_n 2, 1) := by decide +kernel
theorem dX0_descends_13 : decode cX0_descends 13 = .ok (.invokestatic 59, 3) := by decide +kernel
theorem dX0_descends_16 : decode cX0_descends 16 = .ok (.ireturn, 1) := by decide +kernel
theorem dX0_greatestShared_0 : decode cX0_greatestShared 0 = .ok (.aload_n 0, 1) := by decide +kernel
theorem dX0_greatestShared_1 : decode cX0_greatestShared 1 = .ok (.getfield 33, 3) := by decide +kernel
theorem dX0_greatestShared_4 : decode cX0_greatestShared 4 = .ok (.iload_n 1, 1) := by decide +kernel
theorem dX0_greatestShared_5 : decode cX0_greatestShared 5 = .ok (.laload, 1) := by decide +kernel
theorem dX0_greatestShared_6 : decode cX0_greatestShared 6 = .ok (.aload_n 0, 1) := by decide +kernel
theorem dX0_greatestShared_7 : decode cX0_greatestShared 7 = .ok (.getfield 33, 3) := by decide +kernel
theorem dX0_greatestShared_10 : decode cX0_greatestShared 10 = .ok (.iload_n 2, 1) := by decide +kernel
theorem dX0_greatestShared_11 : decode cX0_greatestShared 11 = .ok (.laload, 1) := by decide +kernel
theorem dX0_greatestShared_12 : decode cX0_greatestShared 12 = .ok (.land, 1) := by decide +kernel
theorem dX0_greatestShared_13 : decode cX0_greatestShared 13 = .ok (.lstore_n 3, 1) := by decide +kernel
theorem dX0_greatestShared_14 : decode cX0_greatestShared 14 = .ok (.aload_n 0, 1) := by decide +kernel
theorem dX0_greatestShared_15 : decode cX0_greatestShared 15 = .ok (.getfield 37, 3) := by decide +kernel
theorem dX0_greatestShared_18 : decode cX0_greatestShared 18 = .ok (.iload_n 1, 1) := by decide +kernel
theorem dX0_greatestShared_19 : decode cX0_greatestShared 19 = .ok (.laload, 1) := by decide +kernel
theorem dX0_greatestShared_20 : decode cX0_greatestShared 20 = .ok (.aload_n 0, 1) := by decide +kernel
theorem dX0_greatestShared_21 : decode cX0_greatestShared 21 = .ok (.getfield 37, 3) := by decide +kernel
theorem dX0_greatestShared_24 : decode cX0_greatestShared 24 = .ok (.iload_n 2, 1) := by decide +kernel
theorem dX0_greatestShared_25 : decode cX0_greatestShared 25 = .ok (.laload, 1) := by decide +kernel
theorem dX0_greatestShared_26 : decode cX0_greatestShared 26 = .ok (.land, 1) := by decide +kernel
theorem dX0_greatestShared_27 : decode cX0_greatestShared 27 = .ok (.lstore 5, 2) := by decide +kernel
theorem dX0_greatestShared_29 : decode cX0_greatestShared 29 = .ok (.iload_n 1, 1) := by decide +kernel
theorem dX0_greatestShared_30 : decode cX0_greatestShared 30 = .ok (.iload_n 2, 1) := by decide +kernel
theorem dX0_greatestShared_31 : decode cX0_greatestShared 31 = .ok (.invokestatic 63, 3) := by decide +kernel
theorem dX0_greatestShared_34 : decode cX0_greatestShared 34 = .ok (.istore 7, 2) := by decide +kernel
theorem dX0_greatestShared_36 : decode cX0_greatestShared 36 = .ok (.iload 7, 2) := by decide +kernel
theorem dX0_greatestShared_38 : decode cX0_greatestShared 38 = .ok (.ifCond .le 23, 3) := by decide +kernel
theorem dX0_greatestShared_41 : decode cX0_greatestShared 41 = .ok (.lload_n 3, 1) := by decide +kernel
theorem dX0_greatestShared_42 : decode cX0_greatestShared 42 = .ok (.lload 5, 2) := by decide +kernel
theorem dX0_greatestShared_44 : decode cX0_greatestShared 44 = .ok (.iload 7, 2) := by decide +kernel
theorem dX0_greatestShared_46 : decode cX0_greatestShared 46 = .ok (.invokestatic 59, 3) := by decide +kernel
theorem dX0_greatestShared_49 : decode cX0_greatestShared 49 = .ok (.ifCond .eq 6, 3) := by decide +kernel
theorem dX0_greatestShared_52 : decode cX0_greatestShared 52 = .ok (.iload 7, 2) := by decide +kernel
theorem dX0_greatestShared_54 : decode cX0_greatestShared 54 = .ok (.ireturn, 1) := by decide +kernel
theorem dX0_greatestShared_55 : decode cX0_greatestShared 55 = .ok (.iinc 7 (-1), 3) := by decide +kernel
theorem dX0_greatestShared_58 : decode cX0_greatestShared 58 = .ok (.goto (-22), 3) := by decide +kernel
theorem dX0_greatestShared_61 : decode cX0_greatestShared 61 = .ok (.iconst 0, 1) := by decide +kernel
theorem dX0_greatestShared_62 : decode cX0_greatestShared 62 = .ok (.ireturn, 1) := by decide +kernel
theorem dX1_init_0 : decode cX1_init 0 = .ok (.aload_n 0, 1) := by decide +kernel
theorem dX1_init_1 : decode cX1_init 1 = .ok (.invokespecial 3, 3) := by decide +kernel
theorem dX1_init_4 : decode cX1_init 4 = .ok (.aload_n 0, 1) := by decide +kernel
theorem dX1_init_5 : decode cX1_init 5 = .ok (.bipush 100, 2) := by decide +kernel
theorem dX1_init_7 : decode cX1_init 7 = .ok (.newarray .int, 2) := by decide +kernel
theorem dX1_init_9 : decode cX1_init 9 = .ok (.putfield 9, 3) := by decide +kernel
theorem dX1_init_12 : decode cX1_init 12 = .ok (.aload_n 0, 1) := by decide +kernel
theorem dX1_init_13 : decode cX1_init 13 = .ok (.bipush 100, 2) := by decide +kernel
theorem dX1_init_15 : decode cX1_init 15 = .ok (.newarray .int, 2) := by decide +kernel
theorem dX1_init_17 : decode cX1_init 17 = .ok (.putfield 15, 3) := by decide +kernel
theorem dX1_init_20 : decode cX1_init 20 = .ok (.aload_n 0, 1) := by decide +kernel
theorem dX1_init_21 : decode cX1_init 21 = .ok (.getfield 9, 3) := by decide +kernel
theorem dX1_init_24 : decode cX1_init 24 = .ok (.iconst 0, 1) := by decide +kernel
theorem dX1_init_25 : decode cX1_init 25 = .ok (.sipush (-1000), 3) := by decide +kernel
theorem dX1_init_28 : decode cX1_init 28 = .ok (.iastore, 1) := by decide +kernel
theorem dX1_init_29 : decode cX1_init 29 = .ok (.aload_n 0, 1) := by decide +kernel
theorem dX1_init_30 : decode cX1_init 30 = .ok (.iconst 1, 1) := by decide +kernel
theorem dX1_init_31 : decode cX1_init 31 = .ok (.putfield 18, 3) := by decide +kernel
theorem dX1_init_34 : decode cX1_init 34 = .ok (.return_, 1) := by decide +kernel
theorem dX1_numberOf_0 : decode cX1_numberOf 0 = .ok (.iconst 0, 1) := by decide +kernel
theorem dX1_numberOf_1 : decode cX1_numberOf 1 = .ok (.istore_n 2, 1) := by decide +kernel
theorem dX1_numberOf_2 : decode cX1_numberOf 2 = .ok (.iload_n 2, 1) := by decide +kernel
theorem dX1_numberOf_3 : decode cX1_numberOf 3 = .ok (.aload_n 0, 1) := by decide +kernel
theorem dX1_numberOf_4 : decode cX1_numberOf 4 = .ok (.getfield 18, 3) := by decide +kernel
theorem dX1_numberOf_7 : decode cX1_numberOf 7 = .ok (.if_icmp .ge 21, 3) := by decide +kernel
theorem dX1_numberOf_10 : decode cX1_numberOf 10 = .ok (.aload_n 0, 1) := by decide +kernel
theorem dX1_numberOf_11 : decode cX1_numberOf 11 = .ok (.getfield 9, 3) := by decide +kernel
theorem dX1_numberOf_14 : decode cX1_numberOf 14 = .ok (.iload_n 2, 1) := by decide +kernel
theorem dX1_numberOf_15 : decode cX1_numberOf 15 = .ok (.iaload, 1) := by decide +kernel
theorem dX1_numberOf_16 : decode cX1_numberOf 16 = .ok (.iload_n 1, 1) := by decide +kernel
theorem dX1_numberOf_17 : decode cX1_numberOf 17 = .ok (.if_icmp .ne 5, 3) := by decide +kernel
theorem dX1_numberOf_20 : decode cX1_numberOf 20 = .ok (.iload_n 2, 1) := by decide +kernel
theorem dX1_numberOf_21 : decode cX1_numberOf 21 = .ok (.ireturn, 1) := by decide +kernel
theorem dX1_numberOf_22 : decode cX1_numberOf 22 = .ok (.iinc 2 1, 3) := by decide +kernel
theorem dX1_numberOf_25 : decode cX1_numberOf 25 = .ok (.goto (-23), 3) := by decide +kernel
theorem dX1_numberOf_28 : decode cX1_numberOf 28 = .ok (.aload_n 0, 1) := by decide +kernel
theorem dX1_numberOf_29 : decode cX1_numberOf 29 = .ok (.getfield 18, 3) := by decide +kernel
theorem dX1_numberOf_32 : decode cX1_numberOf 32 = .ok (.bipush 100, 2) := by decide +kernel
theorem dX1_numberOf_34 : decode cX1_numberOf 34 = .ok (.if_icmp .ge 11, 3) := by decide +kernel
theorem dX1_numberOf_37 : decode cX1_numberOf 37 = .ok (.aload_n 0, 1) := by decide +kernel
theorem dX1_numberOf_38 : decode cX1_numberOf 38 = .ok (.iload_n 1, 1) := by decide +kernel
theorem dX1_numberOf_39 : decode cX1_numberOf 39 = .ok (.invokevirtual 22, 3) := by decide +kernel
theorem dX1_numberOf_42 : decode cX1_numberOf 42 = .ok (.goto 4, 3) := by decide +kernel
theorem dX1_numberOf_45 : decode cX1_numberOf 45 = .ok (.iconst 0, 1) := by decide +kernel
theorem dX1_numberOf_46 : decode cX1_numberOf 46 = .ok (.ireturn, 1) := by decide +kernel
theorem dX1_numberInOrder_0 : decode cX1_numberInOrder 0 = .ok (.aload_n 0, 1) := by decide +kernel
theorem dX1_numberInOrder_1 : decode cX1_numberInOrder 1 = .ok (.getfield 15, 3) := by decide +kernel
theorem dX1_numberInOrder_4 : decode cX1_numberInOrder 4 = .ok (.iload_n 1, 1) := by decide +kernel
theorem dX1_numberInOrder_5 : decode cX1_numberInOrder 5 = .ok (.iaload, 1) := by decide +kernel
theorem dX1_numberInOrder_6 : decode cX1_numberInOrder 6 = .ok (.ireturn, 1) := by decide +kernel
theorem dX1_add_0 : decode cX1_add 0 = .ok (.aload_n 0, 1) := by decide +kernel
theorem dX1_add_1 : decode cX1_add 1 = .ok (.getfield 18, 3) := by decide +kernel
theorem dX1_add_4 : decode cX1_add 4 = .ok (.istore_n 2, 1) := by decide +kernel
theorem dX1_add_5 : decode cX1_add 5 = .ok (.iload_n 2, 1) := by decide +kernel
theorem dX1_add_6 : decode cX1_add 6 = .ok (.ifCond .le 40, 3) := by decide +kernel
theorem dX1_add_9 : decode cX1_add 9 = .ok (.aload_n 0, 1) := by decide +kernel
theorem dX1_add_10 : decode cX1_add 10 = .ok (.getfield 9, 3) := by decide +kernel
theorem dX1_add_13 : decode cX1_add 13 = .ok (.aload_n 0, 1) := by decide +kernel
theorem dX1_add_14 : decode cX1_add 14 = .ok (.getfield 15, 3) := by decide +kernel
theorem dX1_add_17 : decode cX1_add 17 = .ok (.iload_n 2, 1) := by decide +kernel
theorem dX1_add_18 : decode cX1_add 18 = .ok (.iconst 1, 1) := by decide +kernel
theorem dX1_add_19 : decode cX1_add 19 = .ok (.isub, 1) := by decide +kernel
theorem dX1_add_20 : decode cX1_add 20 = .ok (.iaload, 1) := by decide +kernel
theorem dX1_add_21 : decode cX1_add 21 = .ok (.iaload, 1) := by decide +kernel
theorem dX1_add_22 : decode cX1_add 22 = .ok (.iload_n 1, 1) := by decide +kernel
theorem dX1_add_23 : decode cX1_add 23 = .ok (.if_icmp .le 23, 3) := by decide +kernel
theorem dX1_add_26 : decode cX1_add 26 = .ok (.aload_n 0, 1) := by decide +kernel
theorem dX1_add_27 : decode cX1_add 27 = .ok (.getfield 15, 3) := by decide +kernel
theorem dX1_add_30 : decode cX1_add 30 = .ok (.iload_n 2, 1) := by decide +kernel
theorem dX1_add_31 : decode cX1_add 31 = .ok (.aload_n 0, 1) := by decide +kernel
theorem dX1_add_32 : decode cX1_add 32 = .ok (.getfield 15, 3) := by decide +kernel
theorem dX1_add_35 : decode cX1_add 35 = .ok (.iload_n 2, 1) := by decide +kernel
theorem dX1_add_36 : decode cX1_add 36 = .ok (.iconst 1, 1) := by decide +kernel
theorem dX1_add_37 : decode cX1_add 37 = .ok (.isub, 1) := by decide +kernel
theorem dX1_add_38 : decode cX1_add 38 = .ok (.iaload, 1) := by decide +kernel
theorem dX1_add_39 : decode cX1_add 39 = .ok (.iastore, 1) := by decide +kernel
theorem dX1_add_40 : decode cX1_add 40 = .ok (.iinc 2 (-1), 3) := by decide +kernel
theorem dX1_add_43 : decode cX1_add 43 = .ok (.goto (-38), 3) := by decide +kernel
theorem dX1_add_46 : decode cX1_add 46 = .ok (.aload_n 0, 1) := by decide +kernel
theorem dX1_add_47 : decode cX1_add 47 = .ok (.getfield 15, 3) := by decide +kernel
theorem dX1_add_50 : decode cX1_add 50 = .ok (.iload_n 2, 1) := by decide +kernel
theorem dX1_add_51 : decode cX1_add 51 = .ok (.aload_n 0, 1) := by decide +kernel
theorem dX1_add_52 : decode cX1_add 52 = .ok (.getfield 18, 3) := by decide +kernel
theorem dX1_add_55 : decode cX1_add 55 = .ok (.iastore, 1) := by decide +kernel
theorem dX1_add_56 : decode cX1_add 56 = .ok (.aload_n 0, 1) := by decide +kernel
theorem dX1_add_57 : decode cX1_add 57 = .ok (.getfield 9, 3) := by decide +kernel
theorem dX1_add_60 : decode cX1_add 60 = .ok (.aload_n 0, 1) := by decide +kernel
theorem dX1_add_61 : decode cX1_add 61 = .ok (.getfield 18, 3) := by decide +kernel
theorem dX1_add_64 : decode cX1_add 64 = .ok (.iload_n 1, 1) := by decide +kernel
theorem dX1_add_65 : decode cX1_add 65 = .ok (.iastore, 1) := by decide +kernel
theorem dX1_add_66 : decode cX1_add 66 = .ok (.aload_n 0, 1) := by decide +kernel
theorem dX1_add_67 : decode cX1_add 67 = .ok (.dup, 1) := by decide +kernel
theorem dX1_add_68 : decode cX1_add 68 = .ok (.getfield 18, 3) := by decide +kernel
theorem dX1_add_71 : decode cX1_add 71 = .ok (.iconst 1, 1) := by decide +kernel
theorem dX1_add_72 : decode cX1_add 72 = .ok (.iadd, 1) := by decide +kernel
theorem dX1_add_73 : decode cX1_add 73 = .ok (.putfield 18, 3) := by decide +kernel
theorem dX1_add_76 : decode cX1_add 76 = .ok (.aload_n 0, 1) := by decide +kernel
theorem dX1_add_77 : decode cX1_add 77 = .ok (.getfield 18, 3) := by decide +kernel
theorem dX1_add_80 : decode cX1_add 80 = .ok (.iconst 1, 1) := by decide +kernel
theorem dX1_add_81 : decode cX1_add 81 = .ok (.isub, 1) := by decide +kernel
theorem dX1_add_82 : decode cX1_add 82 = .ok (.ireturn, 1) := by decide +kernel
theorem dX2_init_0 : decode cX2_init 0 = .ok (.aload_n 0, 1) := by decide +kernel
theorem dX2_init_1 : decode cX2_init 1 = .ok (.invokespecial 3, 3) := by decide +kernel
theorem dX2_init_4 : decode cX2_init 4 = .ok (.aload_n 0, 1) := by decide +kernel
theorem dX2_init_5 : decode cX2_init 5 = .ok (.bipush 10, 2) := by decide +kernel
theorem dX2_init_7 : decode cX2_init 7 = .ok (.newarray .int, 2) := by decide +kernel
theorem dX2_init_9 : decode cX2_init 9 = .ok (.putfield 9, 3) := by decide +kernel
theorem dX2_init_12 : decode cX2_init 12 = .ok (.aload_n 0, 1) := by decide +kernel
theorem dX2_init_13 : decode cX2_init 13 = .ok (.bipush 10, 2) := by decide +kernel
theorem dX2_init_15 : decode cX2_init 15 = .ok (.newarray .int, 2) := by decide +kernel
theorem dX2_init_17 : decode cX2_init 17 = .ok (.putfield 15, 3) := by decide +kernel
theorem dX2_init_20 : decode cX2_init 20 = .ok (.aload_n 0, 1) := by decide +kernel
theorem dX2_init_21 : decode cX2_init 21 = .ok (.bipush 10, 2) := by decide +kernel
theorem dX2_init_23 : decode cX2_init 23 = .ok (.newarray .int, 2) := by decide +kernel
theorem dX2_init_25 : decode cX2_init 25 = .ok (.putfield 18, 3) := by decide +kernel
theorem dX2_init_28 : decode cX2_init 28 = .ok (.return_, 1) := by decide +kernel
theorem dX2_add_0 : decode cX2_add 0 = .ok (.aload_n 0, 1) := by decide +kernel
theorem dX2_add_1 : decode cX2_add 1 = .ok (.getfield 9, 3) := by decide +kernel
theorem dX2_add_4 : decode cX2_add 4 = .ok (.aload_n 0, 1) := by decide +kernel
theorem dX2_add_5 : decode cX2_add 5 = .ok (.getfield 21, 3) := by decide +kernel
theorem dX2_add_8 : decode cX2_add 8 = .ok (.iload_n 1, 1) := by decide +kernel
theorem dX2_add_9 : decode cX2_add 9 = .ok (.iastore, 1) := by decide +kernel
theorem dX2_add_10 : decode cX2_add 10 = .ok (.aload_n 0, 1) := by decide +kernel
theorem dX2_add_11 : decode cX2_add 11 = .ok (.getfield 15, 3) := by decide +kernel
theorem dX2_add_14 : decode cX2_add 14 = .ok (.aload_n 0, 1) := by decide +kernel
theorem dX2_add_15 : decode cX2_add 15 = .ok (.getfield 21, 3) := by decide +kernel
theorem dX2_add_18 : decode cX2_add 18 = .ok (.iload_n 2, 1) := by decide +kernel
theorem dX2_add_19 : decode cX2_add 19 = .ok (.iastore, 1) := by decide +kernel
theorem dX2_add_20 : decode cX2_add 20 = .ok (.aload_n 0, 1) := by decide +kernel
theorem dX2_add_21 : decode cX2_add 21 = .ok (.getfield 18, 3) := by decide +kernel
theorem dX2_add_24 : decode cX2_add 24 = .ok (.aload_n 0, 1) := by decide +kernel
theorem dX2_add_25 : decode cX2_add 25 = .ok (.getfield 21, 3) := by decide +kernel
theorem dX2_add_28 : decode cX2_add 28 = .ok (.iload_n 3, 1) := by decide +kernel
theorem dX2_add_29 : decode cX2_add 29 = .ok (.iastore, 1) := by decide +kernel
theorem dX2_add_30 : decode cX2_add 30 = .ok (.aload_n 0, 1) := by decide +kernel
theorem dX2_add_31 : decode cX2_add 31 = .ok (.dup, 1) := by decide +kernel
theorem dX2_add_32 : decode cX2_add 32 = .ok (.getfield 21, 3) := by decide +kernel
theorem dX2_add_35 : decode cX2_add 35 = .ok (.iconst 1, 1) := by decide +kernel
theorem dX2_add_36 : decode cX2_add 36 = .ok (.iadd, 1) := by decide +kernel
theorem dX2_add_37 : decode cX2_add 37 = .ok (.putfield 21, 3) := by decide +kernel
theorem dX2_add_40 : decode cX2_add 40 = .ok (.aload_n 0, 1) := by decide +kernel
theorem dX2_add_41 : decode cX2_add 41 = .ok (.getfield 21, 3) := by decide +kernel
theorem dX2_add_44 : decode cX2_add 44 = .ok (.iconst 1, 1) := by decide +kernel
theorem dX2_add_45 : decode cX2_add 45 = .ok (.isub, 1) := by decide +kernel
theorem dX2_add_46 : decode cX2_add 46 = .ok (.ireturn, 1) := by decide +kernel
theorem dX2_stateIn_0 : decode cX2_stateIn 0 = .ok (.aload_n 0, 1) := by decide +kernel
theorem dX2_stateIn_1 : decode cX2_stateIn 1 = .ok (.getfield 9, 3) := by decide +kernel
theorem dX2_stateIn_4 : decode cX2_stateIn 4 = .ok (.iload_n 1, 1) := by decide +kernel
theorem dX2_stateIn_5 : decode cX2_stateIn 5 = .ok (.iaload, 1) := by decide +kernel
theorem dX2_stateIn_6 : decode cX2_stateIn 6 = .ok (.istore 4, 2) := by decide +kernel
theorem dX2_stateIn_8 : decode cX2_stateIn 8 = .ok (.aload_n 0, 1) := by decide +kernel
theorem dX2_stateIn_9 : decode cX2_stateIn 9 = .ok (.getfield 15, 3) := by decide +kernel
theorem dX2_stateIn_12 : decode cX2_stateIn 12 = .ok (.iload_n 1, 1) := by decide +kernel
theorem dX2_stateIn_13 : decode cX2_stateIn 13 = .ok (.iaload, 1) := by decide +kernel
theorem dX2_stateIn_14 : decode cX2_stateIn 14 = .ok (.istore 5, 2) := by decide +kernel
theorem dX2_stateIn_16 : decode cX2_stateIn 16 = .ok (.aload_n 2, 1) := by decide +kernel
theorem dX2_stateIn_17 : decode cX2_stateIn 17 = .ok (.iload_n 3, 1) := by decide +kernel
theorem dX2_stateIn_18 : decode cX2_stateIn 18 = .ok (.iload 4, 2) := by decide +kernel
theorem dX2_stateIn_20 : decode cX2_stateIn 20 = .ok (.invokevirtual 25, 3) := by decide +kernel
theorem dX2_stateIn_23 : decode cX2_stateIn 23 = .ok (.iconst 1, 1) := by decide +kernel
theorem dX2_stateIn_24 : decode cX2_stateIn 24 = .ok (.if_icmp .gt 14, 3) := by decide +kernel
theorem dX2_stateIn_27 : decode cX2_stateIn 27 = .ok (.aload_n 2, 1) := by decide +kernel
theorem dX2_stateIn_28 : decode cX2_stateIn 28 = .ok (.iload_n 3, 1) := by decide +kernel
theorem dX2_stateIn_29 : decode cX2_stateIn 29 = .ok (.iload 5, 2) := by decide +kernel
theorem dX2_stateIn_31 : decode cX2_stateIn 31 = .ok (.invokevirtual 25, 3) := by decide +kernel
theorem dX2_stateIn_34 : decode cX2_stateIn 34 = .ok (.iconst 1, 1) := by decide +kernel
theorem dX2_stateIn_35 : decode cX2_stateIn 35 = .ok (.if_icmp .le 5, 3) := by decide +kernel
theorem dX2_stateIn_38 : decode cX2_stateIn 38 = .ok (.iconst 2, 1) := by decide +kernel
theorem dX2_stateIn_39 : decode cX2_stateIn 39 = .ok (.ireturn, 1) := by decide +kernel
theorem dX2_stateIn_40 : decode cX2_stateIn 40 = .ok (.aload_n 2, 1) := by decide +kernel
theorem dX2_stateIn_41 : decode cX2_stateIn 41 = .ok (.iload_n 3, 1) := by decide +kernel
theorem dX2_stateIn_42 : decode cX2_stateIn 42 = .ok (.iload 4, 2) := by decide +kernel
theorem dX2_stateIn_44 : decode cX2_stateIn 44 = .ok (.invokevirtual 31, 3) := by decide +kernel
theorem dX2_stateIn_47 : decode cX2_stateIn 47 = .ok (.istore 6, 2) := by decide +kernel
theorem dX2_stateIn_49 : decode cX2_stateIn 49 = .ok (.aload_n 2, 1) := by decide +kernel
theorem dX2_stateIn_50 : decode cX2_stateIn 50 = .ok (.iload_n 3, 1) := by decide +kernel
theorem dX2_stateIn_51 : decode cX2_stateIn 51 = .ok (.iload 5, 2) := by decide +kernel
theorem dX2_stateIn_53 : decode cX2_stateIn 53 = .ok (.invokevirtual 31, 3) := by decide +kernel
theorem dX2_stateIn_56 : decode cX2_stateIn 56 = .ok (.istore 7, 2) := by decide +kernel
theorem dX2_stateIn_58 : decode cX2_stateIn 58 = .ok (.iload 6, 2) := by decide +kernel
theorem dX2_stateIn_60 : decode cX2_stateIn 60 = .ok (.sipush (-1000), 3) := by decide +kernel
theorem dX2_stateIn_63 : decode cX2_stateIn 63 = .ok (.if_icmp .eq 11, 3) := by decide +kernel
theorem dX2_stateIn_66 : decode cX2_stateIn 66 = .ok (.iload 7, 2) := by decide +kernel
theorem dX2_stateIn_68 : decode cX2_stateIn 68 = .ok (.sipush (-1000), 3) := by decide +kernel
theorem dX2_stateIn_71 : decode cX2_stateIn 71 = .ok (.if_icmp .ne 16, 3) := by decide +kernel
theorem dX2_stateIn_74 : decode cX2_stateIn 74 = .ok (.iload 6, 2) := by decide +kernel
theorem dX2_stateIn_76 : decode cX2_stateIn 76 = .ok (.iload 7, 2) := by decide +kernel
theorem dX2_stateIn_78 : decode cX2_stateIn 78 = .ok (.if_icmp .ne 7, 3) := by decide +kernel
theorem dX2_stateIn_81 : decode cX2_stateIn 81 = .ok (.iconst 0, 1) := by decide +kernel
theorem dX2_stateIn_82 : decode cX2_stateIn 82 = .ok (.goto 4, 3) := by decide +kernel
theorem dX2_stateIn_85 : decode cX2_stateIn 85 = .ok (.iconst 1, 1) := by decide +kernel
theorem dX2_stateIn_86 : decode cX2_stateIn 86 = .ok (.ireturn, 1) := by decide +kernel
theorem dX2_stateIn_87 : decode cX2_stateIn 87 = .ok (.iload 6, 2) := by decide +kernel
theorem dX2_stateIn_89 : decode cX2_stateIn 89 = .ok (.iload 7, 2) := by decide +kernel
theorem dX2_stateIn_91 : decode cX2_stateIn 91 = .ok (.isub, 1) := by decide +kernel
theorem dX2_stateIn_92 : decode cX2_stateIn 92 = .ok (.aload_n 0, 1) := by decide +kernel
theorem dX2_stateIn_93 : decode cX2_stateIn 93 = .ok (.getfield 18, 3) := by decide +kernel
theorem dX2_stateIn_96 : decode cX2_stateIn 96 = .ok (.iload_n 1, 1) := by decide +kernel
theorem dX2_stateIn_97 : decode cX2_stateIn 97 = .ok (.iaload, 1) := by decide +kernel
theorem dX2_stateIn_98 : decode cX2_stateIn 98 = .ok (.if_icmp .ne 7, 3) := by decide +kernel
theorem dX2_stateIn_101 : decode cX2_stateIn 101 = .ok (.iconst 0, 1) := by decide +kernel
theorem dX2_stateIn_102 : decode cX2_stateIn 102 = .ok (.goto 4, 3) := by decide +kernel
theorem dX2_stateIn_105 : decode cX2_stateIn 105 = .ok (.iconst 1, 1) := by decide +kernel
theorem dX2_stateIn_106 : decode cX2_stateIn 106 = .ok (.ireturn, 1) := by decide +kernel
theorem dX3_init_0 : decode cX3_init 0 = .ok (.aload_n 0, 1) := by decide +kernel
theorem dX3_init_1 : decode cX3_init 1 = .ok (.invokespecial 3, 3) := by decide +kernel
theorem dX3_init_4 : decode cX3_init 4 = .ok (.aload_n 0, 1) := by decide +kernel
theorem dX3_init_5 : decode cX3_init 5 = .ok (.aload_n 1, 1) := by decide +kernel
theorem dX3_init_6 : decode cX3_init 6 = .ok (.putfield 9, 3) := by decide +kernel
theorem dX3_init_9 : decode cX3_init 9 = .ok (.aload_n 0, 1) := by decide +kernel
theorem dX3_init_10 : decode cX3_init 10 = .ok (.aload_n 2, 1) := by decide +kernel
theorem dX3_init_11 : decode cX3_init 11 = .ok (.putfield 15, 3) := by decide +kernel
theorem dX3_init_14 : decode cX3_init 14 = .ok (.return_, 1) := by decide +kernel
theorem dX3_write_0 : decode cX3_write 0 = .ok (.aload_n 0, 1) := by decide +kernel
theorem dX3_write_1 : decode cX3_write 1 = .ok (.getfield 9, 3) := by decide +kernel
theorem dX3_write_4 : decode cX3_write 4 = .ok (.getfield 19, 3) := by decide +kernel
theorem dX3_write_7 : decode cX3_write 7 = .ok (.iload_n 2, 1) := by decide +kernel
theorem dX3_write_8 : decode cX3_write 8 = .ok (.iaload, 1) := by decide +kernel
theorem dX3_write_9 : decode cX3_write 9 = .ok (.tableswitch 130 1 3 #[27, 67, 103], 27) := by decide +kernel
theorem dX3_write_36 : decode cX3_write 36 = .ok (.aload_n 1, 1) := by decide +kernel
theorem dX3_write_37 : decode cX3_write 37 = .ok (.iload_n 2, 1) := by decide +kernel
theorem dX3_write_38 : decode cX3_write 38 = .ok (.aload_n 0, 1) := by decide +kernel
theorem dX3_write_39 : decode cX3_write 39 = .ok (.getfield 9, 3) := by decide +kernel
theorem dX3_write_42 : decode cX3_write 42 = .ok (.getfield 25, 3) := by decide +kernel
theorem dX3_write_45 : decode cX3_write 45 = .ok (.iload_n 2, 1) := by decide +kernel
theorem dX3_write_46 : decode cX3_write 46 = .ok (.iaload, 1) := by decide +kernel
theorem dX3_write_47 : decode cX3_write 47 = .ok (.invokevirtual 28, 3) := by decide +kernel
theorem dX3_write_50 : decode cX3_write 50 = .ok (.aload_n 1, 1) := by decide +kernel
theorem dX3_write_51 : decode cX3_write 51 = .ok (.iload_n 2, 1) := by decide +kernel
theorem dX3_write_52 : decode cX3_write 52 = .ok (.aload_n 0, 1) := by decide +kernel
theorem dX3_write_53 : decode cX3_write 53 = .ok (.getfield 9, 3) := by decide +kernel
theorem dX3_write_56 : decode cX3_write 56 = .ok (.getfield 34, 3) := by decide +kernel
theorem dX3_write_59 : decode cX3_write 59 = .ok (.iload_n 2, 1) := by decide +kernel
theorem dX3_write_60 : decode cX3_write 60 = .ok (.iaload, 1) := by decide +kernel
theorem dX3_write_61 : decode cX3_write 61 = .ok (.aload_n 0, 1) := by decide +kernel
theorem dX3_write_62 : decode cX3_write 62 = .ok (.getfield 9, 3) := by decide +kernel
theorem dX3_write_65 : decode cX3_write 65 = .ok (.getfield 37, 3) := by decide +kernel
theorem dX3_write_68 : decode cX3_write 68 = .ok (.iload_n 2, 1) := by decide +kernel
theorem dX3_write_69 : decode cX3_write 69 = .ok (.iaload, 1) := by decide +kernel
theorem dX3_write_70 : decode cX3_write 70 = .ok (.invokevirtual 40, 3) := by decide +kernel
theorem dX3_write_73 : decode cX3_write 73 = .ok (.goto 71, 3) := by decide +kernel
theorem dX3_write_76 : decode cX3_write 76 = .ok (.aload_n 0, 1) := by decide +kernel
theorem dX3_write_77 : decode cX3_write 77 = .ok (.aload_n 1, 1) := by decide +kernel
theorem dX3_write_78 : decode cX3_write 78 = .ok (.iload_n 2, 1) := by decide +kernel
theorem dX3_write_79 : decode cX3_write 79 = .ok (.aload_n 0, 1) := by decide +kernel
theorem dX3_write_80 : decode cX3_write 80 = .ok (.getfield 9, 3) := by decide +kernel
theorem dX3_write_83 : decode cX3_write 83 = .ok (.getfield 25, 3) := by decide +kernel
theorem dX3_write_86 : decode cX3_write 86 = .ok (.iload_n 2, 1) := by decide +kernel
theorem dX3_write_87 : decode cX3_write 87 = .ok (.iaload, 1) := by decide +kernel
theorem dX3_write_88 : decode cX3_write 88 = .ok (.aload_n 0, 1) := by decide +kernel
theorem dX3_write_89 : decode cX3_write 89 = .ok (.getfield 9, 3) := by decide +kernel
theorem dX3_write_92 : decode cX3_write 92 = .ok (.getfield 44, 3) := by decide +kernel
theorem dX3_write_95 : decode cX3_write 95 = .ok (.iload_n 2, 1) := by decide +kernel
theorem dX3_write_96 : decode cX3_write 96 = .ok (.iaload, 1) := by decide +kernel
theorem dX3_write_97 : decode cX3_write 97 = .ok (.aload_n 0, 1) := by decide +kernel
theorem dX3_write_98 : decode cX3_write 98 = .ok (.getfield 9, 3) := by decide +kernel
theorem dX3_write_101 : decode cX3_write 101 = .ok (.getfield 47, 3) := by decide +kernel
theorem dX3_write_104 : decode cX3_write 104 = .ok (.iload_n 2, 1) := by decide +kernel
theorem dX3_write_105 : decode cX3_write 105 = .ok (.iaload, 1) := by decide +kernel
theorem dX3_write_106 : decode cX3_write 106 = .ok (.invokevirtual 50, 3) := by decide +kernel
theorem dX3_write_109 : decode cX3_write 109 = .ok (.goto 35, 3) := by decide +kernel
theorem dX3_write_112 : decode cX3_write 112 = .ok (.aload_n 0, 1) := by decide +kernel
theorem dX3_write_113 : decode cX3_write 113 = .ok (.aload_n 1, 1) := by decide +kernel
theorem dX3_write_114 : decode cX3_write 114 = .ok (.iload_n 2, 1) := by decide +kernel
theorem dX3_write_115 : decode cX3_write 115 = .ok (.aload_n 0, 1) := by decide +kernel
theorem dX3_write_116 : decode cX3_write 116 = .ok (.getfield 9, 3) := by decide +kernel
theorem dX3_write_119 : decode cX3_write 119 = .ok (.getfield 25, 3) := by decide +kernel
theorem dX3_write_122 : decode cX3_write 122 = .ok (.iload_n 2, 1) := by decide +kernel
theorem dX3_write_123 : decode cX3_write 123 = .ok (.iaload, 1) := by decide +kernel
theorem dX3_write_124 : decode cX3_write 124 = .ok (.aload_n 0, 1) := by decide +kernel
theorem dX3_write_125 : decode cX3_write 125 = .ok (.getfield 9, 3) := by decide +kernel
theorem dX3_write_128 : decode cX3_write 128 = .ok (.getfield 54, 3) := by decide +kernel
theorem dX3_write_131 : decode cX3_write 131 = .ok (.iload_n 2, 1) := by decide +kernel
theorem dX3_write_132 : decode cX3_write 132 = .ok (.iaload, 1) := by decide +kernel
theorem dX3_write_133 : decode cX3_write 133 = .ok (.invokevirtual 57, 3) := by decide +kernel
theorem dX3_write_136 : decode cX3_write 136 = .ok (.goto 8, 3) := by decide +kernel
theorem dX3_write_139 : decode cX3_write 139 = .ok (.aload_n 1, 1) := by decide +kernel
theorem dX3_write_140 : decode cX3_write 140 = .ok (.iload_n 2, 1) := by decide +kernel
theorem dX3_write_141 : decode cX3_write 141 = .ok (.invokevirtual 61, 3) := by decide +kernel
theorem dX3_write_144 : decode cX3_write 144 = .ok (.return_, 1) := by decide +kernel
theorem dX3_writeMerge_0 : decode cX3_writeMerge 0 = .ok (.aload_n 0, 1) := by decide +kernel
theorem dX3_writeMerge_1 : decode cX3_writeMerge 1 = .ok (.getfield 9, 3) := by decide +kernel
theorem dX3_writeMerge_4 : decode cX3_writeMerge 4 = .ok (.iload_n 3, 1) := by decide +kernel
theorem dX3_writeMerge_5 : decode cX3_writeMerge 5 = .ok (.iload 4, 2) := by decide +kernel
theorem dX3_writeMerge_7 : decode cX3_writeMerge 7 = .ok (.invokevirtual 65, 3) := by decide +kernel
theorem dX3_writeMerge_10 : decode cX3_writeMerge 10 = .ok (.istore 6, 2) := by decide +kernel
theorem dX3_writeMerge_12 : decode cX3_writeMerge 12 = .ok (.iconst 0, 1) := by decide +kernel
theorem dX3_writeMerge_13 : decode cX3_writeMerge 13 = .ok (.istore 7, 2) := by decide +kernel
theorem dX3_writeMerge_15 : decode cX3_writeMerge 15 = .ok (.iload 7, 2) := by decide +kernel
theorem dX3_writeMerge_17 : decode cX3_writeMerge 17 = .ok (.bipush 12, 2) := by decide +kernel
theorem dX3_writeMerge_19 : decode cX3_writeMerge 19 = .ok (.if_icmp .ge 22, 3) := by decide +kernel
theorem dX3_writeMerge_22 : decode cX3_writeMerge 22 = .ok (.aload_n 0, 1) := by decide +kernel
theorem dX3_writeMerge_23 : decode cX3_writeMerge 23 = .ok (.aload_n 1, 1) := by decide +kernel
theorem dX3_writeMerge_24 : decode cX3_writeMerge 24 = .ok (.iload_n 2, 1) := by decide +kernel
theorem dX3_writeMerge_25 : decode cX3_writeMerge 25 = .ok (.iload 7, 2) := by decide +kernel
theorem dX3_writeMerge_27 : decode cX3_writeMerge 27 = .ok (.iload_n 3, 1) := by decide +kernel
theorem dX3_writeMerge_28 : decode cX3_writeMerge 28 = .ok (.iload 4, 2) := by decide +kernel
theorem dX3_writeMerge_30 : decode cX3_writeMerge 30 = .ok (.iload 6, 2) := by decide +kernel
theorem dX3_writeMerge_32 : decode cX3_writeMerge 32 = .ok (.invokevirtual 69, 3) := by decide +kernel
theorem dX3_writeMerge_35 : decode cX3_writeMerge 35 = .ok (.iinc 7 1, 3) := by decide +kernel
theorem dX3_writeMerge_38 : decode cX3_writeMerge 38 = .ok (.goto (-23), 3) := by decide +kernel
theorem dX3_writeMerge_41 : decode cX3_writeMerge 41 = .ok (.iconst 0, 1) := by decide +kernel
theorem dX3_writeMerge_42 : decode cX3_writeMerge 42 = .ok (.istore 7, 2) := by decide +kernel
theorem dX3_writeMerge_44 : decode cX3_writeMerge 44 = .ok (.iload 7, 2) := by decide +kernel
theorem dX3_writeMerge_46 : decode cX3_writeMerge 46 = .ok (.iload 5, 2) := by decide +kernel
theorem dX3_writeMerge_48 : decode cX3_writeMerge 48 = .ok (.if_icmp .ge 89, 3) := by decide +kernel
theorem dX3_writeMerge_51 : decode cX3_writeMerge 51 = .ok (.aload_n 0, 1) := by decide +kernel
theorem dX3_writeMerge_52 : decode cX3_writeMerge 52 = .ok (.getfield 15, 3) := by decide +kernel
theorem dX3_writeMerge_55 : decode cX3_writeMerge 55 = .ok (.iload 7, 2) := by decide +kernel
theorem dX3_writeMerge_57 : decode cX3_writeMerge 57 = .ok (.aload_n 1, 1) := by decide +kernel
theorem dX3_writeMerge_58 : decode cX3_writeMerge 58 = .ok (.iload_n 3, 1) := by decide +kernel
theorem dX3_writeMerge_59 : decode cX3_writeMerge 59 = .ok (.invokevirtual 73, 3) := by decide +kernel
theorem dX3_writeMerge_62 : decode cX3_writeMerge 62 = .ok (.ifCond .ne 69, 3) := by decide +kernel
theorem dX3_writeMerge_65 : decode cX3_writeMerge 65 = .ok (.aload_n 0, 1) := by decide +kernel
theorem dX3_writeMerge_66 : decode cX3_writeMerge 66 = .ok (.getfield 15, 3) := by decide +kernel
theorem dX3_writeMerge_69 : decode cX3_writeMerge 69 = .ok (.iload 7, 2) := by decide +kernel
theorem dX3_writeMerge_71 : decode cX3_writeMerge 71 = .ok (.aload_n 1, 1) := by decide +kernel
theorem dX3_writeMerge_72 : decode cX3_writeMerge 72 = .ok (.iload 4, 2) := by decide +kernel
theorem dX3_writeMerge_74 : decode cX3_writeMerge 74 = .ok (.invokevirtual 73, 3) := by decide +kernel
theorem dX3_writeMerge_77 : decode cX3_writeMerge 77 = .ok (.ifCond .ne 54, 3) := by decide +kernel
theorem dX3_writeMerge_80 : decode cX3_writeMerge 80 = .ok (.aload_n 0, 1) := by decide +kernel
theorem dX3_writeMerge_81 : decode cX3_writeMerge 81 = .ok (.getfield 15, 3) := by decide +kernel
theorem dX3_writeMerge_84 : decode cX3_writeMerge 84 = .ok (.iload 7, 2) := by decide +kernel
theorem dX3_writeMerge_86 : decode cX3_writeMerge 86 = .ok (.aload_n 1, 1) := by decide +kernel
theorem dX3_writeMerge_87 : decode cX3_writeMerge 87 = .ok (.iload_n 2, 1) := by decide +kernel
theorem dX3_writeMerge_88 : decode cX3_writeMerge 88 = .ok (.invokevirtual 73, 3) := by decide +kernel
theorem dX3_writeMerge_91 : decode cX3_writeMerge 91 = .ok (.iconst 1, 1) := by decide +kernel
theorem dX3_writeMerge_92 : decode cX3_writeMerge 92 = .ok (.if_icmp .ne 39, 3) := by decide +kernel
theorem dX3_writeMerge_95 : decode cX3_writeMerge 95 = .ok (.aload_n 1, 1) := by decide +kernel
theorem dX3_writeMerge_96 : decode cX3_writeMerge 96 = .ok (.iload_n 2, 1) := by decide +kernel
theorem dX3_writeMerge_97 : decode cX3_writeMerge 97 = .ok (.aload_n 0, 1) := by decide +kernel
theorem dX3_writeMerge_98 : decode cX3_writeMerge 98 = .ok (.getfield 15, 3) := by decide +kernel
theorem dX3_writeMerge_101 : decode cX3_writeMerge 101 = .ok (.getfield 79, 3) := by decide +kernel
theorem dX3_writeMerge_104 : decode cX3_writeMerge 104 = .ok (.iload 7, 2) := by decide +kernel
theorem dX3_writeMerge_106 : decode cX3_writeMerge 106 = .ok (.iaload, 1) := by decide +kernel
theorem dX3_writeMerge_107 : decode cX3_writeMerge 107 = .ok (.iload_n 3, 1) := by decide +kernel
theorem dX3_writeMerge_108 : decode cX3_writeMerge 108 = .ok (.iload 4, 2) := by decide +kernel
theorem dX3_writeMerge_110 : decode cX3_writeMerge 110 = .ok (.invokevirtual 82, 3) := by decide +kernel
theorem dX3_writeMerge_113 : decode cX3_writeMerge 113 = .ok (.aload_n 1, 1) := by decide +kernel
theorem dX3_writeMerge_114 : decode cX3_writeMerge 114 = .ok (.iload_n 2, 1) := by decide +kernel
theorem dX3_writeMerge_115 : decode cX3_writeMerge 115 = .ok (.aload_n 0, 1) := by decide +kernel
theorem dX3_writeMerge_116 : decode cX3_writeMerge 116 = .ok (.getfield 15, 3) := by decide +kernel
theorem dX3_writeMerge_119 : decode cX3_writeMerge 119 = .ok (.getfield 86, 3) := by decide +kernel
theorem dX3_writeMerge_122 : decode cX3_writeMerge 122 = .ok (.iload 7, 2) := by decide +kernel
theorem dX3_writeMerge_124 : decode cX3_writeMerge 124 = .ok (.iaload, 1) := by decide +kernel
theorem dX3_writeMerge_125 : decode cX3_writeMerge 125 = .ok (.iload_n 3, 1) := by decide +kernel
theorem dX3_writeMerge_126 : decode cX3_writeMerge 126 = .ok (.iload 4, 2) := by decide +kernel
theorem dX3_writeMerge_128 : decode cX3_writeMerge 128 = .ok (.invokevirtual 82, 3) := by decide +kernel
theorem dX3_writeMerge_131 : decode cX3_writeMerge 131 = .ok (.iinc 7 1, 3) := by decide +kernel
theorem dX3_writeMerge_134 : decode cX3_writeMerge 134 = .ok (.goto (-90), 3) := by decide +kernel
theorem dX3_writeMerge_137 : decode cX3_writeMerge 137 = .ok (.return_, 1) := by decide +kernel
theorem dX3_mergeItem_0 : decode cX3_mergeItem 0 = .ok (.aload_n 1, 1) := by decide +kernel
theorem dX3_mergeItem_1 : decode cX3_mergeItem 1 = .ok (.iload_n 3, 1) := by decide +kernel
theorem dX3_mergeItem_2 : decode cX3_mergeItem 2 = .ok (.iload 4, 2) := by decide +kernel
theorem dX3_mergeItem_4 : decode cX3_mergeItem 4 = .ok (.iload 5, 2) := by decide +kernel
theorem dX3_mergeItem_6 : decode cX3_mergeItem 6 = .ok (.invokevirtual 89, 3) := by decide +kernel
theorem dX3_mergeItem_9 : decode cX3_mergeItem 9 = .ok (.ifCond .ne 15, 3) := by decide +kernel
theorem dX3_mergeItem_12 : decode cX3_mergeItem 12 = .ok (.aload_n 1, 1) := by decide +kernel
theorem dX3_mergeItem_13 : decode cX3_mergeItem 13 = .ok (.iload_n 3, 1) := by decide +kernel
theorem dX3_mergeItem_14 : decode cX3_mergeItem 14 = .ok (.iload 5, 2) := by decide +kernel
theorem dX3_mergeItem_16 : decode cX3_mergeItem 16 = .ok (.iload 6, 2) := by decide +kernel
theorem dX3_mergeItem_18 : decode cX3_mergeItem 18 = .ok (.invokevirtual 89, 3) := by decide +kernel
theorem dX3_mergeItem_21 : decode cX3_mergeItem 21 = .ok (.ifCond .eq 14, 3) := by decide +kernel
theorem dX3_mergeItem_24 : decode cX3_mergeItem 24 = .ok (.aload_n 1, 1) := by decide +kernel
theorem dX3_mergeItem_25 : decode cX3_mergeItem 25 = .ok (.iload_n 2, 1) := by decide +kernel
theorem dX3_mergeItem_26 : decode cX3_mergeItem 26 = .ok (.iload_n 3, 1) := by decide +kernel
theorem dX3_mergeItem_27 : decode cX3_mergeItem 27 = .ok (.iload 4, 2) := by decide +kernel
theorem dX3_mergeItem_29 : decode cX3_mergeItem 29 = .ok (.invokevirtual 93, 3) := by decide +kernel
theorem dX3_mergeItem_32 : decode cX3_mergeItem 32 = .ok (.goto 36, 3) := by decide +kernel
theorem dX3_mergeItem_35 : decode cX3_mergeItem 35 = .ok (.aload_n 1, 1) := by decide +kernel
theorem dX3_mergeItem_36 : decode cX3_mergeItem 36 = .ok (.iload_n 3, 1) := by decide +kernel
theorem dX3_mergeItem_37 : decode cX3_mergeItem 37 = .ok (.iload 4, 2) := by decide +kernel
theorem dX3_mergeItem_39 : decode cX3_mergeItem 39 = .ok (.iload 6, 2) := by decide +kernel
theorem dX3_mergeItem_41 : decode cX3_mergeItem 41 = .ok (.invokevirtual 89, 3) := by decide +kernel
theorem dX3_mergeItem_44 : decode cX3_mergeItem 44 = .ok (.ifCond .eq 14, 3) := by decide +kernel
theorem dX3_mergeItem_47 : decode cX3_mergeItem 47 = .ok (.aload_n 1, 1) := by decide +kernel
theorem dX3_mergeItem_48 : decode cX3_mergeItem 48 = .ok (.iload_n 2, 1) := by decide +kernel
theorem dX3_mergeItem_49 : decode cX3_mergeItem 49 = .ok (.iload_n 3, 1) := by decide +kernel
theorem dX3_mergeItem_50 : decode cX3_mergeItem 50 = .ok (.iload 5, 2) := by decide +kernel
theorem dX3_mergeItem_52 : decode cX3_mergeItem 52 = .ok (.invokevirtual 93, 3) := by decide +kernel
theorem dX3_mergeItem_55 : decode cX3_mergeItem 55 = .ok (.goto 13, 3) := by decide +kernel
theorem dX3_mergeItem_58 : decode cX3_mergeItem 58 = .ok (.aload_n 1, 1) := by decide +kernel
theorem dX3_mergeItem_59 : decode cX3_mergeItem 59 = .ok (.iload_n 2, 1) := by decide +kernel
theorem dX3_mergeItem_60 : decode cX3_mergeItem 60 = .ok (.iload_n 3, 1) := by decide +kernel
theorem dX3_mergeItem_61 : decode cX3_mergeItem 61 = .ok (.iload 4, 2) := by decide +kernel
theorem dX3_mergeItem_63 : decode cX3_mergeItem 63 = .ok (.iload 5, 2) := by decide +kernel
theorem dX3_mergeItem_65 : decode cX3_mergeItem 65 = .ok (.invokevirtual 82, 3) := by decide +kernel
theorem dX3_mergeItem_68 : decode cX3_mergeItem 68 = .ok (.return_, 1) := by decide +kernel
theorem dX3_writePick_0 : decode cX3_writePick 0 = .ok (.aload_n 0, 1) := by decide +kernel
theorem dX3_writePick_1 : decode cX3_writePick 1 = .ok (.getfield 9, 3) := by decide +kernel
theorem dX3_writePick_4 : decode cX3_writePick 4 = .ok (.getfield 25, 3) := by decide +kernel
theorem dX3_writePick_7 : decode cX3_writePick 7 = .ok (.iload 4, 2) := by decide +kernel
theorem dX3_writePick_9 : decode cX3_writePick 9 = .ok (.iaload, 1) := by decide +kernel
theorem dX3_writePick_10 : decode cX3_writePick 10 = .ok (.istore 5, 2) := by decide +kernel
theorem dX3_writePick_12 : decode cX3_writePick 12 = .ok (.iconst 0, 1) := by decide +kernel
theorem dX3_writePick_13 : decode cX3_writePick 13 = .ok (.istore 6, 2) := by decide +kernel
theorem dX3_writePick_15 : decode cX3_writePick 15 = .ok (.iload 6, 2) := by decide +kernel
theorem dX3_writePick_17 : decode cX3_writePick 17 = .ok (.bipush 12, 2) := by decide +kernel
theorem dX3_writePick_19 : decode cX3_writePick 19 = .ok (.if_icmp .ge 67, 3) := by decide +kernel
theorem dX3_writePick_22 : decode cX3_writePick 22 = .ok (.aload_n 1, 1) := by decide +kernel
theorem dX3_writePick_23 : decode cX3_writePick 23 = .ok (.iload 6, 2) := by decide +kernel
theorem dX3_writePick_25 : decode cX3_writePick 25 = .ok (.iload 4, 2) := by decide +kernel
theorem dX3_writePick_27 : decode cX3_writePick 27 = .ok (.iload 5, 2) := by decide +kernel
theorem dX3_writePick_29 : decode cX3_writePick 29 = .ok (.invokevirtual 89, 3) := by decide +kernel
theorem dX3_writePick_32 : decode cX3_writePick 32 = .ok (.ifCond .eq 14, 3) := by decide +kernel
theorem dX3_writePick_35 : decode cX3_writePick 35 = .ok (.aload_n 1, 1) := by decide +kernel
theorem dX3_writePick_36 : decode cX3_writePick 36 = .ok (.iload_n 2, 1) := by decide +kernel
theorem dX3_writePick_37 : decode cX3_writePick 37 = .ok (.iload 6, 2) := by decide +kernel
theorem dX3_writePick_39 : decode cX3_writePick 39 = .ok (.iload_n 3, 1) := by decide +kernel
theorem dX3_writePick_40 : decode cX3_writePick 40 = .ok (.invokevirtual 93, 3) := by decide +kernel
theorem dX3_writePick_43 : decode cX3_writePick 43 = .ok (.goto 37, 3) := by decide +kernel
theorem dX3_writePick_46 : decode cX3_writePick 46 = .ok (.aload_n 1, 1) := by decide +kernel
theorem dX3_writePick_47 : decode cX3_writePick 47 = .ok (.iload 6, 2) := by decide +kernel
theorem dX3_writePick_49 : decode cX3_writePick 49 = .ok (.iload_n 3, 1) := by decide +kernel
theorem dX3_writePick_50 : decode cX3_writePick 50 = .ok (.iload 5, 2) := by decide +kernel
theorem dX3_writePick_52 : decode cX3_writePick 52 = .ok (.invokevirtual 89, 3) := by decide +kernel
theorem dX3_writePick_55 : decode cX3_writePick 55 = .ok (.ifCond .eq 15, 3) := by decide +kernel
theorem dX3_writePick_58 : decode cX3_writePick 58 = .ok (.aload_n 1, 1) := by decide +kernel
theorem dX3_writePick_59 : decode cX3_writePick 59 = .ok (.iload_n 2, 1) := by decide +kernel
theorem dX3_writePick_60 : decode cX3_writePick 60 = .ok (.iload 6, 2) := by decide +kernel
theorem dX3_writePick_62 : decode cX3_writePick 62 = .ok (.iload 4, 2) := by decide +kernel
theorem dX3_writePick_64 : decode cX3_writePick 64 = .ok (.invokevirtual 93, 3) := by decide +kernel
theorem dX3_writePick_67 : decode cX3_writePick 67 = .ok (.goto 13, 3) := by decide +kernel
theorem dX3_writePick_70 : decode cX3_writePick 70 = .ok (.aload_n 1, 1) := by decide +kernel
theorem dX3_writePick_71 : decode cX3_writePick 71 = .ok (.iload_n 2, 1) := by decide +kernel
theorem dX3_writePick_72 : decode cX3_writePick 72 = .ok (.iload 6, 2) := by decide +kernel
theorem dX3_writePick_74 : decode cX3_writePick 74 = .ok (.iload_n 3, 1) := by decide +kernel
theorem dX3_writePick_75 : decode cX3_writePick 75 = .ok (.iload 4, 2) := by decide +kernel
theorem dX3_writePick_77 : decode cX3_writePick 77 = .ok (.invokevirtual 82, 3) := by decide +kernel
theorem dX3_writePick_80 : decode cX3_writePick 80 = .ok (.iinc 6 1, 3) := by decide +kernel
theorem dX3_writePick_83 : decode cX3_writePick 83 = .ok (.goto (-68), 3) := by decide +kernel
theorem dX3_writePick_86 : decode cX3_writePick 86 = .ok (.return_, 1) := by decide +kernel
theorem dX4_init_0 : decode cX4_init 0 = .ok (.aload_n 0, 1) := by decide +kernel
theorem dX4_init_1 : decode cX4_init 1 = .ok (.invokespecial 3, 3) := by decide +kernel
theorem dX4_init_4 : decode cX4_init 4 = .ok (.aload_n 0, 1) := by decide +kernel
theorem dX4_init_5 : decode cX4_init 5 = .ok (.aload_n 1, 1) := by decide +kernel
theorem dX4_init_6 : decode cX4_init 6 = .ok (.putfield 9, 3) := by decide +kernel
theorem dX4_init_9 : decode cX4_init 9 = .ok (.aload_n 0, 1) := by decide +kernel
theorem dX4_init_10 : decode cX4_init 10 = .ok (.sipush 1224, 3) := by decide +kernel
theorem dX4_init_13 : decode cX4_init 13 = .ok (.newarray .long, 2) := by decide +kernel
theorem dX4_init_15 : decode cX4_init 15 = .ok (.putfield 15, 3) := by decide +kernel
theorem dX4_init_18 : decode cX4_init 18 = .ok (.aload_n 0, 1) := by decide +kernel
theorem dX4_init_19 : decode cX4_init 19 = .ok (.sipush 1224, 3) := by decide +kernel
theorem dX4_init_22 : decode cX4_init 22 = .ok (.newarray .long, 2) := by decide +kernel
theorem dX4_init_24 : decode cX4_init 24 = .ok (.putfield 19, 3) := by decide +kernel
theorem dX4_init_27 : decode cX4_init 27 = .ok (.return_, 1) := by decide +kernel
theorem dX4_cell_0 : decode cX4_cell 0 = .ok (.iload_n 0, 1) := by decide +kernel
theorem dX4_cell_1 : decode cX4_cell 1 = .ok (.bipush 12, 2) := by decide +kernel
theorem dX4_cell_3 : decode cX4_cell 3 = .ok (.imul, 1) := by decide +kernel
theorem dX4_cell_4 : decode cX4_cell 4 = .ok (.iload_n 1, 1) := by decide +kernel
theorem dX4_cell_5 : decode cX4_cell 5 = .ok (.iadd, 1) := by decide +kernel
theorem dX4_cell_6 : decode cX4_cell 6 = .ok (.ireturn, 1) := by decide +kernel
theorem dX4_emptyRow_0 : decode cX4_emptyRow 0 = .ok (.iconst 0, 1) := by decide +kernel
theorem dX4_emptyRow_1 : decode cX4_emptyRow 1 = .ok (.istore_n 2, 1) := by decide +kernel
theorem dX4_emptyRow_2 : decode cX4_emptyRow 2 = .ok (.iload_n 2, 1) := by decide +kernel
theorem dX4_emptyRow_3 : decode cX4_emptyRow 3 = .ok (.bipush 12, 2) := by decide +kernel
theorem dX4_emptyRow_5 : decode cX4_emptyRow 5 = .ok (.if_icmp .ge 16, 3) := by decide +kernel
theorem dX4_emptyRow_8 : decode cX4_emptyRow 8 = .ok (.aload_n 0, 1) := by decide +kernel
theorem dX4_emptyRow_9 : decode cX4_emptyRow 9 = .ok (.iload_n 1, 1) := by decide +kernel
theorem dX4_emptyRow_10 : decode cX4_emptyRow 10 = .ok (.iload_n 2, 1) := by decide +kernel
theorem dX4_emptyRow_11 : decode cX4_emptyRow 11 = .ok (.iconst 0, 1) := by decide +kernel
theorem dX4_emptyRow_12 : decode cX4_emptyRow 12 = .ok (.invokevirtual 24, 3) := by decide +kernel
theorem dX4_emptyRow_15 : decode cX4_emptyRow 15 = .ok (.iinc 2 1, 3) := by decide +kernel
theorem dX4_emptyRow_18 : decode cX4_emptyRow 18 = .ok (.goto (-16), 3) := by decide +kernel
theorem dX4_emptyRow_21 : decode cX4_emptyRow 21 = .ok (.return_, 1) := by decide +kernel
theorem dX4_copyRow_0 : decode cX4_copyRow 0 = .ok (.aload_n 0, 1) := by decide +kernel
theorem dX4_copyRow_1 : decode cX4_copyRow 1 = .ok (.getfield 15, 3) := by decide +kernel
theorem dX4_copyRow_4 : decode cX4_copyRow 4 = .ok (.iload_n 2, 1) := by decide +kernel
theorem dX4_copyRow_5 : decode cX4_copyRow 5 = .ok (.iconst 0, 1) := by decide +kernel
theorem dX4_copyRow_6 : decode cX4_copyRow 6 = .ok (.invokestatic 28, 3) := by decide +kernel
theorem dX4_copyRow_9 : decode cX4_copyRow 9 = .ok (.aload_n 0, 1) := by decide +kernel
theorem dX4_copyRow_10 : decode cX4_copyRow 10 = .ok (.getfield 15, 3) := by decide +kernel
theorem dX4_copyRow_13 : decode cX4_copyRow 13 = .ok (.iload_n 1, 1) := by decide +kernel
theorem dX4_copyRow_14 : decode cX4_copyRow 14 = .ok (.iconst 0, 1) := by decide +kernel
theorem dX4_copyRow_15 : decode cX4_copyRow 15 = .ok (.invokestatic 28, 3) := by decide +kernel
theorem dX4_copyRow_18 : decode cX4_copyRow 18 = .ok (.bipush 12, 2) := by decide +kernel
theorem dX4_copyRow_20 : decode cX4_copyRow 20 = .ok (.invokestatic 32, 3) := by decide +kernel
theorem dX4_copyRow_23 : decode cX4_copyRow 23 = .ok (.aload_n 0, 1) := by decide +kernel
theorem dX4_copyRow_24 : decode cX4_copyRow 24 = .ok (.getfield 19, 3) := by decide +kernel
theorem dX4_copyRow_27 : decode cX4_copyRow 27 = .ok (.iload_n 2, 1) := by decide +kernel
theorem dX4_copyRow_28 : decode cX4_copyRow 28 = .ok (.iconst 0, 1) := by decide +kernel
theorem dX4_copyRow_29 : decode cX4_copyRow 29 = .ok (.invokestatic 28, 3) := by decide +kernel
theorem dX4_copyRow_32 : decode cX4_copyRow 32 = .ok (.aload_n 0, 1) := by decide +kernel
theorem dX4_copyRow_33 : decode cX4_copyRow 33 = .ok (.getfield 19, 3) := by decide +kernel
theorem dX4_copyRow_36 : decode cX4_copyRow 36 = .ok (.iload_n 1, 1) := by decide +kernel
theorem dX4_copyRow_37 : decode cX4_copyRow 37 = .ok (.iconst 0, 1) := by decide +kernel
theorem dX4_copyRow_38 : decode cX4_copyRow 38 = .ok (.invokestatic 28, 3) := by decide +kernel
theorem dX4_copyRow_41 : decode cX4_copyRow 41 = .ok (.bipush 12, 2) := by decide +kernel
theorem dX4_copyRow_43 : decode cX4_copyRow 43 = .ok (.invokestatic 32, 3) := by decide +kernel
theorem dX4_copyRow_46 : decode cX4_copyRow 46 = .ok (.return_, 1) := by decide +kernel
theorem dX4_holdSide_0 : decode cX4_holdSide 0 = .ok (.iload_n 1, 1) := by decide +kernel
theorem dX4_holdSide_1 : decode cX4_holdSide 1 = .ok (.iload_n 2, 1) := by decide +kernel
theorem dX4_holdSide_2 : decode cX4_holdSide 2 = .ok (.invokestatic 28, 3) := by decide +kernel
theorem dX4_holdSide_5 : decode cX4_holdSide 5 = .ok (.istore 4, 2) := by decide +kernel
theorem dX4_holdSide_7 : decode cX4_holdSide 7 = .ok (.aload_n 0, 1) := by decide +kernel
theorem dX4_holdSide_8 : decode cX4_holdSide 8 = .ok (.getfield 15, 3) := by decide +kernel
theorem dX4_holdSide_11 : decode cX4_holdSide 11 = .ok (.iload 4, 2) := by decide +kernel
theorem dX4_holdSide_13 : decode cX4_holdSide 13 = .ok (.iload_n 3, 1) := by decide +kernel
theorem dX4_holdSide_14 : decode cX4_holdSide 14 = .ok (.invokestatic 38, 3) := by decide +kernel
theorem dX4_holdSide_17 : decode cX4_holdSide 17 = .ok (.lastore, 1) := by decide +kernel
theorem dX4_holdSide_18 : decode cX4_holdSide 18 = .ok (.aload_n 0, 1) := by decide +kernel
theorem dX4_holdSide_19 : decode cX4_holdSide 19 = .ok (.getfield 19, 3) := by decide +kernel
theorem dX4_holdSide_22 : decode cX4_holdSide 22 = .ok (.iload 4, 2) := by decide +kernel
theorem dX4_holdSide_24 : decode cX4_holdSide 24 = .ok (.iload_n 3, 1) := by decide +kernel
theorem dX4_holdSide_25 : decode cX4_holdSide 25 = .ok (.invokestatic 42, 3) := by decide +kernel
theorem dX4_holdSide_28 : decode cX4_holdSide 28 = .ok (.lastore, 1) := by decide +kernel
theorem dX4_holdSide_29 : decode cX4_holdSide 29 = .ok (.return_, 1) := by decide +kernel
theorem dX4_holdWhat_0 : decode cX4_holdWhat 0 = .ok (.iload_n 1, 1) := by decide +kernel
theorem dX4_holdWhat_1 : decode cX4_holdWhat 1 = .ok (.iload_n 2, 1) := by decide +kernel
theorem dX4_holdWhat_2 : decode cX4_holdWhat 2 = .ok (.invokestatic 28, 3) := by decide +kernel
theorem dX4_holdWhat_5 : decode cX4_holdWhat 5 = .ok (.istore 4, 2) := by decide +kernel
theorem dX4_holdWhat_7 : decode cX4_holdWhat 7 = .ok (.iload_n 3, 1) := by decide +kernel
theorem dX4_holdWhat_8 : decode cX4_holdWhat 8 = .ok (.iload_n 2, 1) := by decide +kernel
theorem dX4_holdWhat_9 : decode cX4_holdWhat 9 = .ok (.invokestatic 28, 3) := by decide +kernel
theorem dX4_holdWhat_12 : decode cX4_holdWhat 12 = .ok (.istore 5, 2) := by decide +kernel
theorem dX4_holdWhat_14 : decode cX4_holdWhat 14 = .ok (.aload_n 0, 1) := by decide +kernel
theorem dX4_holdWhat_15 : decode cX4_holdWhat 15 = .ok (.getfield 15, 3) := by decide +kernel
theorem dX4_holdWhat_18 : decode cX4_holdWhat 18 = .ok (.iload 4, 2) := by decide +kernel
theorem dX4_holdWhat_20 : decode cX4_holdWhat 20 = .ok (.aload_n 0, 1) := by decide +kernel
theorem dX4_holdWhat_21 : decode cX4_holdWhat 21 = .ok (.getfield 15, 3) := by decide +kernel
theorem dX4_holdWhat_24 : decode cX4_holdWhat 24 = .ok (.iload 5, 2) := by decide +kernel
theorem dX4_holdWhat_26 : decode cX4_holdWhat 26 = .ok (.laload, 1) := by decide +kernel
theorem dX4_holdWhat_27 : decode cX4_holdWhat 27 = .ok (.lastore, 1) := by decide +kernel
theorem dX4_holdWhat_28 : decode cX4_holdWhat 28 = .ok (.aload_n 0, 1) := by decide +kernel
theorem dX4_holdWhat_29 : decode cX4_holdWhat 29 = .ok (.getfield 19, 3) := by decide +kernel
theorem dX4_holdWhat_32 : decode cX4_holdWhat 32 = .ok (.iload 4, 2) := by decide +kernel
theorem dX4_holdWhat_34 : decode cX4_holdWhat 34 = .ok (.aload_n 0, 1) := by decide +kernel
theorem dX4_holdWhat_35 : decode cX4_holdWhat 35 = .ok (.getfield 19, 3) := by decide +kernel
theorem dX4_holdWhat_38 : decode cX4_holdWhat 38 = .ok (.iload 5, 2) := by decide +kernel
theorem dX4_holdWhat_40 : decode cX4_holdWhat 40 = .ok (.laload, 1) := by decide +kernel
theorem dX4_holdWhat_41 : decode cX4_holdWhat 41 = .ok (.lastore, 1) := by decide +kernel
theorem dX4_holdWhat_42 : decode cX4_holdWhat 42 = .ok (.return_, 1) := by decide +kernel
theorem dX4_holdAll_0 : decode cX4_holdAll 0 = .ok (.iload_n 1, 1) := by decide +kernel
theorem dX4_holdAll_1 : decode cX4_holdAll 1 = .ok (.iload_n 2, 1) := by decide +kernel
theorem dX4_holdAll_2 : decode cX4_holdAll 2 = .ok (.invokestatic 28, 3) := by decide +kernel
theorem dX4_holdAll_5 : decode cX4_holdAll 5 = .ok (.istore 5, 2) := by decide +kernel
theorem dX4_holdAll_7 : decode cX4_holdAll 7 = .ok (.iload_n 3, 1) := by decide +kernel
theorem dX4_holdAll_8 : decode cX4_holdAll 8 = .ok (.iload_n 2, 1) := by decide +kernel
theorem dX4_holdAll_9 : decode cX4_holdAll 9 = .ok (.invokestatic 28, 3) := by decide +kernel
theorem dX4_holdAll_12 : decode cX4_holdAll 12 = .ok (.istore 6, 2) := by decide +kernel
theorem dX4_holdAll_14 : decode cX4_holdAll 14 = .ok (.iload 4, 2) := by decide +kernel
theorem dX4_holdAll_16 : decode cX4_holdAll 16 = .ok (.iload_n 2, 1) := by decide +kernel
theorem dX4_holdAll_17 : decode cX4_holdAll 17 = .ok (.invokestatic 28, 3) := by decide +kernel
theorem dX4_holdAll_20 : decode cX4_holdAll 20 = .ok (.istore 7, 2) := by decide +kernel
theorem dX4_holdAll_22 : decode cX4_holdAll 22 = .ok (.aload_n 0, 1) := by decide +kernel
theorem dX4_holdAll_23 : decode cX4_holdAll 23 = .ok (.getfield 15, 3) := by decide +kernel
theorem dX4_holdAll_26 : decode cX4_holdAll 26 = .ok (.iload 5, 2) := by decide +kernel
theorem dX4_holdAll_28 : decode cX4_holdAll 28 = .ok (.aload_n 0, 1) := by decide +kernel
theorem dX4_holdAll_29 : decode cX4_holdAll 29 = .ok (.getfield 15, 3) := by decide +kernel
theorem dX4_holdAll_32 : decode cX4_holdAll 32 = .ok (.iload 6, 2) := by decide +kernel
theorem dX4_holdAll_34 : decode cX4_holdAll 34 = .ok (.laload, 1) := by decide +kernel
theorem dX4_holdAll_35 : decode cX4_holdAll 35 = .ok (.aload_n 0, 1) := by decide +kernel
theorem dX4_holdAll_36 : decode cX4_holdAll 36 = .ok (.getfield 15, 3) := by decide +kernel
theorem dX4_holdAll_39 : decode cX4_holdAll 39 = .ok (.iload 7, 2) := by decide +kernel
theorem dX4_holdAll_41 : decode cX4_holdAll 41 = .ok (.laload, 1) := by decide +kernel
theorem dX4_holdAll_42 : decode cX4_holdAll 42 = .ok (.lor, 1) := by decide +kernel
theorem dX4_holdAll_43 : decode cX4_holdAll 43 = .ok (.lastore, 1) := by decide +kernel
theorem dX4_holdAll_44 : decode cX4_holdAll 44 = .ok (.aload_n 0, 1) := by decide +kernel
theorem dX4_holdAll_45 : decode cX4_holdAll 45 = .ok (.getfield 19, 3) := by decide +kernel
theorem dX4_holdAll_48 : decode cX4_holdAll 48 = .ok (.iload 5, 2) := by decide +kernel
theorem dX4_holdAll_50 : decode cX4_holdAll 50 = .ok (.aload_n 0, 1) := by decide +kernel
theorem dX4_holdAll_51 : decode cX4_holdAll 51 = .ok (.getfield 19, 3) := by decide +kernel
theorem dX4_holdAll_54 : decode cX4_holdAll 54 = .ok (.iload 6, 2) := by decide +kernel
theorem dX4_holdAll_56 : decode cX4_holdAll 56 = .ok (.laload, 1) := by decide +kernel
theorem dX4_holdAll_57 : decode cX4_holdAll 57 = .ok (.aload_n 0, 1) := by decide +kernel
theorem dX4_holdAll_58 : decode cX4_holdAll 58 = .ok (.getfield 19, 3) := by decide +kernel
theorem dX4_holdAll_61 : decode cX4_holdAll 61 = .ok (.iload 7, 2) := by decide +kernel
theorem dX4_holdAll_63 : decode cX4_holdAll 63 = .ok (.laload, 1) := by decide +kernel
theorem dX4_holdAll_64 : decode cX4_holdAll 64 = .ok (.lor, 1) := by decide +kernel
theorem dX4_holdAll_65 : decode cX4_holdAll 65 = .ok (.lastore, 1) := by decide +kernel
theorem dX4_holdAll_66 : decode cX4_holdAll 66 = .ok (.return_, 1) := by decide +kernel
theorem dX4_holdsSame_0 : decode cX4_holdsSame 0 = .ok (.iload_n 2, 1) := by decide +kernel
theorem dX4_holdsSame_1 : decode cX4_holdsSame 1 = .ok (.iload_n 1, 1) := by decide +kernel
theorem dX4_holdsSame_2 : decode cX4_holdsSame 2 = .ok (.invokestatic 28, 3) := by decide +kernel
theorem dX4_holdsSame_5 : decode cX4_holdsSame 5 = .ok (.istore 4, 2) := by decide +kernel
theorem dX4_holdsSame_7 : decode cX4_holdsSame 7 = .ok (.iload_n 3, 1) := by decide +kernel
theorem dX4_holdsSame_8 : decode cX4_holdsSame 8 = .ok (.iload_n 1, 1) := by decide +kernel
theorem dX4_holdsSame_9 : decode cX4_holdsSame 9 = .ok (.invokestatic 28, 3) := by decide +kernel
theorem dX4_holdsSame_12 : decode cX4_holdsSame 12 = .ok (.istore 5, 2) := by decide +kernel
theorem dX4_holdsSame_14 : decode cX4_holdsSame 14 = .ok (.aload_n 0, 1) := by decide +kernel
theorem dX4_holdsSame_15 : decode cX4_holdsSame 15 = .ok (.getfield 15, 3) := by decide +kernel
theorem dX4_holdsSame_18 : decode cX4_holdsSame 18 = .ok (.iload 4, 2) := by decide +kernel
theorem dX4_holdsSame_20 : decode cX4_holdsSame 20 = .ok (.laload, 1) := by decide +kernel
theorem dX4_holdsSame_21 : decode cX4_holdsSame 21 = .ok (.aload_n 0, 1) := by decide +kernel
theorem dX4_holdsSame_22 : decode cX4_holdsSame 22 = .ok (.getfield 15, 3) := by decide +kernel
theorem dX4_holdsSame_25 : decode cX4_holdsSame 25 = .ok (.iload 5, 2) := by decide +kernel
theorem dX4_holdsSame_27 : decode cX4_holdsSame 27 = .ok (.laload, 1) := by decide +kernel
theorem dX4_holdsSame_28 : decode cX4_holdsSame 28 = .ok (.lcmp, 1) := by decide +kernel
theorem dX4_holdsSame_29 : decode cX4_holdsSame 29 = .ok (.ifCond .ne 25, 3) := by decide +kernel
theorem dX4_holdsSame_32 : decode cX4_holdsSame 32 = .ok (.aload_n 0, 1) := by decide +kernel
theorem dX4_holdsSame_33 : decode cX4_holdsSame 33 = .ok (.getfield 19, 3) := by decide +kernel
theorem dX4_holdsSame_36 : decode cX4_holdsSame 36 = .ok (.iload 4, 2) := by decide +kernel
theorem dX4_holdsSame_38 : decode cX4_holdsSame 38 = .ok (.laload, 1) := by decide +kernel
theorem dX4_holdsSame_39 : decode cX4_holdsSame 39 = .ok (.aload_n 0, 1) := by decide +kernel
theorem dX4_holdsSame_40 : decode cX4_holdsSame 40 = .ok (.getfield 19, 3) := by decide +kernel
theorem dX4_holdsSame_43 : decode cX4_holdsSame 43 = .ok (.iload 5, 2) := by decide +kernel
theorem dX4_holdsSame_45 : decode cX4_holdsSame 45 = .ok (.laload, 1) := by decide +kernel
theorem dX4_holdsSame_46 : decode cX4_holdsSame 46 = .ok (.lcmp, 1) := by decide +kernel
theorem dX4_holdsSame_47 : decode cX4_holdsSame 47 = .ok (.ifCond .ne 7, 3) := by decide +kernel
theorem dX4_holdsSame_50 : decode cX4_holdsSame 50 = .ok (.iconst 1, 1) := by decide +kernel
theorem dX4_holdsSame_51 : decode cX4_holdsSame 51 = .ok (.goto 4, 3) := by decide +kernel
theorem dX4_holdsSame_54 : decode cX4_holdsSame 54 = .ok (.iconst 0, 1) := by decide +kernel
theorem dX4_holdsSame_55 : decode cX4_holdsSame 55 = .ok (.ireturn, 1) := by decide +kernel
theorem dX4_holdsNothingElse_0 : decode cX4_holdsNothingElse 0 = .ok (.iload_n 1, 1) := by decide +kernel
theorem dX4_holdsNothingElse_1 : decode cX4_holdsNothingElse 1 = .ok (.iload_n 2, 1) := by decide +kernel
theorem dX4_holdsNothingElse_2 : decode cX4_holdsNothingElse 2 = .ok (.invokestatic 28, 3) := by decide +kernel
theorem dX4_holdsNothingElse_5 : decode cX4_holdsNothingElse 5 = .ok (.istore_n 3, 1) := by decide +kernel
theorem dX4_holdsNothingElse_6 : decode cX4_holdsNothingElse 6 = .ok (.aload_n 0, 1) := by decide +kernel
theorem dX4_holdsNothingElse_7 : decode cX4_holdsNothingElse 7 = .ok (.getfield 15, 3) := by decide +kernel
theorem dX4_holdsNothingElse_10 : decode cX4_holdsNothingElse 10 = .ok (.iload_n 3, 1) := by decide +kernel
theorem dX4_holdsNothingElse_11 : decode cX4_holdsNothingElse 11 = .ok (.laload, 1) := by decide +kernel
theorem dX4_holdsNothingElse_12 : decode cX4_holdsNothingElse 12 = .ok (.iconst 0, 1) := by decide +kernel
theorem dX4_holdsNothingElse_13 : decode cX4_holdsNothingElse 13 = .ok (.invokestatic 38, 3) := by decide +kernel
theorem dX4_holdsNothingElse_16 : decode cX4_holdsNothingElse 16 = .ok (.lcmp, 1) := by decide +kernel
theorem dX4_holdsNothingElse_17 : decode cX4_holdsNothingElse 17 = .ok (.ifCond .ne 18, 3) := by decide +kernel
theorem dX4_holdsNothingElse_20 : decode cX4_holdsNothingElse 20 = .ok (.aload_n 0, 1) := by decide +kernel
theorem dX4_holdsNothingElse_21 : decode cX4_holdsNothingElse 21 = .ok (.getfield 19, 3) := by decide +kernel
theorem dX4_holdsNothingElse_24 : decode cX4_holdsNothingElse 24 = .ok (.iload_n 3, 1) := by decide +kernel
theorem dX4_holdsNothingElse_25 : decode cX4_holdsNothingElse 25 = .ok (.laload, 1) := by decide +kernel
theorem dX4_holdsNothingElse_26 : decode cX4_holdsNothingElse 26 = .ok (.lconst 0, 1) := by decide +kernel
theorem dX4_holdsNothingElse_27 : decode cX4_holdsNothingElse 27 = .ok (.lcmp, 1) := by decide +kernel
theorem dX4_holdsNothingElse_28 : decode cX4_holdsNothingElse 28 = .ok (.ifCond .ne 7, 3) := by decide +kernel
theorem dX4_holdsNothingElse_31 : decode cX4_holdsNothingElse 31 = .ok (.iconst 1, 1) := by decide +kernel
theorem dX4_holdsNothingElse_32 : decode cX4_holdsNothingElse 32 = .ok (.goto 4, 3) := by decide +kernel
theorem dX4_holdsNothingElse_35 : decode cX4_holdsNothingElse 35 = .ok (.iconst 0, 1) := by decide +kernel
theorem dX4_holdsNothingElse_36 : decode cX4_holdsNothingElse 36 = .ok (.ireturn, 1) := by decide +kernel
theorem dX4_holdsConflict_0 : decode cX4_holdsConflict 0 = .ok (.aload_n 0, 1) := by decide +kernel
theorem dX4_holdsConflict_1 : decode cX4_holdsConflict 1 = .ok (.iload_n 1, 1) := by decide +kernel
theorem dX4_holdsConflict_2 : decode cX4_holdsConflict 2 = .ok (.iload_n 2, 1) := by decide +kernel
theorem dX4_holdsConflict_3 : decode cX4_holdsConflict 3 = .ok (.invokevirtual 45, 3) := by decide +kernel
theorem dX4_holdsConflict_6 : decode cX4_holdsConflict 6 = .ok (.iconst 1, 1) := by decide +kernel
theorem dX4_holdsConflict_7 : decode cX4_holdsConflict 7 = .ok (.if_icmp .le 7, 3) := by decide +kernel
theorem dX4_holdsConflict_10 : decode cX4_holdsConflict 10 = .ok (.iconst 1, 1) := by decide +kernel
theorem dX4_holdsConflict_11 : decode cX4_holdsConflict 11 = .ok (.goto 4, 3) := by decide +kernel
theorem dX4_holdsConflict_14 : decode cX4_holdsConflict 14 = .ok (.iconst 0, 1) := by decide +kernel
theorem dX4_holdsConflict_15 : decode cX4_holdsConflict 15 = .ok (.ireturn, 1) := by decide +kernel
theorem dX4_sideCount_0 : decode cX4_sideCount 0 = .ok (.iload_n 1, 1) := by decide +kernel
theorem dX4_sideCount_1 : decode cX4_sideCount 1 = .ok (.iload_n 2, 1) := by decide +kernel
theorem dX4_sideCount_2 : decode cX4_sideCount 2 = .ok (.invokestatic 28, 3) := by decide +kernel
theorem dX4_sideCount_5 : decode cX4_sideCount 5 = .ok (.istore_n 3, 1) := by decide +kernel
theorem dX4_sideCount_6 : decode cX4_sideCount 6 = .ok (.aload_n 0, 1) := by decide +kernel
theorem dX4_sideCount_7 : decode cX4_sideCount 7 = .ok (.getfield 15, 3) := by decide +kernel
theorem dX4_sideCount_10 : decode cX4_sideCount 10 = .ok (.iload_n 3, 1) := by decide +kernel
theorem dX4_sideCount_11 : decode cX4_sideCount 11 = .ok (.laload, 1) := by decide +kernel
theorem dX4_sideCount_12 : decode cX4_sideCount 12 = .ok (.invokestatic 48, 3) := by decide +kernel
theorem dX4_sideCount_15 : decode cX4_sideCount 15 = .ok (.aload_n 0, 1) := by decide +kernel
theorem dX4_sideCount_16 : decode cX4_sideCount 16 = .ok (.getfield 19, 3) := by decide +kernel
theorem dX4_sideCount_19 : decode cX4_sideCount 19 = .ok (.iload_n 3, 1) := by decide +kernel
theorem dX4_sideCount_20 : decode cX4_sideCount 20 = .ok (.laload, 1) := by decide +kernel
theorem dX4_sideCount_21 : decode cX4_sideCount 21 = .ok (.invokestatic 48, 3) := by decide +kernel
theorem dX4_sideCount_24 : decode cX4_sideCount 24 = .ok (.iadd, 1) := by decide +kernel
theorem dX4_sideCount_25 : decode cX4_sideCount 25 = .ok (.ireturn, 1) := by decide +kernel
theorem dX4_loneValue_0 : decode cX4_loneValue 0 = .ok (.iload_n 1, 1) := by decide +kernel
theorem dX4_loneValue_1 : decode cX4_loneValue 1 = .ok (.iload_n 2, 1) := by decide +kernel
theorem dX4_loneValue_2 : decode cX4_loneValue 2 = .ok (.invokestatic 28, 3) := by decide +kernel
theorem dX4_loneValue_5 : decode cX4_loneValue 5 = .ok (.istore_n 3, 1) := by decide +kernel
theorem dX4_loneValue_6 : decode cX4_loneValue 6 = .ok (.aload_n 0, 1) := by decide +kernel
theorem dX4_loneValue_7 : decode cX4_loneValue 7 = .ok (.getfield 15, 3) := by decide +kernel
theorem dX4_loneValue_10 : decode cX4_loneValue 10 = .ok (.iload_n 3, 1) := by decide +kernel
theorem dX4_loneValue_11 : decode cX4_loneValue 11 = .ok (.laload, 1) := by decide +kernel
theorem dX4_loneValue_12 : decode cX4_loneValue 12 = .ok (.lconst 0, 1) := by decide +kernel
theorem dX4_loneValue_13 : decode cX4_loneValue 13 = .ok (.lcmp, 1) := by decide +kernel
theorem dX4_loneValue_14 : decode cX4_loneValue 14 = .ok (.ifCond .eq 12, 3) := by decide +kernel
theorem dX4_loneValue_17 : decode cX4_loneValue 17 = .ok (.aload_n 0, 1) := by decide +kernel
theorem dX4_loneValue_18 : decode cX4_loneValue 18 = .ok (.getfield 15, 3) := by decide +kernel
theorem dX4_loneValue_21 : decode cX4_loneValue 21 = .ok (.iload_n 3, 1) := by decide +kernel
theorem dX4_loneValue_22 : decode cX4_loneValue 22 = .ok (.laload, 1) := by decide +kernel
theorem dX4_loneValue_23 : decode cX4_loneValue 23 = .ok (.goto 9, 3) := by decide +kernel
theorem dX4_loneValue_26 : decode cX4_loneValue 26 = .ok (.aload_n 0, 1) := by decide +kernel
theorem dX4_loneValue_27 : decode cX4_loneValue 27 = .ok (.getfield 19, 3) := by decide +kernel
theorem dX4_loneValue_30 : decode cX4_loneValue 30 = .ok (.iload_n 3, 1) := by decide +kernel
theorem dX4_loneValue_31 : decode cX4_loneValue 31 = .ok (.laload, 1) := by decide +kernel
theorem dX4_loneValue_32 : decode cX4_loneValue 32 = .ok (.lstore 4, 2) := by decide +kernel
theorem dX4_loneValue_34 : decode cX4_loneValue 34 = .ok (.lload 4, 2) := by decide +kernel
theorem dX4_loneValue_36 : decode cX4_loneValue 36 = .ok (.lload 4, 2) := by decide +kernel
theorem dX4_loneValue_38 : decode cX4_loneValue 38 = .ok (.lneg, 1) := by decide +kernel
theorem dX4_loneValue_39 : decode cX4_loneValue 39 = .ok (.land, 1) := by decide +kernel
theorem dX4_loneValue_40 : decode cX4_loneValue 40 = .ok (.lconst 1, 1) := by decide +kernel
theorem dX4_loneValue_41 : decode cX4_loneValue 41 = .ok (.lsub, 1) := by decide +kernel
theorem dX4_loneValue_42 : decode cX4_loneValue 42 = .ok (.invokestatic 48, 3) := by decide +kernel
theorem dX4_loneValue_45 : decode cX4_loneValue 45 = .ok (.istore 6, 2) := by decide +kernel
theorem dX4_loneValue_47 : decode cX4_loneValue 47 = .ok (.aload_n 0, 1) := by decide +kernel
theorem dX4_loneValue_48 : decode cX4_loneValue 48 = .ok (.getfield 15, 3) := by decide +kernel
theorem dX4_loneValue_51 : decode cX4_loneValue 51 = .ok (.iload_n 3, 1) := by decide +kernel
theorem dX4_loneValue_52 : decode cX4_loneValue 52 = .ok (.laload, 1) := by decide +kernel
theorem dX4_loneValue_53 : decode cX4_loneValue 53 = .ok (.lconst 0, 1) := by decide +kernel
theorem dX4_loneValue_54 : decode cX4_loneValue 54 = .ok (.lcmp, 1) := by decide +kernel
theorem dX4_loneValue_55 : decode cX4_loneValue 55 = .ok (.ifCond .eq 8, 3) := by decide +kernel
theorem dX4_loneValue_58 : decode cX4_loneValue 58 = .ok (.iload 6, 2) := by decide +kernel
theorem dX4_loneValue_60 : decode cX4_loneValue 60 = .ok (.goto 8, 3) := by decide +kernel
theorem dX4_loneValue_63 : decode cX4_loneValue 63 = .ok (.bipush 64, 2) := by decide +kernel
theorem dX4_loneValue_65 : decode cX4_loneValue 65 = .ok (.iload 6, 2) := by decide +kernel
theorem dX4_loneValue_67 : decode cX4_loneValue 67 = .ok (.iadd, 1) := by decide +kernel
theorem dX4_loneValue_68 : decode cX4_loneValue 68 = .ok (.istore 7, 2) := by decide +kernel
theorem dX4_loneValue_70 : decode cX4_loneValue 70 = .ok (.iload 7, 2) := by decide +kernel
theorem dX4_loneValue_72 : decode cX4_loneValue 72 = .ok (.aload_n 0, 1) := by decide +kernel
theorem dX4_loneValue_73 : decode cX4_loneValue 73 = .ok (.getfield 9, 3) := by decide +kernel
theorem dX4_loneValue_76 : decode cX4_loneValue 76 = .ok (.getfield 54, 3) := by decide +kernel
theorem dX4_loneValue_79 : decode cX4_loneValue 79 = .ok (.if_icmp .ge 16, 3) := by decide +kernel
theorem dX4_loneValue_82 : decode cX4_loneValue 82 = .ok (.aload_n 0, 1) := by decide +kernel
theorem dX4_loneValue_83 : decode cX4_loneValue 83 = .ok (.getfield 9, 3) := by decide +kernel
theorem dX4_loneValue_86 : decode cX4_loneValue 86 = .ok (.getfield 58, 3) := by decide +kernel
theorem dX4_loneValue_89 : decode cX4_loneValue 89 = .ok (.iload 7, 2) := by decide +kernel
theorem dX4_loneValue_91 : decode cX4_loneValue 91 = .ok (.iaload, 1) := by decide +kernel
theorem dX4_loneValue_92 : decode cX4_loneValue 92 = .ok (.goto 6, 3) := by decide +kernel
theorem dX4_loneValue_95 : decode cX4_loneValue 95 = .ok (.sipush (-1000), 3) := by decide +kernel
theorem dX4_loneValue_98 : decode cX4_loneValue 98 = .ok (.ireturn, 1) := by decide +kernel
theorem dX4_sideAtIndex_0 : decode cX4_sideAtIndex 0 = .ok (.iload_n 1, 1) := by decide +kernel
theorem dX4_sideAtIndex_1 : decode cX4_sideAtIndex 1 = .ok (.iload_n 2, 1) := by decide +kernel
theorem dX4_sideAtIndex_2 : decode cX4_sideAtIndex 2 = .ok (.invokestatic 28, 3) := by decide +kernel
theorem dX4_sideAtIndex_5 : decode cX4_sideAtIndex 5 = .ok (.istore 4, 2) := by decide +kernel
theorem dX4_sideAtIndex_7 : decode cX4_sideAtIndex 7 = .ok (.iconst 0, 1) := by decide +kernel
theorem dX4_sideAtIndex_8 : decode cX4_sideAtIndex 8 = .ok (.istore 5, 2) := by decide +kernel
theorem dX4_sideAtIndex_10 : decode cX4_sideAtIndex 10 = .ok (.iconst 0, 1) := by decide +kernel
theorem dX4_sideAtIndex_11 : decode cX4_sideAtIndex 11 = .ok (.istore 6, 2) := by decide +kernel
theorem dX4_sideAtIndex_13 : decode cX4_sideAtIndex 13 = .ok (.iload 6, 2) := by decide +kernel
theorem dX4_sideAtIndex_15 : decode cX4_sideAtIndex 15 = .ok (.aload_n 0, 1) := by decide +kernel
theorem dX4_sideAtIndex_16 : decode cX4_sideAtIndex 16 = .ok (.getfield 9, 3) := by decide +kernel
theorem dX4_sideAtIndex_19 : decode cX4_sideAtIndex 19 = .ok (.getfield 54, 3) := by decide +kernel
theorem dX4_sideAtIndex_22 : decode cX4_sideAtIndex 22 = .ok (.if_icmp .ge 54, 3) := by decide +kernel
theorem dX4_sideAtIndex_25 : decode cX4_sideAtIndex 25 = .ok (.aload_n 0, 1) := by decide +kernel
theorem dX4_sideAtIndex_26 : decode cX4_sideAtIndex 26 = .ok (.getfield 9, 3) := by decide +kernel
theorem dX4_sideAtIndex_29 : decode cX4_sideAtIndex 29 = .ok (.iload 6, 2) := by decide +kernel
theorem dX4_sideAtIndex_31 : decode cX4_sideAtIndex 31 = .ok (.invokevirtual 62, 3) := by decide +kernel
theorem dX4_sideAtIndex_34 : decode cX4_sideAtIndex 34 = .ok (.istore 7, 2) := by decide +kernel
theorem dX4_sideAtIndex_36 : decode cX4_sideAtIndex 36 = .ok (.aload_n 0, 1) := by decide +kernel
theorem dX4_sideAtIndex_37 : decode cX4_sideAtIndex 37 = .ok (.getfield 15, 3) := by decide +kernel
theorem dX4_sideAtIndex_40 : decode cX4_sideAtIndex 40 = .ok (.iload 4, 2) := by decide +kernel
theorem dX4_sideAtIndex_42 : decode cX4_sideAtIndex 42 = .ok (.laload, 1) := by decide +kernel
theorem dX4_sideAtIndex_43 : decode cX4_sideAtIndex 43 = .ok (.aload_n 0, 1) := by decide +kernel
theorem dX4_sideAtIndex_44 : decode cX4_sideAtIndex 44 = .ok (.getfield 19, 3) := by decide +kernel
theorem dX4_sideAtIndex_47 : decode cX4_sideAtIndex 47 = .ok (.iload 4, 2) := by decide +kernel
theorem dX4_sideAtIndex_49 : decode cX4_sideAtIndex 49 = .ok (.laload, 1) := by decide +kernel
theorem dX4_sideAtIndex_50 : decode cX4_sideAtIndex 50 = .ok (.iload 7, 2) := by decide +kernel
theorem dX4_sideAtIndex_52 : decode cX4_sideAtIndex 52 = .ok (.invokestatic 66, 3) := by decide +kernel
theorem dX4_sideAtIndex_55 : decode cX4_sideAtIndex 55 = .ok (.ifCond .eq 15, 3) := by decide +kernel
theorem dX4_sideAtIndex_58 : decode cX4_sideAtIndex 58 = .ok (.iload 5, 2) := by decide +kernel
theorem dX4_sideAtIndex_60 : decode cX4_sideAtIndex 60 = .ok (.iload_n 3, 1) := by decide +kernel
theorem dX4_sideAtIndex_61 : decode cX4_sideAtIndex 61 = .ok (.if_icmp .ne 6, 3) := by decide +kernel
theorem dX4_sideAtIndex_64 : decode cX4_sideAtIndex 64 = .ok (.iload 7, 2) := by decide +kernel
theorem dX4_sideAtIndex_66 : decode cX4_sideAtIndex 66 = .ok (.ireturn, 1) := by decide +kernel
theorem dX4_sideAtIndex_67 : decode cX4_sideAtIndex 67 = .ok (.iinc 5 1, 3) := by decide +kernel
theorem dX4_sideAtIndex_70 : decode cX4_sideAtIndex 70 = .ok (.iinc 6 1, 3) := by decide +kernel
theorem dX4_sideAtIndex_73 : decode cX4_sideAtIndex 73 = .ok (.goto (-60), 3) := by decide +kernel
theorem dX4_sideAtIndex_76 : decode cX4_sideAtIndex 76 = .ok (.iconst (-1), 1) := by decide +kernel
theorem dX4_sideAtIndex_77 : decode cX4_sideAtIndex 77 = .ok (.ireturn, 1) := by decide +kernel
theorem dX4_conflictCount_0 : decode cX4_conflictCount 0 = .ok (.iconst 0, 1) := by decide +kernel
theorem dX4_conflictCount_1 : decode cX4_conflictCount 1 = .ok (.istore_n 2, 1) := by decide +kernel
theorem dX4_conflictCount_2 : decode cX4_conflictCount 2 = .ok (.iconst 0, 1) := by decide +kernel
theorem dX4_conflictCount_3 : decode cX4_conflictCount 3 = .ok (.istore_n 3, 1) := by decide +kernel
theorem dX4_conflictCount_4 : decode cX4_conflictCount 4 = .ok (.iload_n 3, 1) := by decide +kernel
theorem dX4_conflictCount_5 : decode cX4_conflictCount 5 = .ok (.bipush 12, 2) := by decide +kernel
theorem dX4_conflictCount_7 : decode cX4_conflictCount 7 = .ok (.if_icmp .ge 21, 3) := by decide +kernel
theorem dX4_conflictCount_10 : decode cX4_conflictCount 10 = .ok (.aload_n 0, 1) := by decide +kernel
theorem dX4_conflictCount_11 : decode cX4_conflictCount 11 = .ok (.iload_n 1, 1) := by decide +kernel
theorem dX4_conflictCount_12 : decode cX4_conflictCount 12 = .ok (.iload_n 3, 1) := by decide +kernel
theorem dX4_conflictCount_13 : decode cX4_conflictCount 13 = .ok (.invokevirtual 70, 3) := by decide +kernel
theorem dX4_conflictCount_16 : decode cX4_conflictCount 16 = .ok (.ifCond .eq 6, 3) := by decide +kernel
theorem dX4_conflictCount_19 : decode cX4_conflictCount 19 = .ok (.iinc 2 1, 3) := by decide +kernel
theorem dX4_conflictCount_22 : decode cX4_conflictCount 22 = .ok (.iinc 3 1, 3) := by decide +kernel
theorem dX4_conflictCount_25 : decode cX4_conflictCount 25 = .ok (.goto (-21), 3) := by decide +kernel
theorem dX4_conflictCount_28 : decode cX4_conflictCount 28 = .ok (.iload_n 2, 1) := by decide +kernel
theorem dX4_conflictCount_29 : decode cX4_conflictCount 29 = .ok (.ireturn, 1) := by decide +kernel
theorem dX4_differenceCount_0 : decode cX4_differenceCount 0 = .ok (.iconst 0, 1) := by decide +kernel
theorem dX4_differenceCount_1 : decode cX4_differenceCount 1 = .ok (.istore_n 3, 1) := by decide +kernel
theorem dX4_differenceCount_2 : decode cX4_differenceCount 2 = .ok (.iconst 0, 1) := by decide +kernel
theorem dX4_differenceCount_3 : decode cX4_differenceCount 3 = .ok (.istore 4, 2) := by decide +kernel
theorem dX4_differenceCount_5 : decode cX4_differenceCount 5 = .ok (.iload 4, 2) := by decide +kernel
theorem dX4_differenceCount_7 : decode cX4_differenceCount 7 = .ok (.bipush 12, 2) := by decide +kernel
theorem dX4_differenceCount_9 : decode cX4_differenceCount 9 = .ok (.if_icmp .ge 23, 3) := by decide +kernel
theorem dX4_differenceCount_12 : decode cX4_differenceCount 12 = .ok (.aload_n 0, 1) := by decide +kernel
theorem dX4_differenceCount_13 : decode cX4_differenceCount 13 = .ok (.iload 4, 2) := by decide +kernel
theorem dX4_differenceCount_15 : decode cX4_differenceCount 15 = .ok (.iload_n 1, 1) := by decide +kernel
theorem dX4_differenceCount_16 : decode cX4_differenceCount 16 = .ok (.iload_n 2, 1) := by decide +kernel
theorem dX4_differenceCount_17 : decode cX4_differenceCount 17 = .ok (.invokevirtual 74, 3) := by decide +kernel
theorem dX4_differenceCount_20 : decode cX4_differenceCount 20 = .ok (.ifCond .ne 6, 3) := by decide +kernel
theorem dX4_differenceCount_23 : decode cX4_differenceCount 23 = .ok (.iinc 3 1, 3) := by decide +kernel
theorem dX4_differenceCount_26 : decode cX4_differenceCount 26 = .ok (.iinc 4 1, 3) := by decide +kernel
theorem dX4_differenceCount_29 : decode cX4_differenceCount 29 = .ok (.goto (-24), 3) := by decide +kernel
theorem dX4_differenceCount_32 : decode cX4_differenceCount 32 = .ok (.iload_n 3, 1) := by decide +kernel
theorem dX4_differenceCount_33 : decode cX4_differenceCount 33 = .ok (.ireturn, 1) := by decide +kernel
theorem dJ13_bitCount_95d88_0 : decode cJ13_bitCount_95d88 0 = .ok (.lload_n 0, 1) := by decide +kernel
theorem dJ13_bitCount_95d88_1 : decode cJ13_bitCount_95d88 1 = .ok (.lload_n 0, 1) := by decide +kernel
theorem dJ13_bitCount_95d88_2 : decode cJ13_bitCount_95d88 2 = .ok (.iconst 1, 1) := by decide +kernel
theorem dJ13_bitCount_95d88_3 : decode cJ13_bitCount_95d88 3 = .ok (.lushr, 1) := by decide +kernel
theorem dJ13_bitCount_95d88_4 : decode cJ13_bitCount_95d88 4 = .ok (.ldc2_w 314, 3) := by decide +kernel
theorem dJ13_bitCount_95d88_7 : decode cJ13_bitCount_95d88 7 = .ok (.land, 1) := by decide +kernel
theorem dJ13_bitCount_95d88_8 : decode cJ13_bitCount_95d88 8 = .ok (.lsub, 1) := by decide +kernel
theorem dJ13_bitCount_95d88_9 : decode cJ13_bitCount_95d88 9 = .ok (.lstore_n 0, 1) := by decide +kernel
theorem dJ13_bitCount_95d88_10 : decode cJ13_bitCount_95d88 10 = .ok (.lload_n 0, 1) := by decide +kernel
theorem dJ13_bitCount_95d88_11 : decode cJ13_bitCount_95d88 11 = .ok (.ldc2_w 316, 3) := by decide +kernel
theorem dJ13_bitCount_95d88_14 : decode cJ13_bitCount_95d88 14 = .ok (.land, 1) := by decide +kernel
theorem dJ13_bitCount_95d88_15 : decode cJ13_bitCount_95d88 15 = .ok (.lload_n 0, 1) := by decide +kernel
theorem dJ13_bitCount_95d88_16 : decode cJ13_bitCount_95d88 16 = .ok (.iconst 2, 1) := by decide +kernel
theorem dJ13_bitCount_95d88_17 : decode cJ13_bitCount_95d88 17 = .ok (.lushr, 1) := by decide +kernel
theorem dJ13_bitCount_95d88_18 : decode cJ13_bitCount_95d88 18 = .ok (.ldc2_w 316, 3) := by decide +kernel
theorem dJ13_bitCount_95d88_21 : decode cJ13_bitCount_95d88 21 = .ok (.land, 1) := by decide +kernel
theorem dJ13_bitCount_95d88_22 : decode cJ13_bitCount_95d88 22 = .ok (.ladd, 1) := by decide +kernel
theorem dJ13_bitCount_95d88_23 : decode cJ13_bitCount_95d88 23 = .ok (.lstore_n 0, 1) := by decide +kernel
theorem dJ13_bitCount_95d88_24 : decode cJ13_bitCount_95d88 24 = .ok (.lload_n 0, 1) := by decide +kernel
theorem dJ13_bitCount_95d88_25 : decode cJ13_bitCount_95d88 25 = .ok (.lload_n 0, 1) := by decide +kernel
theorem dJ13_bitCount_95d88_26 : decode cJ13_bitCount_95d88 26 = .ok (.iconst 4, 1) := by decide +kernel
theorem dJ13_bitCount_95d88_27 : decode cJ13_bitCount_95d88 27 = .ok (.lushr, 1) := by decide +kernel
theorem dJ13_bitCount_95d88_28 : decode cJ13_bitCount_95d88 28 = .ok (.ladd, 1) := by decide +kernel
theorem dJ13_bitCount_95d88_29 : decode cJ13_bitCount_95d88 29 = .ok (.ldc2_w 318, 3) := by decide +kernel
theorem dJ13_bitCount_95d88_32 : decode cJ13_bitCount_95d88 32 = .ok (.land, 1) := by decide +kernel
theorem dJ13_bitCount_95d88_33 : decode cJ13_bitCount_95d88 33 = .ok (.lstore_n 0, 1) := by decide +kernel
theorem dJ13_bitCount_95d88_34 : decode cJ13_bitCount_95d88 34 = .ok (.lload_n 0, 1) := by decide +kernel
theorem dJ13_bitCount_95d88_35 : decode cJ13_bitCount_95d88 35 = .ok (.lload_n 0, 1) := by decide +kernel
theorem dJ13_bitCount_95d88_36 : decode cJ13_bitCount_95d88 36 = .ok (.bipush 8, 2) := by decide +kernel
theorem dJ13_bitCount_95d88_38 : decode cJ13_bitCount_95d88 38 = .ok (.lushr, 1) := by decide +kernel
theorem dJ13_bitCount_95d88_39 : decode cJ13_bitCount_95d88 39 = .ok (.ladd, 1) := by decide +kernel
theorem dJ13_bitCount_95d88_40 : decode cJ13_bitCount_95d88 40 = .ok (.lstore_n 0, 1) := by decide +kernel
theorem dJ13_bitCount_95d88_41 : decode cJ13_bitCount_95d88 41 = .ok (.lload_n 0, 1) := by decide +kernel
theorem dJ13_bitCount_95d88_42 : decode cJ13_bitCount_95d88 42 = .ok (.lload_n 0, 1) := by decide +kernel
theorem dJ13_bitCount_95d88_43 : decode cJ13_bitCount_95d88 43 = .ok (.bipush 16, 2) := by decide +kernel
theorem dJ13_bitCount_95d88_45 : decode cJ13_bitCount_95d88 45 = .ok (.lushr, 1) := by decide +kernel
theorem dJ13_bitCount_95d88_46 : decode cJ13_bitCount_95d88 46 = .ok (.ladd, 1) := by decide +kernel
theorem dJ13_bitCount_95d88_47 : decode cJ13_bitCount_95d88 47 = .ok (.lstore_n 0, 1) := by decide +kernel
theorem dJ13_bitCount_95d88_48 : decode cJ13_bitCount_95d88 48 = .ok (.lload_n 0, 1) := by decide +kernel
theorem dJ13_bitCount_95d88_49 : decode cJ13_bitCount_95d88 49 = .ok (.lload_n 0, 1) := by decide +kernel
theorem dJ13_bitCount_95d88_50 : decode cJ13_bitCount_95d88 50 = .ok (.bipush 32, 2) := by decide +kernel
theorem dJ13_bitCount_95d88_52 : decode cJ13_bitCount_95d88 52 = .ok (.lushr, 1) := by decide +kernel
theorem dJ13_bitCount_95d88_53 : decode cJ13_bitCount_95d88 53 = .ok (.ladd, 1) := by decide +kernel
theorem dJ13_bitCount_95d88_54 : decode cJ13_bitCount_95d88 54 = .ok (.lstore_n 0, 1) := by decide +kernel
theorem dJ13_bitCount_95d88_55 : decode cJ13_bitCount_95d88 55 = .ok (.lload_n 0, 1) := by decide +kernel
theorem dJ13_bitCount_95d88_56 : decode cJ13_bitCount_95d88 56 = .ok (.l2i, 1) := by decide +kernel
theorem dJ13_bitCount_95d88_57 : decode cJ13_bitCount_95d88 57 = .ok (.bipush 127, 2) := by decide +kernel
theorem dJ13_bitCount_95d88_59 : decode cJ13_bitCount_95d88 59 = .ok (.iand, 1) := by decide +kernel
theorem dJ13_bitCount_95d88_60 : decode cJ13_bitCount_95d88 60 = .ok (.ireturn, 1) := by decide +kernel
