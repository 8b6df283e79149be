theorem dX5_init_0 : decode cX5_init 0 = .ok (.aload_n 0, 1) := by decide +kernel
theorem dX5_init_1 : decode cX5_init 1 = .ok (.invokespecial 3, 3) := by decide +kernel
theorem dX5_init_4 : decode cX5_init 4 = .ok (.aload_n 0, 1) := by decide +kernel
theorem dX5_init_5 : decode cX5_init 5 = .ok (.bipush 12, 2) := by decide +kernel
theorem dX5_init_7 : decode cX5_init 7 = .ok (.newarray .char, 2) := by decide +kernel
theorem dX5_init_9 : decode cX5_init 9 = .ok (.putfield 9, 3) := by decide +kernel
theorem dX5_init_12 : decode cX5_init 12 = .ok (.aload_n 0, 1) := by decide +kernel
theorem dX5_init_13 : decode cX5_init 13 = .ok (.iconst 5, 1) := by decide +kernel
theorem dX5_init_14 : decode cX5_init 14 = .ok (.newarray .int, 2) := by decide +kernel
theorem dX5_init_16 : decode cX5_init 16 = .ok (.putfield 13, 3) := by decide +kernel
theorem dX5_init_19 : decode cX5_init 19 = .ok (.aload_n 0, 1) := by decide +kernel
theorem dX5_init_20 : decode cX5_init 20 = .ok (.iconst 1, 1) := by decide +kernel
theorem dX5_init_21 : decode cX5_init 21 = .ok (.putfield 17, 3) := by decide +kernel
theorem dX5_init_24 : decode cX5_init 24 = .ok (.aload_n 0, 1) := by decide +kernel
theorem dX5_init_25 : decode cX5_init 25 = .ok (.bipush 10, 2) := by decide +kernel
theorem dX5_init_27 : decode cX5_init 27 = .ok (.newarray .int, 2) := by decide +kernel
theorem dX5_init_29 : decode cX5_init 29 = .ok (.putfield 21, 3) := by decide +kernel
theorem dX5_init_32 : decode cX5_init 32 = .ok (.iconst 0, 1) := by decide +kernel
theorem dX5_init_33 : decode cX5_init 33 = .ok (.istore_n 1, 1) := by decide +kernel
theorem dX5_init_34 : decode cX5_init 34 = .ok (.iload_n 1, 1) := by decide +kernel
theorem dX5_init_35 : decode cX5_init 35 = .ok (.aload_n 0, 1) := by decide +kernel
theorem dX5_init_36 : decode cX5_init 36 = .ok (.getfield 21, 3) := by decide +kernel
theorem dX5_init_39 : decode cX5_init 39 = .ok (.arraylength, 1) := by decide +kernel
theorem dX5_init_40 : decode cX5_init 40 = .ok (.if_icmp .ge 16, 3) := by decide +kernel
theorem dX5_init_43 : decode cX5_init 43 = .ok (.aload_n 0, 1) := by decide +kernel
theorem dX5_init_44 : decode cX5_init 44 = .ok (.getfield 21, 3) := by decide +kernel
theorem dX5_init_47 : decode cX5_init 47 = .ok (.iload_n 1, 1) := by decide +kernel
theorem dX5_init_48 : decode cX5_init 48 = .ok (.iconst (-1), 1) := by decide +kernel
theorem dX5_init_49 : decode cX5_init 49 = .ok (.iastore, 1) := by decide +kernel
theorem dX5_init_50 : decode cX5_init 50 = .ok (.iinc 1 1, 3) := by decide +kernel
theorem dX5_init_53 : decode cX5_init 53 = .ok (.goto (-19), 3) := by decide +kernel
theorem dX5_init_56 : decode cX5_init 56 = .ok (.aload_n 0, 1) := by decide +kernel
theorem dX5_init_57 : decode cX5_init 57 = .ok (.new 24, 3) := by decide +kernel
theorem dX5_init_60 : decode cX5_init 60 = .ok (.dup, 1) := by decide +kernel
theorem dX5_init_61 : decode cX5_init 61 = .ok (.invokespecial 26, 3) := by decide +kernel
theorem dX5_init_64 : decode cX5_init 64 = .ok (.putfield 27, 3) := by decide +kernel
theorem dX5_init_67 : decode cX5_init 67 = .ok (.aload_n 0, 1) := by decide +kernel
theorem dX5_init_68 : decode cX5_init 68 = .ok (.new 31, 3) := by decide +kernel
theorem dX5_init_71 : decode cX5_init 71 = .ok (.dup, 1) := by decide +kernel
theorem dX5_init_72 : decode cX5_init 72 = .ok (.invokespecial 33, 3) := by decide +kernel
theorem dX5_init_75 : decode cX5_init 75 = .ok (.putfield 34, 3) := by decide +kernel
theorem dX5_init_78 : decode cX5_init 78 = .ok (.aload_n 0, 1) := by decide +kernel
theorem dX5_init_79 : decode cX5_init 79 = .ok (.new 38, 3) := by decide +kernel
theorem dX5_init_82 : decode cX5_init 82 = .ok (.dup, 1) := by decide +kernel
theorem dX5_init_83 : decode cX5_init 83 = .ok (.invokespecial 40, 3) := by decide +kernel
theorem dX5_init_86 : decode cX5_init 86 = .ok (.putfield 41, 3) := by decide +kernel
theorem dX5_init_89 : decode cX5_init 89 = .ok (.aload_n 0, 1) := by decide +kernel
theorem dX5_init_90 : decode cX5_init 90 = .ok (.new 45, 3) := by decide +kernel
theorem dX5_init_93 : decode cX5_init 93 = .ok (.dup, 1) := by decide +kernel
theorem dX5_init_94 : decode cX5_init 94 = .ok (.aload_n 0, 1) := by decide +kernel
theorem dX5_init_95 : decode cX5_init 95 = .ok (.getfield 27, 3) := by decide +kernel
theorem dX5_init_98 : decode cX5_init 98 = .ok (.aload_n 0, 1) := by decide +kernel
theorem dX5_init_99 : decode cX5_init 99 = .ok (.getfield 41, 3) := by decide +kernel
theorem dX5_init_102 : decode cX5_init 102 = .ok (.invokespecial 47, 3) := by decide +kernel
theorem dX5_init_105 : decode cX5_init 105 = .ok (.putfield 50, 3) := by decide +kernel
theorem dX5_init_108 : decode cX5_init 108 = .ok (.aload_n 0, 1) := by decide +kernel
theorem dX5_init_109 : decode cX5_init 109 = .ok (.new 54, 3) := by decide +kernel
theorem dX5_init_112 : decode cX5_init 112 = .ok (.dup, 1) := by decide +kernel
theorem dX5_init_113 : decode cX5_init 113 = .ok (.aload_n 0, 1) := by decide +kernel
theorem dX5_init_114 : decode cX5_init 114 = .ok (.getfield 34, 3) := by decide +kernel
theorem dX5_init_117 : decode cX5_init 117 = .ok (.invokespecial 56, 3) := by decide +kernel
theorem dX5_init_120 : decode cX5_init 120 = .ok (.putfield 59, 3) := by decide +kernel
theorem dX5_init_123 : decode cX5_init 123 = .ok (.aload_n 0, 1) := by decide +kernel
theorem dX5_init_124 : decode cX5_init 124 = .ok (.new 54, 3) := by decide +kernel
theorem dX5_init_127 : decode cX5_init 127 = .ok (.dup, 1) := by decide +kernel
theorem dX5_init_128 : decode cX5_init 128 = .ok (.aload_n 0, 1) := by decide +kernel
theorem dX5_init_129 : decode cX5_init 129 = .ok (.getfield 34, 3) := by decide +kernel
theorem dX5_init_132 : decode cX5_init 132 = .ok (.invokespecial 56, 3) := by decide +kernel
theorem dX5_init_135 : decode cX5_init 135 = .ok (.putfield 63, 3) := by decide +kernel
theorem dX5_init_138 : decode cX5_init 138 = .ok (.aload_n 0, 1) := by decide +kernel
theorem dX5_init_139 : decode cX5_init 139 = .ok (.getfield 50, 3) := by decide +kernel
theorem dX5_init_142 : decode cX5_init 142 = .ok (.aload_n 0, 1) := by decide +kernel
theorem dX5_init_143 : decode cX5_init 143 = .ok (.getfield 59, 3) := by decide +kernel
theorem dX5_init_146 : decode cX5_init 146 = .ok (.iconst 0, 1) := by decide +kernel
theorem dX5_init_147 : decode cX5_init 147 = .ok (.invokevirtual 66, 3) := by decide +kernel
theorem dX5_init_150 : decode cX5_init 150 = .ok (.return_, 1) := by decide +kernel
theorem dX5_addItem_0 : decode cX5_addItem 0 = .ok (.iload_n 1, 1) := by decide +kernel
theorem dX5_addItem_1 : decode cX5_addItem 1 = .ok (.bipush 116, 2) := by decide +kernel
theorem dX5_addItem_3 : decode cX5_addItem 3 = .ok (.if_icmp .eq 25, 3) := by decide +kernel
theorem dX5_addItem_6 : decode cX5_addItem 6 = .ok (.iload_n 1, 1) := by decide +kernel
theorem dX5_addItem_7 : decode cX5_addItem 7 = .ok (.bipush 99, 2) := by decide +kernel
theorem dX5_addItem_9 : decode cX5_addItem 9 = .ok (.if_icmp .eq 19, 3) := by decide +kernel
theorem dX5_addItem_12 : decode cX5_addItem 12 = .ok (.iload_n 1, 1) := by decide +kernel
theorem dX5_addItem_13 : decode cX5_addItem 13 = .ok (.bipush 115, 2) := by decide +kernel
theorem dX5_addItem_15 : decode cX5_addItem 15 = .ok (.if_icmp .eq 13, 3) := by decide +kernel
theorem dX5_addItem_18 : decode cX5_addItem 18 = .ok (.new 70, 3) := by decide +kernel
theorem dX5_addItem_21 : decode cX5_addItem 21 = .ok (.dup, 1) := by decide +kernel
theorem dX5_addItem_22 : decode cX5_addItem 22 = .ok (.ldc 72, 2) := by decide +kernel
theorem dX5_addItem_24 : decode cX5_addItem 24 = .ok (.invokespecial 74, 3) := by decide +kernel
theorem dX5_addItem_27 : decode cX5_addItem 27 = .ok (.athrow, 1) := by decide +kernel
theorem dX5_addItem_28 : decode cX5_addItem 28 = .ok (.aload_n 0, 1) := by decide +kernel
theorem dX5_addItem_29 : decode cX5_addItem 29 = .ok (.getfield 77, 3) := by decide +kernel
theorem dX5_addItem_32 : decode cX5_addItem 32 = .ok (.bipush 12, 2) := by decide +kernel
theorem dX5_addItem_34 : decode cX5_addItem 34 = .ok (.if_icmp .lt 13, 3) := by decide +kernel
theorem dX5_addItem_37 : decode cX5_addItem 37 = .ok (.new 80, 3) := by decide +kernel
theorem dX5_addItem_40 : decode cX5_addItem 40 = .ok (.dup, 1) := by decide +kernel
theorem dX5_addItem_41 : decode cX5_addItem 41 = .ok (.ldc 82, 2) := by decide +kernel
theorem dX5_addItem_43 : decode cX5_addItem 43 = .ok (.invokespecial 84, 3) := by decide +kernel
theorem dX5_addItem_46 : decode cX5_addItem 46 = .ok (.athrow, 1) := by decide +kernel
theorem dX5_addItem_47 : decode cX5_addItem 47 = .ok (.aload_n 0, 1) := by decide +kernel
theorem dX5_addItem_48 : decode cX5_addItem 48 = .ok (.getfield 9, 3) := by decide +kernel
theorem dX5_addItem_51 : decode cX5_addItem 51 = .ok (.aload_n 0, 1) := by decide +kernel
theorem dX5_addItem_52 : decode cX5_addItem 52 = .ok (.getfield 77, 3) := by decide +kernel
theorem dX5_addItem_55 : decode cX5_addItem 55 = .ok (.iload_n 1, 1) := by decide +kernel
theorem dX5_addItem_56 : decode cX5_addItem 56 = .ok (.castore, 1) := by decide +kernel
theorem dX5_addItem_57 : decode cX5_addItem 57 = .ok (.aload_n 0, 1) := by decide +kernel
theorem dX5_addItem_58 : decode cX5_addItem 58 = .ok (.dup, 1) := by decide +kernel
theorem dX5_addItem_59 : decode cX5_addItem 59 = .ok (.getfield 77, 3) := by decide +kernel
theorem dX5_addItem_62 : decode cX5_addItem 62 = .ok (.iconst 1, 1) := by decide +kernel
theorem dX5_addItem_63 : decode cX5_addItem 63 = .ok (.iadd, 1) := by decide +kernel
theorem dX5_addItem_64 : decode cX5_addItem 64 = .ok (.putfield 77, 3) := by decide +kernel
theorem dX5_addItem_67 : decode cX5_addItem 67 = .ok (.aload_n 0, 1) := by decide +kernel
theorem dX5_addItem_68 : decode cX5_addItem 68 = .ok (.getfield 77, 3) := by decide +kernel
theorem dX5_addItem_71 : decode cX5_addItem 71 = .ok (.iconst 1, 1) := by decide +kernel
theorem dX5_addItem_72 : decode cX5_addItem 72 = .ok (.isub, 1) := by decide +kernel
theorem dX5_addItem_73 : decode cX5_addItem 73 = .ok (.ireturn, 1) := by decide +kernel
theorem dX5_kindOf_0 : decode cX5_kindOf 0 = .ok (.aload_n 0, 1) := by decide +kernel
theorem dX5_kindOf_1 : decode cX5_kindOf 1 = .ok (.iload_n 1, 1) := by decide +kernel
theorem dX5_kindOf_2 : decode cX5_kindOf 2 = .ok (.invokevirtual 85, 3) := by decide +kernel
theorem dX5_kindOf_5 : decode cX5_kindOf 5 = .ok (.aload_n 0, 1) := by decide +kernel
theorem dX5_kindOf_6 : decode cX5_kindOf 6 = .ok (.getfield 9, 3) := by decide +kernel
theorem dX5_kindOf_9 : decode cX5_kindOf 9 = .ok (.iload_n 1, 1) := by decide +kernel
theorem dX5_kindOf_10 : decode cX5_kindOf 10 = .ok (.caload, 1) := by decide +kernel
theorem dX5_kindOf_11 : decode cX5_kindOf 11 = .ok (.ireturn, 1) := by decide +kernel
theorem dX5_addBranch_0 : decode cX5_addBranch 0 = .ok (.aload_n 0, 1) := by decide +kernel
theorem dX5_addBranch_1 : decode cX5_addBranch 1 = .ok (.iload_n 1, 1) := by decide +kernel
theorem dX5_addBranch_2 : decode cX5_addBranch 2 = .ok (.invokevirtual 89, 3) := by decide +kernel
theorem dX5_addBranch_5 : decode cX5_addBranch 5 = .ok (.aload_n 0, 1) := by decide +kernel
theorem dX5_addBranch_6 : decode cX5_addBranch 6 = .ok (.getfield 17, 3) := by decide +kernel
theorem dX5_addBranch_9 : decode cX5_addBranch 9 = .ok (.iconst 5, 1) := by decide +kernel
theorem dX5_addBranch_10 : decode cX5_addBranch 10 = .ok (.if_icmp .lt 13, 3) := by decide +kernel
theorem dX5_addBranch_13 : decode cX5_addBranch 13 = .ok (.new 80, 3) := by decide +kernel
theorem dX5_addBranch_16 : decode cX5_addBranch 16 = .ok (.dup, 1) := by decide +kernel
theorem dX5_addBranch_17 : decode cX5_addBranch 17 = .ok (.ldc 92, 2) := by decide +kernel
theorem dX5_addBranch_19 : decode cX5_addBranch 19 = .ok (.invokespecial 84, 3) := by decide +kernel
theorem dX5_addBranch_22 : decode cX5_addBranch 22 = .ok (.athrow, 1) := by decide +kernel
theorem dX5_addBranch_23 : decode cX5_addBranch 23 = .ok (.aload_n 0, 1) := by decide +kernel
theorem dX5_addBranch_24 : decode cX5_addBranch 24 = .ok (.getfield 13, 3) := by decide +kernel
theorem dX5_addBranch_27 : decode cX5_addBranch 27 = .ok (.aload_n 0, 1) := by decide +kernel
theorem dX5_addBranch_28 : decode cX5_addBranch 28 = .ok (.getfield 17, 3) := by decide +kernel
theorem dX5_addBranch_31 : decode cX5_addBranch 31 = .ok (.iload_n 1, 1) := by decide +kernel
theorem dX5_addBranch_32 : decode cX5_addBranch 32 = .ok (.iastore, 1) := by decide +kernel
theorem dX5_addBranch_33 : decode cX5_addBranch 33 = .ok (.aload_n 0, 1) := by decide +kernel
theorem dX5_addBranch_34 : decode cX5_addBranch 34 = .ok (.dup, 1) := by decide +kernel
theorem dX5_addBranch_35 : decode cX5_addBranch 35 = .ok (.getfield 17, 3) := by decide +kernel
theorem dX5_addBranch_38 : decode cX5_addBranch 38 = .ok (.iconst 1, 1) := by decide +kernel
theorem dX5_addBranch_39 : decode cX5_addBranch 39 = .ok (.iadd, 1) := by decide +kernel
theorem dX5_addBranch_40 : decode cX5_addBranch 40 = .ok (.putfield 17, 3) := by decide +kernel
theorem dX5_addBranch_43 : decode cX5_addBranch 43 = .ok (.aload_n 0, 1) := by decide +kernel
theorem dX5_addBranch_44 : decode cX5_addBranch 44 = .ok (.getfield 17, 3) := by decide +kernel
theorem dX5_addBranch_47 : decode cX5_addBranch 47 = .ok (.iconst 1, 1) := by decide +kernel
theorem dX5_addBranch_48 : decode cX5_addBranch 48 = .ok (.isub, 1) := by decide +kernel
theorem dX5_addBranch_49 : decode cX5_addBranch 49 = .ok (.ireturn, 1) := by decide +kernel
theorem dX5_head_0 : decode cX5_head 0 = .ok (.aload_n 0, 1) := by decide +kernel
theorem dX5_head_1 : decode cX5_head 1 = .ok (.iload_n 1, 1) := by decide +kernel
theorem dX5_head_2 : decode cX5_head 2 = .ok (.invokevirtual 94, 3) := by decide +kernel
theorem dX5_head_5 : decode cX5_head 5 = .ok (.aload_n 0, 1) := by decide +kernel
theorem dX5_head_6 : decode cX5_head 6 = .ok (.getfield 13, 3) := by decide +kernel
theorem dX5_head_9 : decode cX5_head 9 = .ok (.iload_n 1, 1) := by decide +kernel
theorem dX5_head_10 : decode cX5_head 10 = .ok (.iaload, 1) := by decide +kernel
theorem dX5_head_11 : decode cX5_head 11 = .ok (.ireturn, 1) := by decide +kernel
theorem dX5_set_0 : decode cX5_set 0 = .ok (.aload_n 0, 1) := by decide +kernel
theorem dX5_set_1 : decode cX5_set 1 = .ok (.iload_n 1, 1) := by decide +kernel
theorem dX5_set_2 : decode cX5_set 2 = .ok (.invokevirtual 94, 3) := by decide +kernel
theorem dX5_set_5 : decode cX5_set 5 = .ok (.aload_n 0, 1) := by decide +kernel
theorem dX5_set_6 : decode cX5_set 6 = .ok (.iload_n 2, 1) := by decide +kernel
theorem dX5_set_7 : decode cX5_set 7 = .ok (.invokevirtual 85, 3) := by decide +kernel
theorem dX5_set_10 : decode cX5_set 10 = .ok (.iload_n 3, 1) := by decide +kernel
theorem dX5_set_11 : decode cX5_set 11 = .ok (.sipush (-999), 3) := by decide +kernel
theorem dX5_set_14 : decode cX5_set 14 = .ok (.if_icmp .lt 10, 3) := by decide +kernel
theorem dX5_set_17 : decode cX5_set 17 = .ok (.iload_n 3, 1) := by decide +kernel
theorem dX5_set_18 : decode cX5_set 18 = .ok (.sipush 999, 3) := by decide +kernel
theorem dX5_set_21 : decode cX5_set 21 = .ok (.if_icmp .le 13, 3) := by decide +kernel
theorem dX5_set_24 : decode cX5_set 24 = .ok (.new 70, 3) := by decide +kernel
theorem dX5_set_27 : decode cX5_set 27 = .ok (.dup, 1) := by decide +kernel
theorem dX5_set_28 : decode cX5_set 28 = .ok (.ldc 97, 2) := by decide +kernel
theorem dX5_set_30 : decode cX5_set 30 = .ok (.invokespecial 74, 3) := by decide +kernel
theorem dX5_set_33 : decode cX5_set 33 = .ok (.athrow, 1) := by decide +kernel
theorem dX5_set_34 : decode cX5_set 34 = .ok (.aload_n 0, 1) := by decide +kernel
theorem dX5_set_35 : decode cX5_set 35 = .ok (.invokevirtual 99, 3) := by decide +kernel
theorem dX5_set_38 : decode cX5_set 38 = .ok (.aload_n 0, 1) := by decide +kernel
theorem dX5_set_39 : decode cX5_set 39 = .ok (.iload_n 1, 1) := by decide +kernel
theorem dX5_set_40 : decode cX5_set 40 = .ok (.aload_n 0, 1) := by decide +kernel
theorem dX5_set_41 : decode cX5_set 41 = .ok (.getfield 27, 3) := by decide +kernel
theorem dX5_set_44 : decode cX5_set 44 = .ok (.aload_n 0, 1) := by decide +kernel
theorem dX5_set_45 : decode cX5_set 45 = .ok (.getfield 13, 3) := by decide +kernel
theorem dX5_set_48 : decode cX5_set 48 = .ok (.iload_n 1, 1) := by decide +kernel
theorem dX5_set_49 : decode cX5_set 49 = .ok (.iaload, 1) := by decide +kernel
theorem dX5_set_50 : decode cX5_set 50 = .ok (.iload_n 2, 1) := by decide +kernel
theorem dX5_set_51 : decode cX5_set 51 = .ok (.aload_n 0, 1) := by decide +kernel
theorem dX5_set_52 : decode cX5_set 52 = .ok (.getfield 34, 3) := by decide +kernel
theorem dX5_set_55 : decode cX5_set 55 = .ok (.iload_n 3, 1) := by decide +kernel
theorem dX5_set_56 : decode cX5_set 56 = .ok (.invokevirtual 102, 3) := by decide +kernel
theorem dX5_set_59 : decode cX5_set 59 = .ok (.invokevirtual 106, 3) := by decide +kernel
theorem dX5_set_62 : decode cX5_set 62 = .ok (.invokevirtual 110, 3) := by decide +kernel
theorem dX5_set_65 : decode cX5_set 65 = .ok (.ireturn, 1) := by decide +kernel
theorem dX5_clear_0 : decode cX5_clear 0 = .ok (.aload_n 0, 1) := by decide +kernel
theorem dX5_clear_1 : decode cX5_clear 1 = .ok (.iload_n 1, 1) := by decide +kernel
theorem dX5_clear_2 : decode cX5_clear 2 = .ok (.invokevirtual 94, 3) := by decide +kernel
theorem dX5_clear_5 : decode cX5_clear 5 = .ok (.aload_n 0, 1) := by decide +kernel
theorem dX5_clear_6 : decode cX5_clear 6 = .ok (.iload_n 2, 1) := by decide +kernel
theorem dX5_clear_7 : decode cX5_clear 7 = .ok (.invokevirtual 85, 3) := by decide +kernel
theorem dX5_clear_10 : decode cX5_clear 10 = .ok (.aload_n 0, 1) := by decide +kernel
theorem dX5_clear_11 : decode cX5_clear 11 = .ok (.getfield 59, 3) := by decide +kernel
theorem dX5_clear_14 : decode cX5_clear 14 = .ok (.aload_n 0, 1) := by decide +kernel
theorem dX5_clear_15 : decode cX5_clear 15 = .ok (.getfield 13, 3) := by decide +kernel
theorem dX5_clear_18 : decode cX5_clear 18 = .ok (.iload_n 1, 1) := by decide +kernel
theorem dX5_clear_19 : decode cX5_clear 19 = .ok (.iaload, 1) := by decide +kernel
theorem dX5_clear_20 : decode cX5_clear 20 = .ok (.iload_n 2, 1) := by decide +kernel
theorem dX5_clear_21 : decode cX5_clear 21 = .ok (.invokevirtual 114, 3) := by decide +kernel
theorem dX5_clear_24 : decode cX5_clear 24 = .ok (.ifCond .eq 13, 3) := by decide +kernel
theorem dX5_clear_27 : decode cX5_clear 27 = .ok (.new 118, 3) := by decide +kernel
theorem dX5_clear_30 : decode cX5_clear 30 = .ok (.dup, 1) := by decide +kernel
theorem dX5_clear_31 : decode cX5_clear 31 = .ok (.ldc 120, 2) := by decide +kernel
theorem dX5_clear_33 : decode cX5_clear 33 = .ok (.invokespecial 122, 3) := by decide +kernel
theorem dX5_clear_36 : decode cX5_clear 36 = .ok (.athrow, 1) := by decide +kernel
theorem dX5_clear_37 : decode cX5_clear 37 = .ok (.aload_n 0, 1) := by decide +kernel
theorem dX5_clear_38 : decode cX5_clear 38 = .ok (.invokevirtual 99, 3) := by decide +kernel
theorem dX5_clear_41 : decode cX5_clear 41 = .ok (.aload_n 0, 1) := by decide +kernel
theorem dX5_clear_42 : decode cX5_clear 42 = .ok (.iload_n 1, 1) := by decide +kernel
theorem dX5_clear_43 : decode cX5_clear 43 = .ok (.aload_n 0, 1) := by decide +kernel
theorem dX5_clear_44 : decode cX5_clear 44 = .ok (.getfield 27, 3) := by decide +kernel
theorem dX5_clear_47 : decode cX5_clear 47 = .ok (.aload_n 0, 1) := by decide +kernel
theorem dX5_clear_48 : decode cX5_clear 48 = .ok (.getfield 13, 3) := by decide +kernel
theorem dX5_clear_51 : decode cX5_clear 51 = .ok (.iload_n 1, 1) := by decide +kernel
theorem dX5_clear_52 : decode cX5_clear 52 = .ok (.iaload, 1) := by decide +kernel
theorem dX5_clear_53 : decode cX5_clear 53 = .ok (.iload_n 2, 1) := by decide +kernel
theorem dX5_clear_54 : decode cX5_clear 54 = .ok (.iconst 0, 1) := by decide +kernel
theorem dX5_clear_55 : decode cX5_clear 55 = .ok (.invokevirtual 106, 3) := by decide +kernel
theorem dX5_clear_58 : decode cX5_clear 58 = .ok (.invokevirtual 110, 3) := by decide +kernel
theorem dX5_clear_61 : decode cX5_clear 61 = .ok (.ireturn, 1) := by decide +kernel
theorem dX5_settle_0 : decode cX5_settle 0 = .ok (.aload_n 0, 1) := by decide +kernel
theorem dX5_settle_1 : decode cX5_settle 1 = .ok (.iload_n 1, 1) := by decide +kernel
theorem dX5_settle_2 : decode cX5_settle 2 = .ok (.invokevirtual 94, 3) := by decide +kernel
theorem dX5_settle_5 : decode cX5_settle 5 = .ok (.aload_n 0, 1) := by decide +kernel
theorem dX5_settle_6 : decode cX5_settle 6 = .ok (.iload_n 2, 1) := by decide +kernel
theorem dX5_settle_7 : decode cX5_settle 7 = .ok (.invokevirtual 85, 3) := by decide +kernel
theorem dX5_settle_10 : decode cX5_settle 10 = .ok (.aload_n 0, 1) := by decide +kernel
theorem dX5_settle_11 : decode cX5_settle 11 = .ok (.getfield 59, 3) := by decide +kernel
theorem dX5_settle_14 : decode cX5_settle 14 = .ok (.aload_n 0, 1) := by decide +kernel
theorem dX5_settle_15 : decode cX5_settle 15 = .ok (.getfield 13, 3) := by decide +kernel
theorem dX5_settle_18 : decode cX5_settle 18 = .ok (.iload_n 1, 1) := by decide +kernel
theorem dX5_settle_19 : decode cX5_settle 19 = .ok (.iaload, 1) := by decide +kernel
theorem dX5_settle_20 : decode cX5_settle 20 = .ok (.iload_n 2, 1) := by decide +kernel
theorem dX5_settle_21 : decode cX5_settle 21 = .ok (.invokevirtual 123, 3) := by decide +kernel
theorem dX5_settle_24 : decode cX5_settle 24 = .ok (.ifCond .ne 13, 3) := by decide +kernel
theorem dX5_settle_27 : decode cX5_settle 27 = .ok (.new 118, 3) := by decide +kernel
theorem dX5_settle_30 : decode cX5_settle 30 = .ok (.dup, 1) := by decide +kernel
theorem dX5_settle_31 : decode cX5_settle 31 = .ok (.ldc 126, 2) := by decide +kernel
theorem dX5_settle_33 : decode cX5_settle 33 = .ok (.invokespecial 122, 3) := by decide +kernel
theorem dX5_settle_36 : decode cX5_settle 36 = .ok (.athrow, 1) := by decide +kernel
theorem dX5_settle_37 : decode cX5_settle 37 = .ok (.aload_n 0, 1) := by decide +kernel
theorem dX5_settle_38 : decode cX5_settle 38 = .ok (.aload_n 0, 1) := by decide +kernel
theorem dX5_settle_39 : decode cX5_settle 39 = .ok (.getfield 59, 3) := by decide +kernel
theorem dX5_settle_42 : decode cX5_settle 42 = .ok (.aload_n 0, 1) := by decide +kernel
theorem dX5_settle_43 : decode cX5_settle 43 = .ok (.getfield 13, 3) := by decide +kernel
theorem dX5_settle_46 : decode cX5_settle 46 = .ok (.iload_n 1, 1) := by decide +kernel
theorem dX5_settle_47 : decode cX5_settle 47 = .ok (.iaload, 1) := by decide +kernel
theorem dX5_settle_48 : decode cX5_settle 48 = .ok (.iload_n 2, 1) := by decide +kernel
theorem dX5_settle_49 : decode cX5_settle 49 = .ok (.iload_n 3, 1) := by decide +kernel
theorem dX5_settle_50 : decode cX5_settle 50 = .ok (.invokevirtual 128, 3) := by decide +kernel
theorem dX5_settle_53 : decode cX5_settle 53 = .ok (.istore 4, 2) := by decide +kernel
theorem dX5_settle_55 : decode cX5_settle 55 = .ok (.aload_n 0, 1) := by decide +kernel
theorem dX5_settle_56 : decode cX5_settle 56 = .ok (.invokevirtual 99, 3) := by decide +kernel
theorem dX5_settle_59 : decode cX5_settle 59 = .ok (.aload_n 0, 1) := by decide +kernel
theorem dX5_settle_60 : decode cX5_settle 60 = .ok (.iload_n 1, 1) := by decide +kernel
theorem dX5_settle_61 : decode cX5_settle 61 = .ok (.aload_n 0, 1) := by decide +kernel
theorem dX5_settle_62 : decode cX5_settle 62 = .ok (.getfield 27, 3) := by decide +kernel
theorem dX5_settle_65 : decode cX5_settle 65 = .ok (.aload_n 0, 1) := by decide +kernel
theorem dX5_settle_66 : decode cX5_settle 66 = .ok (.getfield 13, 3) := by decide +kernel
theorem dX5_settle_69 : decode cX5_settle 69 = .ok (.iload_n 1, 1) := by decide +kernel
theorem dX5_settle_70 : decode cX5_settle 70 = .ok (.iaload, 1) := by decide +kernel
theorem dX5_settle_71 : decode cX5_settle 71 = .ok (.iload_n 2, 1) := by decide +kernel
theorem dX5_settle_72 : decode cX5_settle 72 = .ok (.iload 4, 2) := by decide +kernel
theorem dX5_settle_74 : decode cX5_settle 74 = .ok (.invokevirtual 106, 3) := by decide +kernel
theorem dX5_settle_77 : decode cX5_settle 77 = .ok (.invokevirtual 110, 3) := by decide +kernel
theorem dX5_settle_80 : decode cX5_settle 80 = .ok (.ireturn, 1) := by decide +kernel
theorem dX5_tag_0 : decode cX5_tag 0 = .ok (.aload_n 0, 1) := by decide +kernel
theorem dX5_tag_1 : decode cX5_tag 1 = .ok (.iload_n 2, 1) := by decide +kernel
theorem dX5_tag_2 : decode cX5_tag 2 = .ok (.invokevirtual 89, 3) := by decide +kernel
theorem dX5_tag_5 : decode cX5_tag 5 = .ok (.aload_n 0, 1) := by decide +kernel
theorem dX5_tag_6 : decode cX5_tag 6 = .ok (.iload_n 1, 1) := by decide +kernel
theorem dX5_tag_7 : decode cX5_tag 7 = .ok (.invokevirtual 132, 3) := by decide +kernel
theorem dX5_tag_10 : decode cX5_tag 10 = .ok (.aload_n 0, 1) := by decide +kernel
theorem dX5_tag_11 : decode cX5_tag 11 = .ok (.getfield 21, 3) := by decide +kernel
theorem dX5_tag_14 : decode cX5_tag 14 = .ok (.iload_n 1, 1) := by decide +kernel
theorem dX5_tag_15 : decode cX5_tag 15 = .ok (.iaload, 1) := by decide +kernel
theorem dX5_tag_16 : decode cX5_tag 16 = .ok (.istore_n 3, 1) := by decide +kernel
theorem dX5_tag_17 : decode cX5_tag 17 = .ok (.aload_n 0, 1) := by decide +kernel
theorem dX5_tag_18 : decode cX5_tag 18 = .ok (.getfield 21, 3) := by decide +kernel
theorem dX5_tag_21 : decode cX5_tag 21 = .ok (.iload_n 1, 1) := by decide +kernel
theorem dX5_tag_22 : decode cX5_tag 22 = .ok (.iload_n 2, 1) := by decide +kernel
theorem dX5_tag_23 : decode cX5_tag 23 = .ok (.iastore, 1) := by decide +kernel
theorem dX5_tag_24 : decode cX5_tag 24 = .ok (.iload_n 3, 1) := by decide +kernel
theorem dX5_tag_25 : decode cX5_tag 25 = .ok (.ireturn, 1) := by decide +kernel
theorem dX5_tagged_0 : decode cX5_tagged 0 = .ok (.aload_n 0, 1) := by decide +kernel
theorem dX5_tagged_1 : decode cX5_tagged 1 = .ok (.iload_n 1, 1) := by decide +kernel
theorem dX5_tagged_2 : decode cX5_tagged 2 = .ok (.invokevirtual 132, 3) := by decide +kernel
theorem dX5_tagged_5 : decode cX5_tagged 5 = .ok (.aload_n 0, 1) := by decide +kernel
theorem dX5_tagged_6 : decode cX5_tagged 6 = .ok (.getfield 21, 3) := by decide +kernel
theorem dX5_tagged_9 : decode cX5_tagged 9 = .ok (.iload_n 1, 1) := by decide +kernel
theorem dX5_tagged_10 : decode cX5_tagged 10 = .ok (.iaload, 1) := by decide +kernel
theorem dX5_tagged_11 : decode cX5_tagged 11 = .ok (.iconst (-1), 1) := by decide +kernel
theorem dX5_tagged_12 : decode cX5_tagged 12 = .ok (.if_icmp .ne 13, 3) := by decide +kernel
theorem dX5_tagged_15 : decode cX5_tagged 15 = .ok (.new 135, 3) := by decide +kernel
theorem dX5_tagged_18 : decode cX5_tagged 18 = .ok (.dup, 1) := by decide +kernel
theorem dX5_tagged_19 : decode cX5_tagged 19 = .ok (.ldc 137, 2) := by decide +kernel
theorem dX5_tagged_21 : decode cX5_tagged 21 = .ok (.invokespecial 139, 3) := by decide +kernel
theorem dX5_tagged_24 : decode cX5_tagged 24 = .ok (.athrow, 1) := by decide +kernel
theorem dX5_tagged_25 : decode cX5_tagged 25 = .ok (.aload_n 0, 1) := by decide +kernel
theorem dX5_tagged_26 : decode cX5_tagged 26 = .ok (.getfield 21, 3) := by decide +kernel
theorem dX5_tagged_29 : decode cX5_tagged 29 = .ok (.iload_n 1, 1) := by decide +kernel
theorem dX5_tagged_30 : decode cX5_tagged 30 = .ok (.iaload, 1) := by decide +kernel
theorem dX5_tagged_31 : decode cX5_tagged 31 = .ok (.ireturn, 1) := by decide +kernel
theorem dX5_commits_0 : decode cX5_commits 0 = .ok (.aload_n 0, 1) := by decide +kernel
theorem dX5_commits_1 : decode cX5_commits 1 = .ok (.getfield 27, 3) := by decide +kernel
theorem dX5_commits_4 : decode cX5_commits 4 = .ok (.getfield 140, 3) := by decide +kernel
theorem dX5_commits_7 : decode cX5_commits 7 = .ok (.ireturn, 1) := by decide +kernel
theorem dX5_parents_0 : decode cX5_parents 0 = .ok (.aload_n 0, 1) := by decide +kernel
theorem dX5_parents_1 : decode cX5_parents 1 = .ok (.iload_n 1, 1) := by decide +kernel
theorem dX5_parents_2 : decode cX5_parents 2 = .ok (.invokevirtual 89, 3) := by decide +kernel
theorem dX5_parents_5 : decode cX5_parents 5 = .ok (.aload_n 0, 1) := by decide +kernel
theorem dX5_parents_6 : decode cX5_parents 6 = .ok (.getfield 27, 3) := by decide +kernel
theorem dX5_parents_9 : decode cX5_parents 9 = .ok (.iload_n 1, 1) := by decide +kernel
theorem dX5_parents_10 : decode cX5_parents 10 = .ok (.invokevirtual 143, 3) := by decide +kernel
theorem dX5_parents_13 : decode cX5_parents 13 = .ok (.ireturn, 1) := by decide +kernel
theorem dX5_parentAt_0 : decode cX5_parentAt 0 = .ok (.aload_n 0, 1) := by decide +kernel
theorem dX5_parentAt_1 : decode cX5_parentAt 1 = .ok (.iload_n 1, 1) := by decide +kernel
theorem dX5_parentAt_2 : decode cX5_parentAt 2 = .ok (.invokevirtual 89, 3) := by decide +kernel
theorem dX5_parentAt_5 : decode cX5_parentAt 5 = .ok (.iload_n 2, 1) := by decide +kernel
theorem dX5_parentAt_6 : decode cX5_parentAt 6 = .ok (.ifCond .lt 15, 3) := by decide +kernel
theorem dX5_parentAt_9 : decode cX5_parentAt 9 = .ok (.iload_n 2, 1) := by decide +kernel
theorem dX5_parentAt_10 : decode cX5_parentAt 10 = .ok (.aload_n 0, 1) := by decide +kernel
theorem dX5_parentAt_11 : decode cX5_parentAt 11 = .ok (.getfield 27, 3) := by decide +kernel
theorem dX5_parentAt_14 : decode cX5_parentAt 14 = .ok (.iload_n 1, 1) := by decide +kernel
theorem dX5_parentAt_15 : decode cX5_parentAt 15 = .ok (.invokevirtual 143, 3) := by decide +kernel
theorem dX5_parentAt_18 : decode cX5_parentAt 18 = .ok (.if_icmp .lt 13, 3) := by decide +kernel
theorem dX5_parentAt_21 : decode cX5_parentAt 21 = .ok (.new 135, 3) := by decide +kernel
theorem dX5_parentAt_24 : decode cX5_parentAt 24 = .ok (.dup, 1) := by decide +kernel
theorem dX5_parentAt_25 : decode cX5_parentAt 25 = .ok (.ldc 146, 2) := by decide +kernel
theorem dX5_parentAt_27 : decode cX5_parentAt 27 = .ok (.invokespecial 139, 3) := by decide +kernel
theorem dX5_parentAt_30 : decode cX5_parentAt 30 = .ok (.athrow, 1) := by decide +kernel
theorem dX5_parentAt_31 : decode cX5_parentAt 31 = .ok (.iload_n 2, 1) := by decide +kernel
theorem dX5_parentAt_32 : decode cX5_parentAt 32 = .ok (.ifCond .ne 15, 3) := by decide +kernel
theorem dX5_parentAt_35 : decode cX5_parentAt 35 = .ok (.aload_n 0, 1) := by decide +kernel
theorem dX5_parentAt_36 : decode cX5_parentAt 36 = .ok (.getfield 27, 3) := by decide +kernel
theorem dX5_parentAt_39 : decode cX5_parentAt 39 = .ok (.getfield 148, 3) := by decide +kernel
theorem dX5_parentAt_42 : decode cX5_parentAt 42 = .ok (.iload_n 1, 1) := by decide +kernel
theorem dX5_parentAt_43 : decode cX5_parentAt 43 = .ok (.iaload, 1) := by decide +kernel
theorem dX5_parentAt_44 : decode cX5_parentAt 44 = .ok (.goto 12, 3) := by decide +kernel
theorem dX5_parentAt_47 : decode cX5_parentAt 47 = .ok (.aload_n 0, 1) := by decide +kernel
theorem dX5_parentAt_48 : decode cX5_parentAt 48 = .ok (.getfield 27, 3) := by decide +kernel
theorem dX5_parentAt_51 : decode cX5_parentAt 51 = .ok (.getfield 151, 3) := by decide +kernel
theorem dX5_parentAt_54 : decode cX5_parentAt 54 = .ok (.iload_n 1, 1) := by decide +kernel
theorem dX5_parentAt_55 : decode cX5_parentAt 55 = .ok (.iaload, 1) := by decide +kernel
theorem dX5_parentAt_56 : decode cX5_parentAt 56 = .ok (.ireturn, 1) := by decide +kernel
theorem dX5_isAncestor_0 : decode cX5_isAncestor 0 = .ok (.aload_n 0, 1) := by decide +kernel
theorem dX5_isAncestor_1 : decode cX5_isAncestor 1 = .ok (.iload_n 1, 1) := by decide +kernel
theorem dX5_isAncestor_2 : decode cX5_isAncestor 2 = .ok (.invokevirtual 89, 3) := by decide +kernel
theorem dX5_isAncestor_5 : decode cX5_isAncestor 5 = .ok (.aload_n 0, 1) := by decide +kernel
theorem dX5_isAncestor_6 : decode cX5_isAncestor 6 = .ok (.iload_n 2, 1) := by decide +kernel
theorem dX5_isAncestor_7 : decode cX5_isAncestor 7 = .ok (.invokevirtual 89, 3) := by decide +kernel
theorem dX5_isAncestor_10 : decode cX5_isAncestor 10 = .ok (.aload_n 0, 1) := by decide +kernel
theorem dX5_isAncestor_11 : decode cX5_isAncestor 11 = .ok (.getfield 27, 3) := by decide +kernel
theorem dX5_isAncestor_14 : decode cX5_isAncestor 14 = .ok (.iload_n 2, 1) := by decide +kernel
theorem dX5_isAncestor_15 : decode cX5_isAncestor 15 = .ok (.iload_n 1, 1) := by decide +kernel
theorem dX5_isAncestor_16 : decode cX5_isAncestor 16 = .ok (.invokevirtual 154, 3) := by decide +kernel
theorem dX5_isAncestor_19 : decode cX5_isAncestor 19 = .ok (.ireturn, 1) := by decide +kernel
theorem dX5_base_0 : decode cX5_base 0 = .ok (.aload_n 0, 1) := by decide +kernel
theorem dX5_base_1 : decode cX5_base 1 = .ok (.iload_n 1, 1) := by decide +kernel
theorem dX5_base_2 : decode cX5_base 2 = .ok (.invokevirtual 89, 3) := by decide +kernel
theorem dX5_base_5 : decode cX5_base 5 = .ok (.aload_n 0, 1) := by decide +kernel
theorem dX5_base_6 : decode cX5_base 6 = .ok (.iload_n 2, 1) := by decide +kernel
theorem dX5_base_7 : decode cX5_base 7 = .ok (.invokevirtual 89, 3) := by decide +kernel
theorem dX5_base_10 : decode cX5_base 10 = .ok (.aload_n 0, 1) := by decide +kernel
theorem dX5_base_11 : decode cX5_base 11 = .ok (.getfield 27, 3) := by decide +kernel
theorem dX5_base_14 : decode cX5_base 14 = .ok (.iload_n 1, 1) := by decide +kernel
theorem dX5_base_15 : decode cX5_base 15 = .ok (.iload_n 2, 1) := by decide +kernel
theorem dX5_base_16 : decode cX5_base 16 = .ok (.invokevirtual 157, 3) := by decide +kernel
theorem dX5_base_19 : decode cX5_base 19 = .ok (.ireturn, 1) := by decide +kernel
theorem dX5_sides_0 : decode cX5_sides 0 = .ok (.aload_n 0, 1) := by decide +kernel
theorem dX5_sides_1 : decode cX5_sides 1 = .ok (.iload_n 1, 1) := by decide +kernel
theorem dX5_sides_2 : decode cX5_sides 2 = .ok (.invokevirtual 89, 3) := by decide +kernel
theorem dX5_sides_5 : decode cX5_sides 5 = .ok (.aload_n 0, 1) := by decide +kernel
theorem dX5_sides_6 : decode cX5_sides 6 = .ok (.iload_n 2, 1) := by decide +kernel
theorem dX5_sides_7 : decode cX5_sides 7 = .ok (.invokevirtual 85, 3) := by decide +kernel
theorem dX5_sides_10 : decode cX5_sides 10 = .ok (.aload_n 0, 1) := by decide +kernel
theorem dX5_sides_11 : decode cX5_sides 11 = .ok (.getfield 59, 3) := by decide +kernel
theorem dX5_sides_14 : decode cX5_sides 14 = .ok (.iload_n 1, 1) := by decide +kernel
theorem dX5_sides_15 : decode cX5_sides 15 = .ok (.iload_n 2, 1) := by decide +kernel
theorem dX5_sides_16 : decode cX5_sides 16 = .ok (.invokevirtual 160, 3) := by decide +kernel
theorem dX5_sides_19 : decode cX5_sides 19 = .ok (.ireturn, 1) := by decide +kernel
theorem dX5_sideAt_0 : decode cX5_sideAt 0 = .ok (.aload_n 0, 1) := by decide +kernel
theorem dX5_sideAt_1 : decode cX5_sideAt 1 = .ok (.iload_n 1, 1) := by decide +kernel
theorem dX5_sideAt_2 : decode cX5_sideAt 2 = .ok (.invokevirtual 89, 3) := by decide +kernel
theorem dX5_sideAt_5 : decode cX5_sideAt 5 = .ok (.aload_n 0, 1) := by decide +kernel
theorem dX5_sideAt_6 : decode cX5_sideAt 6 = .ok (.iload_n 2, 1) := by decide +kernel
theorem dX5_sideAt_7 : decode cX5_sideAt 7 = .ok (.invokevirtual 85, 3) := by decide +kernel
theorem dX5_sideAt_10 : decode cX5_sideAt 10 = .ok (.aload_n 0, 1) := by decide +kernel
theorem dX5_sideAt_11 : decode cX5_sideAt 11 = .ok (.getfield 34, 3) := by decide +kernel
theorem dX5_sideAt_14 : decode cX5_sideAt 14 = .ok (.getfield 163, 3) := by decide +kernel
theorem dX5_sideAt_17 : decode cX5_sideAt 17 = .ok (.aload_n 0, 1) := by decide +kernel
theorem dX5_sideAt_18 : decode cX5_sideAt 18 = .ok (.aload_n 0, 1) := by decide +kernel
theorem dX5_sideAt_19 : decode cX5_sideAt 19 = .ok (.getfield 59, 3) := by decide +kernel
theorem dX5_sideAt_22 : decode cX5_sideAt 22 = .ok (.iload_n 1, 1) := by decide +kernel
theorem dX5_sideAt_23 : decode cX5_sideAt 23 = .ok (.iload_n 2, 1) := by decide +kernel
theorem dX5_sideAt_24 : decode cX5_sideAt 24 = .ok (.iload_n 3, 1) := by decide +kernel
theorem dX5_sideAt_25 : decode cX5_sideAt 25 = .ok (.invokevirtual 128, 3) := by decide +kernel
theorem dX5_sideAt_28 : decode cX5_sideAt 28 = .ok (.iaload, 1) := by decide +kernel
theorem dX5_sideAt_29 : decode cX5_sideAt 29 = .ok (.ireturn, 1) := by decide +kernel
theorem dX5_sideByLog_0 : decode cX5_sideByLog 0 = .ok (.aload_n 0, 1) := by decide +kernel
theorem dX5_sideByLog_1 : decode cX5_sideByLog 1 = .ok (.iload_n 1, 1) := by decide +kernel
theorem dX5_sideByLog_2 : decode cX5_sideByLog 2 = .ok (.invokevirtual 89, 3) := by decide +kernel
theorem dX5_sideByLog_5 : decode cX5_sideByLog 5 = .ok (.aload_n 0, 1) := by decide +kernel
theorem dX5_sideByLog_6 : decode cX5_sideByLog 6 = .ok (.iload_n 2, 1) := by decide +kernel
theorem dX5_sideByLog_7 : decode cX5_sideByLog 7 = .ok (.invokevirtual 85, 3) := by decide +kernel
theorem dX5_sideByLog_10 : decode cX5_sideByLog 10 = .ok (.iconst 0, 1) := by decide +kernel
theorem dX5_sideByLog_11 : decode cX5_sideByLog 11 = .ok (.istore 4, 2) := by decide +kernel
theorem dX5_sideByLog_13 : decode cX5_sideByLog 13 = .ok (.iload 4, 2) := by decide +kernel
theorem dX5_sideByLog_15 : decode cX5_sideByLog 15 = .ok (.iload_n 1, 1) := by decide +kernel
theorem dX5_sideByLog_16 : decode cX5_sideByLog 16 = .ok (.if_icmp .gt 22, 3) := by decide +kernel
theorem dX5_sideByLog_19 : decode cX5_sideByLog 19 = .ok (.aload_n 0, 1) := by decide +kernel
theorem dX5_sideByLog_20 : decode cX5_sideByLog 20 = .ok (.getfield 50, 3) := by decide +kernel
theorem dX5_sideByLog_23 : decode cX5_sideByLog 23 = .ok (.aload_n 0, 1) := by decide +kernel
theorem dX5_sideByLog_24 : decode cX5_sideByLog 24 = .ok (.getfield 63, 3) := by decide +kernel
theorem dX5_sideByLog_27 : decode cX5_sideByLog 27 = .ok (.iload 4, 2) := by decide +kernel
theorem dX5_sideByLog_29 : decode cX5_sideByLog 29 = .ok (.invokevirtual 66, 3) := by decide +kernel
theorem dX5_sideByLog_32 : decode cX5_sideByLog 32 = .ok (.iinc 4 1, 3) := by decide +kernel
theorem dX5_sideByLog_35 : decode cX5_sideByLog 35 = .ok (.goto (-22), 3) := by decide +kernel
theorem dX5_sideByLog_38 : decode cX5_sideByLog 38 = .ok (.aload_n 0, 1) := by decide +kernel
theorem dX5_sideByLog_39 : decode cX5_sideByLog 39 = .ok (.getfield 34, 3) := by decide +kernel
theorem dX5_sideByLog_42 : decode cX5_sideByLog 42 = .ok (.getfield 163, 3) := by decide +kernel
theorem dX5_sideByLog_45 : decode cX5_sideByLog 45 = .ok (.aload_n 0, 1) := by decide +kernel
theorem dX5_sideByLog_46 : decode cX5_sideByLog 46 = .ok (.aload_n 0, 1) := by decide +kernel
theorem dX5_sideByLog_47 : decode cX5_sideByLog 47 = .ok (.getfield 63, 3) := by decide +kernel
theorem dX5_sideByLog_50 : decode cX5_sideByLog 50 = .ok (.iload_n 1, 1) := by decide +kernel
theorem dX5_sideByLog_51 : decode cX5_sideByLog 51 = .ok (.iload_n 2, 1) := by decide +kernel
theorem dX5_sideByLog_52 : decode cX5_sideByLog 52 = .ok (.iload_n 3, 1) := by decide +kernel
theorem dX5_sideByLog_53 : decode cX5_sideByLog 53 = .ok (.invokevirtual 128, 3) := by decide +kernel
theorem dX5_sideByLog_56 : decode cX5_sideByLog 56 = .ok (.iaload, 1) := by decide +kernel
theorem dX5_sideByLog_57 : decode cX5_sideByLog 57 = .ok (.ireturn, 1) := by decide +kernel
theorem dX5_conflicts_0 : decode cX5_conflicts 0 = .ok (.aload_n 0, 1) := by decide +kernel
theorem dX5_conflicts_1 : decode cX5_conflicts 1 = .ok (.iload_n 1, 1) := by decide +kernel
theorem dX5_conflicts_2 : decode cX5_conflicts 2 = .ok (.invokevirtual 89, 3) := by decide +kernel
theorem dX5_conflicts_5 : decode cX5_conflicts 5 = .ok (.aload_n 0, 1) := by decide +kernel
theorem dX5_conflicts_6 : decode cX5_conflicts 6 = .ok (.getfield 59, 3) := by decide +kernel
theorem dX5_conflicts_9 : decode cX5_conflicts 9 = .ok (.iload_n 1, 1) := by decide +kernel
theorem dX5_conflicts_10 : decode cX5_conflicts 10 = .ok (.invokevirtual 166, 3) := by decide +kernel
theorem dX5_conflicts_13 : decode cX5_conflicts 13 = .ok (.ireturn, 1) := by decide +kernel
theorem dX5_firstConflict_0 : decode cX5_firstConflict 0 = .ok (.aload_n 0, 1) := by decide +kernel
theorem dX5_firstConflict_1 : decode cX5_firstConflict 1 = .ok (.iload_n 1, 1) := by decide +kernel
theorem dX5_firstConflict_2 : decode cX5_firstConflict 2 = .ok (.invokevirtual 89, 3) := by decide +kernel
theorem dX5_firstConflict_5 : decode cX5_firstConflict 5 = .ok (.iconst 0, 1) := by decide +kernel
theorem dX5_firstConflict_6 : decode cX5_firstConflict 6 = .ok (.istore_n 2, 1) := by decide +kernel
theorem dX5_firstConflict_7 : decode cX5_firstConflict 7 = .ok (.iload_n 2, 1) := by decide +kernel
theorem dX5_firstConflict_8 : decode cX5_firstConflict 8 = .ok (.aload_n 0, 1) := by decide +kernel
theorem dX5_firstConflict_9 : decode cX5_firstConflict 9 = .ok (.getfield 77, 3) := by decide +kernel
theorem dX5_firstConflict_12 : decode cX5_firstConflict 12 = .ok (.if_icmp .ge 23, 3) := by decide +kernel
theorem dX5_firstConflict_15 : decode cX5_firstConflict 15 = .ok (.aload_n 0, 1) := by decide +kernel
theorem dX5_firstConflict_16 : decode cX5_firstConflict 16 = .ok (.getfield 59, 3) := by decide +kernel
theorem dX5_firstConflict_19 : decode cX5_firstConflict 19 = .ok (.iload_n 1, 1) := by decide +kernel
theorem dX5_firstConflict_20 : decode cX5_firstConflict 20 = .ok (.iload_n 2, 1) := by decide +kernel
theorem dX5_firstConflict_21 : decode cX5_firstConflict 21 = .ok (.invokevirtual 123, 3) := by decide +kernel
theorem dX5_firstConflict_24 : decode cX5_firstConflict 24 = .ok (.ifCond .eq 5, 3) := by decide +kernel
theorem dX5_firstConflict_27 : decode cX5_firstConflict 27 = .ok (.iload_n 2, 1) := by decide +kernel
theorem dX5_firstConflict_28 : decode cX5_firstConflict 28 = .ok (.ireturn, 1) := by decide +kernel
theorem dX5_firstConflict_29 : decode cX5_firstConflict 29 = .ok (.iinc 2 1, 3) := by decide +kernel
theorem dX5_firstConflict_32 : decode cX5_firstConflict 32 = .ok (.goto (-25), 3) := by decide +kernel
theorem dX5_firstConflict_35 : decode cX5_firstConflict 35 = .ok (.new 135, 3) := by decide +kernel
theorem dX5_firstConflict_38 : decode cX5_firstConflict 38 = .ok (.dup, 1) := by decide +kernel
theorem dX5_firstConflict_39 : decode cX5_firstConflict 39 = .ok (.ldc 169, 2) := by decide +kernel
theorem dX5_firstConflict_41 : decode cX5_firstConflict 41 = .ok (.invokespecial 139, 3) := by decide +kernel
theorem dX5_firstConflict_44 : decode cX5_firstConflict 44 = .ok (.athrow, 1) := by decide +kernel
theorem dX5_differences_0 : decode cX5_differences 0 = .ok (.aload_n 0, 1) := by decide +kernel
theorem dX5_differences_1 : decode cX5_differences 1 = .ok (.iload_n 1, 1) := by decide +kernel
theorem dX5_differences_2 : decode cX5_differences 2 = .ok (.invokevirtual 89, 3) := by decide +kernel
theorem dX5_differences_5 : decode cX5_differences 5 = .ok (.aload_n 0, 1) := by decide +kernel
theorem dX5_differences_6 : decode cX5_differences 6 = .ok (.iload_n 2, 1) := by decide +kernel
theorem dX5_differences_7 : decode cX5_differences 7 = .ok (.invokevirtual 89, 3) := by decide +kernel
theorem dX5_differences_10 : decode cX5_differences 10 = .ok (.aload_n 0, 1) := by decide +kernel
theorem dX5_differences_11 : decode cX5_differences 11 = .ok (.getfield 59, 3) := by decide +kernel
theorem dX5_differences_14 : decode cX5_differences 14 = .ok (.iload_n 1, 1) := by decide +kernel
theorem dX5_differences_15 : decode cX5_differences 15 = .ok (.iload_n 2, 1) := by decide +kernel
theorem dX5_differences_16 : decode cX5_differences 16 = .ok (.invokevirtual 171, 3) := by decide +kernel
theorem dX5_differences_19 : decode cX5_differences 19 = .ok (.ireturn, 1) := by decide +kernel
theorem dX5_blame_0 : decode cX5_blame 0 = .ok (.aload_n 0, 1) := by decide +kernel
theorem dX5_blame_1 : decode cX5_blame 1 = .ok (.iload_n 1, 1) := by decide +kernel
theorem dX5_blame_2 : decode cX5_blame 2 = .ok (.invokevirtual 89, 3) := by decide +kernel
theorem dX5_blame_5 : decode cX5_blame 5 = .ok (.aload_n 0, 1) := by decide +kernel
theorem dX5_blame_6 : decode cX5_blame 6 = .ok (.iload_n 2, 1) := by decide +kernel
theorem dX5_blame_7 : decode cX5_blame 7 = .ok (.invokevirtual 85, 3) := by decide +kernel
theorem dX5_blame_10 : decode cX5_blame 10 = .ok (.aload_n 0, 1) := by decide +kernel
theorem dX5_blame_11 : decode cX5_blame 11 = .ok (.iload_n 1, 1) := by decide +kernel
theorem dX5_blame_12 : decode cX5_blame 12 = .ok (.iload_n 2, 1) := by decide +kernel
theorem dX5_blame_13 : decode cX5_blame 13 = .ok (.invokevirtual 174, 3) := by decide +kernel
theorem dX5_blame_16 : decode cX5_blame 16 = .ok (.ireturn, 1) := by decide +kernel
theorem dX5_blamed_0 : decode cX5_blamed 0 = .ok (.aload_n 0, 1) := by decide +kernel
theorem dX5_blamed_1 : decode cX5_blamed 1 = .ok (.iload_n 1, 1) := by decide +kernel
theorem dX5_blamed_2 : decode cX5_blamed 2 = .ok (.invokevirtual 89, 3) := by decide +kernel
theorem dX5_blamed_5 : decode cX5_blamed 5 = .ok (.aload_n 0, 1) := by decide +kernel
theorem dX5_blamed_6 : decode cX5_blamed 6 = .ok (.iload_n 2, 1) := by decide +kernel
theorem dX5_blamed_7 : decode cX5_blamed 7 = .ok (.invokevirtual 89, 3) := by decide +kernel
theorem dX5_blamed_10 : decode cX5_blamed 10 = .ok (.iconst 0, 1) := by decide +kernel
theorem dX5_blamed_11 : decode cX5_blamed 11 = .ok (.istore_n 3, 1) := by decide +kernel
theorem dX5_blamed_12 : decode cX5_blamed 12 = .ok (.iconst 0, 1) := by decide +kernel
theorem dX5_blamed_13 : decode cX5_blamed 13 = .ok (.istore 4, 2) := by decide +kernel
theorem dX5_blamed_15 : decode cX5_blamed 15 = .ok (.iload 4, 2) := by decide +kernel
theorem dX5_blamed_17 : decode cX5_blamed 17 = .ok (.aload_n 0, 1) := by decide +kernel
theorem dX5_blamed_18 : decode cX5_blamed 18 = .ok (.getfield 77, 3) := by decide +kernel
theorem dX5_blamed_21 : decode cX5_blamed 21 = .ok (.if_icmp .ge 23, 3) := by decide +kernel
theorem dX5_blamed_24 : decode cX5_blamed 24 = .ok (.aload_n 0, 1) := by decide +kernel
theorem dX5_blamed_25 : decode cX5_blamed 25 = .ok (.iload_n 1, 1) := by decide +kernel
theorem dX5_blamed_26 : decode cX5_blamed 26 = .ok (.iload 4, 2) := by decide +kernel
theorem dX5_blamed_28 : decode cX5_blamed 28 = .ok (.invokevirtual 174, 3) := by decide +kernel
theorem dX5_blamed_31 : decode cX5_blamed 31 = .ok (.iload_n 2, 1) := by decide +kernel
theorem dX5_blamed_32 : decode cX5_blamed 32 = .ok (.if_icmp .ne 6, 3) := by decide +kernel
theorem dX5_blamed_35 : decode cX5_blamed 35 = .ok (.iinc 3 1, 3) := by decide +kernel
theorem dX5_blamed_38 : decode cX5_blamed 38 = .ok (.iinc 4 1, 3) := by decide +kernel
theorem dX5_blamed_41 : decode cX5_blamed 41 = .ok (.goto (-26), 3) := by decide +kernel
theorem dX5_blamed_44 : decode cX5_blamed 44 = .ok (.iload_n 3, 1) := by decide +kernel
theorem dX5_blamed_45 : decode cX5_blamed 45 = .ok (.ireturn, 1) := by decide +kernel
theorem dX5_merge_0 : decode cX5_merge 0 = .ok (.aload_n 0, 1) := by decide +kernel
theorem dX5_merge_1 : decode cX5_merge 1 = .ok (.iload_n 1, 1) := by decide +kernel
theorem dX5_merge_2 : decode cX5_merge 2 = .ok (.invokevirtual 94, 3) := by decide +kernel
theorem dX5_merge_5 : decode cX5_merge 5 = .ok (.aload_n 0, 1) := by decide +kernel
theorem dX5_merge_6 : decode cX5_merge 6 = .ok (.iload_n 2, 1) := by decide +kernel
theorem dX5_merge_7 : decode cX5_merge 7 = .ok (.invokevirtual 94, 3) := by decide +kernel
theorem dX5_merge_10 : decode cX5_merge 10 = .ok (.aload_n 0, 1) := by decide +kernel
theorem dX5_merge_11 : decode cX5_merge 11 = .ok (.getfield 27, 3) := by decide +kernel
theorem dX5_merge_14 : decode cX5_merge 14 = .ok (.aload_n 0, 1) := by decide +kernel
theorem dX5_merge_15 : decode cX5_merge 15 = .ok (.getfield 13, 3) := by decide +kernel
theorem dX5_merge_18 : decode cX5_merge 18 = .ok (.iload_n 1, 1) := by decide +kernel
theorem dX5_merge_19 : decode cX5_merge 19 = .ok (.iaload, 1) := by decide +kernel
theorem dX5_merge_20 : decode cX5_merge 20 = .ok (.aload_n 0, 1) := by decide +kernel
theorem dX5_merge_21 : decode cX5_merge 21 = .ok (.getfield 13, 3) := by decide +kernel
theorem dX5_merge_24 : decode cX5_merge 24 = .ok (.iload_n 2, 1) := by decide +kernel
theorem dX5_merge_25 : decode cX5_merge 25 = .ok (.iaload, 1) := by decide +kernel
theorem dX5_merge_26 : decode cX5_merge 26 = .ok (.invokevirtual 154, 3) := by decide +kernel
theorem dX5_merge_29 : decode cX5_merge 29 = .ok (.ifCond .eq 13, 3) := by decide +kernel
theorem dX5_merge_32 : decode cX5_merge 32 = .ok (.new 118, 3) := by decide +kernel
theorem dX5_merge_35 : decode cX5_merge 35 = .ok (.dup, 1) := by decide +kernel
theorem dX5_merge_36 : decode cX5_merge 36 = .ok (.ldc 177, 2) := by decide +kernel
theorem dX5_merge_38 : decode cX5_merge 38 = .ok (.invokespecial 122, 3) := by decide +kernel
theorem dX5_merge_41 : decode cX5_merge 41 = .ok (.athrow, 1) := by decide +kernel
theorem dX5_merge_42 : decode cX5_merge 42 = .ok (.aload_n 0, 1) := by decide +kernel
theorem dX5_merge_43 : decode cX5_merge 43 = .ok (.invokevirtual 99, 3) := by decide +kernel
theorem dX5_merge_46 : decode cX5_merge 46 = .ok (.aload_n 0, 1) := by decide +kernel
theorem dX5_merge_47 : decode cX5_merge 47 = .ok (.iload_n 1, 1) := by decide +kernel
theorem dX5_merge_48 : decode cX5_merge 48 = .ok (.aload_n 0, 1) := by decide +kernel
theorem dX5_merge_49 : decode cX5_merge 49 = .ok (.getfield 27, 3) := by decide +kernel
theorem dX5_merge_52 : decode cX5_merge 52 = .ok (.aload_n 0, 1) := by decide +kernel
theorem dX5_merge_53 : decode cX5_merge 53 = .ok (.getfield 13, 3) := by decide +kernel
theorem dX5_merge_56 : decode cX5_merge 56 = .ok (.iload_n 1, 1) := by decide +kernel
theorem dX5_merge_57 : decode cX5_merge 57 = .ok (.iaload, 1) := by decide +kernel
theorem dX5_merge_58 : decode cX5_merge 58 = .ok (.aload_n 0, 1) := by decide +kernel
theorem dX5_merge_59 : decode cX5_merge 59 = .ok (.getfield 13, 3) := by decide +kernel
theorem dX5_merge_62 : decode cX5_merge 62 = .ok (.iload_n 2, 1) := by decide +kernel
theorem dX5_merge_63 : decode cX5_merge 63 = .ok (.iaload, 1) := by decide +kernel
theorem dX5_merge_64 : decode cX5_merge 64 = .ok (.aload_n 0, 1) := by decide +kernel
theorem dX5_merge_65 : decode cX5_merge 65 = .ok (.getfield 41, 3) := by decide +kernel
theorem dX5_merge_68 : decode cX5_merge 68 = .ok (.getfield 179, 3) := by decide +kernel
theorem dX5_merge_71 : decode cX5_merge 71 = .ok (.invokevirtual 180, 3) := by decide +kernel
theorem dX5_merge_74 : decode cX5_merge 74 = .ok (.invokevirtual 110, 3) := by decide +kernel
theorem dX5_merge_77 : decode cX5_merge 77 = .ok (.ireturn, 1) := by decide +kernel
theorem dX5_wouldConflict_0 : decode cX5_wouldConflict 0 = .ok (.aload_n 0, 1) := by decide +kernel
theorem dX5_wouldConflict_1 : decode cX5_wouldConflict 1 = .ok (.iload_n 1, 1) := by decide +kernel
theorem dX5_wouldConflict_2 : decode cX5_wouldConflict 2 = .ok (.invokevirtual 94, 3) := by decide +kernel
theorem dX5_wouldConflict_5 : decode cX5_wouldConflict 5 = .ok (.aload_n 0, 1) := by decide +kernel
theorem dX5_wouldConflict_6 : decode cX5_wouldConflict 6 = .ok (.iload_n 2, 1) := by decide +kernel
theorem dX5_wouldConflict_7 : decode cX5_wouldConflict 7 = .ok (.invokevirtual 94, 3) := by decide +kernel
theorem dX5_wouldConflict_10 : decode cX5_wouldConflict 10 = .ok (.aload_n 0, 1) := by decide +kernel
theorem dX5_wouldConflict_11 : decode cX5_wouldConflict 11 = .ok (.getfield 50, 3) := by decide +kernel
theorem dX5_wouldConflict_14 : decode cX5_wouldConflict 14 = .ok (.aload_n 0, 1) := by decide +kernel
theorem dX5_wouldConflict_15 : decode cX5_wouldConflict 15 = .ok (.getfield 59, 3) := by decide +kernel
theorem dX5_wouldConflict_18 : decode cX5_wouldConflict 18 = .ok (.bipush 100, 2) := by decide +kernel
theorem dX5_wouldConflict_20 : decode cX5_wouldConflict 20 = .ok (.aload_n 0, 1) := by decide +kernel
theorem dX5_wouldConflict_21 : decode cX5_wouldConflict 21 = .ok (.getfield 13, 3) := by decide +kernel
theorem dX5_wouldConflict_24 : decode cX5_wouldConflict 24 = .ok (.iload_n 1, 1) := by decide +kernel
theorem dX5_wouldConflict_25 : decode cX5_wouldConflict 25 = .ok (.iaload, 1) := by decide +kernel
theorem dX5_wouldConflict_26 : decode cX5_wouldConflict 26 = .ok (.aload_n 0, 1) := by decide +kernel
theorem dX5_wouldConflict_27 : decode cX5_wouldConflict 27 = .ok (.getfield 13, 3) := by decide +kernel
theorem dX5_wouldConflict_30 : decode cX5_wouldConflict 30 = .ok (.iload_n 2, 1) := by decide +kernel
theorem dX5_wouldConflict_31 : decode cX5_wouldConflict 31 = .ok (.iaload, 1) := by decide +kernel
theorem dX5_wouldConflict_32 : decode cX5_wouldConflict 32 = .ok (.aload_n 0, 1) := by decide +kernel
theorem dX5_wouldConflict_33 : decode cX5_wouldConflict 33 = .ok (.getfield 41, 3) := by decide +kernel
theorem dX5_wouldConflict_36 : decode cX5_wouldConflict 36 = .ok (.getfield 179, 3) := by decide +kernel
theorem dX5_wouldConflict_39 : decode cX5_wouldConflict 39 = .ok (.invokevirtual 183, 3) := by decide +kernel
theorem dX5_wouldConflict_42 : decode cX5_wouldConflict 42 = .ok (.aload_n 0, 1) := by decide +kernel
theorem dX5_wouldConflict_43 : decode cX5_wouldConflict 43 = .ok (.getfield 59, 3) := by decide +kernel
theorem dX5_wouldConflict_46 : decode cX5_wouldConflict 46 = .ok (.bipush 100, 2) := by decide +kernel
theorem dX5_wouldConflict_48 : decode cX5_wouldConflict 48 = .ok (.invokevirtual 166, 3) := by decide +kernel
theorem dX5_wouldConflict_51 : decode cX5_wouldConflict 51 = .ok (.ireturn, 1) := by decide +kernel
theorem dX5_isAlike_0 : decode cX5_isAlike 0 = .ok (.aload_n 0, 1) := by decide +kernel
theorem dX5_isAlike_1 : decode cX5_isAlike 1 = .ok (.iload_n 1, 1) := by decide +kernel
theorem dX5_isAlike_2 : decode cX5_isAlike 2 = .ok (.invokevirtual 94, 3) := by decide +kernel
theorem dX5_isAlike_5 : decode cX5_isAlike 5 = .ok (.aload_n 0, 1) := by decide +kernel
theorem dX5_isAlike_6 : decode cX5_isAlike 6 = .ok (.iload_n 2, 1) := by decide +kernel
theorem dX5_isAlike_7 : decode cX5_isAlike 7 = .ok (.invokevirtual 94, 3) := by decide +kernel
theorem dX5_isAlike_10 : decode cX5_isAlike 10 = .ok (.aload_n 0, 1) := by decide +kernel
theorem dX5_isAlike_11 : decode cX5_isAlike 11 = .ok (.getfield 50, 3) := by decide +kernel
theorem dX5_isAlike_14 : decode cX5_isAlike 14 = .ok (.aload_n 0, 1) := by decide +kernel
theorem dX5_isAlike_15 : decode cX5_isAlike 15 = .ok (.getfield 59, 3) := by decide +kernel
theorem dX5_isAlike_18 : decode cX5_isAlike 18 = .ok (.bipush 100, 2) := by decide +kernel
theorem dX5_isAlike_20 : decode cX5_isAlike 20 = .ok (.aload_n 0, 1) := by decide +kernel
theorem dX5_isAlike_21 : decode cX5_isAlike 21 = .ok (.getfield 13, 3) := by decide +kernel
theorem dX5_isAlike_24 : decode cX5_isAlike 24 = .ok (.iload_n 1, 1) := by decide +kernel
theorem dX5_isAlike_25 : decode cX5_isAlike 25 = .ok (.iaload, 1) := by decide +kernel
theorem dX5_isAlike_26 : decode cX5_isAlike 26 = .ok (.aload_n 0, 1) := by decide +kernel
theorem dX5_isAlike_27 : decode cX5_isAlike 27 = .ok (.getfield 13, 3) := by decide +kernel
theorem dX5_isAlike_30 : decode cX5_isAlike 30 = .ok (.iload_n 2, 1) := by decide +kernel
theorem dX5_isAlike_31 : decode cX5_isAlike 31 = .ok (.iaload, 1) := by decide +kernel
theorem dX5_isAlike_32 : decode cX5_isAlike 32 = .ok (.aload_n 0, 1) := by decide +kernel
theorem dX5_isAlike_33 : decode cX5_isAlike 33 = .ok (.getfield 41, 3) := by decide +kernel
theorem dX5_isAlike_36 : decode cX5_isAlike 36 = .ok (.getfield 179, 3) := by decide +kernel
theorem dX5_isAlike_39 : decode cX5_isAlike 39 = .ok (.invokevirtual 183, 3) := by decide +kernel
theorem dX5_isAlike_42 : decode cX5_isAlike 42 = .ok (.aload_n 0, 1) := by decide +kernel
theorem dX5_isAlike_43 : decode cX5_isAlike 43 = .ok (.getfield 50, 3) := by decide +kernel
theorem dX5_isAlike_46 : decode cX5_isAlike 46 = .ok (.aload_n 0, 1) := by decide +kernel
theorem dX5_isAlike_47 : decode cX5_isAlike 47 = .ok (.getfield 59, 3) := by decide +kernel
theorem dX5_isAlike_50 : decode cX5_isAlike 50 = .ok (.bipush 101, 2) := by decide +kernel
theorem dX5_isAlike_52 : decode cX5_isAlike 52 = .ok (.aload_n 0, 1) := by decide +kernel
theorem dX5_isAlike_53 : decode cX5_isAlike 53 = .ok (.getfield 13, 3) := by decide +kernel
theorem dX5_isAlike_56 : decode cX5_isAlike 56 = .ok (.iload_n 2, 1) := by decide +kernel
theorem dX5_isAlike_57 : decode cX5_isAlike 57 = .ok (.iaload, 1) := by decide +kernel
theorem dX5_isAlike_58 : decode cX5_isAlike 58 = .ok (.aload_n 0, 1) := by decide +kernel
theorem dX5_isAlike_59 : decode cX5_isAlike 59 = .ok (.getfield 13, 3) := by decide +kernel
theorem dX5_isAlike_62 : decode cX5_isAlike 62 = .ok (.iload_n 1, 1) := by decide +kernel
theorem dX5_isAlike_63 : decode cX5_isAlike 63 = .ok (.iaload, 1) := by decide +kernel
theorem dX5_isAlike_64 : decode cX5_isAlike 64 = .ok (.aload_n 0, 1) := by decide +kernel
theorem dX5_isAlike_65 : decode cX5_isAlike 65 = .ok (.getfield 41, 3) := by decide +kernel
theorem dX5_isAlike_68 : decode cX5_isAlike 68 = .ok (.getfield 179, 3) := by decide +kernel
theorem dX5_isAlike_71 : decode cX5_isAlike 71 = .ok (.invokevirtual 183, 3) := by decide +kernel
theorem dX5_isAlike_74 : decode cX5_isAlike 74 = .ok (.aload_n 0, 1) := by decide +kernel
theorem dX5_isAlike_75 : decode cX5_isAlike 75 = .ok (.getfield 59, 3) := by decide +kernel
theorem dX5_isAlike_78 : decode cX5_isAlike 78 = .ok (.bipush 100, 2) := by decide +kernel
theorem dX5_isAlike_80 : decode cX5_isAlike 80 = .ok (.bipush 101, 2) := by decide +kernel
theorem dX5_isAlike_82 : decode cX5_isAlike 82 = .ok (.invokevirtual 171, 3) := by decide +kernel
theorem dX5_isAlike_85 : decode cX5_isAlike 85 = .ok (.ifCond .ne 7, 3) := by decide +kernel
theorem dX5_isAlike_88 : decode cX5_isAlike 88 = .ok (.iconst 1, 1) := by decide +kernel
theorem dX5_isAlike_89 : decode cX5_isAlike 89 = .ok (.goto 4, 3) := by decide +kernel
theorem dX5_isAlike_92 : decode cX5_isAlike 92 = .ok (.iconst 0, 1) := by decide +kernel
theorem dX5_isAlike_93 : decode cX5_isAlike 93 = .ok (.ireturn, 1) := by decide +kernel
theorem dX5_pick_0 : decode cX5_pick 0 = .ok (.aload_n 0, 1) := by decide +kernel
theorem dX5_pick_1 : decode cX5_pick 1 = .ok (.iload_n 1, 1) := by decide +kernel
theorem dX5_pick_2 : decode cX5_pick 2 = .ok (.invokevirtual 94, 3) := by decide +kernel
theorem dX5_pick_5 : decode cX5_pick 5 = .ok (.aload_n 0, 1) := by decide +kernel
theorem dX5_pick_6 : decode cX5_pick 6 = .ok (.iload_n 2, 1) := by decide +kernel
theorem dX5_pick_7 : decode cX5_pick 7 = .ok (.invokevirtual 89, 3) := by decide +kernel
theorem dX5_pick_10 : decode cX5_pick 10 = .ok (.aload_n 0, 1) := by decide +kernel
theorem dX5_pick_11 : decode cX5_pick 11 = .ok (.getfield 27, 3) := by decide +kernel
theorem dX5_pick_14 : decode cX5_pick 14 = .ok (.iload_n 2, 1) := by decide +kernel
theorem dX5_pick_15 : decode cX5_pick 15 = .ok (.invokevirtual 143, 3) := by decide +kernel
theorem dX5_pick_18 : decode cX5_pick 18 = .ok (.iconst 1, 1) := by decide +kernel
theorem dX5_pick_19 : decode cX5_pick 19 = .ok (.if_icmp .eq 13, 3) := by decide +kernel
theorem dX5_pick_22 : decode cX5_pick 22 = .ok (.new 118, 3) := by decide +kernel
theorem dX5_pick_25 : decode cX5_pick 25 = .ok (.dup, 1) := by decide +kernel
theorem dX5_pick_26 : decode cX5_pick 26 = .ok (.ldc 187, 2) := by decide +kernel
theorem dX5_pick_28 : decode cX5_pick 28 = .ok (.invokespecial 122, 3) := by decide +kernel
theorem dX5_pick_31 : decode cX5_pick 31 = .ok (.athrow, 1) := by decide +kernel
theorem dX5_pick_32 : decode cX5_pick 32 = .ok (.aload_n 0, 1) := by decide +kernel
theorem dX5_pick_33 : decode cX5_pick 33 = .ok (.invokevirtual 99, 3) := by decide +kernel
theorem dX5_pick_36 : decode cX5_pick 36 = .ok (.aload_n 0, 1) := by decide +kernel
theorem dX5_pick_37 : decode cX5_pick 37 = .ok (.iload_n 1, 1) := by decide +kernel
theorem dX5_pick_38 : decode cX5_pick 38 = .ok (.aload_n 0, 1) := by decide +kernel
theorem dX5_pick_39 : decode cX5_pick 39 = .ok (.getfield 27, 3) := by decide +kernel
theorem dX5_pick_42 : decode cX5_pick 42 = .ok (.aload_n 0, 1) := by decide +kernel
theorem dX5_pick_43 : decode cX5_pick 43 = .ok (.getfield 13, 3) := by decide +kernel
theorem dX5_pick_46 : decode cX5_pick 46 = .ok (.iload_n 1, 1) := by decide +kernel
theorem dX5_pick_47 : decode cX5_pick 47 = .ok (.iaload, 1) := by decide +kernel
theorem dX5_pick_48 : decode cX5_pick 48 = .ok (.iload_n 2, 1) := by decide +kernel
theorem dX5_pick_49 : decode cX5_pick 49 = .ok (.invokevirtual 189, 3) := by decide +kernel
theorem dX5_pick_52 : decode cX5_pick 52 = .ok (.invokevirtual 110, 3) := by decide +kernel
theorem dX5_pick_55 : decode cX5_pick 55 = .ok (.ireturn, 1) := by decide +kernel
theorem dX5_quote_0 : decode cX5_quote 0 = .ok (.aload_n 0, 1) := by decide +kernel
theorem dX5_quote_1 : decode cX5_quote 1 = .ok (.iload_n 1, 1) := by decide +kernel
theorem dX5_quote_2 : decode cX5_quote 2 = .ok (.invokevirtual 85, 3) := by decide +kernel
theorem dX5_quote_5 : decode cX5_quote 5 = .ok (.aload_n 0, 1) := by decide +kernel
theorem dX5_quote_6 : decode cX5_quote 6 = .ok (.iload_n 2, 1) := by decide +kernel
theorem dX5_quote_7 : decode cX5_quote 7 = .ok (.invokevirtual 85, 3) := by decide +kernel
theorem dX5_quote_10 : decode cX5_quote 10 = .ok (.iload_n 1, 1) := by decide +kernel
theorem dX5_quote_11 : decode cX5_quote 11 = .ok (.iload_n 2, 1) := by decide +kernel
theorem dX5_quote_12 : decode cX5_quote 12 = .ok (.if_icmp .eq 15, 3) := by decide +kernel
theorem dX5_quote_15 : decode cX5_quote 15 = .ok (.iload_n 3, 1) := by decide +kernel
theorem dX5_quote_16 : decode cX5_quote 16 = .ok (.bipush (-99), 2) := by decide +kernel
theorem dX5_quote_18 : decode cX5_quote 18 = .ok (.if_icmp .lt 9, 3) := by decide +kernel
theorem dX5_quote_21 : decode cX5_quote 21 = .ok (.iload_n 3, 1) := by decide +kernel
theorem dX5_quote_22 : decode cX5_quote 22 = .ok (.bipush 99, 2) := by decide +kernel
theorem dX5_quote_24 : decode cX5_quote 24 = .ok (.if_icmp .le 13, 3) := by decide +kernel
theorem dX5_quote_27 : decode cX5_quote 27 = .ok (.new 70, 3) := by decide +kernel
theorem dX5_quote_30 : decode cX5_quote 30 = .ok (.dup, 1) := by decide +kernel
theorem dX5_quote_31 : decode cX5_quote 31 = .ok (.ldc 192, 2) := by decide +kernel
theorem dX5_quote_33 : decode cX5_quote 33 = .ok (.invokespecial 74, 3) := by decide +kernel
theorem dX5_quote_36 : decode cX5_quote 36 = .ok (.athrow, 1) := by decide +kernel
theorem dX5_quote_37 : decode cX5_quote 37 = .ok (.aload_n 0, 1) := by decide +kernel
theorem dX5_quote_38 : decode cX5_quote 38 = .ok (.getfield 41, 3) := by decide +kernel
theorem dX5_quote_41 : decode cX5_quote 41 = .ok (.getfield 179, 3) := by decide +kernel
theorem dX5_quote_44 : decode cX5_quote 44 = .ok (.bipush 10, 2) := by decide +kernel
theorem dX5_quote_46 : decode cX5_quote 46 = .ok (.if_icmp .lt 13, 3) := by decide +kernel
theorem dX5_quote_49 : decode cX5_quote 49 = .ok (.new 80, 3) := by decide +kernel
theorem dX5_quote_52 : decode cX5_quote 52 = .ok (.dup, 1) := by decide +kernel
theorem dX5_quote_53 : decode cX5_quote 53 = .ok (.ldc 194, 2) := by decide +kernel
theorem dX5_quote_55 : decode cX5_quote 55 = .ok (.invokespecial 84, 3) := by decide +kernel
theorem dX5_quote_58 : decode cX5_quote 58 = .ok (.athrow, 1) := by decide +kernel
theorem dX5_quote_59 : decode cX5_quote 59 = .ok (.aload_n 0, 1) := by decide +kernel
theorem dX5_quote_60 : decode cX5_quote 60 = .ok (.getfield 41, 3) := by decide +kernel
theorem dX5_quote_63 : decode cX5_quote 63 = .ok (.iload_n 1, 1) := by decide +kernel
theorem dX5_quote_64 : decode cX5_quote 64 = .ok (.iload_n 2, 1) := by decide +kernel
theorem dX5_quote_65 : decode cX5_quote 65 = .ok (.iload_n 3, 1) := by decide +kernel
theorem dX5_quote_66 : decode cX5_quote 66 = .ok (.invokevirtual 196, 3) := by decide +kernel
theorem dX5_quote_69 : decode cX5_quote 69 = .ok (.ireturn, 1) := by decide +kernel
theorem dX5_isBroken_0 : decode cX5_isBroken 0 = .ok (.iload_n 1, 1) := by decide +kernel
theorem dX5_isBroken_1 : decode cX5_isBroken 1 = .ok (.ifCond .lt 14, 3) := by decide +kernel
theorem dX5_isBroken_4 : decode cX5_isBroken 4 = .ok (.iload_n 1, 1) := by decide +kernel
theorem dX5_isBroken_5 : decode cX5_isBroken 5 = .ok (.aload_n 0, 1) := by decide +kernel
theorem dX5_isBroken_6 : decode cX5_isBroken 6 = .ok (.getfield 41, 3) := by decide +kernel
theorem dX5_isBroken_9 : decode cX5_isBroken 9 = .ok (.getfield 179, 3) := by decide +kernel
theorem dX5_isBroken_12 : decode cX5_isBroken 12 = .ok (.if_icmp .lt 13, 3) := by decide +kernel
theorem dX5_isBroken_15 : decode cX5_isBroken 15 = .ok (.new 199, 3) := by decide +kernel
theorem dX5_isBroken_18 : decode cX5_isBroken 18 = .ok (.dup, 1) := by decide +kernel
theorem dX5_isBroken_19 : decode cX5_isBroken 19 = .ok (.ldc 201, 2) := by decide +kernel
theorem dX5_isBroken_21 : decode cX5_isBroken 21 = .ok (.invokespecial 203, 3) := by decide +kernel
theorem dX5_isBroken_24 : decode cX5_isBroken 24 = .ok (.athrow, 1) := by decide +kernel
theorem dX5_isBroken_25 : decode cX5_isBroken 25 = .ok (.aload_n 0, 1) := by decide +kernel
theorem dX5_isBroken_26 : decode cX5_isBroken 26 = .ok (.iload_n 2, 1) := by decide +kernel
theorem dX5_isBroken_27 : decode cX5_isBroken 27 = .ok (.invokevirtual 89, 3) := by decide +kernel
theorem dX5_isBroken_30 : decode cX5_isBroken 30 = .ok (.aload_n 0, 1) := by decide +kernel
theorem dX5_isBroken_31 : decode cX5_isBroken 31 = .ok (.getfield 41, 3) := by decide +kernel
theorem dX5_isBroken_34 : decode cX5_isBroken 34 = .ok (.iload_n 1, 1) := by decide +kernel
theorem dX5_isBroken_35 : decode cX5_isBroken 35 = .ok (.aload_n 0, 1) := by decide +kernel
theorem dX5_isBroken_36 : decode cX5_isBroken 36 = .ok (.getfield 59, 3) := by decide +kernel
theorem dX5_isBroken_39 : decode cX5_isBroken 39 = .ok (.iload_n 2, 1) := by decide +kernel
theorem dX5_isBroken_40 : decode cX5_isBroken 40 = .ok (.invokevirtual 204, 3) := by decide +kernel
theorem dX5_isBroken_43 : decode cX5_isBroken 43 = .ok (.iconst 1, 1) := by decide +kernel
theorem dX5_isBroken_44 : decode cX5_isBroken 44 = .ok (.if_icmp .ne 7, 3) := by decide +kernel
theorem dX5_isBroken_47 : decode cX5_isBroken 47 = .ok (.iconst 1, 1) := by decide +kernel
theorem dX5_isBroken_48 : decode cX5_isBroken 48 = .ok (.goto 4, 3) := by decide +kernel
theorem dX5_isBroken_51 : decode cX5_isBroken 51 = .ok (.iconst 0, 1) := by decide +kernel
theorem dX5_isBroken_52 : decode cX5_isBroken 52 = .ok (.ireturn, 1) := by decide +kernel
theorem dX5_broken_0 : decode cX5_broken 0 = .ok (.aload_n 0, 1) := by decide +kernel
theorem dX5_broken_1 : decode cX5_broken 1 = .ok (.iload_n 1, 1) := by decide +kernel
theorem dX5_broken_2 : decode cX5_broken 2 = .ok (.invokevirtual 89, 3) := by decide +kernel
theorem dX5_broken_5 : decode cX5_broken 5 = .ok (.iconst 0, 1) := by decide +kernel
theorem dX5_broken_6 : decode cX5_broken 6 = .ok (.istore_n 2, 1) := by decide +kernel
theorem dX5_broken_7 : decode cX5_broken 7 = .ok (.iconst 0, 1) := by decide +kernel
theorem dX5_broken_8 : decode cX5_broken 8 = .ok (.istore_n 3, 1) := by decide +kernel
theorem dX5_broken_9 : decode cX5_broken 9 = .ok (.iload_n 3, 1) := by decide +kernel
theorem dX5_broken_10 : decode cX5_broken 10 = .ok (.aload_n 0, 1) := by decide +kernel
theorem dX5_broken_11 : decode cX5_broken 11 = .ok (.getfield 41, 3) := by decide +kernel
theorem dX5_broken_14 : decode cX5_broken 14 = .ok (.getfield 179, 3) := by decide +kernel
theorem dX5_broken_17 : decode cX5_broken 17 = .ok (.if_icmp .ge 29, 3) := by decide +kernel
theorem dX5_broken_20 : decode cX5_broken 20 = .ok (.aload_n 0, 1) := by decide +kernel
theorem dX5_broken_21 : decode cX5_broken 21 = .ok (.getfield 41, 3) := by decide +kernel
theorem dX5_broken_24 : decode cX5_broken 24 = .ok (.iload_n 3, 1) := by decide +kernel
theorem dX5_broken_25 : decode cX5_broken 25 = .ok (.aload_n 0, 1) := by decide +kernel
theorem dX5_broken_26 : decode cX5_broken 26 = .ok (.getfield 59, 3) := by decide +kernel
theorem dX5_broken_29 : decode cX5_broken 29 = .ok (.iload_n 1, 1) := by decide +kernel
theorem dX5_broken_30 : decode cX5_broken 30 = .ok (.invokevirtual 204, 3) := by decide +kernel
theorem dX5_broken_33 : decode cX5_broken 33 = .ok (.iconst 1, 1) := by decide +kernel
theorem dX5_broken_34 : decode cX5_broken 34 = .ok (.if_icmp .ne 6, 3) := by decide +kernel
theorem dX5_broken_37 : decode cX5_broken 37 = .ok (.iinc 2 1, 3) := by decide +kernel
theorem dX5_broken_40 : decode cX5_broken 40 = .ok (.iinc 3 1, 3) := by decide +kernel
theorem dX5_broken_43 : decode cX5_broken 43 = .ok (.goto (-34), 3) := by decide +kernel
theorem dX5_broken_46 : decode cX5_broken 46 = .ok (.iload_n 2, 1) := by decide +kernel
theorem dX5_broken_47 : decode cX5_broken 47 = .ok (.ireturn, 1) := by decide +kernel
theorem dX5_sum_0 : decode cX5_sum 0 = .ok (.aload_n 0, 1) := by decide +kernel
theorem dX5_sum_1 : decode cX5_sum 1 = .ok (.iload_n 1, 1) := by decide +kernel
theorem dX5_sum_2 : decode cX5_sum 2 = .ok (.invokevirtual 89, 3) := by decide +kernel
theorem dX5_sum_5 : decode cX5_sum 5 = .ok (.lconst 0, 1) := by decide +kernel
theorem dX5_sum_6 : decode cX5_sum 6 = .ok (.lstore_n 2, 1) := by decide +kernel
theorem dX5_sum_7 : decode cX5_sum 7 = .ok (.iconst 0, 1) := by decide +kernel
theorem dX5_sum_8 : decode cX5_sum 8 = .ok (.istore 4, 2) := by decide +kernel
theorem dX5_sum_10 : decode cX5_sum 10 = .ok (.iload 4, 2) := by decide +kernel
theorem dX5_sum_12 : decode cX5_sum 12 = .ok (.aload_n 0, 1) := by decide +kernel
theorem dX5_sum_13 : decode cX5_sum 13 = .ok (.getfield 77, 3) := by decide +kernel
theorem dX5_sum_16 : decode cX5_sum 16 = .ok (.if_icmp .ge 49, 3) := by decide +kernel
theorem dX5_sum_19 : decode cX5_sum 19 = .ok (.aload_n 0, 1) := by decide +kernel
theorem dX5_sum_20 : decode cX5_sum 20 = .ok (.getfield 59, 3) := by decide +kernel
theorem dX5_sum_23 : decode cX5_sum 23 = .ok (.iload_n 1, 1) := by decide +kernel
theorem dX5_sum_24 : decode cX5_sum 24 = .ok (.iload 4, 2) := by decide +kernel
theorem dX5_sum_26 : decode cX5_sum 26 = .ok (.invokevirtual 123, 3) := by decide +kernel
theorem dX5_sum_29 : decode cX5_sum 29 = .ok (.ifCond .ne 30, 3) := by decide +kernel
theorem dX5_sum_32 : decode cX5_sum 32 = .ok (.aload_n 0, 1) := by decide +kernel
theorem dX5_sum_33 : decode cX5_sum 33 = .ok (.getfield 59, 3) := by decide +kernel
theorem dX5_sum_36 : decode cX5_sum 36 = .ok (.iload_n 1, 1) := by decide +kernel
theorem dX5_sum_37 : decode cX5_sum 37 = .ok (.iload 4, 2) := by decide +kernel
theorem dX5_sum_39 : decode cX5_sum 39 = .ok (.invokevirtual 114, 3) := by decide +kernel
theorem dX5_sum_42 : decode cX5_sum 42 = .ok (.ifCond .ne 17, 3) := by decide +kernel
theorem dX5_sum_45 : decode cX5_sum 45 = .ok (.lload_n 2, 1) := by decide +kernel
theorem dX5_sum_46 : decode cX5_sum 46 = .ok (.aload_n 0, 1) := by decide +kernel
theorem dX5_sum_47 : decode cX5_sum 47 = .ok (.getfield 59, 3) := by decide +kernel
theorem dX5_sum_50 : decode cX5_sum 50 = .ok (.iload_n 1, 1) := by decide +kernel
theorem dX5_sum_51 : decode cX5_sum 51 = .ok (.iload 4, 2) := by decide +kernel
theorem dX5_sum_53 : decode cX5_sum 53 = .ok (.invokevirtual 208, 3) := by decide +kernel
theorem dX5_sum_56 : decode cX5_sum 56 = .ok (.i2l, 1) := by decide +kernel
theorem dX5_sum_57 : decode cX5_sum 57 = .ok (.ladd, 1) := by decide +kernel
theorem dX5_sum_58 : decode cX5_sum 58 = .ok (.lstore_n 2, 1) := by decide +kernel
theorem dX5_sum_59 : decode cX5_sum 59 = .ok (.iinc 4 1, 3) := by decide +kernel
theorem dX5_sum_62 : decode cX5_sum 62 = .ok (.goto (-52), 3) := by decide +kernel
theorem dX5_sum_65 : decode cX5_sum 65 = .ok (.lload_n 2, 1) := by decide +kernel
theorem dX5_sum_66 : decode cX5_sum 66 = .ok (.lreturn, 1) := by decide +kernel
theorem dX5_conflictShare_0 : decode cX5_conflictShare 0 = .ok (.aload_n 0, 1) := by decide +kernel
theorem dX5_conflictShare_1 : decode cX5_conflictShare 1 = .ok (.iload_n 1, 1) := by decide +kernel
theorem dX5_conflictShare_2 : decode cX5_conflictShare 2 = .ok (.invokevirtual 89, 3) := by decide +kernel
theorem dX5_conflictShare_5 : decode cX5_conflictShare 5 = .ok (.aload_n 0, 1) := by decide +kernel
theorem dX5_conflictShare_6 : decode cX5_conflictShare 6 = .ok (.getfield 77, 3) := by decide +kernel
theorem dX5_conflictShare_9 : decode cX5_conflictShare 9 = .ok (.ifCond .ne 13, 3) := by decide +kernel
theorem dX5_conflictShare_12 : decode cX5_conflictShare 12 = .ok (.new 135, 3) := by decide +kernel
theorem dX5_conflictShare_15 : decode cX5_conflictShare 15 = .ok (.dup, 1) := by decide +kernel
theorem dX5_conflictShare_16 : decode cX5_conflictShare 16 = .ok (.ldc 211, 2) := by decide +kernel
theorem dX5_conflictShare_18 : decode cX5_conflictShare 18 = .ok (.invokespecial 139, 3) := by decide +kernel
theorem dX5_conflictShare_21 : decode cX5_conflictShare 21 = .ok (.athrow, 1) := by decide +kernel
theorem dX5_conflictShare_22 : decode cX5_conflictShare 22 = .ok (.aload_n 0, 1) := by decide +kernel
theorem dX5_conflictShare_23 : decode cX5_conflictShare 23 = .ok (.getfield 59, 3) := by decide +kernel
theorem dX5_conflictShare_26 : decode cX5_conflictShare 26 = .ok (.iload_n 1, 1) := by decide +kernel
theorem dX5_conflictShare_27 : decode cX5_conflictShare 27 = .ok (.invokevirtual 166, 3) := by decide +kernel
theorem dX5_conflictShare_30 : decode cX5_conflictShare 30 = .ok (.i2f, 1) := by decide +kernel
theorem dX5_conflictShare_31 : decode cX5_conflictShare 31 = .ok (.aload_n 0, 1) := by decide +kernel
theorem dX5_conflictShare_32 : decode cX5_conflictShare 32 = .ok (.getfield 77, 3) := by decide +kernel
theorem dX5_conflictShare_35 : decode cX5_conflictShare 35 = .ok (.i2f, 1) := by decide +kernel
theorem dX5_conflictShare_36 : decode cX5_conflictShare 36 = .ok (.fdiv, 1) := by decide +kernel
theorem dX5_conflictShare_37 : decode cX5_conflictShare 37 = .ok (.freturn, 1) := by decide +kernel
theorem dX5_requireItem_0 : decode cX5_requireItem 0 = .ok (.iload_n 1, 1) := by decide +kernel
theorem dX5_requireItem_1 : decode cX5_requireItem 1 = .ok (.ifCond .lt 11, 3) := by decide +kernel
theorem dX5_requireItem_4 : decode cX5_requireItem 4 = .ok (.iload_n 1, 1) := by decide +kernel
theorem dX5_requireItem_5 : decode cX5_requireItem 5 = .ok (.aload_n 0, 1) := by decide +kernel
theorem dX5_requireItem_6 : decode cX5_requireItem 6 = .ok (.getfield 77, 3) := by decide +kernel
theorem dX5_requireItem_9 : decode cX5_requireItem 9 = .ok (.if_icmp .lt 13, 3) := by decide +kernel
theorem dX5_requireItem_12 : decode cX5_requireItem 12 = .ok (.new 199, 3) := by decide +kernel
theorem dX5_requireItem_15 : decode cX5_requireItem 15 = .ok (.dup, 1) := by decide +kernel
theorem dX5_requireItem_16 : decode cX5_requireItem 16 = .ok (.ldc 213, 2) := by decide +kernel
theorem dX5_requireItem_18 : decode cX5_requireItem 18 = .ok (.invokespecial 203, 3) := by decide +kernel
theorem dX5_requireItem_21 : decode cX5_requireItem 21 = .ok (.athrow, 1) := by decide +kernel
theorem dX5_requireItem_22 : decode cX5_requireItem 22 = .ok (.return_, 1) := by decide +kernel
theorem dX5_requireBranch_0 : decode cX5_requireBranch 0 = .ok (.iload_n 1, 1) := by decide +kernel
theorem dX5_requireBranch_1 : decode cX5_requireBranch 1 = .ok (.ifCond .lt 11, 3) := by decide +kernel
theorem dX5_requireBranch_4 : decode cX5_requireBranch 4 = .ok (.iload_n 1, 1) := by decide +kernel
theorem dX5_requireBranch_5 : decode cX5_requireBranch 5 = .ok (.aload_n 0, 1) := by decide +kernel
theorem dX5_requireBranch_6 : decode cX5_requireBranch 6 = .ok (.getfield 17, 3) := by decide +kernel
theorem dX5_requireBranch_9 : decode cX5_requireBranch 9 = .ok (.if_icmp .lt 13, 3) := by decide +kernel
theorem dX5_requireBranch_12 : decode cX5_requireBranch 12 = .ok (.new 199, 3) := by decide +kernel
theorem dX5_requireBranch_15 : decode cX5_requireBranch 15 = .ok (.dup, 1) := by decide +kernel
theorem dX5_requireBranch_16 : decode cX5_requireBranch 16 = .ok (.ldc 215, 2) := by decide +kernel
theorem dX5_requireBranch_18 : decode cX5_requireBranch 18 = .ok (.invokespecial 203, 3) := by decide +kernel
theorem dX5_requireBranch_21 : decode cX5_requireBranch 21 = .ok (.athrow, 1) := by decide +kernel
theorem dX5_requireBranch_22 : decode cX5_requireBranch 22 = .ok (.return_, 1) := by decide +kernel
theorem dX5_requireCommit_0 : decode cX5_requireCommit 0 = .ok (.iload_n 1, 1) := by decide +kernel
theorem dX5_requireCommit_1 : decode cX5_requireCommit 1 = .ok (.ifCond .lt 14, 3) := by decide +kernel
theorem dX5_requireCommit_4 : decode cX5_requireCommit 4 = .ok (.iload_n 1, 1) := by decide +kernel
theorem dX5_requireCommit_5 : decode cX5_requireCommit 5 = .ok (.aload_n 0, 1) := by decide +kernel
theorem dX5_requireCommit_6 : decode cX5_requireCommit 6 = .ok (.getfield 27, 3) := by decide +kernel
theorem dX5_requireCommit_9 : decode cX5_requireCommit 9 = .ok (.getfield 140, 3) := by decide +kernel
theorem dX5_requireCommit_12 : decode cX5_requireCommit 12 = .ok (.if_icmp .lt 13, 3) := by decide +kernel
theorem dX5_requireCommit_15 : decode cX5_requireCommit 15 = .ok (.new 199, 3) := by decide +kernel
theorem dX5_requireCommit_18 : decode cX5_requireCommit 18 = .ok (.dup, 1) := by decide +kernel
theorem dX5_requireCommit_19 : decode cX5_requireCommit 19 = .ok (.ldc 217, 2) := by decide +kernel
theorem dX5_requireCommit_21 : decode cX5_requireCommit 21 = .ok (.invokespecial 203, 3) := by decide +kernel
theorem dX5_requireCommit_24 : decode cX5_requireCommit 24 = .ok (.athrow, 1) := by decide +kernel
theorem dX5_requireCommit_25 : decode cX5_requireCommit 25 = .ok (.return_, 1) := by decide +kernel
theorem dX5_requireTag_0 : decode cX5_requireTag 0 = .ok (.iload_n 1, 1) := by decide +kernel
theorem dX5_requireTag_1 : decode cX5_requireTag 1 = .ok (.ifCond .lt 9, 3) := by decide +kernel
theorem dX5_requireTag_4 : decode cX5_requireTag 4 = .ok (.iload_n 1, 1) := by decide +kernel
theorem dX5_requireTag_5 : decode cX5_requireTag 5 = .ok (.bipush 10, 2) := by decide +kernel
theorem dX5_requireTag_7 : decode cX5_requireTag 7 = .ok (.if_icmp .lt 13, 3) := by decide +kernel
theorem dX5_requireTag_10 : decode cX5_requireTag 10 = .ok (.new 70, 3) := by decide +kernel
theorem dX5_requireTag_13 : decode cX5_requireTag 13 = .ok (.dup, 1) := by decide +kernel
theorem dX5_requireTag_14 : decode cX5_requireTag 14 = .ok (.ldc 219, 2) := by decide +kernel
theorem dX5_requireTag_16 : decode cX5_requireTag 16 = .ok (.invokespecial 74, 3) := by decide +kernel
theorem dX5_requireTag_19 : decode cX5_requireTag 19 = .ok (.athrow, 1) := by decide +kernel
theorem dX5_requireTag_20 : decode cX5_requireTag 20 = .ok (.return_, 1) := by decide +kernel
theorem dX5_requireRoomForCommit_0 : decode cX5_requireRoomForCommit 0 = .ok (.aload_n 0, 1) := by decide +kernel
theorem dX5_requireRoomForCommit_1 : decode cX5_requireRoomForCommit 1 = .ok (.getfield 27, 3) := by decide +kernel
theorem dX5_requireRoomForCommit_4 : decode cX5_requireRoomForCommit 4 = .ok (.getfield 140, 3) := by decide +kernel
theorem dX5_requireRoomForCommit_7 : decode cX5_requireRoomForCommit 7 = .ok (.bipush 100, 2) := by decide +kernel
theorem dX5_requireRoomForCommit_9 : decode cX5_requireRoomForCommit 9 = .ok (.if_icmp .lt 13, 3) := by decide +kernel
theorem dX5_requireRoomForCommit_12 : decode cX5_requireRoomForCommit 12 = .ok (.new 80, 3) := by decide +kernel
theorem dX5_requireRoomForCommit_15 : decode cX5_requireRoomForCommit 15 = .ok (.dup, 1) := by decide +kernel
theorem dX5_requireRoomForCommit_16 : decode cX5_requireRoomForCommit 16 = .ok (.ldc 221, 2) := by decide +kernel
theorem dX5_requireRoomForCommit_18 : decode cX5_requireRoomForCommit 18 = .ok (.invokespecial 84, 3) := by decide +kernel
theorem dX5_requireRoomForCommit_21 : decode cX5_requireRoomForCommit 21 = .ok (.athrow, 1) := by decide +kernel
theorem dX5_requireRoomForCommit_22 : decode cX5_requireRoomForCommit 22 = .ok (.return_, 1) := by decide +kernel
theorem dX5_requireSide_0 : decode cX5_requireSide 0 = .ok (.aload_n 1, 1) := by decide +kernel
theorem dX5_requireSide_1 : decode cX5_requireSide 1 = .ok (.iload_n 2, 1) := by decide +kernel
theorem dX5_requireSide_2 : decode cX5_requireSide 2 = .ok (.iload_n 3, 1) := by decide +kernel
theorem dX5_requireSide_3 : decode cX5_requireSide 3 = .ok (.iload 4, 2) := by decide +kernel
theorem dX5_requireSide_5 : decode cX5_requireSide 5 = .ok (.invokevirtual 223, 3) := by decide +kernel
theorem dX5_requireSide_8 : decode cX5_requireSide 8 = .ok (.istore 5, 2) := by decide +kernel
theorem dX5_requireSide_10 : decode cX5_requireSide 10 = .ok (.iload 5, 2) := by decide +kernel
theorem dX5_requireSide_12 : decode cX5_requireSide 12 = .ok (.iconst (-1), 1) := by decide +kernel
theorem dX5_requireSide_13 : decode cX5_requireSide 13 = .ok (.if_icmp .ne 13, 3) := by decide +kernel
theorem dX5_requireSide_16 : decode cX5_requireSide 16 = .ok (.new 135, 3) := by decide +kernel
theorem dX5_requireSide_19 : decode cX5_requireSide 19 = .ok (.dup, 1) := by decide +kernel
theorem dX5_requireSide_20 : decode cX5_requireSide 20 = .ok (.ldc 226, 2) := by decide +kernel
theorem dX5_requireSide_22 : decode cX5_requireSide 22 = .ok (.invokespecial 139, 3) := by decide +kernel
theorem dX5_requireSide_25 : decode cX5_requireSide 25 = .ok (.athrow, 1) := by decide +kernel
theorem dX5_requireSide_26 : decode cX5_requireSide 26 = .ok (.iload 5, 2) := by decide +kernel
theorem dX5_requireSide_28 : decode cX5_requireSide 28 = .ok (.ireturn, 1) := by decide +kernel
theorem dX5_moveHead_0 : decode cX5_moveHead 0 = .ok (.aload_n 0, 1) := by decide +kernel
theorem dX5_moveHead_1 : decode cX5_moveHead 1 = .ok (.getfield 50, 3) := by decide +kernel
theorem dX5_moveHead_4 : decode cX5_moveHead 4 = .ok (.aload_n 0, 1) := by decide +kernel
theorem dX5_moveHead_5 : decode cX5_moveHead 5 = .ok (.getfield 59, 3) := by decide +kernel
theorem dX5_moveHead_8 : decode cX5_moveHead 8 = .ok (.iload_n 2, 1) := by decide +kernel
theorem dX5_moveHead_9 : decode cX5_moveHead 9 = .ok (.invokevirtual 66, 3) := by decide +kernel
theorem dX5_moveHead_12 : decode cX5_moveHead 12 = .ok (.aload_n 0, 1) := by decide +kernel
theorem dX5_moveHead_13 : decode cX5_moveHead 13 = .ok (.getfield 13, 3) := by decide +kernel
theorem dX5_moveHead_16 : decode cX5_moveHead 16 = .ok (.iload_n 1, 1) := by decide +kernel
theorem dX5_moveHead_17 : decode cX5_moveHead 17 = .ok (.iload_n 2, 1) := by decide +kernel
theorem dX5_moveHead_18 : decode cX5_moveHead 18 = .ok (.iastore, 1) := by decide +kernel
theorem dX5_moveHead_19 : decode cX5_moveHead 19 = .ok (.iload_n 2, 1) := by decide +kernel
theorem dX5_moveHead_20 : decode cX5_moveHead 20 = .ok (.ireturn, 1) := by decide +kernel
theorem dX5_findBlame_0 : decode cX5_findBlame 0 = .ok (.iload_n 1, 1) := by decide +kernel
theorem dX5_findBlame_1 : decode cX5_findBlame 1 = .ok (.istore_n 3, 1) := by decide +kernel
theorem dX5_findBlame_2 : decode cX5_findBlame 2 = .ok (.iconst 0, 1) := by decide +kernel
theorem dX5_findBlame_3 : decode cX5_findBlame 3 = .ok (.istore 4, 2) := by decide +kernel
theorem dX5_findBlame_5 : decode cX5_findBlame 5 = .ok (.iload 4, 2) := by decide +kernel
theorem dX5_findBlame_7 : decode cX5_findBlame 7 = .ok (.bipush 100, 2) := by decide +kernel
theorem dX5_findBlame_9 : decode cX5_findBlame 9 = .ok (.if_icmp .ge 28, 3) := by decide +kernel
theorem dX5_findBlame_12 : decode cX5_findBlame 12 = .ok (.aload_n 0, 1) := by decide +kernel
theorem dX5_findBlame_13 : decode cX5_findBlame 13 = .ok (.iload_n 3, 1) := by decide +kernel
theorem dX5_findBlame_14 : decode cX5_findBlame 14 = .ok (.iload_n 2, 1) := by decide +kernel
theorem dX5_findBlame_15 : decode cX5_findBlame 15 = .ok (.invokevirtual 228, 3) := by decide +kernel
theorem dX5_findBlame_18 : decode cX5_findBlame 18 = .ok (.istore 5, 2) := by decide +kernel
theorem dX5_findBlame_20 : decode cX5_findBlame 20 = .ok (.iload 5, 2) := by decide +kernel
theorem dX5_findBlame_22 : decode cX5_findBlame 22 = .ok (.iconst (-1), 1) := by decide +kernel
theorem dX5_findBlame_23 : decode cX5_findBlame 23 = .ok (.if_icmp .ne 5, 3) := by decide +kernel
theorem dX5_findBlame_26 : decode cX5_findBlame 26 = .ok (.iload_n 3, 1) := by decide +kernel
theorem dX5_findBlame_27 : decode cX5_findBlame 27 = .ok (.ireturn, 1) := by decide +kernel
theorem dX5_findBlame_28 : decode cX5_findBlame 28 = .ok (.iload 5, 2) := by decide +kernel
theorem dX5_findBlame_30 : decode cX5_findBlame 30 = .ok (.istore_n 3, 1) := by decide +kernel
theorem dX5_findBlame_31 : decode cX5_findBlame 31 = .ok (.iinc 4 1, 3) := by decide +kernel
theorem dX5_findBlame_34 : decode cX5_findBlame 34 = .ok (.goto (-29), 3) := by decide +kernel
theorem dX5_findBlame_37 : decode cX5_findBlame 37 = .ok (.iload_n 3, 1) := by decide +kernel
theorem dX5_findBlame_38 : decode cX5_findBlame 38 = .ok (.ireturn, 1) := by decide +kernel
theorem dX5_findSameParent_0 : decode cX5_findSameParent 0 = .ok (.aload_n 0, 1) := by decide +kernel
theorem dX5_findSameParent_1 : decode cX5_findSameParent 1 = .ok (.getfield 27, 3) := by decide +kernel
theorem dX5_findSameParent_4 : decode cX5_findSameParent 4 = .ok (.getfield 148, 3) := by decide +kernel
theorem dX5_findSameParent_7 : decode cX5_findSameParent 7 = .ok (.iload_n 1, 1) := by decide +kernel
theorem dX5_findSameParent_8 : decode cX5_findSameParent 8 = .ok (.iaload, 1) := by decide +kernel
theorem dX5_findSameParent_9 : decode cX5_findSameParent 9 = .ok (.istore_n 3, 1) := by decide +kernel
theorem dX5_findSameParent_10 : decode cX5_findSameParent 10 = .ok (.iload_n 3, 1) := by decide +kernel
theorem dX5_findSameParent_11 : decode cX5_findSameParent 11 = .ok (.iconst (-1), 1) := by decide +kernel
theorem dX5_findSameParent_12 : decode cX5_findSameParent 12 = .ok (.if_icmp .eq 18, 3) := by decide +kernel
theorem dX5_findSameParent_15 : decode cX5_findSameParent 15 = .ok (.aload_n 0, 1) := by decide +kernel
theorem dX5_findSameParent_16 : decode cX5_findSameParent 16 = .ok (.getfield 59, 3) := by decide +kernel
theorem dX5_findSameParent_19 : decode cX5_findSameParent 19 = .ok (.iload_n 2, 1) := by decide +kernel
theorem dX5_findSameParent_20 : decode cX5_findSameParent 20 = .ok (.iload_n 1, 1) := by decide +kernel
theorem dX5_findSameParent_21 : decode cX5_findSameParent 21 = .ok (.iload_n 3, 1) := by decide +kernel
theorem dX5_findSameParent_22 : decode cX5_findSameParent 22 = .ok (.invokevirtual 231, 3) := by decide +kernel
theorem dX5_findSameParent_25 : decode cX5_findSameParent 25 = .ok (.ifCond .eq 5, 3) := by decide +kernel
theorem dX5_findSameParent_28 : decode cX5_findSameParent 28 = .ok (.iload_n 3, 1) := by decide +kernel
theorem dX5_findSameParent_29 : decode cX5_findSameParent 29 = .ok (.ireturn, 1) := by decide +kernel
theorem dX5_findSameParent_30 : decode cX5_findSameParent 30 = .ok (.aload_n 0, 1) := by decide +kernel
theorem dX5_findSameParent_31 : decode cX5_findSameParent 31 = .ok (.getfield 27, 3) := by decide +kernel
theorem dX5_findSameParent_34 : decode cX5_findSameParent 34 = .ok (.getfield 151, 3) := by decide +kernel
theorem dX5_findSameParent_37 : decode cX5_findSameParent 37 = .ok (.iload_n 1, 1) := by decide +kernel
theorem dX5_findSameParent_38 : decode cX5_findSameParent 38 = .ok (.iaload, 1) := by decide +kernel
theorem dX5_findSameParent_39 : decode cX5_findSameParent 39 = .ok (.istore 4, 2) := by decide +kernel
theorem dX5_findSameParent_41 : decode cX5_findSameParent 41 = .ok (.iload 4, 2) := by decide +kernel
theorem dX5_findSameParent_43 : decode cX5_findSameParent 43 = .ok (.iconst (-1), 1) := by decide +kernel
theorem dX5_findSameParent_44 : decode cX5_findSameParent 44 = .ok (.if_icmp .eq 20, 3) := by decide +kernel
theorem dX5_findSameParent_47 : decode cX5_findSameParent 47 = .ok (.aload_n 0, 1) := by decide +kernel
theorem dX5_findSameParent_48 : decode cX5_findSameParent 48 = .ok (.getfield 59, 3) := by decide +kernel
theorem dX5_findSameParent_51 : decode cX5_findSameParent 51 = .ok (.iload_n 2, 1) := by decide +kernel
theorem dX5_findSameParent_52 : decode cX5_findSameParent 52 = .ok (.iload_n 1, 1) := by decide +kernel
theorem dX5_findSameParent_53 : decode cX5_findSameParent 53 = .ok (.iload 4, 2) := by decide +kernel
theorem dX5_findSameParent_55 : decode cX5_findSameParent 55 = .ok (.invokevirtual 231, 3) := by decide +kernel
theorem dX5_findSameParent_58 : decode cX5_findSameParent 58 = .ok (.ifCond .eq 6, 3) := by decide +kernel
theorem dX5_findSameParent_61 : decode cX5_findSameParent 61 = .ok (.iload 4, 2) := by decide +kernel
theorem dX5_findSameParent_63 : decode cX5_findSameParent 63 = .ok (.ireturn, 1) := by decide +kernel
theorem dX5_findSameParent_64 : decode cX5_findSameParent 64 = .ok (.iconst (-1), 1) := by decide +kernel
theorem dX5_findSameParent_65 : decode cX5_findSameParent 65 = .ok (.ireturn, 1) := by decide +kernel
theorem dX5_lowBit_0 : decode cX5_lowBit 0 = .ok (.iload_n 0, 1) := by decide +kernel
theorem dX5_lowBit_1 : decode cX5_lowBit 1 = .ok (.bipush 64, 2) := by decide +kernel
theorem dX5_lowBit_3 : decode cX5_lowBit 3 = .ok (.if_icmp .ge 9, 3) := by decide +kernel
theorem dX5_lowBit_6 : decode cX5_lowBit 6 = .ok (.lconst 1, 1) := by decide +kernel
theorem dX5_lowBit_7 : decode cX5_lowBit 7 = .ok (.iload_n 0, 1) := by decide +kernel
theorem dX5_lowBit_8 : decode cX5_lowBit 8 = .ok (.lshl, 1) := by decide +kernel
theorem dX5_lowBit_9 : decode cX5_lowBit 9 = .ok (.goto 4, 3) := by decide +kernel
theorem dX5_lowBit_12 : decode cX5_lowBit 12 = .ok (.lconst 0, 1) := by decide +kernel
theorem dX5_lowBit_13 : decode cX5_lowBit 13 = .ok (.lreturn, 1) := by decide +kernel
theorem dX5_highBit_0 : decode cX5_highBit 0 = .ok (.iload_n 0, 1) := by decide +kernel
theorem dX5_highBit_1 : decode cX5_highBit 1 = .ok (.bipush 64, 2) := by decide +kernel
theorem dX5_highBit_3 : decode cX5_highBit 3 = .ok (.if_icmp .ge 7, 3) := by decide +kernel
theorem dX5_highBit_6 : decode cX5_highBit 6 = .ok (.lconst 0, 1) := by decide +kernel
theorem dX5_highBit_7 : decode cX5_highBit 7 = .ok (.goto 9, 3) := by decide +kernel
theorem dX5_highBit_10 : decode cX5_highBit 10 = .ok (.lconst 1, 1) := by decide +kernel
theorem dX5_highBit_11 : decode cX5_highBit 11 = .ok (.iload_n 0, 1) := by decide +kernel
theorem dX5_highBit_12 : decode cX5_highBit 12 = .ok (.bipush 64, 2) := by decide +kernel
theorem dX5_highBit_14 : decode cX5_highBit 14 = .ok (.isub, 1) := by decide +kernel
theorem dX5_highBit_15 : decode cX5_highBit 15 = .ok (.lshl, 1) := by decide +kernel
theorem dX5_highBit_16 : decode cX5_highBit 16 = .ok (.lreturn, 1) := by decide +kernel
theorem dX5_hasNumber_0 : decode cX5_hasNumber 0 = .ok (.lload_n 0, 1) := by decide +kernel
theorem dX5_hasNumber_1 : decode cX5_hasNumber 1 = .ok (.iload 4, 2) := by decide +kernel
theorem dX5_hasNumber_3 : decode cX5_hasNumber 3 = .ok (.invokestatic 235, 3) := by decide +kernel
theorem dX5_hasNumber_6 : decode cX5_hasNumber 6 = .ok (.land, 1) := by decide +kernel
theorem dX5_hasNumber_7 : decode cX5_hasNumber 7 = .ok (.lload_n 2, 1) := by decide +kernel
theorem dX5_hasNumber_8 : decode cX5_hasNumber 8 = .ok (.iload 4, 2) := by decide +kernel
theorem dX5_hasNumber_10 : decode cX5_hasNumber 10 = .ok (.invokestatic 239, 3) := by decide +kernel
theorem dX5_hasNumber_13 : decode cX5_hasNumber 13 = .ok (.land, 1) := by decide +kernel
theorem dX5_hasNumber_14 : decode cX5_hasNumber 14 = .ok (.lor, 1) := by decide +kernel
theorem dX5_hasNumber_15 : decode cX5_hasNumber 15 = .ok (.lconst 0, 1) := by decide +kernel
theorem dX5_hasNumber_16 : decode cX5_hasNumber 16 = .ok (.lcmp, 1) := by decide +kernel
theorem dX5_hasNumber_17 : decode cX5_hasNumber 17 = .ok (.ifCond .eq 7, 3) := by decide +kernel
theorem dX5_hasNumber_20 : decode cX5_hasNumber 20 = .ok (.iconst 1, 1) := by decide +kernel
theorem dX5_hasNumber_21 : decode cX5_hasNumber 21 = .ok (.goto 4, 3) := by decide +kernel
theorem dX5_hasNumber_24 : decode cX5_hasNumber 24 = .ok (.iconst 0, 1) := by decide +kernel
theorem dX5_hasNumber_25 : decode cX5_hasNumber 25 = .ok (.ireturn, 1) := by decide +kernel
