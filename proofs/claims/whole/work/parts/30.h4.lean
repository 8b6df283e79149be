theorem dX6_tagged_39 : decode cX6_tagged 39 = .ok (.aload_n 0, 1) := by decide +kernel
theorem dX6_tagged_40 : decode cX6_tagged 40 = .ok (.getfield 43, 3) := by decide +kernel
theorem dX6_tagged_43 : decode cX6_tagged 43 = .ok (.iload_n 1, 1) := by decide +kernel
theorem dX6_tagged_44 : decode cX6_tagged 44 = .ok (.iaload, 1) := by decide +kernel
theorem dX6_tagged_45 : decode cX6_tagged 45 = .ok (.ireturn, 1) := by decide +kernel
theorem dX6_commits_0 : decode cX6_commits 0 = .ok (.aload_n 0, 1) := by decide +kernel
theorem dX6_commits_1 : decode cX6_commits 1 = .ok (.aload_n 0, 1) := by decide +kernel
theorem dX6_commits_2 : decode cX6_commits 2 = .ok (.getfield 13, 3) := by decide +kernel
theorem dX6_commits_5 : decode cX6_commits 5 = .ok (.invokevirtual 137, 3) := by decide +kernel
theorem dX6_commits_8 : decode cX6_commits 8 = .ok (.ireturn, 1) := by decide +kernel
theorem dX6_parentsOf_0 : decode cX6_parentsOf 0 = .ok (.aload_n 0, 1) := by decide +kernel
theorem dX6_parentsOf_1 : decode cX6_parentsOf 1 = .ok (.getfield 17, 3) := by decide +kernel
theorem dX6_parentsOf_4 : decode cX6_parentsOf 4 = .ok (.iload_n 1, 1) := by decide +kernel
theorem dX6_parentsOf_5 : decode cX6_parentsOf 5 = .ok (.iaload, 1) := by decide +kernel
theorem dX6_parentsOf_6 : decode cX6_parentsOf 6 = .ok (.ifCond .ge 7, 3) := by decide +kernel
theorem dX6_parentsOf_9 : decode cX6_parentsOf 9 = .ok (.iconst 0, 1) := by decide +kernel
theorem dX6_parentsOf_10 : decode cX6_parentsOf 10 = .ok (.goto 17, 3) := by decide +kernel
theorem dX6_parentsOf_13 : decode cX6_parentsOf 13 = .ok (.aload_n 0, 1) := by decide +kernel
theorem dX6_parentsOf_14 : decode cX6_parentsOf 14 = .ok (.getfield 21, 3) := by decide +kernel
theorem dX6_parentsOf_17 : decode cX6_parentsOf 17 = .ok (.iload_n 1, 1) := by decide +kernel
theorem dX6_parentsOf_18 : decode cX6_parentsOf 18 = .ok (.iaload, 1) := by decide +kernel
theorem dX6_parentsOf_19 : decode cX6_parentsOf 19 = .ok (.ifCond .ge 7, 3) := by decide +kernel
theorem dX6_parentsOf_22 : decode cX6_parentsOf 22 = .ok (.iconst 1, 1) := by decide +kernel
theorem dX6_parentsOf_23 : decode cX6_parentsOf 23 = .ok (.goto 4, 3) := by decide +kernel
theorem dX6_parentsOf_26 : decode cX6_parentsOf 26 = .ok (.iconst 2, 1) := by decide +kernel
theorem dX6_parentsOf_27 : decode cX6_parentsOf 27 = .ok (.ireturn, 1) := by decide +kernel
theorem dX6_parents_0 : decode cX6_parents 0 = .ok (.aload_n 0, 1) := by decide +kernel
theorem dX6_parents_1 : decode cX6_parents 1 = .ok (.iload_n 1, 1) := by decide +kernel
theorem dX6_parents_2 : decode cX6_parents 2 = .ok (.invokevirtual 105, 3) := by decide +kernel
theorem dX6_parents_5 : decode cX6_parents 5 = .ok (.ifCond .eq 7, 3) := by decide +kernel
theorem dX6_parents_8 : decode cX6_parents 8 = .ok (.iconst 0, 1) := by decide +kernel
theorem dX6_parents_9 : decode cX6_parents 9 = .ok (.goto 8, 3) := by decide +kernel
theorem dX6_parents_12 : decode cX6_parents 12 = .ok (.aload_n 0, 1) := by decide +kernel
theorem dX6_parents_13 : decode cX6_parents 13 = .ok (.iload_n 1, 1) := by decide +kernel
theorem dX6_parents_14 : decode cX6_parents 14 = .ok (.invokevirtual 140, 3) := by decide +kernel
theorem dX6_parents_17 : decode cX6_parents 17 = .ok (.ireturn, 1) := by decide +kernel
theorem dX6_parentAt_0 : decode cX6_parentAt 0 = .ok (.aload_n 0, 1) := by decide +kernel
theorem dX6_parentAt_1 : decode cX6_parentAt 1 = .ok (.iload_n 1, 1) := by decide +kernel
theorem dX6_parentAt_2 : decode cX6_parentAt 2 = .ok (.invokevirtual 105, 3) := by decide +kernel
theorem dX6_parentAt_5 : decode cX6_parentAt 5 = .ok (.ifCond .ne 30, 3) := by decide +kernel
theorem dX6_parentAt_8 : decode cX6_parentAt 8 = .ok (.aload_n 0, 1) := by decide +kernel
theorem dX6_parentAt_9 : decode cX6_parentAt 9 = .ok (.iload_n 2, 1) := by decide +kernel
theorem dX6_parentAt_10 : decode cX6_parentAt 10 = .ok (.iconst 0, 1) := by decide +kernel
theorem dX6_parentAt_11 : decode cX6_parentAt 11 = .ok (.aload_n 0, 1) := by decide +kernel
theorem dX6_parentAt_12 : decode cX6_parentAt 12 = .ok (.iload_n 1, 1) := by decide +kernel
theorem dX6_parentAt_13 : decode cX6_parentAt 13 = .ok (.invokevirtual 140, 3) := by decide +kernel
theorem dX6_parentAt_16 : decode cX6_parentAt 16 = .ok (.iconst 1, 1) := by decide +kernel
theorem dX6_parentAt_17 : decode cX6_parentAt 17 = .ok (.isub, 1) := by decide +kernel
theorem dX6_parentAt_18 : decode cX6_parentAt 18 = .ok (.invokestatic 79, 3) := by decide +kernel
theorem dX6_parentAt_21 : decode cX6_parentAt 21 = .ok (.ifCond .eq 7, 3) := by decide +kernel
theorem dX6_parentAt_24 : decode cX6_parentAt 24 = .ok (.iconst 0, 1) := by decide +kernel
theorem dX6_parentAt_25 : decode cX6_parentAt 25 = .ok (.goto 4, 3) := by decide +kernel
theorem dX6_parentAt_28 : decode cX6_parentAt 28 = .ok (.iconst 2, 1) := by decide +kernel
theorem dX6_parentAt_29 : decode cX6_parentAt 29 = .ok (.invokevirtual 87, 3) := by decide +kernel
theorem dX6_parentAt_32 : decode cX6_parentAt 32 = .ok (.ifCond .eq 7, 3) := by decide +kernel
theorem dX6_parentAt_35 : decode cX6_parentAt 35 = .ok (.iconst 0, 1) := by decide +kernel
theorem dX6_parentAt_36 : decode cX6_parentAt 36 = .ok (.goto 22, 3) := by decide +kernel
theorem dX6_parentAt_39 : decode cX6_parentAt 39 = .ok (.iload_n 2, 1) := by decide +kernel
theorem dX6_parentAt_40 : decode cX6_parentAt 40 = .ok (.ifCond .ne 12, 3) := by decide +kernel
theorem dX6_parentAt_43 : decode cX6_parentAt 43 = .ok (.aload_n 0, 1) := by decide +kernel
theorem dX6_parentAt_44 : decode cX6_parentAt 44 = .ok (.getfield 17, 3) := by decide +kernel
theorem dX6_parentAt_47 : decode cX6_parentAt 47 = .ok (.iload_n 1, 1) := by decide +kernel
theorem dX6_parentAt_48 : decode cX6_parentAt 48 = .ok (.iaload, 1) := by decide +kernel
theorem dX6_parentAt_49 : decode cX6_parentAt 49 = .ok (.goto 9, 3) := by decide +kernel
theorem dX6_parentAt_52 : decode cX6_parentAt 52 = .ok (.aload_n 0, 1) := by decide +kernel
theorem dX6_parentAt_53 : decode cX6_parentAt 53 = .ok (.getfield 21, 3) := by decide +kernel
theorem dX6_parentAt_56 : decode cX6_parentAt 56 = .ok (.iload_n 1, 1) := by decide +kernel
theorem dX6_parentAt_57 : decode cX6_parentAt 57 = .ok (.iaload, 1) := by decide +kernel
theorem dX6_parentAt_58 : decode cX6_parentAt 58 = .ok (.ireturn, 1) := by decide +kernel
theorem dX6_isOld_0 : decode cX6_isOld 0 = .ok (.aload_n 0, 1) := by decide +kernel
theorem dX6_isOld_1 : decode cX6_isOld 1 = .ok (.getfield 24, 3) := by decide +kernel
theorem dX6_isOld_4 : decode cX6_isOld 4 = .ok (.iload_n 2, 1) := by decide +kernel
theorem dX6_isOld_5 : decode cX6_isOld 5 = .ok (.laload, 1) := by decide +kernel
theorem dX6_isOld_6 : decode cX6_isOld 6 = .ok (.aload_n 0, 1) := by decide +kernel
theorem dX6_isOld_7 : decode cX6_isOld 7 = .ok (.getfield 28, 3) := by decide +kernel
theorem dX6_isOld_10 : decode cX6_isOld 10 = .ok (.iload_n 2, 1) := by decide +kernel
theorem dX6_isOld_11 : decode cX6_isOld 11 = .ok (.laload, 1) := by decide +kernel
theorem dX6_isOld_12 : decode cX6_isOld 12 = .ok (.iload_n 1, 1) := by decide +kernel
theorem dX6_isOld_13 : decode cX6_isOld 13 = .ok (.invokestatic 90, 3) := by decide +kernel
theorem dX6_isOld_16 : decode cX6_isOld 16 = .ok (.ireturn, 1) := by decide +kernel
theorem dX6_isNoPair_0 : decode cX6_isNoPair 0 = .ok (.aload_n 0, 1) := by decide +kernel
theorem dX6_isNoPair_1 : decode cX6_isNoPair 1 = .ok (.aload_n 0, 1) := by decide +kernel
theorem dX6_isNoPair_2 : decode cX6_isNoPair 2 = .ok (.iload_n 1, 1) := by decide +kernel
theorem dX6_isNoPair_3 : decode cX6_isNoPair 3 = .ok (.invokevirtual 83, 3) := by decide +kernel
theorem dX6_isNoPair_6 : decode cX6_isNoPair 6 = .ok (.ifCond .ne 11, 3) := by decide +kernel
theorem dX6_isNoPair_9 : decode cX6_isNoPair 9 = .ok (.aload_n 0, 1) := by decide +kernel
theorem dX6_isNoPair_10 : decode cX6_isNoPair 10 = .ok (.iload_n 2, 1) := by decide +kernel
theorem dX6_isNoPair_11 : decode cX6_isNoPair 11 = .ok (.invokevirtual 83, 3) := by decide +kernel
theorem dX6_isNoPair_14 : decode cX6_isNoPair 14 = .ok (.ifCond .eq 7, 3) := by decide +kernel
theorem dX6_isNoPair_17 : decode cX6_isNoPair 17 = .ok (.iconst 1, 1) := by decide +kernel
theorem dX6_isNoPair_18 : decode cX6_isNoPair 18 = .ok (.goto 4, 3) := by decide +kernel
theorem dX6_isNoPair_21 : decode cX6_isNoPair 21 = .ok (.iconst 0, 1) := by decide +kernel
theorem dX6_isNoPair_22 : decode cX6_isNoPair 22 = .ok (.invokevirtual 87, 3) := by decide +kernel
theorem dX6_isNoPair_25 : decode cX6_isNoPair 25 = .ok (.ireturn, 1) := by decide +kernel
theorem dX6_isAncestor_0 : decode cX6_isAncestor 0 = .ok (.aload_n 0, 1) := by decide +kernel
theorem dX6_isAncestor_1 : decode cX6_isAncestor 1 = .ok (.iload_n 1, 1) := by decide +kernel
theorem dX6_isAncestor_2 : decode cX6_isAncestor 2 = .ok (.iload_n 2, 1) := by decide +kernel
theorem dX6_isAncestor_3 : decode cX6_isAncestor 3 = .ok (.invokevirtual 143, 3) := by decide +kernel
theorem dX6_isAncestor_6 : decode cX6_isAncestor 6 = .ok (.ifCond .ne 16, 3) := by decide +kernel
theorem dX6_isAncestor_9 : decode cX6_isAncestor 9 = .ok (.aload_n 0, 1) := by decide +kernel
theorem dX6_isAncestor_10 : decode cX6_isAncestor 10 = .ok (.iload_n 1, 1) := by decide +kernel
theorem dX6_isAncestor_11 : decode cX6_isAncestor 11 = .ok (.iload_n 2, 1) := by decide +kernel
theorem dX6_isAncestor_12 : decode cX6_isAncestor 12 = .ok (.invokevirtual 146, 3) := by decide +kernel
theorem dX6_isAncestor_15 : decode cX6_isAncestor 15 = .ok (.ifCond .eq 7, 3) := by decide +kernel
theorem dX6_isAncestor_18 : decode cX6_isAncestor 18 = .ok (.iconst 1, 1) := by decide +kernel
theorem dX6_isAncestor_19 : decode cX6_isAncestor 19 = .ok (.goto 4, 3) := by decide +kernel
theorem dX6_isAncestor_22 : decode cX6_isAncestor 22 = .ok (.iconst 0, 1) := by decide +kernel
theorem dX6_isAncestor_23 : decode cX6_isAncestor 23 = .ok (.ireturn, 1) := by decide +kernel
theorem dX6_baseOf_0 : decode cX6_baseOf 0 = .ok (.iload_n 1, 1) := by decide +kernel
theorem dX6_baseOf_1 : decode cX6_baseOf 1 = .ok (.istore_n 3, 1) := by decide +kernel
theorem dX6_baseOf_2 : decode cX6_baseOf 2 = .ok (.aload_n 0, 1) := by decide +kernel
theorem dX6_baseOf_3 : decode cX6_baseOf 3 = .ok (.iload_n 3, 1) := by decide +kernel
theorem dX6_baseOf_4 : decode cX6_baseOf 4 = .ok (.iload_n 1, 1) := by decide +kernel
theorem dX6_baseOf_5 : decode cX6_baseOf 5 = .ok (.invokevirtual 146, 3) := by decide +kernel
theorem dX6_baseOf_8 : decode cX6_baseOf 8 = .ok (.ifCond .eq 12, 3) := by decide +kernel
theorem dX6_baseOf_11 : decode cX6_baseOf 11 = .ok (.aload_n 0, 1) := by decide +kernel
theorem dX6_baseOf_12 : decode cX6_baseOf 12 = .ok (.iload_n 3, 1) := by decide +kernel
theorem dX6_baseOf_13 : decode cX6_baseOf 13 = .ok (.iload_n 2, 1) := by decide +kernel
theorem dX6_baseOf_14 : decode cX6_baseOf 14 = .ok (.invokevirtual 146, 3) := by decide +kernel
theorem dX6_baseOf_17 : decode cX6_baseOf 17 = .ok (.ifCond .ne 9, 3) := by decide +kernel
theorem dX6_baseOf_20 : decode cX6_baseOf 20 = .ok (.iinc 3 (-1), 3) := by decide +kernel
theorem dX6_baseOf_23 : decode cX6_baseOf 23 = .ok (.goto (-21), 3) := by decide +kernel
theorem dX6_baseOf_26 : decode cX6_baseOf 26 = .ok (.iload_n 3, 1) := by decide +kernel
theorem dX6_baseOf_27 : decode cX6_baseOf 27 = .ok (.ireturn, 1) := by decide +kernel
theorem dX6_base_0 : decode cX6_base 0 = .ok (.aload_n 0, 1) := by decide +kernel
theorem dX6_base_1 : decode cX6_base 1 = .ok (.iload_n 1, 1) := by decide +kernel
theorem dX6_base_2 : decode cX6_base 2 = .ok (.iload_n 2, 1) := by decide +kernel
theorem dX6_base_3 : decode cX6_base 3 = .ok (.invokevirtual 143, 3) := by decide +kernel
theorem dX6_base_6 : decode cX6_base 6 = .ok (.ifCond .eq 7, 3) := by decide +kernel
theorem dX6_base_9 : decode cX6_base 9 = .ok (.iconst 0, 1) := by decide +kernel
theorem dX6_base_10 : decode cX6_base 10 = .ok (.goto 9, 3) := by decide +kernel
theorem dX6_base_13 : decode cX6_base 13 = .ok (.aload_n 0, 1) := by decide +kernel
theorem dX6_base_14 : decode cX6_base 14 = .ok (.iload_n 1, 1) := by decide +kernel
theorem dX6_base_15 : decode cX6_base 15 = .ok (.iload_n 2, 1) := by decide +kernel
theorem dX6_base_16 : decode cX6_base 16 = .ok (.invokevirtual 149, 3) := by decide +kernel
theorem dX6_base_19 : decode cX6_base 19 = .ok (.ireturn, 1) := by decide +kernel
theorem dX6_isNoPlace_0 : decode cX6_isNoPlace 0 = .ok (.aload_n 0, 1) := by decide +kernel
theorem dX6_isNoPlace_1 : decode cX6_isNoPlace 1 = .ok (.aload_n 0, 1) := by decide +kernel
theorem dX6_isNoPlace_2 : decode cX6_isNoPlace 2 = .ok (.iload_n 1, 1) := by decide +kernel
theorem dX6_isNoPlace_3 : decode cX6_isNoPlace 3 = .ok (.invokevirtual 83, 3) := by decide +kernel
theorem dX6_isNoPlace_6 : decode cX6_isNoPlace 6 = .ok (.ifCond .ne 11, 3) := by decide +kernel
theorem dX6_isNoPlace_9 : decode cX6_isNoPlace 9 = .ok (.aload_n 0, 1) := by decide +kernel
theorem dX6_isNoPlace_10 : decode cX6_isNoPlace 10 = .ok (.iload_n 2, 1) := by decide +kernel
theorem dX6_isNoPlace_11 : decode cX6_isNoPlace 11 = .ok (.invokevirtual 102, 3) := by decide +kernel
theorem dX6_isNoPlace_14 : decode cX6_isNoPlace 14 = .ok (.ifCond .eq 7, 3) := by decide +kernel
theorem dX6_isNoPlace_17 : decode cX6_isNoPlace 17 = .ok (.iconst 1, 1) := by decide +kernel
theorem dX6_isNoPlace_18 : decode cX6_isNoPlace 18 = .ok (.goto 4, 3) := by decide +kernel
theorem dX6_isNoPlace_21 : decode cX6_isNoPlace 21 = .ok (.iconst 0, 1) := by decide +kernel
theorem dX6_isNoPlace_22 : decode cX6_isNoPlace 22 = .ok (.invokevirtual 87, 3) := by decide +kernel
theorem dX6_isNoPlace_25 : decode cX6_isNoPlace 25 = .ok (.ireturn, 1) := by decide +kernel
theorem dX6_sides_0 : decode cX6_sides 0 = .ok (.aload_n 0, 1) := by decide +kernel
theorem dX6_sides_1 : decode cX6_sides 1 = .ok (.iload_n 1, 1) := by decide +kernel
theorem dX6_sides_2 : decode cX6_sides 2 = .ok (.iload_n 2, 1) := by decide +kernel
theorem dX6_sides_3 : decode cX6_sides 3 = .ok (.invokevirtual 152, 3) := by decide +kernel
theorem dX6_sides_6 : decode cX6_sides 6 = .ok (.ifCond .eq 7, 3) := by decide +kernel
theorem dX6_sides_9 : decode cX6_sides 9 = .ok (.iconst 0, 1) := by decide +kernel
theorem dX6_sides_10 : decode cX6_sides 10 = .ok (.goto 9, 3) := by decide +kernel
theorem dX6_sides_13 : decode cX6_sides 13 = .ok (.aload_n 0, 1) := by decide +kernel
theorem dX6_sides_14 : decode cX6_sides 14 = .ok (.iload_n 1, 1) := by decide +kernel
theorem dX6_sides_15 : decode cX6_sides 15 = .ok (.iload_n 2, 1) := by decide +kernel
theorem dX6_sides_16 : decode cX6_sides 16 = .ok (.invokevirtual 130, 3) := by decide +kernel
theorem dX6_sides_19 : decode cX6_sides 19 = .ok (.ireturn, 1) := by decide +kernel
theorem dX6_asked_0 : decode cX6_asked 0 = .ok (.aload_n 0, 1) := by decide +kernel
theorem dX6_asked_1 : decode cX6_asked 1 = .ok (.iload_n 1, 1) := by decide +kernel
theorem dX6_asked_2 : decode cX6_asked 2 = .ok (.iload_n 2, 1) := by decide +kernel
theorem dX6_asked_3 : decode cX6_asked 3 = .ok (.invokevirtual 152, 3) := by decide +kernel
theorem dX6_asked_6 : decode cX6_asked 6 = .ok (.ifCond .ne 31, 3) := by decide +kernel
theorem dX6_asked_9 : decode cX6_asked 9 = .ok (.aload_n 0, 1) := by decide +kernel
theorem dX6_asked_10 : decode cX6_asked 10 = .ok (.iload_n 3, 1) := by decide +kernel
theorem dX6_asked_11 : decode cX6_asked 11 = .ok (.iconst 0, 1) := by decide +kernel
theorem dX6_asked_12 : decode cX6_asked 12 = .ok (.aload_n 0, 1) := by decide +kernel
theorem dX6_asked_13 : decode cX6_asked 13 = .ok (.iload_n 1, 1) := by decide +kernel
theorem dX6_asked_14 : decode cX6_asked 14 = .ok (.iload_n 2, 1) := by decide +kernel
theorem dX6_asked_15 : decode cX6_asked 15 = .ok (.invokevirtual 130, 3) := by decide +kernel
theorem dX6_asked_18 : decode cX6_asked 18 = .ok (.iconst 1, 1) := by decide +kernel
theorem dX6_asked_19 : decode cX6_asked 19 = .ok (.isub, 1) := by decide +kernel
theorem dX6_asked_20 : decode cX6_asked 20 = .ok (.invokestatic 79, 3) := by decide +kernel
theorem dX6_asked_23 : decode cX6_asked 23 = .ok (.ifCond .eq 7, 3) := by decide +kernel
theorem dX6_asked_26 : decode cX6_asked 26 = .ok (.iconst 0, 1) := by decide +kernel
theorem dX6_asked_27 : decode cX6_asked 27 = .ok (.goto 4, 3) := by decide +kernel
theorem dX6_asked_30 : decode cX6_asked 30 = .ok (.iconst 2, 1) := by decide +kernel
theorem dX6_asked_31 : decode cX6_asked 31 = .ok (.invokevirtual 87, 3) := by decide +kernel
theorem dX6_asked_34 : decode cX6_asked 34 = .ok (.ifCond .eq 5, 3) := by decide +kernel
theorem dX6_asked_37 : decode cX6_asked 37 = .ok (.iconst 0, 1) := by decide +kernel
theorem dX6_asked_38 : decode cX6_asked 38 = .ok (.ireturn, 1) := by decide +kernel
theorem dX6_asked_39 : decode cX6_asked 39 = .ok (.aload_n 0, 1) := by decide +kernel
theorem dX6_asked_40 : decode cX6_asked 40 = .ok (.getfield 58, 3) := by decide +kernel
theorem dX6_asked_43 : decode cX6_asked 43 = .ok (.aload_n 0, 1) := by decide +kernel
theorem dX6_asked_44 : decode cX6_asked 44 = .ok (.aload_n 0, 1) := by decide +kernel
theorem dX6_asked_45 : decode cX6_asked 45 = .ok (.getfield 31, 3) := by decide +kernel
theorem dX6_asked_48 : decode cX6_asked 48 = .ok (.iload_n 1, 1) := by decide +kernel
theorem dX6_asked_49 : decode cX6_asked 49 = .ok (.iload_n 2, 1) := by decide +kernel
theorem dX6_asked_50 : decode cX6_asked 50 = .ok (.invokestatic 94, 3) := by decide +kernel
theorem dX6_asked_53 : decode cX6_asked 53 = .ok (.laload, 1) := by decide +kernel
theorem dX6_asked_54 : decode cX6_asked 54 = .ok (.aload_n 0, 1) := by decide +kernel
theorem dX6_asked_55 : decode cX6_asked 55 = .ok (.getfield 34, 3) := by decide +kernel
theorem dX6_asked_58 : decode cX6_asked 58 = .ok (.iload_n 1, 1) := by decide +kernel
theorem dX6_asked_59 : decode cX6_asked 59 = .ok (.iload_n 2, 1) := by decide +kernel
theorem dX6_asked_60 : decode cX6_asked 60 = .ok (.invokestatic 94, 3) := by decide +kernel
theorem dX6_asked_63 : decode cX6_asked 63 = .ok (.laload, 1) := by decide +kernel
theorem dX6_asked_64 : decode cX6_asked 64 = .ok (.iload_n 3, 1) := by decide +kernel
theorem dX6_asked_65 : decode cX6_asked 65 = .ok (.invokevirtual 133, 3) := by decide +kernel
theorem dX6_asked_68 : decode cX6_asked 68 = .ok (.iaload, 1) := by decide +kernel
theorem dX6_asked_69 : decode cX6_asked 69 = .ok (.ireturn, 1) := by decide +kernel
theorem dX6_sideAt_0 : decode cX6_sideAt 0 = .ok (.aload_n 0, 1) := by decide +kernel
theorem dX6_sideAt_1 : decode cX6_sideAt 1 = .ok (.iload_n 1, 1) := by decide +kernel
theorem dX6_sideAt_2 : decode cX6_sideAt 2 = .ok (.iload_n 2, 1) := by decide +kernel
theorem dX6_sideAt_3 : decode cX6_sideAt 3 = .ok (.iload_n 3, 1) := by decide +kernel
theorem dX6_sideAt_4 : decode cX6_sideAt 4 = .ok (.invokevirtual 155, 3) := by decide +kernel
theorem dX6_sideAt_7 : decode cX6_sideAt 7 = .ok (.ireturn, 1) := by decide +kernel
theorem dX6_sideByLog_0 : decode cX6_sideByLog 0 = .ok (.aload_n 0, 1) := by decide +kernel
theorem dX6_sideByLog_1 : decode cX6_sideByLog 1 = .ok (.iload_n 1, 1) := by decide +kernel
theorem dX6_sideByLog_2 : decode cX6_sideByLog 2 = .ok (.iload_n 2, 1) := by decide +kernel
theorem dX6_sideByLog_3 : decode cX6_sideByLog 3 = .ok (.iload_n 3, 1) := by decide +kernel
theorem dX6_sideByLog_4 : decode cX6_sideByLog 4 = .ok (.invokevirtual 155, 3) := by decide +kernel
theorem dX6_sideByLog_7 : decode cX6_sideByLog 7 = .ok (.ireturn, 1) := by decide +kernel
theorem dX6_conflictsIn_0 : decode cX6_conflictsIn 0 = .ok (.iconst 0, 1) := by decide +kernel
theorem dX6_conflictsIn_1 : decode cX6_conflictsIn 1 = .ok (.istore_n 2, 1) := by decide +kernel
theorem dX6_conflictsIn_2 : decode cX6_conflictsIn 2 = .ok (.iconst 0, 1) := by decide +kernel
theorem dX6_conflictsIn_3 : decode cX6_conflictsIn 3 = .ok (.istore_n 3, 1) := by decide +kernel
theorem dX6_conflictsIn_4 : decode cX6_conflictsIn 4 = .ok (.iload_n 3, 1) := by decide +kernel
theorem dX6_conflictsIn_5 : decode cX6_conflictsIn 5 = .ok (.aload_n 0, 1) := by decide +kernel
theorem dX6_conflictsIn_6 : decode cX6_conflictsIn 6 = .ok (.getfield 76, 3) := by decide +kernel
theorem dX6_conflictsIn_9 : decode cX6_conflictsIn 9 = .ok (.if_icmp .ge 27, 3) := by decide +kernel
theorem dX6_conflictsIn_12 : decode cX6_conflictsIn 12 = .ok (.iload_n 2, 1) := by decide +kernel
theorem dX6_conflictsIn_13 : decode cX6_conflictsIn 13 = .ok (.aload_n 0, 1) := by decide +kernel
theorem dX6_conflictsIn_14 : decode cX6_conflictsIn 14 = .ok (.iload_n 1, 1) := by decide +kernel
theorem dX6_conflictsIn_15 : decode cX6_conflictsIn 15 = .ok (.iload_n 3, 1) := by decide +kernel
theorem dX6_conflictsIn_16 : decode cX6_conflictsIn 16 = .ok (.invokevirtual 130, 3) := by decide +kernel
theorem dX6_conflictsIn_19 : decode cX6_conflictsIn 19 = .ok (.iconst 1, 1) := by decide +kernel
theorem dX6_conflictsIn_20 : decode cX6_conflictsIn 20 = .ok (.if_icmp .le 7, 3) := by decide +kernel
theorem dX6_conflictsIn_23 : decode cX6_conflictsIn 23 = .ok (.iconst 1, 1) := by decide +kernel
theorem dX6_conflictsIn_24 : decode cX6_conflictsIn 24 = .ok (.goto 4, 3) := by decide +kernel
theorem dX6_conflictsIn_27 : decode cX6_conflictsIn 27 = .ok (.iconst 0, 1) := by decide +kernel
theorem dX6_conflictsIn_28 : decode cX6_conflictsIn 28 = .ok (.iadd, 1) := by decide +kernel
theorem dX6_conflictsIn_29 : decode cX6_conflictsIn 29 = .ok (.istore_n 2, 1) := by decide +kernel
theorem dX6_conflictsIn_30 : decode cX6_conflictsIn 30 = .ok (.iinc 3 1, 3) := by decide +kernel
theorem dX6_conflictsIn_33 : decode cX6_conflictsIn 33 = .ok (.goto (-29), 3) := by decide +kernel
theorem dX6_conflictsIn_36 : decode cX6_conflictsIn 36 = .ok (.iload_n 2, 1) := by decide +kernel
theorem dX6_conflictsIn_37 : decode cX6_conflictsIn 37 = .ok (.ireturn, 1) := by decide +kernel
theorem dX6_conflicts_0 : decode cX6_conflicts 0 = .ok (.aload_n 0, 1) := by decide +kernel
theorem dX6_conflicts_1 : decode cX6_conflicts 1 = .ok (.iload_n 1, 1) := by decide +kernel
theorem dX6_conflicts_2 : decode cX6_conflicts 2 = .ok (.invokevirtual 105, 3) := by decide +kernel
theorem dX6_conflicts_5 : decode cX6_conflicts 5 = .ok (.ifCond .eq 7, 3) := by decide +kernel
theorem dX6_conflicts_8 : decode cX6_conflicts 8 = .ok (.iconst 0, 1) := by decide +kernel
theorem dX6_conflicts_9 : decode cX6_conflicts 9 = .ok (.goto 8, 3) := by decide +kernel
theorem dX6_conflicts_12 : decode cX6_conflicts 12 = .ok (.aload_n 0, 1) := by decide +kernel
theorem dX6_conflicts_13 : decode cX6_conflicts 13 = .ok (.iload_n 1, 1) := by decide +kernel
theorem dX6_conflicts_14 : decode cX6_conflicts 14 = .ok (.invokevirtual 158, 3) := by decide +kernel
theorem dX6_conflicts_17 : decode cX6_conflicts 17 = .ok (.ireturn, 1) := by decide +kernel
theorem dX6_firstConflict_0 : decode cX6_firstConflict 0 = .ok (.aload_n 0, 1) := by decide +kernel
theorem dX6_firstConflict_1 : decode cX6_firstConflict 1 = .ok (.iload_n 1, 1) := by decide +kernel
theorem dX6_firstConflict_2 : decode cX6_firstConflict 2 = .ok (.invokevirtual 105, 3) := by decide +kernel
theorem dX6_firstConflict_5 : decode cX6_firstConflict 5 = .ok (.ifCond .eq 5, 3) := by decide +kernel
theorem dX6_firstConflict_8 : decode cX6_firstConflict 8 = .ok (.iconst 0, 1) := by decide +kernel
theorem dX6_firstConflict_9 : decode cX6_firstConflict 9 = .ok (.ireturn, 1) := by decide +kernel
theorem dX6_firstConflict_10 : decode cX6_firstConflict 10 = .ok (.iconst 0, 1) := by decide +kernel
theorem dX6_firstConflict_11 : decode cX6_firstConflict 11 = .ok (.istore_n 2, 1) := by decide +kernel
theorem dX6_firstConflict_12 : decode cX6_firstConflict 12 = .ok (.iload_n 2, 1) := by decide +kernel
theorem dX6_firstConflict_13 : decode cX6_firstConflict 13 = .ok (.aload_n 0, 1) := by decide +kernel
theorem dX6_firstConflict_14 : decode cX6_firstConflict 14 = .ok (.getfield 76, 3) := by decide +kernel
theorem dX6_firstConflict_17 : decode cX6_firstConflict 17 = .ok (.if_icmp .ge 21, 3) := by decide +kernel
theorem dX6_firstConflict_20 : decode cX6_firstConflict 20 = .ok (.aload_n 0, 1) := by decide +kernel
theorem dX6_firstConflict_21 : decode cX6_firstConflict 21 = .ok (.iload_n 1, 1) := by decide +kernel
theorem dX6_firstConflict_22 : decode cX6_firstConflict 22 = .ok (.iload_n 2, 1) := by decide +kernel
theorem dX6_firstConflict_23 : decode cX6_firstConflict 23 = .ok (.invokevirtual 130, 3) := by decide +kernel
theorem dX6_firstConflict_26 : decode cX6_firstConflict 26 = .ok (.iconst 1, 1) := by decide +kernel
theorem dX6_firstConflict_27 : decode cX6_firstConflict 27 = .ok (.if_icmp .le 5, 3) := by decide +kernel
theorem dX6_firstConflict_30 : decode cX6_firstConflict 30 = .ok (.iload_n 2, 1) := by decide +kernel
theorem dX6_firstConflict_31 : decode cX6_firstConflict 31 = .ok (.ireturn, 1) := by decide +kernel
theorem dX6_firstConflict_32 : decode cX6_firstConflict 32 = .ok (.iinc 2 1, 3) := by decide +kernel
theorem dX6_firstConflict_35 : decode cX6_firstConflict 35 = .ok (.goto (-23), 3) := by decide +kernel
theorem dX6_firstConflict_38 : decode cX6_firstConflict 38 = .ok (.aload_n 0, 1) := by decide +kernel
theorem dX6_firstConflict_39 : decode cX6_firstConflict 39 = .ok (.iconst 2, 1) := by decide +kernel
theorem dX6_firstConflict_40 : decode cX6_firstConflict 40 = .ok (.putfield 73, 3) := by decide +kernel
theorem dX6_firstConflict_43 : decode cX6_firstConflict 43 = .ok (.iconst 0, 1) := by decide +kernel
theorem dX6_firstConflict_44 : decode cX6_firstConflict 44 = .ok (.ireturn, 1) := by decide +kernel
theorem dX6_differences_0 : decode cX6_differences 0 = .ok (.aload_n 0, 1) := by decide +kernel
theorem dX6_differences_1 : decode cX6_differences 1 = .ok (.iload_n 1, 1) := by decide +kernel
theorem dX6_differences_2 : decode cX6_differences 2 = .ok (.iload_n 2, 1) := by decide +kernel
theorem dX6_differences_3 : decode cX6_differences 3 = .ok (.invokevirtual 143, 3) := by decide +kernel
theorem dX6_differences_6 : decode cX6_differences 6 = .ok (.ifCond .eq 5, 3) := by decide +kernel
theorem dX6_differences_9 : decode cX6_differences 9 = .ok (.iconst 0, 1) := by decide +kernel
theorem dX6_differences_10 : decode cX6_differences 10 = .ok (.ireturn, 1) := by decide +kernel
theorem dX6_differences_11 : decode cX6_differences 11 = .ok (.iconst 0, 1) := by decide +kernel
theorem dX6_differences_12 : decode cX6_differences 12 = .ok (.istore_n 3, 1) := by decide +kernel
theorem dX6_differences_13 : decode cX6_differences 13 = .ok (.iconst 0, 1) := by decide +kernel
theorem dX6_differences_14 : decode cX6_differences 14 = .ok (.istore 4, 2) := by decide +kernel
theorem dX6_differences_16 : decode cX6_differences 16 = .ok (.iload 4, 2) := by decide +kernel
theorem dX6_differences_18 : decode cX6_differences 18 = .ok (.aload_n 0, 1) := by decide +kernel
theorem dX6_differences_19 : decode cX6_differences 19 = .ok (.getfield 76, 3) := by decide +kernel
theorem dX6_differences_22 : decode cX6_differences 22 = .ok (.if_icmp .ge 28, 3) := by decide +kernel
theorem dX6_differences_25 : decode cX6_differences 25 = .ok (.iload_n 3, 1) := by decide +kernel
theorem dX6_differences_26 : decode cX6_differences 26 = .ok (.aload_n 0, 1) := by decide +kernel
theorem dX6_differences_27 : decode cX6_differences 27 = .ok (.iload_n 1, 1) := by decide +kernel
theorem dX6_differences_28 : decode cX6_differences 28 = .ok (.iload_n 2, 1) := by decide +kernel
theorem dX6_differences_29 : decode cX6_differences 29 = .ok (.iload 4, 2) := by decide +kernel
theorem dX6_differences_31 : decode cX6_differences 31 = .ok (.invokevirtual 161, 3) := by decide +kernel
theorem dX6_differences_34 : decode cX6_differences 34 = .ok (.ifCond .eq 7, 3) := by decide +kernel
theorem dX6_differences_37 : decode cX6_differences 37 = .ok (.iconst 0, 1) := by decide +kernel
theorem dX6_differences_38 : decode cX6_differences 38 = .ok (.goto 4, 3) := by decide +kernel
theorem dX6_differences_41 : decode cX6_differences 41 = .ok (.iconst 1, 1) := by decide +kernel
theorem dX6_differences_42 : decode cX6_differences 42 = .ok (.iadd, 1) := by decide +kernel
theorem dX6_differences_43 : decode cX6_differences 43 = .ok (.istore_n 3, 1) := by decide +kernel
theorem dX6_differences_44 : decode cX6_differences 44 = .ok (.iinc 4 1, 3) := by decide +kernel
theorem dX6_differences_47 : decode cX6_differences 47 = .ok (.goto (-31), 3) := by decide +kernel
theorem dX6_differences_50 : decode cX6_differences 50 = .ok (.iload_n 3, 1) := by decide +kernel
theorem dX6_differences_51 : decode cX6_differences 51 = .ok (.ireturn, 1) := by decide +kernel
theorem dX6_blameOf_0 : decode cX6_blameOf 0 = .ok (.iload_n 1, 1) := by decide +kernel
theorem dX6_blameOf_1 : decode cX6_blameOf 1 = .ok (.istore_n 3, 1) := by decide +kernel
theorem dX6_blameOf_2 : decode cX6_blameOf 2 = .ok (.aload_n 0, 1) := by decide +kernel
theorem dX6_blameOf_3 : decode cX6_blameOf 3 = .ok (.getfield 17, 3) := by decide +kernel
theorem dX6_blameOf_6 : decode cX6_blameOf 6 = .ok (.iload_n 3, 1) := by decide +kernel
theorem dX6_blameOf_7 : decode cX6_blameOf 7 = .ok (.iaload, 1) := by decide +kernel
theorem dX6_blameOf_8 : decode cX6_blameOf 8 = .ok (.ifCond .lt 64, 3) := by decide +kernel
theorem dX6_blameOf_11 : decode cX6_blameOf 11 = .ok (.aload_n 0, 1) := by decide +kernel
theorem dX6_blameOf_12 : decode cX6_blameOf 12 = .ok (.iload_n 3, 1) := by decide +kernel
theorem dX6_blameOf_13 : decode cX6_blameOf 13 = .ok (.aload_n 0, 1) := by decide +kernel
theorem dX6_blameOf_14 : decode cX6_blameOf 14 = .ok (.getfield 17, 3) := by decide +kernel
theorem dX6_blameOf_17 : decode cX6_blameOf 17 = .ok (.iload_n 3, 1) := by decide +kernel
theorem dX6_blameOf_18 : decode cX6_blameOf 18 = .ok (.iaload, 1) := by decide +kernel
theorem dX6_blameOf_19 : decode cX6_blameOf 19 = .ok (.iload_n 2, 1) := by decide +kernel
theorem dX6_blameOf_20 : decode cX6_blameOf 20 = .ok (.invokevirtual 161, 3) := by decide +kernel
theorem dX6_blameOf_23 : decode cX6_blameOf 23 = .ok (.ifCond .eq 13, 3) := by decide +kernel
theorem dX6_blameOf_26 : decode cX6_blameOf 26 = .ok (.aload_n 0, 1) := by decide +kernel
theorem dX6_blameOf_27 : decode cX6_blameOf 27 = .ok (.getfield 17, 3) := by decide +kernel
theorem dX6_blameOf_30 : decode cX6_blameOf 30 = .ok (.iload_n 3, 1) := by decide +kernel
theorem dX6_blameOf_31 : decode cX6_blameOf 31 = .ok (.iaload, 1) := by decide +kernel
theorem dX6_blameOf_32 : decode cX6_blameOf 32 = .ok (.istore_n 3, 1) := by decide +kernel
theorem dX6_blameOf_33 : decode cX6_blameOf 33 = .ok (.goto (-31), 3) := by decide +kernel
theorem dX6_blameOf_36 : decode cX6_blameOf 36 = .ok (.aload_n 0, 1) := by decide +kernel
theorem dX6_blameOf_37 : decode cX6_blameOf 37 = .ok (.getfield 21, 3) := by decide +kernel
theorem dX6_blameOf_40 : decode cX6_blameOf 40 = .ok (.iload_n 3, 1) := by decide +kernel
theorem dX6_blameOf_41 : decode cX6_blameOf 41 = .ok (.iaload, 1) := by decide +kernel
theorem dX6_blameOf_42 : decode cX6_blameOf 42 = .ok (.ifCond .lt 28, 3) := by decide +kernel
theorem dX6_blameOf_45 : decode cX6_blameOf 45 = .ok (.aload_n 0, 1) := by decide +kernel
theorem dX6_blameOf_46 : decode cX6_blameOf 46 = .ok (.iload_n 3, 1) := by decide +kernel
theorem dX6_blameOf_47 : decode cX6_blameOf 47 = .ok (.aload_n 0, 1) := by decide +kernel
theorem dX6_blameOf_48 : decode cX6_blameOf 48 = .ok (.getfield 21, 3) := by decide +kernel
theorem dX6_blameOf_51 : decode cX6_blameOf 51 = .ok (.iload_n 3, 1) := by decide +kernel
theorem dX6_blameOf_52 : decode cX6_blameOf 52 = .ok (.iaload, 1) := by decide +kernel
theorem dX6_blameOf_53 : decode cX6_blameOf 53 = .ok (.iload_n 2, 1) := by decide +kernel
theorem dX6_blameOf_54 : decode cX6_blameOf 54 = .ok (.invokevirtual 161, 3) := by decide +kernel
theorem dX6_blameOf_57 : decode cX6_blameOf 57 = .ok (.ifCond .eq 13, 3) := by decide +kernel
theorem dX6_blameOf_60 : decode cX6_blameOf 60 = .ok (.aload_n 0, 1) := by decide +kernel
theorem dX6_blameOf_61 : decode cX6_blameOf 61 = .ok (.getfield 21, 3) := by decide +kernel
theorem dX6_blameOf_64 : decode cX6_blameOf 64 = .ok (.iload_n 3, 1) := by decide +kernel
theorem dX6_blameOf_65 : decode cX6_blameOf 65 = .ok (.iaload, 1) := by decide +kernel
theorem dX6_blameOf_66 : decode cX6_blameOf 66 = .ok (.istore_n 3, 1) := by decide +kernel
theorem dX6_blameOf_67 : decode cX6_blameOf 67 = .ok (.goto (-65), 3) := by decide +kernel
theorem dX6_blameOf_70 : decode cX6_blameOf 70 = .ok (.iload_n 3, 1) := by decide +kernel
theorem dX6_blameOf_71 : decode cX6_blameOf 71 = .ok (.ireturn, 1) := by decide +kernel
theorem dX6_blameOf_72 : decode cX6_blameOf 72 = .ok (.iload_n 3, 1) := by decide +kernel
theorem dX6_blameOf_73 : decode cX6_blameOf 73 = .ok (.ireturn, 1) := by decide +kernel
theorem dX6_blame_0 : decode cX6_blame 0 = .ok (.aload_n 0, 1) := by decide +kernel
theorem dX6_blame_1 : decode cX6_blame 1 = .ok (.iload_n 1, 1) := by decide +kernel
theorem dX6_blame_2 : decode cX6_blame 2 = .ok (.iload_n 2, 1) := by decide +kernel
theorem dX6_blame_3 : decode cX6_blame 3 = .ok (.invokevirtual 152, 3) := by decide +kernel
theorem dX6_blame_6 : decode cX6_blame 6 = .ok (.ifCond .eq 7, 3) := by decide +kernel
theorem dX6_blame_9 : decode cX6_blame 9 = .ok (.iconst 0, 1) := by decide +kernel
theorem dX6_blame_10 : decode cX6_blame 10 = .ok (.goto 9, 3) := by decide +kernel
theorem dX6_blame_13 : decode cX6_blame 13 = .ok (.aload_n 0, 1) := by decide +kernel
theorem dX6_blame_14 : decode cX6_blame 14 = .ok (.iload_n 1, 1) := by decide +kernel
theorem dX6_blame_15 : decode cX6_blame 15 = .ok (.iload_n 2, 1) := by decide +kernel
theorem dX6_blame_16 : decode cX6_blame 16 = .ok (.invokevirtual 164, 3) := by decide +kernel
theorem dX6_blame_19 : decode cX6_blame 19 = .ok (.ireturn, 1) := by decide +kernel
theorem dX6_blamed_0 : decode cX6_blamed 0 = .ok (.aload_n 0, 1) := by decide +kernel
theorem dX6_blamed_1 : decode cX6_blamed 1 = .ok (.iload_n 1, 1) := by decide +kernel
theorem dX6_blamed_2 : decode cX6_blamed 2 = .ok (.iload_n 2, 1) := by decide +kernel
theorem dX6_blamed_3 : decode cX6_blamed 3 = .ok (.invokevirtual 143, 3) := by decide +kernel
theorem dX6_blamed_6 : decode cX6_blamed 6 = .ok (.ifCond .eq 5, 3) := by decide +kernel
theorem dX6_blamed_9 : decode cX6_blamed 9 = .ok (.iconst 0, 1) := by decide +kernel
theorem dX6_blamed_10 : decode cX6_blamed 10 = .ok (.ireturn, 1) := by decide +kernel
theorem dX6_blamed_11 : decode cX6_blamed 11 = .ok (.iconst 0, 1) := by decide +kernel
theorem dX6_blamed_12 : decode cX6_blamed 12 = .ok (.istore_n 3, 1) := by decide +kernel
theorem dX6_blamed_13 : decode cX6_blamed 13 = .ok (.iconst 0, 1) := by decide +kernel
theorem dX6_blamed_14 : decode cX6_blamed 14 = .ok (.istore 4, 2) := by decide +kernel
theorem dX6_blamed_16 : decode cX6_blamed 16 = .ok (.iload 4, 2) := by decide +kernel
theorem dX6_blamed_18 : decode cX6_blamed 18 = .ok (.aload_n 0, 1) := by decide +kernel
theorem dX6_blamed_19 : decode cX6_blamed 19 = .ok (.getfield 76, 3) := by decide +kernel
theorem dX6_blamed_22 : decode cX6_blamed 22 = .ok (.if_icmp .ge 28, 3) := by decide +kernel
theorem dX6_blamed_25 : decode cX6_blamed 25 = .ok (.iload_n 3, 1) := by decide +kernel
theorem dX6_blamed_26 : decode cX6_blamed 26 = .ok (.aload_n 0, 1) := by decide +kernel
theorem dX6_blamed_27 : decode cX6_blamed 27 = .ok (.iload_n 1, 1) := by decide +kernel
theorem dX6_blamed_28 : decode cX6_blamed 28 = .ok (.iload 4, 2) := by decide +kernel
theorem dX6_blamed_30 : decode cX6_blamed 30 = .ok (.invokevirtual 164, 3) := by decide +kernel
theorem dX6_blamed_33 : decode cX6_blamed 33 = .ok (.iload_n 2, 1) := by decide +kernel
theorem dX6_blamed_34 : decode cX6_blamed 34 = .ok (.if_icmp .ne 7, 3) := by decide +kernel
theorem dX6_blamed_37 : decode cX6_blamed 37 = .ok (.iconst 1, 1) := by decide +kernel
theorem dX6_blamed_38 : decode cX6_blamed 38 = .ok (.goto 4, 3) := by decide +kernel
theorem dX6_blamed_41 : decode cX6_blamed 41 = .ok (.iconst 0, 1) := by decide +kernel
theorem dX6_blamed_42 : decode cX6_blamed 42 = .ok (.iadd, 1) := by decide +kernel
theorem dX6_blamed_43 : decode cX6_blamed 43 = .ok (.istore_n 3, 1) := by decide +kernel
theorem dX6_blamed_44 : decode cX6_blamed 44 = .ok (.iinc 4 1, 3) := by decide +kernel
theorem dX6_blamed_47 : decode cX6_blamed 47 = .ok (.goto (-31), 3) := by decide +kernel
theorem dX6_blamed_50 : decode cX6_blamed 50 = .ok (.iload_n 3, 1) := by decide +kernel
theorem dX6_blamed_51 : decode cX6_blamed 51 = .ok (.ireturn, 1) := by decide +kernel
theorem dX6_isWrong_0 : decode cX6_isWrong 0 = .ok (.aload_n 0, 1) := by decide +kernel
theorem dX6_isWrong_1 : decode cX6_isWrong 1 = .ok (.lload_n 2, 1) := by decide +kernel
theorem dX6_isWrong_2 : decode cX6_isWrong 2 = .ok (.lload 4, 2) := by decide +kernel
theorem dX6_isWrong_4 : decode cX6_isWrong 4 = .ok (.invokevirtual 98, 3) := by decide +kernel
theorem dX6_isWrong_7 : decode cX6_isWrong 7 = .ok (.iconst 1, 1) := by decide +kernel
theorem dX6_isWrong_8 : decode cX6_isWrong 8 = .ok (.if_icmp .gt 15, 3) := by decide +kernel
theorem dX6_isWrong_11 : decode cX6_isWrong 11 = .ok (.aload_n 0, 1) := by decide +kernel
theorem dX6_isWrong_12 : decode cX6_isWrong 12 = .ok (.lload 6, 2) := by decide +kernel
theorem dX6_isWrong_14 : decode cX6_isWrong 14 = .ok (.lload 8, 2) := by decide +kernel
theorem dX6_isWrong_16 : decode cX6_isWrong 16 = .ok (.invokevirtual 98, 3) := by decide +kernel
theorem dX6_isWrong_19 : decode cX6_isWrong 19 = .ok (.iconst 1, 1) := by decide +kernel
theorem dX6_isWrong_20 : decode cX6_isWrong 20 = .ok (.if_icmp .le 5, 3) := by decide +kernel
theorem dX6_isWrong_23 : decode cX6_isWrong 23 = .ok (.iconst 0, 1) := by decide +kernel
theorem dX6_isWrong_24 : decode cX6_isWrong 24 = .ok (.ireturn, 1) := by decide +kernel
theorem dX6_isWrong_25 : decode cX6_isWrong 25 = .ok (.aload_n 0, 1) := by decide +kernel
theorem dX6_isWrong_26 : decode cX6_isWrong 26 = .ok (.lload_n 2, 1) := by decide +kernel
theorem dX6_isWrong_27 : decode cX6_isWrong 27 = .ok (.lload 4, 2) := by decide +kernel
theorem dX6_isWrong_29 : decode cX6_isWrong 29 = .ok (.iconst 0, 1) := by decide +kernel
theorem dX6_isWrong_30 : decode cX6_isWrong 30 = .ok (.invokevirtual 133, 3) := by decide +kernel
theorem dX6_isWrong_33 : decode cX6_isWrong 33 = .ok (.istore 10, 2) := by decide +kernel
theorem dX6_isWrong_35 : decode cX6_isWrong 35 = .ok (.aload_n 0, 1) := by decide +kernel
theorem dX6_isWrong_36 : decode cX6_isWrong 36 = .ok (.lload 6, 2) := by decide +kernel
theorem dX6_isWrong_38 : decode cX6_isWrong 38 = .ok (.lload 8, 2) := by decide +kernel
theorem dX6_isWrong_40 : decode cX6_isWrong 40 = .ok (.iconst 0, 1) := by decide +kernel
theorem dX6_isWrong_41 : decode cX6_isWrong 41 = .ok (.invokevirtual 133, 3) := by decide +kernel
theorem dX6_isWrong_44 : decode cX6_isWrong 44 = .ok (.istore 11, 2) := by decide +kernel
theorem dX6_isWrong_46 : decode cX6_isWrong 46 = .ok (.iload 10, 2) := by decide +kernel
theorem dX6_isWrong_48 : decode cX6_isWrong 48 = .ok (.ifCond .eq 8, 3) := by decide +kernel
theorem dX6_isWrong_51 : decode cX6_isWrong 51 = .ok (.iload 11, 2) := by decide +kernel
theorem dX6_isWrong_53 : decode cX6_isWrong 53 = .ok (.ifCond .ne 18, 3) := by decide +kernel
theorem dX6_isWrong_56 : decode cX6_isWrong 56 = .ok (.iload 10, 2) := by decide +kernel
theorem dX6_isWrong_58 : decode cX6_isWrong 58 = .ok (.iload 11, 2) := by decide +kernel
theorem dX6_isWrong_60 : decode cX6_isWrong 60 = .ok (.if_icmp .eq 7, 3) := by decide +kernel
theorem dX6_isWrong_63 : decode cX6_isWrong 63 = .ok (.iconst 1, 1) := by decide +kernel
theorem dX6_isWrong_64 : decode cX6_isWrong 64 = .ok (.goto 36, 3) := by decide +kernel
theorem dX6_isWrong_67 : decode cX6_isWrong 67 = .ok (.iconst 0, 1) := by decide +kernel
theorem dX6_isWrong_68 : decode cX6_isWrong 68 = .ok (.goto 32, 3) := by decide +kernel
theorem dX6_isWrong_71 : decode cX6_isWrong 71 = .ok (.aload_n 0, 1) := by decide +kernel
theorem dX6_isWrong_72 : decode cX6_isWrong 72 = .ok (.getfield 58, 3) := by decide +kernel
theorem dX6_isWrong_75 : decode cX6_isWrong 75 = .ok (.iload 10, 2) := by decide +kernel
theorem dX6_isWrong_77 : decode cX6_isWrong 77 = .ok (.iaload, 1) := by decide +kernel
theorem dX6_isWrong_78 : decode cX6_isWrong 78 = .ok (.aload_n 0, 1) := by decide +kernel
theorem dX6_isWrong_79 : decode cX6_isWrong 79 = .ok (.getfield 58, 3) := by decide +kernel
theorem dX6_isWrong_82 : decode cX6_isWrong 82 = .ok (.iload 11, 2) := by decide +kernel
theorem dX6_isWrong_84 : decode cX6_isWrong 84 = .ok (.iaload, 1) := by decide +kernel
theorem dX6_isWrong_85 : decode cX6_isWrong 85 = .ok (.aload_n 0, 1) := by decide +kernel
theorem dX6_isWrong_86 : decode cX6_isWrong 86 = .ok (.getfield 52, 3) := by decide +kernel
theorem dX6_isWrong_89 : decode cX6_isWrong 89 = .ok (.iload_n 1, 1) := by decide +kernel
theorem dX6_isWrong_90 : decode cX6_isWrong 90 = .ok (.iaload, 1) := by decide +kernel
theorem dX6_isWrong_91 : decode cX6_isWrong 91 = .ok (.iadd, 1) := by decide +kernel
theorem dX6_isWrong_92 : decode cX6_isWrong 92 = .ok (.if_icmp .eq 7, 3) := by decide +kernel
theorem dX6_isWrong_95 : decode cX6_isWrong 95 = .ok (.iconst 1, 1) := by decide +kernel
theorem dX6_isWrong_96 : decode cX6_isWrong 96 = .ok (.goto 4, 3) := by decide +kernel
theorem dX6_isWrong_99 : decode cX6_isWrong 99 = .ok (.iconst 0, 1) := by decide +kernel
theorem dX6_isWrong_100 : decode cX6_isWrong 100 = .ok (.ireturn, 1) := by decide +kernel
theorem dX6_isWrongIn_0 : decode cX6_isWrongIn 0 = .ok (.iload_n 2, 1) := by decide +kernel
theorem dX6_isWrongIn_1 : decode cX6_isWrongIn 1 = .ok (.aload_n 0, 1) := by decide +kernel
theorem dX6_isWrongIn_2 : decode cX6_isWrongIn 2 = .ok (.getfield 46, 3) := by decide +kernel
theorem dX6_isWrongIn_5 : decode cX6_isWrongIn 5 = .ok (.iload_n 1, 1) := by decide +kernel
theorem dX6_isWrongIn_6 : decode cX6_isWrongIn 6 = .ok (.iaload, 1) := by decide +kernel
theorem dX6_isWrongIn_7 : decode cX6_isWrongIn 7 = .ok (.invokestatic 94, 3) := by decide +kernel
theorem dX6_isWrongIn_10 : decode cX6_isWrongIn 10 = .ok (.istore_n 3, 1) := by decide +kernel
theorem dX6_isWrongIn_11 : decode cX6_isWrongIn 11 = .ok (.iload_n 2, 1) := by decide +kernel
theorem dX6_isWrongIn_12 : decode cX6_isWrongIn 12 = .ok (.aload_n 0, 1) := by decide +kernel
theorem dX6_isWrongIn_13 : decode cX6_isWrongIn 13 = .ok (.getfield 49, 3) := by decide +kernel
theorem dX6_isWrongIn_16 : decode cX6_isWrongIn 16 = .ok (.iload_n 1, 1) := by decide +kernel
theorem dX6_isWrongIn_17 : decode cX6_isWrongIn 17 = .ok (.iaload, 1) := by decide +kernel
theorem dX6_isWrongIn_18 : decode cX6_isWrongIn 18 = .ok (.invokestatic 94, 3) := by decide +kernel
theorem dX6_isWrongIn_21 : decode cX6_isWrongIn 21 = .ok (.istore 4, 2) := by decide +kernel
theorem dX6_isWrongIn_23 : decode cX6_isWrongIn 23 = .ok (.aload_n 0, 1) := by decide +kernel
theorem dX6_isWrongIn_24 : decode cX6_isWrongIn 24 = .ok (.iload_n 1, 1) := by decide +kernel
theorem dX6_isWrongIn_25 : decode cX6_isWrongIn 25 = .ok (.aload_n 0, 1) := by decide +kernel
theorem dX6_isWrongIn_26 : decode cX6_isWrongIn 26 = .ok (.getfield 31, 3) := by decide +kernel
theorem dX6_isWrongIn_29 : decode cX6_isWrongIn 29 = .ok (.iload_n 3, 1) := by decide +kernel
theorem dX6_isWrongIn_30 : decode cX6_isWrongIn 30 = .ok (.laload, 1) := by decide +kernel
theorem dX6_isWrongIn_31 : decode cX6_isWrongIn 31 = .ok (.aload_n 0, 1) := by decide +kernel
theorem dX6_isWrongIn_32 : decode cX6_isWrongIn 32 = .ok (.getfield 34, 3) := by decide +kernel
theorem dX6_isWrongIn_35 : decode cX6_isWrongIn 35 = .ok (.iload_n 3, 1) := by decide +kernel
theorem dX6_isWrongIn_36 : decode cX6_isWrongIn 36 = .ok (.laload, 1) := by decide +kernel
theorem dX6_isWrongIn_37 : decode cX6_isWrongIn 37 = .ok (.aload_n 0, 1) := by decide +kernel
theorem dX6_isWrongIn_38 : decode cX6_isWrongIn 38 = .ok (.getfield 31, 3) := by decide +kernel
theorem dX6_isWrongIn_41 : decode cX6_isWrongIn 41 = .ok (.iload 4, 2) := by decide +kernel
theorem dX6_isWrongIn_43 : decode cX6_isWrongIn 43 = .ok (.laload, 1) := by decide +kernel
theorem dX6_isWrongIn_44 : decode cX6_isWrongIn 44 = .ok (.aload_n 0, 1) := by decide +kernel
theorem dX6_isWrongIn_45 : decode cX6_isWrongIn 45 = .ok (.getfield 34, 3) := by decide +kernel
theorem dX6_isWrongIn_48 : decode cX6_isWrongIn 48 = .ok (.iload 4, 2) := by decide +kernel
theorem dX6_isWrongIn_50 : decode cX6_isWrongIn 50 = .ok (.laload, 1) := by decide +kernel
theorem dX6_isWrongIn_51 : decode cX6_isWrongIn 51 = .ok (.invokevirtual 167, 3) := by decide +kernel
theorem dX6_isWrongIn_54 : decode cX6_isWrongIn 54 = .ok (.ireturn, 1) := by decide +kernel
theorem dX6_isOpenIn_0 : decode cX6_isOpenIn 0 = .ok (.aload_n 0, 1) := by decide +kernel
theorem dX6_isOpenIn_1 : decode cX6_isOpenIn 1 = .ok (.iload_n 2, 1) := by decide +kernel
theorem dX6_isOpenIn_2 : decode cX6_isOpenIn 2 = .ok (.aload_n 0, 1) := by decide +kernel
theorem dX6_isOpenIn_3 : decode cX6_isOpenIn 3 = .ok (.getfield 46, 3) := by decide +kernel
theorem dX6_isOpenIn_6 : decode cX6_isOpenIn 6 = .ok (.iload_n 1, 1) := by decide +kernel
theorem dX6_isOpenIn_7 : decode cX6_isOpenIn 7 = .ok (.iaload, 1) := by decide +kernel
theorem dX6_isOpenIn_8 : decode cX6_isOpenIn 8 = .ok (.invokevirtual 130, 3) := by decide +kernel
theorem dX6_isOpenIn_11 : decode cX6_isOpenIn 11 = .ok (.iconst 1, 1) := by decide +kernel
theorem dX6_isOpenIn_12 : decode cX6_isOpenIn 12 = .ok (.if_icmp .gt 18, 3) := by decide +kernel
theorem dX6_isOpenIn_15 : decode cX6_isOpenIn 15 = .ok (.aload_n 0, 1) := by decide +kernel
theorem dX6_isOpenIn_16 : decode cX6_isOpenIn 16 = .ok (.iload_n 2, 1) := by decide +kernel
theorem dX6_isOpenIn_17 : decode cX6_isOpenIn 17 = .ok (.aload_n 0, 1) := by decide +kernel
theorem dX6_isOpenIn_18 : decode cX6_isOpenIn 18 = .ok (.getfield 49, 3) := by decide +kernel
theorem dX6_isOpenIn_21 : decode cX6_isOpenIn 21 = .ok (.iload_n 1, 1) := by decide +kernel
theorem dX6_isOpenIn_22 : decode cX6_isOpenIn 22 = .ok (.iaload, 1) := by decide +kernel
theorem dX6_isOpenIn_23 : decode cX6_isOpenIn 23 = .ok (.invokevirtual 130, 3) := by decide +kernel
theorem dX6_isOpenIn_26 : decode cX6_isOpenIn 26 = .ok (.iconst 1, 1) := by decide +kernel
theorem dX6_isOpenIn_27 : decode cX6_isOpenIn 27 = .ok (.if_icmp .le 7, 3) := by decide +kernel
theorem dX6_isOpenIn_30 : decode cX6_isOpenIn 30 = .ok (.iconst 1, 1) := by decide +kernel
theorem dX6_isOpenIn_31 : decode cX6_isOpenIn 31 = .ok (.goto 4, 3) := by decide +kernel
theorem dX6_isOpenIn_34 : decode cX6_isOpenIn 34 = .ok (.iconst 0, 1) := by decide +kernel
theorem dX6_isOpenIn_35 : decode cX6_isOpenIn 35 = .ok (.ireturn, 1) := by decide +kernel
theorem dX6_unites_0 : decode cX6_unites 0 = .ok (.aload_n 0, 1) := by decide +kernel
theorem dX6_unites_1 : decode cX6_unites 1 = .ok (.getfield 61, 3) := by decide +kernel
theorem dX6_unites_4 : decode cX6_unites 4 = .ok (.iload_n 3, 1) := by decide +kernel
theorem dX6_unites_5 : decode cX6_unites 5 = .ok (.aload_n 0, 1) := by decide +kernel
theorem dX6_unites_6 : decode cX6_unites 6 = .ok (.getfield 31, 3) := by decide +kernel
theorem dX6_unites_9 : decode cX6_unites 9 = .ok (.iload_n 1, 1) := by decide +kernel
theorem dX6_unites_10 : decode cX6_unites 10 = .ok (.iload_n 3, 1) := by decide +kernel
theorem dX6_unites_11 : decode cX6_unites 11 = .ok (.invokestatic 94, 3) := by decide +kernel
theorem dX6_unites_14 : decode cX6_unites 14 = .ok (.laload, 1) := by decide +kernel
theorem dX6_unites_15 : decode cX6_unites 15 = .ok (.aload_n 0, 1) := by decide +kernel
theorem dX6_unites_16 : decode cX6_unites 16 = .ok (.getfield 31, 3) := by decide +kernel
theorem dX6_unites_19 : decode cX6_unites 19 = .ok (.iload_n 2, 1) := by decide +kernel
theorem dX6_unites_20 : decode cX6_unites 20 = .ok (.iload_n 3, 1) := by decide +kernel
theorem dX6_unites_21 : decode cX6_unites 21 = .ok (.invokestatic 94, 3) := by decide +kernel
theorem dX6_unites_24 : decode cX6_unites 24 = .ok (.laload, 1) := by decide +kernel
theorem dX6_unites_25 : decode cX6_unites 25 = .ok (.lor, 1) := by decide +kernel
theorem dX6_unites_26 : decode cX6_unites 26 = .ok (.lastore, 1) := by decide +kernel
theorem dX6_unites_27 : decode cX6_unites 27 = .ok (.aload_n 0, 1) := by decide +kernel
theorem dX6_unites_28 : decode cX6_unites 28 = .ok (.getfield 64, 3) := by decide +kernel
theorem dX6_unites_31 : decode cX6_unites 31 = .ok (.iload_n 3, 1) := by decide +kernel
theorem dX6_unites_32 : decode cX6_unites 32 = .ok (.aload_n 0, 1) := by decide +kernel
theorem dX6_unites_33 : decode cX6_unites 33 = .ok (.getfield 34, 3) := by decide +kernel
theorem dX6_unites_36 : decode cX6_unites 36 = .ok (.iload_n 1, 1) := by decide +kernel
theorem dX6_unites_37 : decode cX6_unites 37 = .ok (.iload_n 3, 1) := by decide +kernel
theorem dX6_unites_38 : decode cX6_unites 38 = .ok (.invokestatic 94, 3) := by decide +kernel
theorem dX6_unites_41 : decode cX6_unites 41 = .ok (.laload, 1) := by decide +kernel
theorem dX6_unites_42 : decode cX6_unites 42 = .ok (.aload_n 0, 1) := by decide +kernel
theorem dX6_unites_43 : decode cX6_unites 43 = .ok (.getfield 34, 3) := by decide +kernel
theorem dX6_unites_46 : decode cX6_unites 46 = .ok (.iload_n 2, 1) := by decide +kernel
theorem dX6_unites_47 : decode cX6_unites 47 = .ok (.iload_n 3, 1) := by decide +kernel
theorem dX6_unites_48 : decode cX6_unites 48 = .ok (.invokestatic 94, 3) := by decide +kernel
theorem dX6_unites_51 : decode cX6_unites 51 = .ok (.laload, 1) := by decide +kernel
theorem dX6_unites_52 : decode cX6_unites 52 = .ok (.lor, 1) := by decide +kernel
theorem dX6_unites_53 : decode cX6_unites 53 = .ok (.lastore, 1) := by decide +kernel
theorem dX6_unites_54 : decode cX6_unites 54 = .ok (.return_, 1) := by decide +kernel
theorem dX6_merges_0 : decode cX6_merges 0 = .ok (.aload_n 0, 1) := by decide +kernel
theorem dX6_merges_1 : decode cX6_merges 1 = .ok (.iload_n 1, 1) := by decide +kernel
theorem dX6_merges_2 : decode cX6_merges 2 = .ok (.iload_n 2, 1) := by decide +kernel
theorem dX6_merges_3 : decode cX6_merges 3 = .ok (.invokevirtual 149, 3) := by decide +kernel
theorem dX6_merges_6 : decode cX6_merges 6 = .ok (.istore_n 3, 1) := by decide +kernel
theorem dX6_merges_7 : decode cX6_merges 7 = .ok (.iconst 0, 1) := by decide +kernel
theorem dX6_merges_8 : decode cX6_merges 8 = .ok (.istore 4, 2) := by decide +kernel
theorem dX6_merges_10 : decode cX6_merges 10 = .ok (.iload 4, 2) := by decide +kernel
theorem dX6_merges_12 : decode cX6_merges 12 = .ok (.aload_n 0, 1) := by decide +kernel
theorem dX6_merges_13 : decode cX6_merges 13 = .ok (.getfield 76, 3) := by decide +kernel
theorem dX6_merges_16 : decode cX6_merges 16 = .ok (.if_icmp .ge 72, 3) := by decide +kernel
theorem dX6_merges_19 : decode cX6_merges 19 = .ok (.aload_n 0, 1) := by decide +kernel
theorem dX6_merges_20 : decode cX6_merges 20 = .ok (.iload_n 1, 1) := by decide +kernel
theorem dX6_merges_21 : decode cX6_merges 21 = .ok (.iload_n 2, 1) := by decide +kernel
theorem dX6_merges_22 : decode cX6_merges 22 = .ok (.iload 4, 2) := by decide +kernel
theorem dX6_merges_24 : decode cX6_merges 24 = .ok (.invokevirtual 161, 3) := by decide +kernel
theorem dX6_merges_27 : decode cX6_merges 27 = .ok (.ifCond .ne 14, 3) := by decide +kernel
theorem dX6_merges_30 : decode cX6_merges 30 = .ok (.aload_n 0, 1) := by decide +kernel
theorem dX6_merges_31 : decode cX6_merges 31 = .ok (.iload_n 2, 1) := by decide +kernel
theorem dX6_merges_32 : decode cX6_merges 32 = .ok (.iload_n 3, 1) := by decide +kernel
theorem dX6_merges_33 : decode cX6_merges 33 = .ok (.iload 4, 2) := by decide +kernel
theorem dX6_merges_35 : decode cX6_merges 35 = .ok (.invokevirtual 161, 3) := by decide +kernel
theorem dX6_merges_38 : decode cX6_merges 38 = .ok (.ifCond .eq 14, 3) := by decide +kernel
theorem dX6_merges_41 : decode cX6_merges 41 = .ok (.aload_n 0, 1) := by decide +kernel
theorem dX6_merges_42 : decode cX6_merges 42 = .ok (.iload_n 1, 1) := by decide +kernel
theorem dX6_merges_43 : decode cX6_merges 43 = .ok (.iload_n 1, 1) := by decide +kernel
theorem dX6_merges_44 : decode cX6_merges 44 = .ok (.iload 4, 2) := by decide +kernel
theorem dX6_merges_46 : decode cX6_merges 46 = .ok (.invokevirtual 171, 3) := by decide +kernel
theorem dX6_merges_49 : decode cX6_merges 49 = .ok (.goto 33, 3) := by decide +kernel
theorem dX6_merges_52 : decode cX6_merges 52 = .ok (.aload_n 0, 1) := by decide +kernel
theorem dX6_merges_53 : decode cX6_merges 53 = .ok (.iload_n 1, 1) := by decide +kernel
theorem dX6_merges_54 : decode cX6_merges 54 = .ok (.iload_n 3, 1) := by decide +kernel
theorem dX6_merges_55 : decode cX6_merges 55 = .ok (.iload 4, 2) := by decide +kernel
theorem dX6_merges_57 : decode cX6_merges 57 = .ok (.invokevirtual 161, 3) := by decide +kernel
theorem dX6_merges_60 : decode cX6_merges 60 = .ok (.ifCond .eq 14, 3) := by decide +kernel
theorem dX6_merges_63 : decode cX6_merges 63 = .ok (.aload_n 0, 1) := by decide +kernel
theorem dX6_merges_64 : decode cX6_merges 64 = .ok (.iload_n 2, 1) := by decide +kernel
theorem dX6_merges_65 : decode cX6_merges 65 = .ok (.iload_n 2, 1) := by decide +kernel
theorem dX6_merges_66 : decode cX6_merges 66 = .ok (.iload 4, 2) := by decide +kernel
theorem dX6_merges_68 : decode cX6_merges 68 = .ok (.invokevirtual 171, 3) := by decide +kernel
theorem dX6_merges_71 : decode cX6_merges 71 = .ok (.goto 11, 3) := by decide +kernel
theorem dX6_merges_74 : decode cX6_merges 74 = .ok (.aload_n 0, 1) := by decide +kernel
theorem dX6_merges_75 : decode cX6_merges 75 = .ok (.iload_n 1, 1) := by decide +kernel
theorem dX6_merges_76 : decode cX6_merges 76 = .ok (.iload_n 2, 1) := by decide +kernel
theorem dX6_merges_77 : decode cX6_merges 77 = .ok (.iload 4, 2) := by decide +kernel
theorem dX6_merges_79 : decode cX6_merges 79 = .ok (.invokevirtual 171, 3) := by decide +kernel
theorem dX6_merges_82 : decode cX6_merges 82 = .ok (.iinc 4 1, 3) := by decide +kernel
theorem dX6_merges_85 : decode cX6_merges 85 = .ok (.goto (-75), 3) := by decide +kernel
theorem dX6_merges_88 : decode cX6_merges 88 = .ok (.iconst 0, 1) := by decide +kernel
theorem dX6_merges_89 : decode cX6_merges 89 = .ok (.istore 4, 2) := by decide +kernel
theorem dX6_merges_91 : decode cX6_merges 91 = .ok (.iload 4, 2) := by decide +kernel
theorem dX6_merges_93 : decode cX6_merges 93 = .ok (.aload_n 0, 1) := by decide +kernel
theorem dX6_merges_94 : decode cX6_merges 94 = .ok (.getfield 175, 3) := by decide +kernel
theorem dX6_merges_97 : decode cX6_merges 97 = .ok (.if_icmp .ge 135, 3) := by decide +kernel
theorem dX6_merges_100 : decode cX6_merges 100 = .ok (.aload_n 0, 1) := by decide +kernel
theorem dX6_merges_101 : decode cX6_merges 101 = .ok (.iload 4, 2) := by decide +kernel
theorem dX6_merges_103 : decode cX6_merges 103 = .ok (.iload_n 1, 1) := by decide +kernel
theorem dX6_merges_104 : decode cX6_merges 104 = .ok (.invokevirtual 178, 3) := by decide +kernel
theorem dX6_merges_107 : decode cX6_merges 107 = .ok (.ifCond .ne 37, 3) := by decide +kernel
theorem dX6_merges_110 : decode cX6_merges 110 = .ok (.aload_n 0, 1) := by decide +kernel
theorem dX6_merges_111 : decode cX6_merges 111 = .ok (.iload 4, 2) := by decide +kernel
theorem dX6_merges_113 : decode cX6_merges 113 = .ok (.iload_n 2, 1) := by decide +kernel
theorem dX6_merges_114 : decode cX6_merges 114 = .ok (.invokevirtual 178, 3) := by decide +kernel
theorem dX6_merges_117 : decode cX6_merges 117 = .ok (.ifCond .ne 27, 3) := by decide +kernel
theorem dX6_merges_120 : decode cX6_merges 120 = .ok (.aload_n 0, 1) := by decide +kernel
theorem dX6_merges_121 : decode cX6_merges 121 = .ok (.iload 4, 2) := by decide +kernel
theorem dX6_merges_123 : decode cX6_merges 123 = .ok (.iload_n 1, 1) := by decide +kernel
theorem dX6_merges_124 : decode cX6_merges 124 = .ok (.invokevirtual 181, 3) := by decide +kernel
theorem dX6_merges_127 : decode cX6_merges 127 = .ok (.ifCond .ne 17, 3) := by decide +kernel
theorem dX6_merges_130 : decode cX6_merges 130 = .ok (.aload_n 0, 1) := by decide +kernel
theorem dX6_merges_131 : decode cX6_merges 131 = .ok (.iload 4, 2) := by decide +kernel
theorem dX6_merges_133 : decode cX6_merges 133 = .ok (.iload_n 2, 1) := by decide +kernel
theorem dX6_merges_134 : decode cX6_merges 134 = .ok (.invokevirtual 181, 3) := by decide +kernel
theorem dX6_merges_137 : decode cX6_merges 137 = .ok (.ifCond .ne 7, 3) := by decide +kernel
theorem dX6_merges_140 : decode cX6_merges 140 = .ok (.iconst 1, 1) := by decide +kernel
theorem dX6_merges_141 : decode cX6_merges 141 = .ok (.goto 4, 3) := by decide +kernel
theorem dX6_merges_144 : decode cX6_merges 144 = .ok (.iconst 0, 1) := by decide +kernel
theorem dX6_merges_145 : decode cX6_merges 145 = .ok (.istore 5, 2) := by decide +kernel
theorem dX6_merges_147 : decode cX6_merges 147 = .ok (.aload_n 0, 1) := by decide +kernel
theorem dX6_merges_148 : decode cX6_merges 148 = .ok (.getfield 46, 3) := by decide +kernel
theorem dX6_merges_151 : decode cX6_merges 151 = .ok (.iload 4, 2) := by decide +kernel
theorem dX6_merges_153 : decode cX6_merges 153 = .ok (.iaload, 1) := by decide +kernel
theorem dX6_merges_154 : decode cX6_merges 154 = .ok (.istore 6, 2) := by decide +kernel
theorem dX6_merges_156 : decode cX6_merges 156 = .ok (.aload_n 0, 1) := by decide +kernel
theorem dX6_merges_157 : decode cX6_merges 157 = .ok (.getfield 49, 3) := by decide +kernel
theorem dX6_merges_160 : decode cX6_merges 160 = .ok (.iload 4, 2) := by decide +kernel
theorem dX6_merges_162 : decode cX6_merges 162 = .ok (.iaload, 1) := by decide +kernel
theorem dX6_merges_163 : decode cX6_merges 163 = .ok (.istore 7, 2) := by decide +kernel
theorem dX6_merges_165 : decode cX6_merges 165 = .ok (.iload 5, 2) := by decide +kernel
theorem dX6_merges_167 : decode cX6_merges 167 = .ok (.ifCond .eq 59, 3) := by decide +kernel
theorem dX6_merges_170 : decode cX6_merges 170 = .ok (.aload_n 0, 1) := by decide +kernel
theorem dX6_merges_171 : decode cX6_merges 171 = .ok (.iload 4, 2) := by decide +kernel
theorem dX6_merges_173 : decode cX6_merges 173 = .ok (.aload_n 0, 1) := by decide +kernel
theorem dX6_merges_174 : decode cX6_merges 174 = .ok (.getfield 61, 3) := by decide +kernel
theorem dX6_merges_177 : decode cX6_merges 177 = .ok (.iload 6, 2) := by decide +kernel
theorem dX6_merges_179 : decode cX6_merges 179 = .ok (.laload, 1) := by decide +kernel
theorem dX6_merges_180 : decode cX6_merges 180 = .ok (.aload_n 0, 1) := by decide +kernel
theorem dX6_merges_181 : decode cX6_merges 181 = .ok (.getfield 64, 3) := by decide +kernel
theorem dX6_merges_184 : decode cX6_merges 184 = .ok (.iload 6, 2) := by decide +kernel
theorem dX6_merges_186 : decode cX6_merges 186 = .ok (.laload, 1) := by decide +kernel
theorem dX6_merges_187 : decode cX6_merges 187 = .ok (.aload_n 0, 1) := by decide +kernel
theorem dX6_merges_188 : decode cX6_merges 188 = .ok (.getfield 61, 3) := by decide +kernel
theorem dX6_merges_191 : decode cX6_merges 191 = .ok (.iload 7, 2) := by decide +kernel
theorem dX6_merges_193 : decode cX6_merges 193 = .ok (.laload, 1) := by decide +kernel
theorem dX6_merges_194 : decode cX6_merges 194 = .ok (.aload_n 0, 1) := by decide +kernel
theorem dX6_merges_195 : decode cX6_merges 195 = .ok (.getfield 64, 3) := by decide +kernel
theorem dX6_merges_198 : decode cX6_merges 198 = .ok (.iload 7, 2) := by decide +kernel
theorem dX6_merges_200 : decode cX6_merges 200 = .ok (.laload, 1) := by decide +kernel
theorem dX6_merges_201 : decode cX6_merges 201 = .ok (.invokevirtual 167, 3) := by decide +kernel
theorem dX6_merges_204 : decode cX6_merges 204 = .ok (.ifCond .ne 6, 3) := by decide +kernel
theorem dX6_merges_207 : decode cX6_merges 207 = .ok (.goto 19, 3) := by decide +kernel
theorem dX6_merges_210 : decode cX6_merges 210 = .ok (.aload_n 0, 1) := by decide +kernel
theorem dX6_merges_211 : decode cX6_merges 211 = .ok (.iload_n 1, 1) := by decide +kernel
theorem dX6_merges_212 : decode cX6_merges 212 = .ok (.iload_n 2, 1) := by decide +kernel
theorem dX6_merges_213 : decode cX6_merges 213 = .ok (.iload 6, 2) := by decide +kernel
theorem dX6_merges_215 : decode cX6_merges 215 = .ok (.invokevirtual 171, 3) := by decide +kernel
theorem dX6_merges_218 : decode cX6_merges 218 = .ok (.aload_n 0, 1) := by decide +kernel
theorem dX6_merges_219 : decode cX6_merges 219 = .ok (.iload_n 1, 1) := by decide +kernel
theorem dX6_merges_220 : decode cX6_merges 220 = .ok (.iload_n 2, 1) := by decide +kernel
theorem dX6_merges_221 : decode cX6_merges 221 = .ok (.iload 7, 2) := by decide +kernel
theorem dX6_merges_223 : decode cX6_merges 223 = .ok (.invokevirtual 171, 3) := by decide +kernel
theorem dX6_merges_226 : decode cX6_merges 226 = .ok (.iinc 4 1, 3) := by decide +kernel
theorem dX6_merges_229 : decode cX6_merges 229 = .ok (.goto (-138), 3) := by decide +kernel
theorem dX6_merges_232 : decode cX6_merges 232 = .ok (.return_, 1) := by decide +kernel
theorem dX6_takes_0 : decode cX6_takes 0 = .ok (.iconst 0, 1) := by decide +kernel
theorem dX6_takes_1 : decode cX6_takes 1 = .ok (.istore_n 2, 1) := by decide +kernel
theorem dX6_takes_2 : decode cX6_takes 2 = .ok (.iload_n 2, 1) := by decide +kernel
theorem dX6_takes_3 : decode cX6_takes 3 = .ok (.aload_n 0, 1) := by decide +kernel
theorem dX6_takes_4 : decode cX6_takes 4 = .ok (.getfield 76, 3) := by decide +kernel
theorem dX6_takes_7 : decode cX6_takes 7 = .ok (.if_icmp .ge 41, 3) := by decide +kernel
theorem dX6_takes_10 : decode cX6_takes 10 = .ok (.aload_n 0, 1) := by decide +kernel
theorem dX6_takes_11 : decode cX6_takes 11 = .ok (.getfield 31, 3) := by decide +kernel
theorem dX6_takes_14 : decode cX6_takes 14 = .ok (.iload_n 1, 1) := by decide +kernel
theorem dX6_takes_15 : decode cX6_takes 15 = .ok (.iload_n 2, 1) := by decide +kernel
theorem dX6_takes_16 : decode cX6_takes 16 = .ok (.invokestatic 94, 3) := by decide +kernel
theorem dX6_takes_19 : decode cX6_takes 19 = .ok (.aload_n 0, 1) := by decide +kernel
theorem dX6_takes_20 : decode cX6_takes 20 = .ok (.getfield 61, 3) := by decide +kernel
theorem dX6_takes_23 : decode cX6_takes 23 = .ok (.iload_n 2, 1) := by decide +kernel
theorem dX6_takes_24 : decode cX6_takes 24 = .ok (.laload, 1) := by decide +kernel
theorem dX6_takes_25 : decode cX6_takes 25 = .ok (.lastore, 1) := by decide +kernel
theorem dX6_takes_26 : decode cX6_takes 26 = .ok (.aload_n 0, 1) := by decide +kernel
theorem dX6_takes_27 : decode cX6_takes 27 = .ok (.getfield 34, 3) := by decide +kernel
theorem dX6_takes_30 : decode cX6_takes 30 = .ok (.iload_n 1, 1) := by decide +kernel
theorem dX6_takes_31 : decode cX6_takes 31 = .ok (.iload_n 2, 1) := by decide +kernel
theorem dX6_takes_32 : decode cX6_takes 32 = .ok (.invokestatic 94, 3) := by decide +kernel
theorem dX6_takes_35 : decode cX6_takes 35 = .ok (.aload_n 0, 1) := by decide +kernel
theorem dX6_takes_36 : decode cX6_takes 36 = .ok (.getfield 64, 3) := by decide +kernel
theorem dX6_takes_39 : decode cX6_takes 39 = .ok (.iload_n 2, 1) := by decide +kernel
theorem dX6_takes_40 : decode cX6_takes 40 = .ok (.laload, 1) := by decide +kernel
theorem dX6_takes_41 : decode cX6_takes 41 = .ok (.lastore, 1) := by decide +kernel
theorem dX6_takes_42 : decode cX6_takes 42 = .ok (.iinc 2 1, 3) := by decide +kernel
theorem dX6_takes_45 : decode cX6_takes 45 = .ok (.goto (-43), 3) := by decide +kernel
theorem dX6_takes_48 : decode cX6_takes 48 = .ok (.return_, 1) := by decide +kernel
theorem dX6_isNoBranches_0 : decode cX6_isNoBranches 0 = .ok (.aload_n 0, 1) := by decide +kernel
theorem dX6_isNoBranches_1 : decode cX6_isNoBranches 1 = .ok (.aload_n 0, 1) := by decide +kernel
theorem dX6_isNoBranches_2 : decode cX6_isNoBranches 2 = .ok (.iload_n 1, 1) := by decide +kernel
theorem dX6_isNoBranches_3 : decode cX6_isNoBranches 3 = .ok (.invokevirtual 108, 3) := by decide +kernel
theorem dX6_isNoBranches_6 : decode cX6_isNoBranches 6 = .ok (.ifCond .ne 11, 3) := by decide +kernel
theorem dX6_isNoBranches_9 : decode cX6_isNoBranches 9 = .ok (.aload_n 0, 1) := by decide +kernel
theorem dX6_isNoBranches_10 : decode cX6_isNoBranches 10 = .ok (.iload_n 2, 1) := by decide +kernel
theorem dX6_isNoBranches_11 : decode cX6_isNoBranches 11 = .ok (.invokevirtual 108, 3) := by decide +kernel
theorem dX6_isNoBranches_14 : decode cX6_isNoBranches 14 = .ok (.ifCond .eq 7, 3) := by decide +kernel
theorem dX6_isNoBranches_17 : decode cX6_isNoBranches 17 = .ok (.iconst 1, 1) := by decide +kernel
theorem dX6_isNoBranches_18 : decode cX6_isNoBranches 18 = .ok (.goto 4, 3) := by decide +kernel
theorem dX6_isNoBranches_21 : decode cX6_isNoBranches 21 = .ok (.iconst 0, 1) := by decide +kernel
theorem dX6_isNoBranches_22 : decode cX6_isNoBranches 22 = .ok (.invokevirtual 87, 3) := by decide +kernel
theorem dX6_isNoBranches_25 : decode cX6_isNoBranches 25 = .ok (.ireturn, 1) := by decide +kernel
theorem dX6_merge_0 : decode cX6_merge 0 = .ok (.aload_n 0, 1) := by decide +kernel
theorem dX6_merge_1 : decode cX6_merge 1 = .ok (.iload_n 1, 1) := by decide +kernel
theorem dX6_merge_2 : decode cX6_merge 2 = .ok (.iload_n 2, 1) := by decide +kernel
theorem dX6_merge_3 : decode cX6_merge 3 = .ok (.invokevirtual 184, 3) := by decide +kernel
theorem dX6_merge_6 : decode cX6_merge 6 = .ok (.ifCond .ne 39, 3) := by decide +kernel
theorem dX6_merge_9 : decode cX6_merge 9 = .ok (.aload_n 0, 1) := by decide +kernel
theorem dX6_merge_10 : decode cX6_merge 10 = .ok (.aload_n 0, 1) := by decide +kernel
theorem dX6_merge_11 : decode cX6_merge 11 = .ok (.aload_n 0, 1) := by decide +kernel
theorem dX6_merge_12 : decode cX6_merge 12 = .ok (.getfield 40, 3) := by decide +kernel
theorem dX6_merge_15 : decode cX6_merge 15 = .ok (.iload_n 2, 1) := by decide +kernel
theorem dX6_merge_16 : decode cX6_merge 16 = .ok (.iaload, 1) := by decide +kernel
theorem dX6_merge_17 : decode cX6_merge 17 = .ok (.aload_n 0, 1) := by decide +kernel
theorem dX6_merge_18 : decode cX6_merge 18 = .ok (.getfield 40, 3) := by decide +kernel
theorem dX6_merge_21 : decode cX6_merge 21 = .ok (.iload_n 1, 1) := by decide +kernel
theorem dX6_merge_22 : decode cX6_merge 22 = .ok (.iaload, 1) := by decide +kernel
theorem dX6_merge_23 : decode cX6_merge 23 = .ok (.invokevirtual 146, 3) := by decide +kernel
theorem dX6_merge_26 : decode cX6_merge 26 = .ok (.ifCond .eq 7, 3) := by decide +kernel
theorem dX6_merge_29 : decode cX6_merge 29 = .ok (.iconst 2, 1) := by decide +kernel
theorem dX6_merge_30 : decode cX6_merge 30 = .ok (.goto 9, 3) := by decide +kernel
theorem dX6_merge_33 : decode cX6_merge 33 = .ok (.iconst 3, 1) := by decide +kernel
theorem dX6_merge_34 : decode cX6_merge 34 = .ok (.aload_n 0, 1) := by decide +kernel
theorem dX6_merge_35 : decode cX6_merge 35 = .ok (.invokevirtual 118, 3) := by decide +kernel
theorem dX6_merge_38 : decode cX6_merge 38 = .ok (.imul, 1) := by decide +kernel
theorem dX6_merge_39 : decode cX6_merge 39 = .ok (.invokevirtual 87, 3) := by decide +kernel
theorem dX6_merge_42 : decode cX6_merge 42 = .ok (.ifCond .eq 5, 3) := by decide +kernel
theorem dX6_merge_45 : decode cX6_merge 45 = .ok (.iconst 0, 1) := by decide +kernel
theorem dX6_merge_46 : decode cX6_merge 46 = .ok (.ireturn, 1) := by decide +kernel
theorem dX6_merge_47 : decode cX6_merge 47 = .ok (.aload_n 0, 1) := by decide +kernel
theorem dX6_merge_48 : decode cX6_merge 48 = .ok (.aload_n 0, 1) := by decide +kernel
theorem dX6_merge_49 : decode cX6_merge 49 = .ok (.getfield 40, 3) := by decide +kernel
theorem dX6_merge_52 : decode cX6_merge 52 = .ok (.iload_n 1, 1) := by decide +kernel
theorem dX6_merge_53 : decode cX6_merge 53 = .ok (.iaload, 1) := by decide +kernel
theorem dX6_merge_54 : decode cX6_merge 54 = .ok (.aload_n 0, 1) := by decide +kernel
theorem dX6_merge_55 : decode cX6_merge 55 = .ok (.getfield 40, 3) := by decide +kernel
theorem dX6_merge_58 : decode cX6_merge 58 = .ok (.iload_n 2, 1) := by decide +kernel
theorem dX6_merge_59 : decode cX6_merge 59 = .ok (.iaload, 1) := by decide +kernel
theorem dX6_merge_60 : decode cX6_merge 60 = .ok (.invokevirtual 187, 3) := by decide +kernel
theorem dX6_merge_63 : decode cX6_merge 63 = .ok (.aload_n 0, 1) := by decide +kernel
theorem dX6_merge_64 : decode cX6_merge 64 = .ok (.iload_n 1, 1) := by decide +kernel
theorem dX6_merge_65 : decode cX6_merge 65 = .ok (.aload_n 0, 1) := by decide +kernel
theorem dX6_merge_66 : decode cX6_merge 66 = .ok (.getfield 40, 3) := by decide +kernel
theorem dX6_merge_69 : decode cX6_merge 69 = .ok (.iload_n 2, 1) := by decide +kernel
theorem dX6_merge_70 : decode cX6_merge 70 = .ok (.iaload, 1) := by decide +kernel
theorem dX6_merge_71 : decode cX6_merge 71 = .ok (.invokevirtual 111, 3) := by decide +kernel
theorem dX6_merge_74 : decode cX6_merge 74 = .ok (.istore_n 3, 1) := by decide +kernel
theorem dX6_merge_75 : decode cX6_merge 75 = .ok (.aload_n 0, 1) := by decide +kernel
theorem dX6_merge_76 : decode cX6_merge 76 = .ok (.iload_n 3, 1) := by decide +kernel
theorem dX6_merge_77 : decode cX6_merge 77 = .ok (.invokevirtual 191, 3) := by decide +kernel
theorem dX6_merge_80 : decode cX6_merge 80 = .ok (.iload_n 3, 1) := by decide +kernel
theorem dX6_merge_81 : decode cX6_merge 81 = .ok (.ireturn, 1) := by decide +kernel
theorem dX6_wouldConflict_0 : decode cX6_wouldConflict 0 = .ok (.aload_n 0, 1) := by decide +kernel
theorem dX6_wouldConflict_1 : decode cX6_wouldConflict 1 = .ok (.iload_n 1, 1) := by decide +kernel
theorem dX6_wouldConflict_2 : decode cX6_wouldConflict 2 = .ok (.iload_n 2, 1) := by decide +kernel
theorem dX6_wouldConflict_3 : decode cX6_wouldConflict 3 = .ok (.invokevirtual 184, 3) := by decide +kernel
theorem dX6_wouldConflict_6 : decode cX6_wouldConflict 6 = .ok (.ifCond .eq 5, 3) := by decide +kernel
theorem dX6_wouldConflict_9 : decode cX6_wouldConflict 9 = .ok (.iconst 0, 1) := by decide +kernel
theorem dX6_wouldConflict_10 : decode cX6_wouldConflict 10 = .ok (.ireturn, 1) := by decide +kernel
theorem dX6_wouldConflict_11 : decode cX6_wouldConflict 11 = .ok (.aload_n 0, 1) := by decide +kernel
theorem dX6_wouldConflict_12 : decode cX6_wouldConflict 12 = .ok (.aload_n 0, 1) := by decide +kernel
theorem dX6_wouldConflict_13 : decode cX6_wouldConflict 13 = .ok (.getfield 40, 3) := by decide +kernel
theorem dX6_wouldConflict_16 : decode cX6_wouldConflict 16 = .ok (.iload_n 1, 1) := by decide +kernel
theorem dX6_wouldConflict_17 : decode cX6_wouldConflict 17 = .ok (.iaload, 1) := by decide +kernel
theorem dX6_wouldConflict_18 : decode cX6_wouldConflict 18 = .ok (.aload_n 0, 1) := by decide +kernel
theorem dX6_wouldConflict_19 : decode cX6_wouldConflict 19 = .ok (.getfield 40, 3) := by decide +kernel
theorem dX6_wouldConflict_22 : decode cX6_wouldConflict 22 = .ok (.iload_n 2, 1) := by decide +kernel
theorem dX6_wouldConflict_23 : decode cX6_wouldConflict 23 = .ok (.iaload, 1) := by decide +kernel
theorem dX6_wouldConflict_24 : decode cX6_wouldConflict 24 = .ok (.invokevirtual 187, 3) := by decide +kernel
theorem dX6_wouldConflict_27 : decode cX6_wouldConflict 27 = .ok (.iconst 0, 1) := by decide +kernel
theorem dX6_wouldConflict_28 : decode cX6_wouldConflict 28 = .ok (.istore_n 3, 1) := by decide +kernel
theorem dX6_wouldConflict_29 : decode cX6_wouldConflict 29 = .ok (.iconst 0, 1) := by decide +kernel
theorem dX6_wouldConflict_30 : decode cX6_wouldConflict 30 = .ok (.istore 4, 2) := by decide +kernel
theorem dX6_wouldConflict_32 : decode cX6_wouldConflict 32 = .ok (.iload 4, 2) := by decide +kernel
theorem dX6_wouldConflict_34 : decode cX6_wouldConflict 34 = .ok (.aload_n 0, 1) := by decide +kernel
theorem dX6_wouldConflict_35 : decode cX6_wouldConflict 35 = .ok (.getfield 76, 3) := by decide +kernel
theorem dX6_wouldConflict_38 : decode cX6_wouldConflict 38 = .ok (.if_icmp .ge 39, 3) := by decide +kernel
theorem dX6_wouldConflict_41 : decode cX6_wouldConflict 41 = .ok (.iload_n 3, 1) := by decide +kernel
theorem dX6_wouldConflict_42 : decode cX6_wouldConflict 42 = .ok (.aload_n 0, 1) := by decide +kernel
theorem dX6_wouldConflict_43 : decode cX6_wouldConflict 43 = .ok (.aload_n 0, 1) := by decide +kernel
theorem dX6_wouldConflict_44 : decode cX6_wouldConflict 44 = .ok (.getfield 61, 3) := by decide +kernel
theorem dX6_wouldConflict_47 : decode cX6_wouldConflict 47 = .ok (.iload 4, 2) := by decide +kernel
theorem dX6_wouldConflict_49 : decode cX6_wouldConflict 49 = .ok (.laload, 1) := by decide +kernel
theorem dX6_wouldConflict_50 : decode cX6_wouldConflict 50 = .ok (.aload_n 0, 1) := by decide +kernel
theorem dX6_wouldConflict_51 : decode cX6_wouldConflict 51 = .ok (.getfield 64, 3) := by decide +kernel
theorem dX6_wouldConflict_54 : decode cX6_wouldConflict 54 = .ok (.iload 4, 2) := by decide +kernel
theorem dX6_wouldConflict_56 : decode cX6_wouldConflict 56 = .ok (.laload, 1) := by decide +kernel
theorem dX6_wouldConflict_57 : decode cX6_wouldConflict 57 = .ok (.invokevirtual 98, 3) := by decide +kernel
theorem dX6_wouldConflict_60 : decode cX6_wouldConflict 60 = .ok (.iconst 1, 1) := by decide +kernel
theorem dX6_wouldConflict_61 : decode cX6_wouldConflict 61 = .ok (.if_icmp .le 7, 3) := by decide +kernel
theorem dX6_wouldConflict_64 : decode cX6_wouldConflict 64 = .ok (.iconst 1, 1) := by decide +kernel
theorem dX6_wouldConflict_65 : decode cX6_wouldConflict 65 = .ok (.goto 4, 3) := by decide +kernel
theorem dX6_wouldConflict_68 : decode cX6_wouldConflict 68 = .ok (.iconst 0, 1) := by decide +kernel
theorem dX6_wouldConflict_69 : decode cX6_wouldConflict 69 = .ok (.iadd, 1) := by decide +kernel
theorem dX6_wouldConflict_70 : decode cX6_wouldConflict 70 = .ok (.istore_n 3, 1) := by decide +kernel
theorem dX6_wouldConflict_71 : decode cX6_wouldConflict 71 = .ok (.iinc 4 1, 3) := by decide +kernel
theorem dX6_wouldConflict_74 : decode cX6_wouldConflict 74 = .ok (.goto (-42), 3) := by decide +kernel
theorem dX6_wouldConflict_77 : decode cX6_wouldConflict 77 = .ok (.iload_n 3, 1) := by decide +kernel
theorem dX6_wouldConflict_78 : decode cX6_wouldConflict 78 = .ok (.ireturn, 1) := by decide +kernel
theorem dX6_isAlike_0 : decode cX6_isAlike 0 = .ok (.aload_n 0, 1) := by decide +kernel
theorem dX6_isAlike_1 : decode cX6_isAlike 1 = .ok (.iload_n 1, 1) := by decide +kernel
theorem dX6_isAlike_2 : decode cX6_isAlike 2 = .ok (.iload_n 2, 1) := by decide +kernel
theorem dX6_isAlike_3 : decode cX6_isAlike 3 = .ok (.invokevirtual 184, 3) := by decide +kernel
theorem dX6_isAlike_6 : decode cX6_isAlike 6 = .ok (.ifCond .eq 5, 3) := by decide +kernel
theorem dX6_isAlike_9 : decode cX6_isAlike 9 = .ok (.iconst 0, 1) := by decide +kernel
theorem dX6_isAlike_10 : decode cX6_isAlike 10 = .ok (.ireturn, 1) := by decide +kernel
theorem dX6_isAlike_11 : decode cX6_isAlike 11 = .ok (.aload_n 0, 1) := by decide +kernel
theorem dX6_isAlike_12 : decode cX6_isAlike 12 = .ok (.aload_n 0, 1) := by decide +kernel
theorem dX6_isAlike_13 : decode cX6_isAlike 13 = .ok (.getfield 40, 3) := by decide +kernel
theorem dX6_isAlike_16 : decode cX6_isAlike 16 = .ok (.iload_n 1, 1) := by decide +kernel
theorem dX6_isAlike_17 : decode cX6_isAlike 17 = .ok (.iaload, 1) := by decide +kernel
theorem dX6_isAlike_18 : decode cX6_isAlike 18 = .ok (.aload_n 0, 1) := by decide +kernel
theorem dX6_isAlike_19 : decode cX6_isAlike 19 = .ok (.getfield 40, 3) := by decide +kernel
theorem dX6_isAlike_22 : decode cX6_isAlike 22 = .ok (.iload_n 2, 1) := by decide +kernel
theorem dX6_isAlike_23 : decode cX6_isAlike 23 = .ok (.iaload, 1) := by decide +kernel
theorem dX6_isAlike_24 : decode cX6_isAlike 24 = .ok (.invokevirtual 187, 3) := by decide +kernel
theorem dX6_isAlike_27 : decode cX6_isAlike 27 = .ok (.iconst 0, 1) := by decide +kernel
theorem dX6_isAlike_28 : decode cX6_isAlike 28 = .ok (.istore_n 3, 1) := by decide +kernel
theorem dX6_isAlike_29 : decode cX6_isAlike 29 = .ok (.iload_n 3, 1) := by decide +kernel
theorem dX6_isAlike_30 : decode cX6_isAlike 30 = .ok (.aload_n 0, 1) := by decide +kernel
theorem dX6_isAlike_31 : decode cX6_isAlike 31 = .ok (.getfield 76, 3) := by decide +kernel
theorem dX6_isAlike_34 : decode cX6_isAlike 34 = .ok (.if_icmp .ge 33, 3) := by decide +kernel
theorem dX6_isAlike_37 : decode cX6_isAlike 37 = .ok (.aload_n 0, 1) := by decide +kernel
theorem dX6_isAlike_38 : decode cX6_isAlike 38 = .ok (.getfield 67, 3) := by decide +kernel
theorem dX6_isAlike_41 : decode cX6_isAlike 41 = .ok (.iload_n 3, 1) := by decide +kernel
theorem dX6_isAlike_42 : decode cX6_isAlike 42 = .ok (.aload_n 0, 1) := by decide +kernel
theorem dX6_isAlike_43 : decode cX6_isAlike 43 = .ok (.getfield 61, 3) := by decide +kernel
theorem dX6_isAlike_46 : decode cX6_isAlike 46 = .ok (.iload_n 3, 1) := by decide +kernel
theorem dX6_isAlike_47 : decode cX6_isAlike 47 = .ok (.laload, 1) := by decide +kernel
theorem dX6_isAlike_48 : decode cX6_isAlike 48 = .ok (.lastore, 1) := by decide +kernel
theorem dX6_isAlike_49 : decode cX6_isAlike 49 = .ok (.aload_n 0, 1) := by decide +kernel
theorem dX6_isAlike_50 : decode cX6_isAlike 50 = .ok (.getfield 70, 3) := by decide +kernel
theorem dX6_isAlike_53 : decode cX6_isAlike 53 = .ok (.iload_n 3, 1) := by decide +kernel
theorem dX6_isAlike_54 : decode cX6_isAlike 54 = .ok (.aload_n 0, 1) := by decide +kernel
theorem dX6_isAlike_55 : decode cX6_isAlike 55 = .ok (.getfield 64, 3) := by decide +kernel
theorem dX6_isAlike_58 : decode cX6_isAlike 58 = .ok (.iload_n 3, 1) := by decide +kernel
theorem dX6_isAlike_59 : decode cX6_isAlike 59 = .ok (.laload, 1) := by decide +kernel
theorem dX6_isAlike_60 : decode cX6_isAlike 60 = .ok (.lastore, 1) := by decide +kernel
theorem dX6_isAlike_61 : decode cX6_isAlike 61 = .ok (.iinc 3 1, 3) := by decide +kernel
theorem dX6_isAlike_64 : decode cX6_isAlike 64 = .ok (.goto (-35), 3) := by decide +kernel
theorem dX6_isAlike_67 : decode cX6_isAlike 67 = .ok (.aload_n 0, 1) := by decide +kernel
theorem dX6_isAlike_68 : decode cX6_isAlike 68 = .ok (.aload_n 0, 1) := by decide +kernel
theorem dX6_isAlike_69 : decode cX6_isAlike 69 = .ok (.getfield 40, 3) := by decide +kernel
theorem dX6_isAlike_72 : decode cX6_isAlike 72 = .ok (.iload_n 2, 1) := by decide +kernel
theorem dX6_isAlike_73 : decode cX6_isAlike 73 = .ok (.iaload, 1) := by decide +kernel
theorem dX6_isAlike_74 : decode cX6_isAlike 74 = .ok (.aload_n 0, 1) := by decide +kernel
theorem dX6_isAlike_75 : decode cX6_isAlike 75 = .ok (.getfield 40, 3) := by decide +kernel
theorem dX6_isAlike_78 : decode cX6_isAlike 78 = .ok (.iload_n 1, 1) := by decide +kernel
theorem dX6_isAlike_79 : decode cX6_isAlike 79 = .ok (.iaload, 1) := by decide +kernel
theorem dX6_isAlike_80 : decode cX6_isAlike 80 = .ok (.invokevirtual 187, 3) := by decide +kernel
theorem dX6_isAlike_83 : decode cX6_isAlike 83 = .ok (.iconst 0, 1) := by decide +kernel
theorem dX6_isAlike_84 : decode cX6_isAlike 84 = .ok (.istore_n 3, 1) := by decide +kernel
theorem dX6_isAlike_85 : decode cX6_isAlike 85 = .ok (.iload_n 3, 1) := by decide +kernel
theorem dX6_isAlike_86 : decode cX6_isAlike 86 = .ok (.aload_n 0, 1) := by decide +kernel
theorem dX6_isAlike_87 : decode cX6_isAlike 87 = .ok (.getfield 76, 3) := by decide +kernel
theorem dX6_isAlike_90 : decode cX6_isAlike 90 = .ok (.if_icmp .ge 43, 3) := by decide +kernel
theorem dX6_isAlike_93 : decode cX6_isAlike 93 = .ok (.aload_n 0, 1) := by decide +kernel
theorem dX6_isAlike_94 : decode cX6_isAlike 94 = .ok (.getfield 67, 3) := by decide +kernel
theorem dX6_isAlike_97 : decode cX6_isAlike 97 = .ok (.iload_n 3, 1) := by decide +kernel
theorem dX6_isAlike_98 : decode cX6_isAlike 98 = .ok (.laload, 1) := by decide +kernel
theorem dX6_isAlike_99 : decode cX6_isAlike 99 = .ok (.aload_n 0, 1) := by decide +kernel
theorem dX6_isAlike_100 : decode cX6_isAlike 100 = .ok (.getfield 61, 3) := by decide +kernel
theorem dX6_isAlike_103 : decode cX6_isAlike 103 = .ok (.iload_n 3, 1) := by decide +kernel
theorem dX6_isAlike_104 : decode cX6_isAlike 104 = .ok (.laload, 1) := by decide +kernel
theorem dX6_isAlike_105 : decode cX6_isAlike 105 = .ok (.lcmp, 1) := by decide +kernel
theorem dX6_isAlike_106 : decode cX6_isAlike 106 = .ok (.ifCond .ne 19, 3) := by decide +kernel
theorem dX6_isAlike_109 : decode cX6_isAlike 109 = .ok (.aload_n 0, 1) := by decide +kernel
theorem dX6_isAlike_110 : decode cX6_isAlike 110 = .ok (.getfield 70, 3) := by decide +kernel
theorem dX6_isAlike_113 : decode cX6_isAlike 113 = .ok (.iload_n 3, 1) := by decide +kernel
theorem dX6_isAlike_114 : decode cX6_isAlike 114 = .ok (.laload, 1) := by decide +kernel
theorem dX6_isAlike_115 : decode cX6_isAlike 115 = .ok (.aload_n 0, 1) := by decide +kernel
theorem dX6_isAlike_116 : decode cX6_isAlike 116 = .ok (.getfield 64, 3) := by decide +kernel
theorem dX6_isAlike_119 : decode cX6_isAlike 119 = .ok (.iload_n 3, 1) := by decide +kernel
theorem dX6_isAlike_120 : decode cX6_isAlike 120 = .ok (.laload, 1) := by decide +kernel
theorem dX6_isAlike_121 : decode cX6_isAlike 121 = .ok (.lcmp, 1) := by decide +kernel
theorem dX6_isAlike_122 : decode cX6_isAlike 122 = .ok (.ifCond .eq 5, 3) := by decide +kernel
theorem dX6_isAlike_125 : decode cX6_isAlike 125 = .ok (.iconst 0, 1) := by decide +kernel
theorem dX6_isAlike_126 : decode cX6_isAlike 126 = .ok (.ireturn, 1) := by decide +kernel
theorem dX6_isAlike_127 : decode cX6_isAlike 127 = .ok (.iinc 3 1, 3) := by decide +kernel
theorem dX6_isAlike_130 : decode cX6_isAlike 130 = .ok (.goto (-45), 3) := by decide +kernel
theorem dX6_isAlike_133 : decode cX6_isAlike 133 = .ok (.iconst 1, 1) := by decide +kernel
theorem dX6_isAlike_134 : decode cX6_isAlike 134 = .ok (.ireturn, 1) := by decide +kernel
theorem dX6_pick_0 : decode cX6_pick 0 = .ok (.aload_n 0, 1) := by decide +kernel
theorem dX6_pick_1 : decode cX6_pick 1 = .ok (.aload_n 0, 1) := by decide +kernel
theorem dX6_pick_2 : decode cX6_pick 2 = .ok (.iload_n 1, 1) := by decide +kernel
theorem dX6_pick_3 : decode cX6_pick 3 = .ok (.invokevirtual 108, 3) := by decide +kernel
theorem dX6_pick_6 : decode cX6_pick 6 = .ok (.ifCond .ne 11, 3) := by decide +kernel
theorem dX6_pick_9 : decode cX6_pick 9 = .ok (.aload_n 0, 1) := by decide +kernel
theorem dX6_pick_10 : decode cX6_pick 10 = .ok (.iload_n 2, 1) := by decide +kernel
theorem dX6_pick_11 : decode cX6_pick 11 = .ok (.invokevirtual 83, 3) := by decide +kernel
theorem dX6_pick_14 : decode cX6_pick 14 = .ok (.ifCond .eq 7, 3) := by decide +kernel
theorem dX6_pick_17 : decode cX6_pick 17 = .ok (.iconst 1, 1) := by decide +kernel
theorem dX6_pick_18 : decode cX6_pick 18 = .ok (.goto 4, 3) := by decide +kernel
theorem dX6_pick_21 : decode cX6_pick 21 = .ok (.iconst 0, 1) := by decide +kernel
theorem dX6_pick_22 : decode cX6_pick 22 = .ok (.invokevirtual 87, 3) := by decide +kernel
theorem dX6_pick_25 : decode cX6_pick 25 = .ok (.ifCond .eq 5, 3) := by decide +kernel
theorem dX6_pick_28 : decode cX6_pick 28 = .ok (.iconst 0, 1) := by decide +kernel
theorem dX6_pick_29 : decode cX6_pick 29 = .ok (.ireturn, 1) := by decide +kernel
theorem dX6_pick_30 : decode cX6_pick 30 = .ok (.aload_n 0, 1) := by decide +kernel
theorem dX6_pick_31 : decode cX6_pick 31 = .ok (.aload_n 0, 1) := by decide +kernel
theorem dX6_pick_32 : decode cX6_pick 32 = .ok (.iload_n 2, 1) := by decide +kernel
theorem dX6_pick_33 : decode cX6_pick 33 = .ok (.invokevirtual 140, 3) := by decide +kernel
theorem dX6_pick_36 : decode cX6_pick 36 = .ok (.iconst 1, 1) := by decide +kernel
theorem dX6_pick_37 : decode cX6_pick 37 = .ok (.if_icmp .eq 7, 3) := by decide +kernel
theorem dX6_pick_40 : decode cX6_pick 40 = .ok (.iconst 2, 1) := by decide +kernel
theorem dX6_pick_41 : decode cX6_pick 41 = .ok (.goto 9, 3) := by decide +kernel
theorem dX6_pick_44 : decode cX6_pick 44 = .ok (.iconst 3, 1) := by decide +kernel
theorem dX6_pick_45 : decode cX6_pick 45 = .ok (.aload_n 0, 1) := by decide +kernel
theorem dX6_pick_46 : decode cX6_pick 46 = .ok (.invokevirtual 118, 3) := by decide +kernel
theorem dX6_pick_49 : decode cX6_pick 49 = .ok (.imul, 1) := by decide +kernel
theorem dX6_pick_50 : decode cX6_pick 50 = .ok (.invokevirtual 87, 3) := by decide +kernel
theorem dX6_pick_53 : decode cX6_pick 53 = .ok (.ifCond .eq 5, 3) := by decide +kernel
theorem dX6_pick_56 : decode cX6_pick 56 = .ok (.iconst 0, 1) := by decide +kernel
theorem dX6_pick_57 : decode cX6_pick 57 = .ok (.ireturn, 1) := by decide +kernel
theorem dX6_pick_58 : decode cX6_pick 58 = .ok (.aload_n 0, 1) := by decide +kernel
theorem dX6_pick_59 : decode cX6_pick 59 = .ok (.getfield 40, 3) := by decide +kernel
theorem dX6_pick_62 : decode cX6_pick 62 = .ok (.iload_n 1, 1) := by decide +kernel
theorem dX6_pick_63 : decode cX6_pick 63 = .ok (.iaload, 1) := by decide +kernel
theorem dX6_pick_64 : decode cX6_pick 64 = .ok (.istore_n 3, 1) := by decide +kernel
theorem dX6_pick_65 : decode cX6_pick 65 = .ok (.aload_n 0, 1) := by decide +kernel
theorem dX6_pick_66 : decode cX6_pick 66 = .ok (.getfield 17, 3) := by decide +kernel
theorem dX6_pick_69 : decode cX6_pick 69 = .ok (.iload_n 2, 1) := by decide +kernel
theorem dX6_pick_70 : decode cX6_pick 70 = .ok (.iaload, 1) := by decide +kernel
theorem dX6_pick_71 : decode cX6_pick 71 = .ok (.istore 4, 2) := by decide +kernel
theorem dX6_pick_73 : decode cX6_pick 73 = .ok (.iconst 0, 1) := by decide +kernel
theorem dX6_pick_74 : decode cX6_pick 74 = .ok (.istore 5, 2) := by decide +kernel
theorem dX6_pick_76 : decode cX6_pick 76 = .ok (.iload 5, 2) := by decide +kernel
theorem dX6_pick_78 : decode cX6_pick 78 = .ok (.aload_n 0, 1) := by decide +kernel
theorem dX6_pick_79 : decode cX6_pick 79 = .ok (.getfield 76, 3) := by decide +kernel
theorem dX6_pick_82 : decode cX6_pick 82 = .ok (.if_icmp .ge 67, 3) := by decide +kernel
theorem dX6_pick_85 : decode cX6_pick 85 = .ok (.aload_n 0, 1) := by decide +kernel
theorem dX6_pick_86 : decode cX6_pick 86 = .ok (.iload_n 2, 1) := by decide +kernel
theorem dX6_pick_87 : decode cX6_pick 87 = .ok (.iload 4, 2) := by decide +kernel
theorem dX6_pick_89 : decode cX6_pick 89 = .ok (.iload 5, 2) := by decide +kernel
theorem dX6_pick_91 : decode cX6_pick 91 = .ok (.invokevirtual 161, 3) := by decide +kernel
theorem dX6_pick_94 : decode cX6_pick 94 = .ok (.istore 6, 2) := by decide +kernel
theorem dX6_pick_96 : decode cX6_pick 96 = .ok (.aload_n 0, 1) := by decide +kernel
theorem dX6_pick_97 : decode cX6_pick 97 = .ok (.iload 6, 2) := by decide +kernel
theorem dX6_pick_99 : decode cX6_pick 99 = .ok (.ifCond .eq 7, 3) := by decide +kernel
theorem dX6_pick_102 : decode cX6_pick 102 = .ok (.iload_n 3, 1) := by decide +kernel
theorem dX6_pick_103 : decode cX6_pick 103 = .ok (.goto 4, 3) := by decide +kernel
theorem dX6_pick_106 : decode cX6_pick 106 = .ok (.iload_n 2, 1) := by decide +kernel
theorem dX6_pick_107 : decode cX6_pick 107 = .ok (.iload 6, 2) := by decide +kernel
theorem dX6_pick_109 : decode cX6_pick 109 = .ok (.ifCond .ne 15, 3) := by decide +kernel
theorem dX6_pick_112 : decode cX6_pick 112 = .ok (.aload_n 0, 1) := by decide +kernel
theorem dX6_pick_113 : decode cX6_pick 113 = .ok (.iload_n 3, 1) := by decide +kernel
theorem dX6_pick_114 : decode cX6_pick 114 = .ok (.iload 4, 2) := by decide +kernel
theorem dX6_pick_116 : decode cX6_pick 116 = .ok (.iload 5, 2) := by decide +kernel
theorem dX6_pick_118 : decode cX6_pick 118 = .ok (.invokevirtual 161, 3) := by decide +kernel
theorem dX6_pick_121 : decode cX6_pick 121 = .ok (.ifCond .eq 16, 3) := by decide +kernel
theorem dX6_pick_124 : decode cX6_pick 124 = .ok (.iload 6, 2) := by decide +kernel
theorem dX6_pick_126 : decode cX6_pick 126 = .ok (.ifCond .eq 7, 3) := by decide +kernel
theorem dX6_pick_129 : decode cX6_pick 129 = .ok (.iload_n 3, 1) := by decide +kernel
theorem dX6_pick_130 : decode cX6_pick 130 = .ok (.goto 8, 3) := by decide +kernel
theorem dX6_pick_133 : decode cX6_pick 133 = .ok (.iload_n 2, 1) := by decide +kernel
theorem dX6_pick_134 : decode cX6_pick 134 = .ok (.goto 4, 3) := by decide +kernel
theorem dX6_pick_137 : decode cX6_pick 137 = .ok (.iload_n 3, 1) := by decide +kernel
theorem dX6_pick_138 : decode cX6_pick 138 = .ok (.iload 5, 2) := by decide +kernel
theorem dX6_pick_140 : decode cX6_pick 140 = .ok (.invokevirtual 171, 3) := by decide +kernel
theorem dX6_pick_143 : decode cX6_pick 143 = .ok (.iinc 5 1, 3) := by decide +kernel
theorem dX6_pick_146 : decode cX6_pick 146 = .ok (.goto (-70), 3) := by decide +kernel
theorem dX6_pick_149 : decode cX6_pick 149 = .ok (.aload_n 0, 1) := by decide +kernel
theorem dX6_pick_150 : decode cX6_pick 150 = .ok (.iload_n 1, 1) := by decide +kernel
theorem dX6_pick_151 : decode cX6_pick 151 = .ok (.iconst (-1), 1) := by decide +kernel
theorem dX6_pick_152 : decode cX6_pick 152 = .ok (.invokevirtual 111, 3) := by decide +kernel
theorem dX6_pick_155 : decode cX6_pick 155 = .ok (.istore 5, 2) := by decide +kernel
theorem dX6_pick_157 : decode cX6_pick 157 = .ok (.aload_n 0, 1) := by decide +kernel
theorem dX6_pick_158 : decode cX6_pick 158 = .ok (.iload 5, 2) := by decide +kernel
theorem dX6_pick_160 : decode cX6_pick 160 = .ok (.invokevirtual 191, 3) := by decide +kernel
theorem dX6_pick_163 : decode cX6_pick 163 = .ok (.iload 5, 2) := by decide +kernel
theorem dX6_pick_165 : decode cX6_pick 165 = .ok (.ireturn, 1) := by decide +kernel
theorem dX6_quote_0 : decode cX6_quote 0 = .ok (.aload_n 0, 1) := by decide +kernel
theorem dX6_quote_1 : decode cX6_quote 1 = .ok (.aload_n 0, 1) := by decide +kernel
theorem dX6_quote_2 : decode cX6_quote 2 = .ok (.iload_n 1, 1) := by decide +kernel
theorem dX6_quote_3 : decode cX6_quote 3 = .ok (.invokevirtual 102, 3) := by decide +kernel
theorem dX6_quote_6 : decode cX6_quote 6 = .ok (.ifCond .ne 11, 3) := by decide +kernel
theorem dX6_quote_9 : decode cX6_quote 9 = .ok (.aload_n 0, 1) := by decide +kernel
theorem dX6_quote_10 : decode cX6_quote 10 = .ok (.iload_n 2, 1) := by decide +kernel
theorem dX6_quote_11 : decode cX6_quote 11 = .ok (.invokevirtual 102, 3) := by decide +kernel
theorem dX6_quote_14 : decode cX6_quote 14 = .ok (.ifCond .eq 7, 3) := by decide +kernel
theorem dX6_quote_17 : decode cX6_quote 17 = .ok (.iconst 1, 1) := by decide +kernel
theorem dX6_quote_18 : decode cX6_quote 18 = .ok (.goto 37, 3) := by decide +kernel
theorem dX6_quote_21 : decode cX6_quote 21 = .ok (.iload_n 1, 1) := by decide +kernel
theorem dX6_quote_22 : decode cX6_quote 22 = .ok (.iload_n 2, 1) := by decide +kernel
theorem dX6_quote_23 : decode cX6_quote 23 = .ok (.if_icmp .eq 14, 3) := by decide +kernel
theorem dX6_quote_26 : decode cX6_quote 26 = .ok (.iload_n 3, 1) := by decide +kernel
theorem dX6_quote_27 : decode cX6_quote 27 = .ok (.bipush (-99), 2) := by decide +kernel
theorem dX6_quote_29 : decode cX6_quote 29 = .ok (.bipush 99, 2) := by decide +kernel
theorem dX6_quote_31 : decode cX6_quote 31 = .ok (.invokestatic 79, 3) := by decide +kernel
theorem dX6_quote_34 : decode cX6_quote 34 = .ok (.ifCond .ne 7, 3) := by decide +kernel
theorem dX6_quote_37 : decode cX6_quote 37 = .ok (.iconst 2, 1) := by decide +kernel
theorem dX6_quote_38 : decode cX6_quote 38 = .ok (.goto 17, 3) := by decide +kernel
theorem dX6_quote_41 : decode cX6_quote 41 = .ok (.aload_n 0, 1) := by decide +kernel
theorem dX6_quote_42 : decode cX6_quote 42 = .ok (.getfield 175, 3) := by decide +kernel
theorem dX6_quote_45 : decode cX6_quote 45 = .ok (.bipush 10, 2) := by decide +kernel
theorem dX6_quote_47 : decode cX6_quote 47 = .ok (.if_icmp .ne 7, 3) := by decide +kernel
theorem dX6_quote_50 : decode cX6_quote 50 = .ok (.iconst 3, 1) := by decide +kernel
theorem dX6_quote_51 : decode cX6_quote 51 = .ok (.goto 4, 3) := by decide +kernel
theorem dX6_quote_54 : decode cX6_quote 54 = .ok (.iconst 0, 1) := by decide +kernel
theorem dX6_quote_55 : decode cX6_quote 55 = .ok (.invokevirtual 87, 3) := by decide +kernel
theorem dX6_quote_58 : decode cX6_quote 58 = .ok (.ifCond .eq 5, 3) := by decide +kernel
theorem dX6_quote_61 : decode cX6_quote 61 = .ok (.iconst 0, 1) := by decide +kernel
theorem dX6_quote_62 : decode cX6_quote 62 = .ok (.ireturn, 1) := by decide +kernel
theorem dX6_quote_63 : decode cX6_quote 63 = .ok (.aload_n 0, 1) := by decide +kernel
theorem dX6_quote_64 : decode cX6_quote 64 = .ok (.getfield 46, 3) := by decide +kernel
theorem dX6_quote_67 : decode cX6_quote 67 = .ok (.aload_n 0, 1) := by decide +kernel
theorem dX6_quote_68 : decode cX6_quote 68 = .ok (.getfield 175, 3) := by decide +kernel
theorem dX6_quote_71 : decode cX6_quote 71 = .ok (.iload_n 1, 1) := by decide +kernel
theorem dX6_quote_72 : decode cX6_quote 72 = .ok (.iastore, 1) := by decide +kernel
theorem dX6_quote_73 : decode cX6_quote 73 = .ok (.aload_n 0, 1) := by decide +kernel
theorem dX6_quote_74 : decode cX6_quote 74 = .ok (.getfield 49, 3) := by decide +kernel
theorem dX6_quote_77 : decode cX6_quote 77 = .ok (.aload_n 0, 1) := by decide +kernel
theorem dX6_quote_78 : decode cX6_quote 78 = .ok (.getfield 175, 3) := by decide +kernel
theorem dX6_quote_81 : decode cX6_quote 81 = .ok (.iload_n 2, 1) := by decide +kernel
theorem dX6_quote_82 : decode cX6_quote 82 = .ok (.iastore, 1) := by decide +kernel
theorem dX6_quote_83 : decode cX6_quote 83 = .ok (.aload_n 0, 1) := by decide +kernel
theorem dX6_quote_84 : decode cX6_quote 84 = .ok (.getfield 52, 3) := by decide +kernel
theorem dX6_quote_87 : decode cX6_quote 87 = .ok (.aload_n 0, 1) := by decide +kernel
theorem dX6_quote_88 : decode cX6_quote 88 = .ok (.getfield 175, 3) := by decide +kernel
theorem dX6_quote_91 : decode cX6_quote 91 = .ok (.iload_n 3, 1) := by decide +kernel
theorem dX6_quote_92 : decode cX6_quote 92 = .ok (.iastore, 1) := by decide +kernel
theorem dX6_quote_93 : decode cX6_quote 93 = .ok (.aload_n 0, 1) := by decide +kernel
theorem dX6_quote_94 : decode cX6_quote 94 = .ok (.dup, 1) := by decide +kernel
theorem dX6_quote_95 : decode cX6_quote 95 = .ok (.getfield 175, 3) := by decide +kernel
theorem dX6_quote_98 : decode cX6_quote 98 = .ok (.iconst 1, 1) := by decide +kernel
theorem dX6_quote_99 : decode cX6_quote 99 = .ok (.iadd, 1) := by decide +kernel
theorem dX6_quote_100 : decode cX6_quote 100 = .ok (.putfield 175, 3) := by decide +kernel
theorem dX6_quote_103 : decode cX6_quote 103 = .ok (.aload_n 0, 1) := by decide +kernel
theorem dX6_quote_104 : decode cX6_quote 104 = .ok (.getfield 175, 3) := by decide +kernel
theorem dX6_quote_107 : decode cX6_quote 107 = .ok (.iconst 1, 1) := by decide +kernel
theorem dX6_quote_108 : decode cX6_quote 108 = .ok (.isub, 1) := by decide +kernel
theorem dX6_quote_109 : decode cX6_quote 109 = .ok (.ireturn, 1) := by decide +kernel
theorem dX6_isBroken_0 : decode cX6_isBroken 0 = .ok (.aload_n 0, 1) := by decide +kernel
theorem dX6_isBroken_1 : decode cX6_isBroken 1 = .ok (.iload_n 1, 1) := by decide +kernel
theorem dX6_isBroken_2 : decode cX6_isBroken 2 = .ok (.iconst 0, 1) := by decide +kernel
theorem dX6_isBroken_3 : decode cX6_isBroken 3 = .ok (.aload_n 0, 1) := by decide +kernel
theorem dX6_isBroken_4 : decode cX6_isBroken 4 = .ok (.getfield 175, 3) := by decide +kernel
theorem dX6_isBroken_7 : decode cX6_isBroken 7 = .ok (.iconst 1, 1) := by decide +kernel
theorem dX6_isBroken_8 : decode cX6_isBroken 8 = .ok (.isub, 1) := by decide +kernel
theorem dX6_isBroken_9 : decode cX6_isBroken 9 = .ok (.invokestatic 79, 3) := by decide +kernel
theorem dX6_isBroken_12 : decode cX6_isBroken 12 = .ok (.ifCond .eq 11, 3) := by decide +kernel
theorem dX6_isBroken_15 : decode cX6_isBroken 15 = .ok (.aload_n 0, 1) := by decide +kernel
theorem dX6_isBroken_16 : decode cX6_isBroken 16 = .ok (.iload_n 2, 1) := by decide +kernel
theorem dX6_isBroken_17 : decode cX6_isBroken 17 = .ok (.invokevirtual 83, 3) := by decide +kernel
theorem dX6_isBroken_20 : decode cX6_isBroken 20 = .ok (.ifCond .eq 7, 3) := by decide +kernel
theorem dX6_isBroken_23 : decode cX6_isBroken 23 = .ok (.iconst 1, 1) := by decide +kernel
theorem dX6_isBroken_24 : decode cX6_isBroken 24 = .ok (.goto 4, 3) := by decide +kernel
theorem dX6_isBroken_27 : decode cX6_isBroken 27 = .ok (.iconst 0, 1) := by decide +kernel
theorem dX6_isBroken_28 : decode cX6_isBroken 28 = .ok (.invokevirtual 87, 3) := by decide +kernel
theorem dX6_isBroken_31 : decode cX6_isBroken 31 = .ok (.ifCond .ne 16, 3) := by decide +kernel
theorem dX6_isBroken_34 : decode cX6_isBroken 34 = .ok (.aload_n 0, 1) := by decide +kernel
theorem dX6_isBroken_35 : decode cX6_isBroken 35 = .ok (.iload_n 1, 1) := by decide +kernel
theorem dX6_isBroken_36 : decode cX6_isBroken 36 = .ok (.iload_n 2, 1) := by decide +kernel
theorem dX6_isBroken_37 : decode cX6_isBroken 37 = .ok (.invokevirtual 178, 3) := by decide +kernel
theorem dX6_isBroken_40 : decode cX6_isBroken 40 = .ok (.ifCond .eq 7, 3) := by decide +kernel
theorem dX6_isBroken_43 : decode cX6_isBroken 43 = .ok (.iconst 1, 1) := by decide +kernel
theorem dX6_isBroken_44 : decode cX6_isBroken 44 = .ok (.goto 4, 3) := by decide +kernel
theorem dX6_isBroken_47 : decode cX6_isBroken 47 = .ok (.iconst 0, 1) := by decide +kernel
theorem dX6_isBroken_48 : decode cX6_isBroken 48 = .ok (.ireturn, 1) := by decide +kernel
theorem dX6_broken_0 : decode cX6_broken 0 = .ok (.aload_n 0, 1) := by decide +kernel
theorem dX6_broken_1 : decode cX6_broken 1 = .ok (.iload_n 1, 1) := by decide +kernel
theorem dX6_broken_2 : decode cX6_broken 2 = .ok (.invokevirtual 105, 3) := by decide +kernel
theorem dX6_broken_5 : decode cX6_broken 5 = .ok (.ifCond .eq 5, 3) := by decide +kernel
theorem dX6_broken_8 : decode cX6_broken 8 = .ok (.iconst 0, 1) := by decide +kernel
theorem dX6_broken_9 : decode cX6_broken 9 = .ok (.ireturn, 1) := by decide +kernel
theorem dX6_broken_10 : decode cX6_broken 10 = .ok (.iconst 0, 1) := by decide +kernel
theorem dX6_broken_11 : decode cX6_broken 11 = .ok (.istore_n 2, 1) := by decide +kernel
theorem dX6_broken_12 : decode cX6_broken 12 = .ok (.iconst 0, 1) := by decide +kernel
theorem dX6_broken_13 : decode cX6_broken 13 = .ok (.istore_n 3, 1) := by decide +kernel
theorem dX6_broken_14 : decode cX6_broken 14 = .ok (.iload_n 3, 1) := by decide +kernel
theorem dX6_broken_15 : decode cX6_broken 15 = .ok (.aload_n 0, 1) := by decide +kernel
theorem dX6_broken_16 : decode cX6_broken 16 = .ok (.getfield 175, 3) := by decide +kernel
theorem dX6_broken_19 : decode cX6_broken 19 = .ok (.if_icmp .ge 26, 3) := by decide +kernel
theorem dX6_broken_22 : decode cX6_broken 22 = .ok (.iload_n 2, 1) := by decide +kernel
theorem dX6_broken_23 : decode cX6_broken 23 = .ok (.aload_n 0, 1) := by decide +kernel
theorem dX6_broken_24 : decode cX6_broken 24 = .ok (.iload_n 3, 1) := by decide +kernel
theorem dX6_broken_25 : decode cX6_broken 25 = .ok (.iload_n 1, 1) := by decide +kernel
theorem dX6_broken_26 : decode cX6_broken 26 = .ok (.invokevirtual 178, 3) := by decide +kernel
theorem dX6_broken_29 : decode cX6_broken 29 = .ok (.ifCond .eq 7, 3) := by decide +kernel
theorem dX6_broken_32 : decode cX6_broken 32 = .ok (.iconst 1, 1) := by decide +kernel
theorem dX6_broken_33 : decode cX6_broken 33 = .ok (.goto 4, 3) := by decide +kernel
theorem dX6_broken_36 : decode cX6_broken 36 = .ok (.iconst 0, 1) := by decide +kernel
theorem dX6_broken_37 : decode cX6_broken 37 = .ok (.iadd, 1) := by decide +kernel
theorem dX6_broken_38 : decode cX6_broken 38 = .ok (.istore_n 2, 1) := by decide +kernel
theorem dX6_broken_39 : decode cX6_broken 39 = .ok (.iinc 3 1, 3) := by decide +kernel
theorem dX6_broken_42 : decode cX6_broken 42 = .ok (.goto (-28), 3) := by decide +kernel
theorem dX6_broken_45 : decode cX6_broken 45 = .ok (.iload_n 2, 1) := by decide +kernel
theorem dX6_broken_46 : decode cX6_broken 46 = .ok (.ireturn, 1) := by decide +kernel
theorem dX6_sum_0 : decode cX6_sum 0 = .ok (.aload_n 0, 1) := by decide +kernel
theorem dX6_sum_1 : decode cX6_sum 1 = .ok (.iload_n 1, 1) := by decide +kernel
theorem dX6_sum_2 : decode cX6_sum 2 = .ok (.invokevirtual 105, 3) := by decide +kernel
theorem dX6_sum_5 : decode cX6_sum 5 = .ok (.ifCond .eq 5, 3) := by decide +kernel
theorem dX6_sum_8 : decode cX6_sum 8 = .ok (.lconst 0, 1) := by decide +kernel
theorem dX6_sum_9 : decode cX6_sum 9 = .ok (.lreturn, 1) := by decide +kernel
theorem dX6_sum_10 : decode cX6_sum 10 = .ok (.lconst 0, 1) := by decide +kernel
theorem dX6_sum_11 : decode cX6_sum 11 = .ok (.lstore_n 2, 1) := by decide +kernel
theorem dX6_sum_12 : decode cX6_sum 12 = .ok (.iconst 0, 1) := by decide +kernel
theorem dX6_sum_13 : decode cX6_sum 13 = .ok (.istore 4, 2) := by decide +kernel
theorem dX6_sum_15 : decode cX6_sum 15 = .ok (.iload 4, 2) := by decide +kernel
theorem dX6_sum_17 : decode cX6_sum 17 = .ok (.aload_n 0, 1) := by decide +kernel
theorem dX6_sum_18 : decode cX6_sum 18 = .ok (.getfield 76, 3) := by decide +kernel
theorem dX6_sum_21 : decode cX6_sum 21 = .ok (.if_icmp .ge 69, 3) := by decide +kernel
theorem dX6_sum_24 : decode cX6_sum 24 = .ok (.aload_n 0, 1) := by decide +kernel
theorem dX6_sum_25 : decode cX6_sum 25 = .ok (.aload_n 0, 1) := by decide +kernel
theorem dX6_sum_26 : decode cX6_sum 26 = .ok (.getfield 31, 3) := by decide +kernel
theorem dX6_sum_29 : decode cX6_sum 29 = .ok (.iload_n 1, 1) := by decide +kernel
theorem dX6_sum_30 : decode cX6_sum 30 = .ok (.iload 4, 2) := by decide +kernel
theorem dX6_sum_32 : decode cX6_sum 32 = .ok (.invokestatic 94, 3) := by decide +kernel
theorem dX6_sum_35 : decode cX6_sum 35 = .ok (.laload, 1) := by decide +kernel
theorem dX6_sum_36 : decode cX6_sum 36 = .ok (.aload_n 0, 1) := by decide +kernel
theorem dX6_sum_37 : decode cX6_sum 37 = .ok (.getfield 34, 3) := by decide +kernel
theorem dX6_sum_40 : decode cX6_sum 40 = .ok (.iload_n 1, 1) := by decide +kernel
theorem dX6_sum_41 : decode cX6_sum 41 = .ok (.iload 4, 2) := by decide +kernel
theorem dX6_sum_43 : decode cX6_sum 43 = .ok (.invokestatic 94, 3) := by decide +kernel
theorem dX6_sum_46 : decode cX6_sum 46 = .ok (.laload, 1) := by decide +kernel
theorem dX6_sum_47 : decode cX6_sum 47 = .ok (.iconst 0, 1) := by decide +kernel
theorem dX6_sum_48 : decode cX6_sum 48 = .ok (.invokevirtual 133, 3) := by decide +kernel
theorem dX6_sum_51 : decode cX6_sum 51 = .ok (.istore 5, 2) := by decide +kernel
theorem dX6_sum_53 : decode cX6_sum 53 = .ok (.lload_n 2, 1) := by decide +kernel
theorem dX6_sum_54 : decode cX6_sum 54 = .ok (.aload_n 0, 1) := by decide +kernel
theorem dX6_sum_55 : decode cX6_sum 55 = .ok (.iload_n 1, 1) := by decide +kernel
theorem dX6_sum_56 : decode cX6_sum 56 = .ok (.iload 4, 2) := by decide +kernel
theorem dX6_sum_58 : decode cX6_sum 58 = .ok (.invokevirtual 130, 3) := by decide +kernel
theorem dX6_sum_61 : decode cX6_sum 61 = .ok (.iconst 1, 1) := by decide +kernel
theorem dX6_sum_62 : decode cX6_sum 62 = .ok (.if_icmp .ne 19, 3) := by decide +kernel
theorem dX6_sum_65 : decode cX6_sum 65 = .ok (.iload 5, 2) := by decide +kernel
theorem dX6_sum_67 : decode cX6_sum 67 = .ok (.ifCond .le 14, 3) := by decide +kernel
theorem dX6_sum_70 : decode cX6_sum 70 = .ok (.aload_n 0, 1) := by decide +kernel
theorem dX6_sum_71 : decode cX6_sum 71 = .ok (.getfield 58, 3) := by decide +kernel
theorem dX6_sum_74 : decode cX6_sum 74 = .ok (.iload 5, 2) := by decide +kernel
theorem dX6_sum_76 : decode cX6_sum 76 = .ok (.iaload, 1) := by decide +kernel
theorem dX6_sum_77 : decode cX6_sum 77 = .ok (.i2l, 1) := by decide +kernel
theorem dX6_sum_78 : decode cX6_sum 78 = .ok (.goto 4, 3) := by decide +kernel
theorem dX6_sum_81 : decode cX6_sum 81 = .ok (.lconst 0, 1) := by decide +kernel
theorem dX6_sum_82 : decode cX6_sum 82 = .ok (.ladd, 1) := by decide +kernel
theorem dX6_sum_83 : decode cX6_sum 83 = .ok (.lstore_n 2, 1) := by decide +kernel
theorem dX6_sum_84 : decode cX6_sum 84 = .ok (.iinc 4 1, 3) := by decide +kernel
theorem dX6_sum_87 : decode cX6_sum 87 = .ok (.goto (-72), 3) := by decide +kernel
theorem dX6_sum_90 : decode cX6_sum 90 = .ok (.lload_n 2, 1) := by decide +kernel
theorem dX6_sum_91 : decode cX6_sum 91 = .ok (.lreturn, 1) := by decide +kernel
theorem dX6_conflictShare_0 : decode cX6_conflictShare 0 = .ok (.aload_n 0, 1) := by decide +kernel
theorem dX6_conflictShare_1 : decode cX6_conflictShare 1 = .ok (.iload_n 1, 1) := by decide +kernel
theorem dX6_conflictShare_2 : decode cX6_conflictShare 2 = .ok (.invokevirtual 105, 3) := by decide +kernel
theorem dX6_conflictShare_5 : decode cX6_conflictShare 5 = .ok (.ifCond .ne 22, 3) := by decide +kernel
theorem dX6_conflictShare_8 : decode cX6_conflictShare 8 = .ok (.aload_n 0, 1) := by decide +kernel
theorem dX6_conflictShare_9 : decode cX6_conflictShare 9 = .ok (.aload_n 0, 1) := by decide +kernel
theorem dX6_conflictShare_10 : decode cX6_conflictShare 10 = .ok (.getfield 76, 3) := by decide +kernel
theorem dX6_conflictShare_13 : decode cX6_conflictShare 13 = .ok (.ifCond .ne 7, 3) := by decide +kernel
theorem dX6_conflictShare_16 : decode cX6_conflictShare 16 = .ok (.iconst 2, 1) := by decide +kernel
theorem dX6_conflictShare_17 : decode cX6_conflictShare 17 = .ok (.goto 4, 3) := by decide +kernel
theorem dX6_conflictShare_20 : decode cX6_conflictShare 20 = .ok (.iconst 0, 1) := by decide +kernel
theorem dX6_conflictShare_21 : decode cX6_conflictShare 21 = .ok (.invokevirtual 87, 3) := by decide +kernel
theorem dX6_conflictShare_24 : decode cX6_conflictShare 24 = .ok (.ifCond .eq 7, 3) := by decide +kernel
theorem dX6_conflictShare_27 : decode cX6_conflictShare 27 = .ok (.fconst 0, 1) := by decide +kernel
theorem dX6_conflictShare_28 : decode cX6_conflictShare 28 = .ok (.goto 15, 3) := by decide +kernel
theorem dX6_conflictShare_31 : decode cX6_conflictShare 31 = .ok (.aload_n 0, 1) := by decide +kernel
theorem dX6_conflictShare_32 : decode cX6_conflictShare 32 = .ok (.iload_n 1, 1) := by decide +kernel
theorem dX6_conflictShare_33 : decode cX6_conflictShare 33 = .ok (.invokevirtual 158, 3) := by decide +kernel
theorem dX6_conflictShare_36 : decode cX6_conflictShare 36 = .ok (.i2f, 1) := by decide +kernel
theorem dX6_conflictShare_37 : decode cX6_conflictShare 37 = .ok (.aload_n 0, 1) := by decide +kernel
theorem dX6_conflictShare_38 : decode cX6_conflictShare 38 = .ok (.getfield 76, 3) := by decide +kernel
theorem dX6_conflictShare_41 : decode cX6_conflictShare 41 = .ok (.i2f, 1) := by decide +kernel
theorem dX6_conflictShare_42 : decode cX6_conflictShare 42 = .ok (.fdiv, 1) := by decide +kernel
theorem dX6_conflictShare_43 : decode cX6_conflictShare 43 = .ok (.freturn, 1) := by decide +kernel
theorem dL_addItem_0 : decode cL_addItem 0 = .ok (.aload_n 2, 1) := by decide +kernel
theorem dL_addItem_1 : decode cL_addItem 1 = .ok (.iconst 0, 1) := by decide +kernel
theorem dL_addItem_2 : decode cL_addItem 2 = .ok (.aload_n 0, 1) := by decide +kernel
theorem dL_addItem_3 : decode cL_addItem 3 = .ok (.iload_n 1, 1) := by decide +kernel
theorem dL_addItem_4 : decode cL_addItem 4 = .ok (.invokevirtual 7, 3) := by decide +kernel
theorem dL_addItem_7 : decode cL_addItem 7 = .ok (.i2l, 1) := by decide +kernel
theorem dL_addItem_8 : decode cL_addItem 8 = .ok (.lastore, 1) := by decide +kernel
theorem dL_addItem_9 : decode cL_addItem 9 = .ok (.goto 9, 3) := by decide +kernel
theorem dL_addItem_12 : decode cL_addItem 12 = .ok (.astore_n 3, 1) := by decide +kernel
theorem dL_addItem_13 : decode cL_addItem 13 = .ok (.iconst 1, 1) := by decide +kernel
theorem dL_addItem_14 : decode cL_addItem 14 = .ok (.ireturn, 1) := by decide +kernel
theorem dL_addItem_15 : decode cL_addItem 15 = .ok (.astore_n 3, 1) := by decide +kernel
theorem dL_addItem_16 : decode cL_addItem 16 = .ok (.iconst 2, 1) := by decide +kernel
theorem dL_addItem_17 : decode cL_addItem 17 = .ok (.ireturn, 1) := by decide +kernel
theorem dL_addItem_18 : decode cL_addItem 18 = .ok (.iconst 0, 1) := by decide +kernel
theorem dL_addItem_19 : decode cL_addItem 19 = .ok (.ireturn, 1) := by decide +kernel
theorem dL_kindOf_0 : decode cL_kindOf 0 = .ok (.aload_n 2, 1) := by decide +kernel
theorem dL_kindOf_1 : decode cL_kindOf 1 = .ok (.iconst 0, 1) := by decide +kernel
theorem dL_kindOf_2 : decode cL_kindOf 2 = .ok (.aload_n 0, 1) := by decide +kernel
theorem dL_kindOf_3 : decode cL_kindOf 3 = .ok (.iload_n 1, 1) := by decide +kernel
theorem dL_kindOf_4 : decode cL_kindOf 4 = .ok (.invokevirtual 17, 3) := by decide +kernel
theorem dL_kindOf_7 : decode cL_kindOf 7 = .ok (.i2l, 1) := by decide +kernel
theorem dL_kindOf_8 : decode cL_kindOf 8 = .ok (.lastore, 1) := by decide +kernel
theorem dL_kindOf_9 : decode cL_kindOf 9 = .ok (.goto 6, 3) := by decide +kernel
theorem dL_kindOf_12 : decode cL_kindOf 12 = .ok (.astore_n 3, 1) := by decide +kernel
theorem dL_kindOf_13 : decode cL_kindOf 13 = .ok (.iconst 1, 1) := by decide +kernel
theorem dL_kindOf_14 : decode cL_kindOf 14 = .ok (.ireturn, 1) := by decide +kernel
theorem dL_kindOf_15 : decode cL_kindOf 15 = .ok (.iconst 0, 1) := by decide +kernel
theorem dL_kindOf_16 : decode cL_kindOf 16 = .ok (.ireturn, 1) := by decide +kernel
theorem dL_addBranch_0 : decode cL_addBranch 0 = .ok (.aload_n 2, 1) := by decide +kernel
theorem dL_addBranch_1 : decode cL_addBranch 1 = .ok (.iconst 0, 1) := by decide +kernel
theorem dL_addBranch_2 : decode cL_addBranch 2 = .ok (.aload_n 0, 1) := by decide +kernel
theorem dL_addBranch_3 : decode cL_addBranch 3 = .ok (.iload_n 1, 1) := by decide +kernel
theorem dL_addBranch_4 : decode cL_addBranch 4 = .ok (.invokevirtual 23, 3) := by decide +kernel
theorem dL_addBranch_7 : decode cL_addBranch 7 = .ok (.i2l, 1) := by decide +kernel
theorem dL_addBranch_8 : decode cL_addBranch 8 = .ok (.lastore, 1) := by decide +kernel
theorem dL_addBranch_9 : decode cL_addBranch 9 = .ok (.goto 9, 3) := by decide +kernel
theorem dL_addBranch_12 : decode cL_addBranch 12 = .ok (.astore_n 3, 1) := by decide +kernel
theorem dL_addBranch_13 : decode cL_addBranch 13 = .ok (.iconst 1, 1) := by decide +kernel
theorem dL_addBranch_14 : decode cL_addBranch 14 = .ok (.ireturn, 1) := by decide +kernel
theorem dL_addBranch_15 : decode cL_addBranch 15 = .ok (.astore_n 3, 1) := by decide +kernel
theorem dL_addBranch_16 : decode cL_addBranch 16 = .ok (.iconst 2, 1) := by decide +kernel
theorem dL_addBranch_17 : decode cL_addBranch 17 = .ok (.ireturn, 1) := by decide +kernel
theorem dL_addBranch_18 : decode cL_addBranch 18 = .ok (.iconst 0, 1) := by decide +kernel
theorem dL_addBranch_19 : decode cL_addBranch 19 = .ok (.ireturn, 1) := by decide +kernel
theorem dL_head_0 : decode cL_head 0 = .ok (.aload_n 2, 1) := by decide +kernel
theorem dL_head_1 : decode cL_head 1 = .ok (.iconst 0, 1) := by decide +kernel
theorem dL_head_2 : decode cL_head 2 = .ok (.aload_n 0, 1) := by decide +kernel
theorem dL_head_3 : decode cL_head 3 = .ok (.iload_n 1, 1) := by decide +kernel
theorem dL_head_4 : decode cL_head 4 = .ok (.invokevirtual 27, 3) := by decide +kernel
theorem dL_head_7 : decode cL_head 7 = .ok (.i2l, 1) := by decide +kernel
theorem dL_head_8 : decode cL_head 8 = .ok (.lastore, 1) := by decide +kernel
theorem dL_head_9 : decode cL_head 9 = .ok (.goto 6, 3) := by decide +kernel
theorem dL_head_12 : decode cL_head 12 = .ok (.astore_n 3, 1) := by decide +kernel
theorem dL_head_13 : decode cL_head 13 = .ok (.iconst 1, 1) := by decide +kernel
theorem dL_head_14 : decode cL_head 14 = .ok (.ireturn, 1) := by decide +kernel
theorem dL_head_15 : decode cL_head 15 = .ok (.iconst 0, 1) := by decide +kernel
theorem dL_head_16 : decode cL_head 16 = .ok (.ireturn, 1) := by decide +kernel
theorem dL_set_0 : decode cL_set 0 = .ok (.aload 4, 2) := by decide +kernel
theorem dL_set_2 : decode cL_set 2 = .ok (.iconst 0, 1) := by decide +kernel
theorem dL_set_3 : decode cL_set 3 = .ok (.aload_n 0, 1) := by decide +kernel
theorem dL_set_4 : decode cL_set 4 = .ok (.iload_n 1, 1) := by decide +kernel
theorem dL_set_5 : decode cL_set 5 = .ok (.iload_n 2, 1) := by decide +kernel
theorem dL_set_6 : decode cL_set 6 = .ok (.iload_n 3, 1) := by decide +kernel
theorem dL_set_7 : decode cL_set 7 = .ok (.invokevirtual 30, 3) := by decide +kernel
theorem dL_set_10 : decode cL_set 10 = .ok (.i2l, 1) := by decide +kernel
theorem dL_set_11 : decode cL_set 11 = .ok (.lastore, 1) := by decide +kernel
theorem dL_set_12 : decode cL_set 12 = .ok (.goto 15, 3) := by decide +kernel
theorem dL_set_15 : decode cL_set 15 = .ok (.astore 5, 2) := by decide +kernel
theorem dL_set_17 : decode cL_set 17 = .ok (.iconst 1, 1) := by decide +kernel
theorem dL_set_18 : decode cL_set 18 = .ok (.ireturn, 1) := by decide +kernel
theorem dL_set_19 : decode cL_set 19 = .ok (.astore 5, 2) := by decide +kernel
theorem dL_set_21 : decode cL_set 21 = .ok (.iconst 2, 1) := by decide +kernel
theorem dL_set_22 : decode cL_set 22 = .ok (.ireturn, 1) := by decide +kernel
theorem dL_set_23 : decode cL_set 23 = .ok (.astore 5, 2) := by decide +kernel
theorem dL_set_25 : decode cL_set 25 = .ok (.iconst 3, 1) := by decide +kernel
theorem dL_set_26 : decode cL_set 26 = .ok (.ireturn, 1) := by decide +kernel
theorem dL_set_27 : decode cL_set 27 = .ok (.iconst 0, 1) := by decide +kernel
theorem dL_set_28 : decode cL_set 28 = .ok (.ireturn, 1) := by decide +kernel
theorem dL_clear_0 : decode cL_clear 0 = .ok (.aload_n 3, 1) := by decide +kernel
theorem dL_clear_1 : decode cL_clear 1 = .ok (.iconst 0, 1) := by decide +kernel
theorem dL_clear_2 : decode cL_clear 2 = .ok (.aload_n 0, 1) := by decide +kernel
theorem dL_clear_3 : decode cL_clear 3 = .ok (.iload_n 1, 1) := by decide +kernel
theorem dL_clear_4 : decode cL_clear 4 = .ok (.iload_n 2, 1) := by decide +kernel
theorem dL_clear_5 : decode cL_clear 5 = .ok (.invokevirtual 34, 3) := by decide +kernel
theorem dL_clear_8 : decode cL_clear 8 = .ok (.i2l, 1) := by decide +kernel
theorem dL_clear_9 : decode cL_clear 9 = .ok (.lastore, 1) := by decide +kernel
theorem dL_clear_10 : decode cL_clear 10 = .ok (.goto 15, 3) := by decide +kernel
theorem dL_clear_13 : decode cL_clear 13 = .ok (.astore 4, 2) := by decide +kernel
theorem dL_clear_15 : decode cL_clear 15 = .ok (.iconst 1, 1) := by decide +kernel
theorem dL_clear_16 : decode cL_clear 16 = .ok (.ireturn, 1) := by decide +kernel
theorem dL_clear_17 : decode cL_clear 17 = .ok (.astore 4, 2) := by decide +kernel
theorem dL_clear_19 : decode cL_clear 19 = .ok (.iconst 2, 1) := by decide +kernel
theorem dL_clear_20 : decode cL_clear 20 = .ok (.ireturn, 1) := by decide +kernel
theorem dL_clear_21 : decode cL_clear 21 = .ok (.astore 4, 2) := by decide +kernel
theorem dL_clear_23 : decode cL_clear 23 = .ok (.iconst 3, 1) := by decide +kernel
theorem dL_clear_24 : decode cL_clear 24 = .ok (.ireturn, 1) := by decide +kernel
theorem dL_clear_25 : decode cL_clear 25 = .ok (.iconst 0, 1) := by decide +kernel
theorem dL_clear_26 : decode cL_clear 26 = .ok (.ireturn, 1) := by decide +kernel
theorem dL_settle_0 : decode cL_settle 0 = .ok (.aload 4, 2) := by decide +kernel
theorem dL_settle_2 : decode cL_settle 2 = .ok (.iconst 0, 1) := by decide +kernel
theorem dL_settle_3 : decode cL_settle 3 = .ok (.aload_n 0, 1) := by decide +kernel
theorem dL_settle_4 : decode cL_settle 4 = .ok (.iload_n 1, 1) := by decide +kernel
theorem dL_settle_5 : decode cL_settle 5 = .ok (.iload_n 2, 1) := by decide +kernel
theorem dL_settle_6 : decode cL_settle 6 = .ok (.iload_n 3, 1) := by decide +kernel
theorem dL_settle_7 : decode cL_settle 7 = .ok (.invokevirtual 40, 3) := by decide +kernel
theorem dL_settle_10 : decode cL_settle 10 = .ok (.i2l, 1) := by decide +kernel
theorem dL_settle_11 : decode cL_settle 11 = .ok (.lastore, 1) := by decide +kernel
theorem dL_settle_12 : decode cL_settle 12 = .ok (.goto 19, 3) := by decide +kernel
theorem dL_settle_15 : decode cL_settle 15 = .ok (.astore 5, 2) := by decide +kernel
theorem dL_settle_17 : decode cL_settle 17 = .ok (.iconst 1, 1) := by decide +kernel
theorem dL_settle_18 : decode cL_settle 18 = .ok (.ireturn, 1) := by decide +kernel
theorem dL_settle_19 : decode cL_settle 19 = .ok (.astore 5, 2) := by decide +kernel
theorem dL_settle_21 : decode cL_settle 21 = .ok (.iconst 2, 1) := by decide +kernel
theorem dL_settle_22 : decode cL_settle 22 = .ok (.ireturn, 1) := by decide +kernel
theorem dL_settle_23 : decode cL_settle 23 = .ok (.astore 5, 2) := by decide +kernel
theorem dL_settle_25 : decode cL_settle 25 = .ok (.iconst 3, 1) := by decide +kernel
theorem dL_settle_26 : decode cL_settle 26 = .ok (.ireturn, 1) := by decide +kernel
theorem dL_settle_27 : decode cL_settle 27 = .ok (.astore 5, 2) := by decide +kernel
theorem dL_settle_29 : decode cL_settle 29 = .ok (.iconst 4, 1) := by decide +kernel
theorem dL_settle_30 : decode cL_settle 30 = .ok (.ireturn, 1) := by decide +kernel
theorem dL_settle_31 : decode cL_settle 31 = .ok (.iconst 0, 1) := by decide +kernel
theorem dL_settle_32 : decode cL_settle 32 = .ok (.ireturn, 1) := by decide +kernel
theorem dL_tag_0 : decode cL_tag 0 = .ok (.aload_n 3, 1) := by decide +kernel
theorem dL_tag_1 : decode cL_tag 1 = .ok (.iconst 0, 1) := by decide +kernel
theorem dL_tag_2 : decode cL_tag 2 = .ok (.aload_n 0, 1) := by decide +kernel
theorem dL_tag_3 : decode cL_tag 3 = .ok (.iload_n 1, 1) := by decide +kernel
theorem dL_tag_4 : decode cL_tag 4 = .ok (.iload_n 2, 1) := by decide +kernel
theorem dL_tag_5 : decode cL_tag 5 = .ok (.invokevirtual 45, 3) := by decide +kernel
theorem dL_tag_8 : decode cL_tag 8 = .ok (.i2l, 1) := by decide +kernel
theorem dL_tag_9 : decode cL_tag 9 = .ok (.lastore, 1) := by decide +kernel
theorem dL_tag_10 : decode cL_tag 10 = .ok (.goto 11, 3) := by decide +kernel
theorem dL_tag_13 : decode cL_tag 13 = .ok (.astore 4, 2) := by decide +kernel
theorem dL_tag_15 : decode cL_tag 15 = .ok (.iconst 1, 1) := by decide +kernel
theorem dL_tag_16 : decode cL_tag 16 = .ok (.ireturn, 1) := by decide +kernel
theorem dL_tag_17 : decode cL_tag 17 = .ok (.astore 4, 2) := by decide +kernel
theorem dL_tag_19 : decode cL_tag 19 = .ok (.iconst 2, 1) := by decide +kernel
theorem dL_tag_20 : decode cL_tag 20 = .ok (.ireturn, 1) := by decide +kernel
theorem dL_tag_21 : decode cL_tag 21 = .ok (.iconst 0, 1) := by decide +kernel
theorem dL_tag_22 : decode cL_tag 22 = .ok (.ireturn, 1) := by decide +kernel
theorem dL_tagged_0 : decode cL_tagged 0 = .ok (.aload_n 2, 1) := by decide +kernel
theorem dL_tagged_1 : decode cL_tagged 1 = .ok (.iconst 0, 1) := by decide +kernel
theorem dL_tagged_2 : decode cL_tagged 2 = .ok (.aload_n 0, 1) := by decide +kernel
theorem dL_tagged_3 : decode cL_tagged 3 = .ok (.iload_n 1, 1) := by decide +kernel
theorem dL_tagged_4 : decode cL_tagged 4 = .ok (.invokevirtual 48, 3) := by decide +kernel
theorem dL_tagged_7 : decode cL_tagged 7 = .ok (.i2l, 1) := by decide +kernel
theorem dL_tagged_8 : decode cL_tagged 8 = .ok (.lastore, 1) := by decide +kernel
theorem dL_tagged_9 : decode cL_tagged 9 = .ok (.goto 9, 3) := by decide +kernel
theorem dL_tagged_12 : decode cL_tagged 12 = .ok (.astore_n 3, 1) := by decide +kernel
theorem dL_tagged_13 : decode cL_tagged 13 = .ok (.iconst 1, 1) := by decide +kernel
theorem dL_tagged_14 : decode cL_tagged 14 = .ok (.ireturn, 1) := by decide +kernel
theorem dL_tagged_15 : decode cL_tagged 15 = .ok (.astore_n 3, 1) := by decide +kernel
theorem dL_tagged_16 : decode cL_tagged 16 = .ok (.iconst 2, 1) := by decide +kernel
theorem dL_tagged_17 : decode cL_tagged 17 = .ok (.ireturn, 1) := by decide +kernel
theorem dL_tagged_18 : decode cL_tagged 18 = .ok (.iconst 0, 1) := by decide +kernel
theorem dL_tagged_19 : decode cL_tagged 19 = .ok (.ireturn, 1) := by decide +kernel
theorem dL_parents_0 : decode cL_parents 0 = .ok (.aload_n 2, 1) := by decide +kernel
theorem dL_parents_1 : decode cL_parents 1 = .ok (.iconst 0, 1) := by decide +kernel
theorem dL_parents_2 : decode cL_parents 2 = .ok (.aload_n 0, 1) := by decide +kernel
theorem dL_parents_3 : decode cL_parents 3 = .ok (.iload_n 1, 1) := by decide +kernel
theorem dL_parents_4 : decode cL_parents 4 = .ok (.invokevirtual 51, 3) := by decide +kernel
theorem dL_parents_7 : decode cL_parents 7 = .ok (.i2l, 1) := by decide +kernel
theorem dL_parents_8 : decode cL_parents 8 = .ok (.lastore, 1) := by decide +kernel
theorem dL_parents_9 : decode cL_parents 9 = .ok (.goto 6, 3) := by decide +kernel
theorem dL_parents_12 : decode cL_parents 12 = .ok (.astore_n 3, 1) := by decide +kernel
theorem dL_parents_13 : decode cL_parents 13 = .ok (.iconst 1, 1) := by decide +kernel
theorem dL_parents_14 : decode cL_parents 14 = .ok (.ireturn, 1) := by decide +kernel
theorem dL_parents_15 : decode cL_parents 15 = .ok (.iconst 0, 1) := by decide +kernel
theorem dL_parents_16 : decode cL_parents 16 = .ok (.ireturn, 1) := by decide +kernel
theorem dL_parentAt_0 : decode cL_parentAt 0 = .ok (.aload_n 3, 1) := by decide +kernel
theorem dL_parentAt_1 : decode cL_parentAt 1 = .ok (.iconst 0, 1) := by decide +kernel
theorem dL_parentAt_2 : decode cL_parentAt 2 = .ok (.aload_n 0, 1) := by decide +kernel
theorem dL_parentAt_3 : decode cL_parentAt 3 = .ok (.iload_n 1, 1) := by decide +kernel
theorem dL_parentAt_4 : decode cL_parentAt 4 = .ok (.iload_n 2, 1) := by decide +kernel
theorem dL_parentAt_5 : decode cL_parentAt 5 = .ok (.invokevirtual 54, 3) := by decide +kernel
theorem dL_parentAt_8 : decode cL_parentAt 8 = .ok (.i2l, 1) := by decide +kernel
theorem dL_parentAt_9 : decode cL_parentAt 9 = .ok (.lastore, 1) := by decide +kernel
theorem dL_parentAt_10 : decode cL_parentAt 10 = .ok (.goto 11, 3) := by decide +kernel
theorem dL_parentAt_13 : decode cL_parentAt 13 = .ok (.astore 4, 2) := by decide +kernel
theorem dL_parentAt_15 : decode cL_parentAt 15 = .ok (.iconst 1, 1) := by decide +kernel
theorem dL_parentAt_16 : decode cL_parentAt 16 = .ok (.ireturn, 1) := by decide +kernel
theorem dL_parentAt_17 : decode cL_parentAt 17 = .ok (.astore 4, 2) := by decide +kernel
theorem dL_parentAt_19 : decode cL_parentAt 19 = .ok (.iconst 2, 1) := by decide +kernel
theorem dL_parentAt_20 : decode cL_parentAt 20 = .ok (.ireturn, 1) := by decide +kernel
theorem dL_parentAt_21 : decode cL_parentAt 21 = .ok (.iconst 0, 1) := by decide +kernel
theorem dL_parentAt_22 : decode cL_parentAt 22 = .ok (.ireturn, 1) := by decide +kernel
theorem dL_isAncestor_0 : decode cL_isAncestor 0 = .ok (.aload_n 3, 1) := by decide +kernel
theorem dL_isAncestor_1 : decode cL_isAncestor 1 = .ok (.iconst 0, 1) := by decide +kernel
theorem dL_isAncestor_2 : decode cL_isAncestor 2 = .ok (.aload_n 0, 1) := by decide +kernel
theorem dL_isAncestor_3 : decode cL_isAncestor 3 = .ok (.iload_n 1, 1) := by decide +kernel
theorem dL_isAncestor_4 : decode cL_isAncestor 4 = .ok (.iload_n 2, 1) := by decide +kernel
theorem dL_isAncestor_5 : decode cL_isAncestor 5 = .ok (.invokevirtual 57, 3) := by decide +kernel
theorem dL_isAncestor_8 : decode cL_isAncestor 8 = .ok (.ifCond .eq 7, 3) := by decide +kernel
theorem dL_isAncestor_11 : decode cL_isAncestor 11 = .ok (.lconst 1, 1) := by decide +kernel
theorem dL_isAncestor_12 : decode cL_isAncestor 12 = .ok (.goto 4, 3) := by decide +kernel
theorem dL_isAncestor_15 : decode cL_isAncestor 15 = .ok (.lconst 0, 1) := by decide +kernel
theorem dL_isAncestor_16 : decode cL_isAncestor 16 = .ok (.lastore, 1) := by decide +kernel
theorem dL_isAncestor_17 : decode cL_isAncestor 17 = .ok (.goto 7, 3) := by decide +kernel
theorem dL_isAncestor_20 : decode cL_isAncestor 20 = .ok (.astore 4, 2) := by decide +kernel
theorem dL_isAncestor_22 : decode cL_isAncestor 22 = .ok (.iconst 1, 1) := by decide +kernel
theorem dL_isAncestor_23 : decode cL_isAncestor 23 = .ok (.ireturn, 1) := by decide +kernel
theorem dL_isAncestor_24 : decode cL_isAncestor 24 = .ok (.iconst 0, 1) := by decide +kernel
theorem dL_isAncestor_25 : decode cL_isAncestor 25 = .ok (.ireturn, 1) := by decide +kernel
theorem dL_base_0 : decode cL_base 0 = .ok (.aload_n 3, 1) := by decide +kernel
theorem dL_base_1 : decode cL_base 1 = .ok (.iconst 0, 1) := by decide +kernel
theorem dL_base_2 : decode cL_base 2 = .ok (.aload_n 0, 1) := by decide +kernel
theorem dL_base_3 : decode cL_base 3 = .ok (.iload_n 1, 1) := by decide +kernel
theorem dL_base_4 : decode cL_base 4 = .ok (.iload_n 2, 1) := by decide +kernel
theorem dL_base_5 : decode cL_base 5 = .ok (.invokevirtual 61, 3) := by decide +kernel
theorem dL_base_8 : decode cL_base 8 = .ok (.i2l, 1) := by decide +kernel
theorem dL_base_9 : decode cL_base 9 = .ok (.lastore, 1) := by decide +kernel
theorem dL_base_10 : decode cL_base 10 = .ok (.goto 7, 3) := by decide +kernel
theorem dL_base_13 : decode cL_base 13 = .ok (.astore 4, 2) := by decide +kernel
theorem dL_base_15 : decode cL_base 15 = .ok (.iconst 1, 1) := by decide +kernel
theorem dL_base_16 : decode cL_base 16 = .ok (.ireturn, 1) := by decide +kernel
theorem dL_base_17 : decode cL_base 17 = .ok (.iconst 0, 1) := by decide +kernel
theorem dL_base_18 : decode cL_base 18 = .ok (.ireturn, 1) := by decide +kernel
theorem dL_sides_0 : decode cL_sides 0 = .ok (.aload_n 3, 1) := by decide +kernel
theorem dL_sides_1 : decode cL_sides 1 = .ok (.iconst 0, 1) := by decide +kernel
theorem dL_sides_2 : decode cL_sides 2 = .ok (.aload_n 0, 1) := by decide +kernel
theorem dL_sides_3 : decode cL_sides 3 = .ok (.iload_n 1, 1) := by decide +kernel
theorem dL_sides_4 : decode cL_sides 4 = .ok (.iload_n 2, 1) := by decide +kernel
theorem dL_sides_5 : decode cL_sides 5 = .ok (.invokevirtual 64, 3) := by decide +kernel
theorem dL_sides_8 : decode cL_sides 8 = .ok (.i2l, 1) := by decide +kernel
theorem dL_sides_9 : decode cL_sides 9 = .ok (.lastore, 1) := by decide +kernel
theorem dL_sides_10 : decode cL_sides 10 = .ok (.goto 7, 3) := by decide +kernel
theorem dL_sides_13 : decode cL_sides 13 = .ok (.astore 4, 2) := by decide +kernel
theorem dL_sides_15 : decode cL_sides 15 = .ok (.iconst 1, 1) := by decide +kernel
theorem dL_sides_16 : decode cL_sides 16 = .ok (.ireturn, 1) := by decide +kernel
theorem dL_sides_17 : decode cL_sides 17 = .ok (.iconst 0, 1) := by decide +kernel
theorem dL_sides_18 : decode cL_sides 18 = .ok (.ireturn, 1) := by decide +kernel
theorem dL_sideAt_0 : decode cL_sideAt 0 = .ok (.aload 4, 2) := by decide +kernel
theorem dL_sideAt_2 : decode cL_sideAt 2 = .ok (.iconst 0, 1) := by decide +kernel
theorem dL_sideAt_3 : decode cL_sideAt 3 = .ok (.aload_n 0, 1) := by decide +kernel
theorem dL_sideAt_4 : decode cL_sideAt 4 = .ok (.iload_n 1, 1) := by decide +kernel
theorem dL_sideAt_5 : decode cL_sideAt 5 = .ok (.iload_n 2, 1) := by decide +kernel
theorem dL_sideAt_6 : decode cL_sideAt 6 = .ok (.iload_n 3, 1) := by decide +kernel
theorem dL_sideAt_7 : decode cL_sideAt 7 = .ok (.invokevirtual 67, 3) := by decide +kernel
theorem dL_sideAt_10 : decode cL_sideAt 10 = .ok (.i2l, 1) := by decide +kernel
theorem dL_sideAt_11 : decode cL_sideAt 11 = .ok (.lastore, 1) := by decide +kernel
theorem dL_sideAt_12 : decode cL_sideAt 12 = .ok (.goto 11, 3) := by decide +kernel
theorem dL_sideAt_15 : decode cL_sideAt 15 = .ok (.astore 5, 2) := by decide +kernel
theorem dL_sideAt_17 : decode cL_sideAt 17 = .ok (.iconst 1, 1) := by decide +kernel
theorem dL_sideAt_18 : decode cL_sideAt 18 = .ok (.ireturn, 1) := by decide +kernel
theorem dL_sideAt_19 : decode cL_sideAt 19 = .ok (.astore 5, 2) := by decide +kernel
theorem dL_sideAt_21 : decode cL_sideAt 21 = .ok (.iconst 2, 1) := by decide +kernel
theorem dL_sideAt_22 : decode cL_sideAt 22 = .ok (.ireturn, 1) := by decide +kernel
theorem dL_sideAt_23 : decode cL_sideAt 23 = .ok (.iconst 0, 1) := by decide +kernel
theorem dL_sideAt_24 : decode cL_sideAt 24 = .ok (.ireturn, 1) := by decide +kernel
theorem dL_sideByLog_0 : decode cL_sideByLog 0 = .ok (.aload 4, 2) := by decide +kernel
theorem dL_sideByLog_2 : decode cL_sideByLog 2 = .ok (.iconst 0, 1) := by decide +kernel
theorem dL_sideByLog_3 : decode cL_sideByLog 3 = .ok (.aload_n 0, 1) := by decide +kernel
theorem dL_sideByLog_4 : decode cL_sideByLog 4 = .ok (.iload_n 1, 1) := by decide +kernel
theorem dL_sideByLog_5 : decode cL_sideByLog 5 = .ok (.iload_n 2, 1) := by decide +kernel
theorem dL_sideByLog_6 : decode cL_sideByLog 6 = .ok (.iload_n 3, 1) := by decide +kernel
theorem dL_sideByLog_7 : decode cL_sideByLog 7 = .ok (.invokevirtual 70, 3) := by decide +kernel
theorem dL_sideByLog_10 : decode cL_sideByLog 10 = .ok (.i2l, 1) := by decide +kernel
theorem dL_sideByLog_11 : decode cL_sideByLog 11 = .ok (.lastore, 1) := by decide +kernel
theorem dL_sideByLog_12 : decode cL_sideByLog 12 = .ok (.goto 11, 3) := by decide +kernel
theorem dL_sideByLog_15 : decode cL_sideByLog 15 = .ok (.astore 5, 2) := by decide +kernel
theorem dL_sideByLog_17 : decode cL_sideByLog 17 = .ok (.iconst 1, 1) := by decide +kernel
theorem dL_sideByLog_18 : decode cL_sideByLog 18 = .ok (.ireturn, 1) := by decide +kernel
theorem dL_sideByLog_19 : decode cL_sideByLog 19 = .ok (.astore 5, 2) := by decide +kernel
theorem dL_sideByLog_21 : decode cL_sideByLog 21 = .ok (.iconst 2, 1) := by decide +kernel
theorem dL_sideByLog_22 : decode cL_sideByLog 22 = .ok (.ireturn, 1) := by decide +kernel
theorem dL_sideByLog_23 : decode cL_sideByLog 23 = .ok (.iconst 0, 1) := by decide +kernel
theorem dL_sideByLog_24 : decode cL_sideByLog 24 = .ok (.ireturn, 1) := by decide +kernel
theorem dL_conflicts_0 : decode cL_conflicts 0 = .ok (.aload_n 2, 1) := by decide +kernel
theorem dL_conflicts_1 : decode cL_conflicts 1 = .ok (.iconst 0, 1) := by decide +kernel
theorem dL_conflicts_2 : decode cL_conflicts 2 = .ok (.aload_n 0, 1) := by decide +kernel
theorem dL_conflicts_3 : decode cL_conflicts 3 = .ok (.iload_n 1, 1) := by decide +kernel
theorem dL_conflicts_4 : decode cL_conflicts 4 = .ok (.invokevirtual 73, 3) := by decide +kernel
theorem dL_conflicts_7 : decode cL_conflicts 7 = .ok (.i2l, 1) := by decide +kernel
theorem dL_conflicts_8 : decode cL_conflicts 8 = .ok (.lastore, 1) := by decide +kernel
theorem dL_conflicts_9 : decode cL_conflicts 9 = .ok (.goto 6, 3) := by decide +kernel
theorem dL_conflicts_12 : decode cL_conflicts 12 = .ok (.astore_n 3, 1) := by decide +kernel
theorem dL_conflicts_13 : decode cL_conflicts 13 = .ok (.iconst 1, 1) := by decide +kernel
theorem dL_conflicts_14 : decode cL_conflicts 14 = .ok (.ireturn, 1) := by decide +kernel
theorem dL_conflicts_15 : decode cL_conflicts 15 = .ok (.iconst 0, 1) := by decide +kernel
theorem dL_conflicts_16 : decode cL_conflicts 16 = .ok (.ireturn, 1) := by decide +kernel
theorem dL_firstConflict_0 : decode cL_firstConflict 0 = .ok (.aload_n 2, 1) := by decide +kernel
theorem dL_firstConflict_1 : decode cL_firstConflict 1 = .ok (.iconst 0, 1) := by decide +kernel
theorem dL_firstConflict_2 : decode cL_firstConflict 2 = .ok (.aload_n 0, 1) := by decide +kernel
theorem dL_firstConflict_3 : decode cL_firstConflict 3 = .ok (.iload_n 1, 1) := by decide +kernel
theorem dL_firstConflict_4 : decode cL_firstConflict 4 = .ok (.invokevirtual 76, 3) := by decide +kernel
theorem dL_firstConflict_7 : decode cL_firstConflict 7 = .ok (.i2l, 1) := by decide +kernel
theorem dL_firstConflict_8 : decode cL_firstConflict 8 = .ok (.lastore, 1) := by decide +kernel
theorem dL_firstConflict_9 : decode cL_firstConflict 9 = .ok (.goto 9, 3) := by decide +kernel
theorem dL_firstConflict_12 : decode cL_firstConflict 12 = .ok (.astore_n 3, 1) := by decide +kernel
theorem dL_firstConflict_13 : decode cL_firstConflict 13 = .ok (.iconst 1, 1) := by decide +kernel
theorem dL_firstConflict_14 : decode cL_firstConflict 14 = .ok (.ireturn, 1) := by decide +kernel
theorem dL_firstConflict_15 : decode cL_firstConflict 15 = .ok (.astore_n 3, 1) := by decide +kernel
theorem dL_firstConflict_16 : decode cL_firstConflict 16 = .ok (.iconst 2, 1) := by decide +kernel
theorem dL_firstConflict_17 : decode cL_firstConflict 17 = .ok (.ireturn, 1) := by decide +kernel
theorem dL_firstConflict_18 : decode cL_firstConflict 18 = .ok (.iconst 0, 1) := by decide +kernel
theorem dL_firstConflict_19 : decode cL_firstConflict 19 = .ok (.ireturn, 1) := by decide +kernel
theorem dL_differences_0 : decode cL_differences 0 = .ok (.aload_n 3, 1) := by decide +kernel
theorem dL_differences_1 : decode cL_differences 1 = .ok (.iconst 0, 1) := by decide +kernel
theorem dL_differences_2 : decode cL_differences 2 = .ok (.aload_n 0, 1) := by decide +kernel
theorem dL_differences_3 : decode cL_differences 3 = .ok (.iload_n 1, 1) := by decide +kernel
theorem dL_differences_4 : decode cL_differences 4 = .ok (.iload_n 2, 1) := by decide +kernel
theorem dL_differences_5 : decode cL_differences 5 = .ok (.invokevirtual 79, 3) := by decide +kernel
theorem dL_differences_8 : decode cL_differences 8 = .ok (.i2l, 1) := by decide +kernel
theorem dL_differences_9 : decode cL_differences 9 = .ok (.lastore, 1) := by decide +kernel
theorem dL_differences_10 : decode cL_differences 10 = .ok (.goto 7, 3) := by decide +kernel
theorem dL_differences_13 : decode cL_differences 13 = .ok (.astore 4, 2) := by decide +kernel
theorem dL_differences_15 : decode cL_differences 15 = .ok (.iconst 1, 1) := by decide +kernel
theorem dL_differences_16 : decode cL_differences 16 = .ok (.ireturn, 1) := by decide +kernel
theorem dL_differences_17 : decode cL_differences 17 = .ok (.iconst 0, 1) := by decide +kernel
theorem dL_differences_18 : decode cL_differences 18 = .ok (.ireturn, 1) := by decide +kernel
theorem dL_blame_0 : decode cL_blame 0 = .ok (.aload_n 3, 1) := by decide +kernel
theorem dL_blame_1 : decode cL_blame 1 = .ok (.iconst 0, 1) := by decide +kernel
theorem dL_blame_2 : decode cL_blame 2 = .ok (.aload_n 0, 1) := by decide +kernel
theorem dL_blame_3 : decode cL_blame 3 = .ok (.iload_n 1, 1) := by decide +kernel
theorem dL_blame_4 : decode cL_blame 4 = .ok (.iload_n 2, 1) := by decide +kernel
theorem dL_blame_5 : decode cL_blame 5 = .ok (.invokevirtual 82, 3) := by decide +kernel
theorem dL_blame_8 : decode cL_blame 8 = .ok (.i2l, 1) := by decide +kernel
theorem dL_blame_9 : decode cL_blame 9 = .ok (.lastore, 1) := by decide +kernel
theorem dL_blame_10 : decode cL_blame 10 = .ok (.goto 7, 3) := by decide +kernel
theorem dL_blame_13 : decode cL_blame 13 = .ok (.astore 4, 2) := by decide +kernel
theorem dL_blame_15 : decode cL_blame 15 = .ok (.iconst 1, 1) := by decide +kernel
theorem dL_blame_16 : decode cL_blame 16 = .ok (.ireturn, 1) := by decide +kernel
theorem dL_blame_17 : decode cL_blame 17 = .ok (.iconst 0, 1) := by decide +kernel
theorem dL_blame_18 : decode cL_blame 18 = .ok (.ireturn, 1) := by decide +kernel
theorem dL_blamed_0 : decode cL_blamed 0 = .ok (.aload_n 3, 1) := by decide +kernel
theorem dL_blamed_1 : decode cL_blamed 1 = .ok (.iconst 0, 1) := by decide +kernel
theorem dL_blamed_2 : decode cL_blamed 2 = .ok (.aload_n 0, 1) := by decide +kernel
theorem dL_blamed_3 : decode cL_blamed 3 = .ok (.iload_n 1, 1) := by decide +kernel
theorem dL_blamed_4 : decode cL_blamed 4 = .ok (.iload_n 2, 1) := by decide +kernel
theorem dL_blamed_5 : decode cL_blamed 5 = .ok (.invokevirtual 85, 3) := by decide +kernel
theorem dL_blamed_8 : decode cL_blamed 8 = .ok (.i2l, 1) := by decide +kernel
theorem dL_blamed_9 : decode cL_blamed 9 = .ok (.lastore, 1) := by decide +kernel
theorem dL_blamed_10 : decode cL_blamed 10 = .ok (.goto 7, 3) := by decide +kernel
theorem dL_blamed_13 : decode cL_blamed 13 = .ok (.astore 4, 2) := by decide +kernel
theorem dL_blamed_15 : decode cL_blamed 15 = .ok (.iconst 1, 1) := by decide +kernel
theorem dL_blamed_16 : decode cL_blamed 16 = .ok (.ireturn, 1) := by decide +kernel
theorem dL_blamed_17 : decode cL_blamed 17 = .ok (.iconst 0, 1) := by decide +kernel
theorem dL_blamed_18 : decode cL_blamed 18 = .ok (.ireturn, 1) := by decide +kernel
theorem dL_merge_0 : decode cL_merge 0 = .ok (.aload_n 3, 1) := by decide +kernel
theorem dL_merge_1 : decode cL_merge 1 = .ok (.iconst 0, 1) := by decide +kernel
theorem dL_merge_2 : decode cL_merge 2 = .ok (.aload_n 0, 1) := by decide +kernel
theorem dL_merge_3 : decode cL_merge 3 = .ok (.iload_n 1, 1) := by decide +kernel
theorem dL_merge_4 : decode cL_merge 4 = .ok (.iload_n 2, 1) := by decide +kernel
theorem dL_merge_5 : decode cL_merge 5 = .ok (.invokevirtual 88, 3) := by decide +kernel
theorem dL_merge_8 : decode cL_merge 8 = .ok (.i2l, 1) := by decide +kernel
theorem dL_merge_9 : decode cL_merge 9 = .ok (.lastore, 1) := by decide +kernel
theorem dL_merge_10 : decode cL_merge 10 = .ok (.goto 15, 3) := by decide +kernel
theorem dL_merge_13 : decode cL_merge 13 = .ok (.astore 4, 2) := by decide +kernel
theorem dL_merge_15 : decode cL_merge 15 = .ok (.iconst 1, 1) := by decide +kernel
theorem dL_merge_16 : decode cL_merge 16 = .ok (.ireturn, 1) := by decide +kernel
theorem dL_merge_17 : decode cL_merge 17 = .ok (.astore 4, 2) := by decide +kernel
theorem dL_merge_19 : decode cL_merge 19 = .ok (.iconst 2, 1) := by decide +kernel
theorem dL_merge_20 : decode cL_merge 20 = .ok (.ireturn, 1) := by decide +kernel
theorem dL_merge_21 : decode cL_merge 21 = .ok (.astore 4, 2) := by decide +kernel
theorem dL_merge_23 : decode cL_merge 23 = .ok (.iconst 3, 1) := by decide +kernel
theorem dL_merge_24 : decode cL_merge 24 = .ok (.ireturn, 1) := by decide +kernel
theorem dL_merge_25 : decode cL_merge 25 = .ok (.iconst 0, 1) := by decide +kernel
theorem dL_merge_26 : decode cL_merge 26 = .ok (.ireturn, 1) := by decide +kernel
theorem dL_wouldConflict_0 : decode cL_wouldConflict 0 = .ok (.aload_n 3, 1) := by decide +kernel
theorem dL_wouldConflict_1 : decode cL_wouldConflict 1 = .ok (.iconst 0, 1) := by decide +kernel
theorem dL_wouldConflict_2 : decode cL_wouldConflict 2 = .ok (.aload_n 0, 1) := by decide +kernel
theorem dL_wouldConflict_3 : decode cL_wouldConflict 3 = .ok (.iload_n 1, 1) := by decide +kernel
theorem dL_wouldConflict_4 : decode cL_wouldConflict 4 = .ok (.iload_n 2, 1) := by decide +kernel
theorem dL_wouldConflict_5 : decode cL_wouldConflict 5 = .ok (.invokevirtual 91, 3) := by decide +kernel
theorem dL_wouldConflict_8 : decode cL_wouldConflict 8 = .ok (.i2l, 1) := by decide +kernel
theorem dL_wouldConflict_9 : decode cL_wouldConflict 9 = .ok (.lastore, 1) := by decide +kernel
theorem dL_wouldConflict_10 : decode cL_wouldConflict 10 = .ok (.goto 7, 3) := by decide +kernel
theorem dL_wouldConflict_13 : decode cL_wouldConflict 13 = .ok (.astore 4, 2) := by decide +kernel
theorem dL_wouldConflict_15 : decode cL_wouldConflict 15 = .ok (.iconst 1, 1) := by decide +kernel
theorem dL_wouldConflict_16 : decode cL_wouldConflict 16 = .ok (.ireturn, 1) := by decide +kernel
theorem dL_wouldConflict_17 : decode cL_wouldConflict 17 = .ok (.iconst 0, 1) := by decide +kernel
theorem dL_wouldConflict_18 : decode cL_wouldConflict 18 = .ok (.ireturn, 1) := by decide +kernel
theorem dL_isAlike_0 : decode cL_isAlike 0 = .ok (.aload_n 3, 1) := by decide +kernel
theorem dL_isAlike_1 : decode cL_isAlike 1 = .ok (.iconst 0, 1) := by decide +kernel
theorem dL_isAlike_2 : decode cL_isAlike 2 = .ok (.aload_n 0, 1) := by decide +kernel
theorem dL_isAlike_3 : decode cL_isAlike 3 = .ok (.iload_n 1, 1) := by decide +kernel
theorem dL_isAlike_4 : decode cL_isAlike 4 = .ok (.iload_n 2, 1) := by decide +kernel
theorem dL_isAlike_5 : decode cL_isAlike 5 = .ok (.invokevirtual 94, 3) := by decide +kernel
theorem dL_isAlike_8 : decode cL_isAlike 8 = .ok (.ifCond .eq 7, 3) := by decide +kernel
theorem dL_isAlike_11 : decode cL_isAlike 11 = .ok (.lconst 1, 1) := by decide +kernel
theorem dL_isAlike_12 : decode cL_isAlike 12 = .ok (.goto 4, 3) := by decide +kernel
theorem dL_isAlike_15 : decode cL_isAlike 15 = .ok (.lconst 0, 1) := by decide +kernel
theorem dL_isAlike_16 : decode cL_isAlike 16 = .ok (.lastore, 1) := by decide +kernel
theorem dL_isAlike_17 : decode cL_isAlike 17 = .ok (.goto 7, 3) := by decide +kernel
theorem dL_isAlike_20 : decode cL_isAlike 20 = .ok (.astore 4, 2) := by decide +kernel
theorem dL_isAlike_22 : decode cL_isAlike 22 = .ok (.iconst 1, 1) := by decide +kernel
theorem dL_isAlike_23 : decode cL_isAlike 23 = .ok (.ireturn, 1) := by decide +kernel
theorem dL_isAlike_24 : decode cL_isAlike 24 = .ok (.iconst 0, 1) := by decide +kernel
theorem dL_isAlike_25 : decode cL_isAlike 25 = .ok (.ireturn, 1) := by decide +kernel
theorem dL_pick_0 : decode cL_pick 0 = .ok (.aload_n 3, 1) := by decide +kernel
theorem dL_pick_1 : decode cL_pick 1 = .ok (.iconst 0, 1) := by decide +kernel
theorem dL_pick_2 : decode cL_pick 2 = .ok (.aload_n 0, 1) := by decide +kernel
theorem dL_pick_3 : decode cL_pick 3 = .ok (.iload_n 1, 1) := by decide +kernel
theorem dL_pick_4 : decode cL_pick 4 = .ok (.iload_n 2, 1) := by decide +kernel
theorem dL_pick_5 : decode cL_pick 5 = .ok (.invokevirtual 97, 3) := by decide +kernel
theorem dL_pick_8 : decode cL_pick 8 = .ok (.i2l, 1) := by decide +kernel
theorem dL_pick_9 : decode cL_pick 9 = .ok (.lastore, 1) := by decide +kernel
theorem dL_pick_10 : decode cL_pick 10 = .ok (.goto 15, 3) := by decide +kernel
theorem dL_pick_13 : decode cL_pick 13 = .ok (.astore 4, 2) := by decide +kernel
theorem dL_pick_15 : decode cL_pick 15 = .ok (.iconst 1, 1) := by decide +kernel
theorem dL_pick_16 : decode cL_pick 16 = .ok (.ireturn, 1) := by decide +kernel
theorem dL_pick_17 : decode cL_pick 17 = .ok (.astore 4, 2) := by decide +kernel
theorem dL_pick_19 : decode cL_pick 19 = .ok (.iconst 2, 1) := by decide +kernel
theorem dL_pick_20 : decode cL_pick 20 = .ok (.ireturn, 1) := by decide +kernel
theorem dL_pick_21 : decode cL_pick 21 = .ok (.astore 4, 2) := by decide +kernel
theorem dL_pick_23 : decode cL_pick 23 = .ok (.iconst 3, 1) := by decide +kernel
theorem dL_pick_24 : decode cL_pick 24 = .ok (.ireturn, 1) := by decide +kernel
theorem dL_pick_25 : decode cL_pick 25 = .ok (.iconst 0, 1) := by decide +kernel
theorem dL_pick_26 : decode cL_pick 26 = .ok (.ireturn, 1) := by decide +kernel
theorem dL_quote_0 : decode cL_quote 0 = .ok (.aload 4, 2) := by decide +kernel
theorem dL_quote_2 : decode cL_quote 2 = .ok (.iconst 0, 1) := by decide +kernel
theorem dL_quote_3 : decode cL_quote 3 = .ok (.aload_n 0, 1) := by decide +kernel
theorem dL_quote_4 : decode cL_quote 4 = .ok (.iload_n 1, 1) := by decide +kernel
theorem dL_quote_5 : decode cL_quote 5 = .ok (.iload_n 2, 1) := by decide +kernel
theorem dL_quote_6 : decode cL_quote 6 = .ok (.iload_n 3, 1) := by decide +kernel
theorem dL_quote_7 : decode cL_quote 7 = .ok (.invokevirtual 100, 3) := by decide +kernel
theorem dL_quote_10 : decode cL_quote 10 = .ok (.i2l, 1) := by decide +kernel
theorem dL_quote_11 : decode cL_quote 11 = .ok (.lastore, 1) := by decide +kernel
theorem dL_quote_12 : decode cL_quote 12 = .ok (.goto 15, 3) := by decide +kernel
theorem dL_quote_15 : decode cL_quote 15 = .ok (.astore 5, 2) := by decide +kernel
theorem dL_quote_17 : decode cL_quote 17 = .ok (.iconst 1, 1) := by decide +kernel
theorem dL_quote_18 : decode cL_quote 18 = .ok (.ireturn, 1) := by decide +kernel
theorem dL_quote_19 : decode cL_quote 19 = .ok (.astore 5, 2) := by decide +kernel
theorem dL_quote_21 : decode cL_quote 21 = .ok (.iconst 2, 1) := by decide +kernel
theorem dL_quote_22 : decode cL_quote 22 = .ok (.ireturn, 1) := by decide +kernel
theorem dL_quote_23 : decode cL_quote 23 = .ok (.astore 5, 2) := by decide +kernel
theorem dL_quote_25 : decode cL_quote 25 = .ok (.iconst 3, 1) := by decide +kernel
theorem dL_quote_26 : decode cL_quote 26 = .ok (.ireturn, 1) := by decide +kernel
theorem dL_quote_27 : decode cL_quote 27 = .ok (.iconst 0, 1) := by decide +kernel
theorem dL_quote_28 : decode cL_quote 28 = .ok (.ireturn, 1) := by decide +kernel
theorem dL_isBroken_0 : decode cL_isBroken 0 = .ok (.aload_n 3, 1) := by decide +kernel
theorem dL_isBroken_1 : decode cL_isBroken 1 = .ok (.iconst 0, 1) := by decide +kernel
theorem dL_isBroken_2 : decode cL_isBroken 2 = .ok (.aload_n 0, 1) := by decide +kernel
theorem dL_isBroken_3 : decode cL_isBroken 3 = .ok (.iload_n 1, 1) := by decide +kernel
theorem dL_isBroken_4 : decode cL_isBroken 4 = .ok (.iload_n 2, 1) := by decide +kernel
theorem dL_isBroken_5 : decode cL_isBroken 5 = .ok (.invokevirtual 103, 3) := by decide +kernel
theorem dL_isBroken_8 : decode cL_isBroken 8 = .ok (.ifCond .eq 7, 3) := by decide +kernel
theorem dL_isBroken_11 : decode cL_isBroken 11 = .ok (.lconst 1, 1) := by decide +kernel
theorem dL_isBroken_12 : decode cL_isBroken 12 = .ok (.goto 4, 3) := by decide +kernel
theorem dL_isBroken_15 : decode cL_isBroken 15 = .ok (.lconst 0, 1) := by decide +kernel
theorem dL_isBroken_16 : decode cL_isBroken 16 = .ok (.lastore, 1) := by decide +kernel
theorem dL_isBroken_17 : decode cL_isBroken 17 = .ok (.goto 7, 3) := by decide +kernel
theorem dL_isBroken_20 : decode cL_isBroken 20 = .ok (.astore 4, 2) := by decide +kernel
theorem dL_isBroken_22 : decode cL_isBroken 22 = .ok (.iconst 1, 1) := by decide +kernel
theorem dL_isBroken_23 : decode cL_isBroken 23 = .ok (.ireturn, 1) := by decide +kernel
theorem dL_isBroken_24 : decode cL_isBroken 24 = .ok (.iconst 0, 1) := by decide +kernel
theorem dL_isBroken_25 : decode cL_isBroken 25 = .ok (.ireturn, 1) := by decide +kernel
theorem dL_broken_0 : decode cL_broken 0 = .ok (.aload_n 2, 1) := by decide +kernel
theorem dL_broken_1 : decode cL_broken 1 = .ok (.iconst 0, 1) := by decide +kernel
theorem dL_broken_2 : decode cL_broken 2 = .ok (.aload_n 0, 1) := by decide +kernel
theorem dL_broken_3 : decode cL_broken 3 = .ok (.iload_n 1, 1) := by decide +kernel
theorem dL_broken_4 : decode cL_broken 4 = .ok (.invokevirtual 106, 3) := by decide +kernel
theorem dL_broken_7 : decode cL_broken 7 = .ok (.i2l, 1) := by decide +kernel
theorem dL_broken_8 : decode cL_broken 8 = .ok (.lastore, 1) := by decide +kernel
theorem dL_broken_9 : decode cL_broken 9 = .ok (.goto 6, 3) := by decide +kernel
theorem dL_broken_12 : decode cL_broken 12 = .ok (.astore_n 3, 1) := by decide +kernel
theorem dL_broken_13 : decode cL_broken 13 = .ok (.iconst 1, 1) := by decide +kernel
theorem dL_broken_14 : decode cL_broken 14 = .ok (.ireturn, 1) := by decide +kernel
theorem dL_broken_15 : decode cL_broken 15 = .ok (.iconst 0, 1) := by decide +kernel
theorem dL_broken_16 : decode cL_broken 16 = .ok (.ireturn, 1) := by decide +kernel
theorem dL_sum_0 : decode cL_sum 0 = .ok (.aload_n 2, 1) := by decide +kernel
theorem dL_sum_1 : decode cL_sum 1 = .ok (.iconst 0, 1) := by decide +kernel
theorem dL_sum_2 : decode cL_sum 2 = .ok (.aload_n 0, 1) := by decide +kernel
theorem dL_sum_3 : decode cL_sum 3 = .ok (.iload_n 1, 1) := by decide +kernel
theorem dL_sum_4 : decode cL_sum 4 = .ok (.invokevirtual 109, 3) := by decide +kernel
theorem dL_sum_7 : decode cL_sum 7 = .ok (.lastore, 1) := by decide +kernel
theorem dL_sum_8 : decode cL_sum 8 = .ok (.goto 6, 3) := by decide +kernel
theorem dL_sum_11 : decode cL_sum 11 = .ok (.astore_n 3, 1) := by decide +kernel
theorem dL_sum_12 : decode cL_sum 12 = .ok (.iconst 1, 1) := by decide +kernel
theorem dL_sum_13 : decode cL_sum 13 = .ok (.ireturn, 1) := by decide +kernel
theorem dL_sum_14 : decode cL_sum 14 = .ok (.iconst 0, 1) := by decide +kernel
theorem dL_sum_15 : decode cL_sum 15 = .ok (.ireturn, 1) := by decide +kernel
theorem dL_conflictShare_0 : decode cL_conflictShare 0 = .ok (.aload_n 2, 1) := by decide +kernel
theorem dL_conflictShare_1 : decode cL_conflictShare 1 = .ok (.iconst 0, 1) := by decide +kernel
theorem dL_conflictShare_2 : decode cL_conflictShare 2 = .ok (.aload_n 0, 1) := by decide +kernel
theorem dL_conflictShare_3 : decode cL_conflictShare 3 = .ok (.iload_n 1, 1) := by decide +kernel
theorem dL_conflictShare_4 : decode cL_conflictShare 4 = .ok (.invokevirtual 113, 3) := by decide +kernel
theorem dL_conflictShare_7 : decode cL_conflictShare 7 = .ok (.f2d, 1) := by decide +kernel
theorem dL_conflictShare_8 : decode cL_conflictShare 8 = .ok (.dastore, 1) := by decide +kernel
theorem dL_conflictShare_9 : decode cL_conflictShare 9 = .ok (.goto 9, 3) := by decide +kernel
theorem dL_conflictShare_12 : decode cL_conflictShare 12 = .ok (.astore_n 3, 1) := by decide +kernel
theorem dL_conflictShare_13 : decode cL_conflictShare 13 = .ok (.iconst 1, 1) := by decide +kernel
theorem dL_conflictShare_14 : decode cL_conflictShare 14 = .ok (.ireturn, 1) := by decide +kernel
theorem dL_conflictShare_15 : decode cL_conflictShare 15 = .ok (.astore_n 3, 1) := by decide +kernel
theorem dL_conflictShare_16 : decode cL_conflictShare 16 = .ok (.iconst 2, 1) := by decide +kernel
theorem dL_conflictShare_17 : decode cL_conflictShare 17 = .ok (.ireturn, 1) := by decide +kernel
theorem dL_conflictShare_18 : decode cL_conflictShare 18 = .ok (.iconst 0, 1) := by decide +kernel
theorem dL_conflictShare_19 : decode cL_conflictShare 19 = .ok (.ireturn, 1) := by decide +kernel
