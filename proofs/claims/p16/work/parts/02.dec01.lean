theorem dX7_eaterOf_3 : decode cX7_eaterOf 3 = .ok (.idiv, 1) := by decide +kernel
theorem dX7_eaterOf_4 : decode cX7_eaterOf 4 = .ok (.ireturn, 1) := by decide +kernel
theorem dX7_dishOf_0 : decode cX7_dishOf 0 = .ok (.iload_n 0, 1) := by decide +kernel
theorem dX7_dishOf_1 : decode cX7_dishOf 1 = .ok (.bipush 10, 2) := by decide +kernel
theorem dX7_dishOf_3 : decode cX7_dishOf 3 = .ok (.irem, 1) := by decide +kernel
theorem dX7_dishOf_4 : decode cX7_dishOf 4 = .ok (.iconst 2, 1) := by decide +kernel
theorem dX7_dishOf_5 : decode cX7_dishOf 5 = .ok (.idiv, 1) := by decide +kernel
theorem dX7_dishOf_6 : decode cX7_dishOf 6 = .ok (.ireturn, 1) := by decide +kernel
theorem dX7_isSlow_0 : decode cX7_isSlow 0 = .ok (.iload_n 0, 1) := by decide +kernel
theorem dX7_isSlow_1 : decode cX7_isSlow 1 = .ok (.iconst 2, 1) := by decide +kernel
theorem dX7_isSlow_2 : decode cX7_isSlow 2 = .ok (.irem, 1) := by decide +kernel
theorem dX7_isSlow_3 : decode cX7_isSlow 3 = .ok (.ifCond .ne 7, 3) := by decide +kernel
theorem dX7_isSlow_6 : decode cX7_isSlow 6 = .ok (.iconst 1, 1) := by decide +kernel
theorem dX7_isSlow_7 : decode cX7_isSlow 7 = .ok (.goto 4, 3) := by decide +kernel
theorem dX7_isSlow_10 : decode cX7_isSlow 10 = .ok (.iconst 0, 1) := by decide +kernel
theorem dX7_isSlow_11 : decode cX7_isSlow 11 = .ok (.ireturn, 1) := by decide +kernel
theorem dX7_costOf_0 : decode cX7_costOf 0 = .ok (.iload_n 3, 1) := by decide +kernel
theorem dX7_costOf_1 : decode cX7_costOf 1 = .ok (.bipush 60, 2) := by decide +kernel
theorem dX7_costOf_3 : decode cX7_costOf 3 = .ok (.if_icmp .ne 5, 3) := by decide +kernel
theorem dX7_costOf_6 : decode cX7_costOf 6 = .ok (.iconst 0, 1) := by decide +kernel
theorem dX7_costOf_7 : decode cX7_costOf 7 = .ok (.ireturn, 1) := by decide +kernel
theorem dX7_costOf_8 : decode cX7_costOf 8 = .ok (.iload_n 3, 1) := by decide +kernel
theorem dX7_costOf_9 : decode cX7_costOf 9 = .ok (.invokestatic 60, 3) := by decide +kernel
theorem dX7_costOf_12 : decode cX7_costOf 12 = .ok (.istore 4, 2) := by decide +kernel
theorem dX7_costOf_14 : decode cX7_costOf 14 = .ok (.iload_n 3, 1) := by decide +kernel
theorem dX7_costOf_15 : decode cX7_costOf 15 = .ok (.invokestatic 64, 3) := by decide +kernel
theorem dX7_costOf_18 : decode cX7_costOf 18 = .ok (.istore 5, 2) := by decide +kernel
theorem dX7_costOf_20 : decode cX7_costOf 20 = .ok (.iload 4, 2) := by decide +kernel
theorem dX7_costOf_22 : decode cX7_costOf 22 = .ok (.aload_n 1, 1) := by decide +kernel
theorem dX7_costOf_23 : decode cX7_costOf 23 = .ok (.getfield 67, 3) := by decide +kernel
theorem dX7_costOf_26 : decode cX7_costOf 26 = .ok (.if_icmp .ge 21, 3) := by decide +kernel
theorem dX7_costOf_29 : decode cX7_costOf 29 = .ok (.iload 5, 2) := by decide +kernel
theorem dX7_costOf_31 : decode cX7_costOf 31 = .ok (.aload_n 1, 1) := by decide +kernel
theorem dX7_costOf_32 : decode cX7_costOf 32 = .ok (.getfield 72, 3) := by decide +kernel
theorem dX7_costOf_35 : decode cX7_costOf 35 = .ok (.if_icmp .ge 12, 3) := by decide +kernel
theorem dX7_costOf_38 : decode cX7_costOf 38 = .ok (.aload_n 1, 1) := by decide +kernel
theorem dX7_costOf_39 : decode cX7_costOf 39 = .ok (.getfield 75, 3) := by decide +kernel
theorem dX7_costOf_42 : decode cX7_costOf 42 = .ok (.iload_n 3, 1) := by decide +kernel
theorem dX7_costOf_43 : decode cX7_costOf 43 = .ok (.baload, 1) := by decide +kernel
theorem dX7_costOf_44 : decode cX7_costOf 44 = .ok (.ifCond .eq 5, 3) := by decide +kernel
theorem dX7_costOf_47 : decode cX7_costOf 47 = .ok (.iconst (-1), 1) := by decide +kernel
theorem dX7_costOf_48 : decode cX7_costOf 48 = .ok (.ireturn, 1) := by decide +kernel
theorem dX7_costOf_49 : decode cX7_costOf 49 = .ok (.aload_n 0, 1) := by decide +kernel
theorem dX7_costOf_50 : decode cX7_costOf 50 = .ok (.getfield 29, 3) := by decide +kernel
theorem dX7_costOf_53 : decode cX7_costOf 53 = .ok (.iload_n 2, 1) := by decide +kernel
theorem dX7_costOf_54 : decode cX7_costOf 54 = .ok (.aaload, 1) := by decide +kernel
theorem dX7_costOf_55 : decode cX7_costOf 55 = .ok (.aload_n 1, 1) := by decide +kernel
theorem dX7_costOf_56 : decode cX7_costOf 56 = .ok (.iload 4, 2) := by decide +kernel
theorem dX7_costOf_58 : decode cX7_costOf 58 = .ok (.iload 5, 2) := by decide +kernel
theorem dX7_costOf_60 : decode cX7_costOf 60 = .ok (.invokevirtual 79, 3) := by decide +kernel
theorem dX7_costOf_63 : decode cX7_costOf 63 = .ok (.ifCond .eq 14, 3) := by decide +kernel
theorem dX7_costOf_66 : decode cX7_costOf 66 = .ok (.aload_n 1, 1) := by decide +kernel
theorem dX7_costOf_67 : decode cX7_costOf 67 = .ok (.iload 4, 2) := by decide +kernel
theorem dX7_costOf_69 : decode cX7_costOf 69 = .ok (.iload 5, 2) := by decide +kernel
theorem dX7_costOf_71 : decode cX7_costOf 71 = .ok (.invokevirtual 82, 3) := by decide +kernel
theorem dX7_costOf_74 : decode cX7_costOf 74 = .ok (.goto 4, 3) := by decide +kernel
theorem dX7_costOf_77 : decode cX7_costOf 77 = .ok (.iconst (-1), 1) := by decide +kernel
theorem dX7_costOf_78 : decode cX7_costOf 78 = .ok (.ireturn, 1) := by decide +kernel
theorem dX7_feedsAll_0 : decode cX7_feedsAll 0 = .ok (.aload_n 0, 1) := by decide +kernel
theorem dX7_feedsAll_1 : decode cX7_feedsAll 1 = .ok (.getfield 29, 3) := by decide +kernel
theorem dX7_feedsAll_4 : decode cX7_feedsAll 4 = .ok (.iload_n 2, 1) := by decide +kernel
theorem dX7_feedsAll_5 : decode cX7_feedsAll 5 = .ok (.aaload, 1) := by decide +kernel
theorem dX7_feedsAll_6 : decode cX7_feedsAll 6 = .ok (.astore 4, 2) := by decide +kernel
theorem dX7_feedsAll_8 : decode cX7_feedsAll 8 = .ok (.iconst 0, 1) := by decide +kernel
theorem dX7_feedsAll_9 : decode cX7_feedsAll 9 = .ok (.istore 5, 2) := by decide +kernel
theorem dX7_feedsAll_11 : decode cX7_feedsAll 11 = .ok (.iload 5, 2) := by decide +kernel
theorem dX7_feedsAll_13 : decode cX7_feedsAll 13 = .ok (.aload_n 1, 1) := by decide +kernel
theorem dX7_feedsAll_14 : decode cX7_feedsAll 14 = .ok (.getfield 67, 3) := by decide +kernel
theorem dX7_feedsAll_17 : decode cX7_feedsAll 17 = .ok (.if_icmp .ge 82, 3) := by decide +kernel
theorem dX7_feedsAll_20 : decode cX7_feedsAll 20 = .ok (.aload 4, 2) := by decide +kernel
theorem dX7_feedsAll_22 : decode cX7_feedsAll 22 = .ok (.getfield 85, 3) := by decide +kernel
theorem dX7_feedsAll_25 : decode cX7_feedsAll 25 = .ok (.iload 5, 2) := by decide +kernel
theorem dX7_feedsAll_27 : decode cX7_feedsAll 27 = .ok (.iaload, 1) := by decide +kernel
theorem dX7_feedsAll_28 : decode cX7_feedsAll 28 = .ok (.aload_n 1, 1) := by decide +kernel
theorem dX7_feedsAll_29 : decode cX7_feedsAll 29 = .ok (.getfield 89, 3) := by decide +kernel
theorem dX7_feedsAll_32 : decode cX7_feedsAll 32 = .ok (.iload 5, 2) := by decide +kernel
theorem dX7_feedsAll_34 : decode cX7_feedsAll 34 = .ok (.iaload, 1) := by decide +kernel
theorem dX7_feedsAll_35 : decode cX7_feedsAll 35 = .ok (.if_icmp .ge 58, 3) := by decide +kernel
theorem dX7_feedsAll_38 : decode cX7_feedsAll 38 = .ok (.iload_n 3, 1) := by decide +kernel
theorem dX7_feedsAll_39 : decode cX7_feedsAll 39 = .ok (.bipush 60, 2) := by decide +kernel
theorem dX7_feedsAll_41 : decode cX7_feedsAll 41 = .ok (.if_icmp .ne 7, 3) := by decide +kernel
theorem dX7_feedsAll_44 : decode cX7_feedsAll 44 = .ok (.iconst 0, 1) := by decide +kernel
theorem dX7_feedsAll_45 : decode cX7_feedsAll 45 = .ok (.goto 23, 3) := by decide +kernel
theorem dX7_feedsAll_48 : decode cX7_feedsAll 48 = .ok (.aload 4, 2) := by decide +kernel
theorem dX7_feedsAll_50 : decode cX7_feedsAll 50 = .ok (.aload_n 1, 1) := by decide +kernel
theorem dX7_feedsAll_51 : decode cX7_feedsAll 51 = .ok (.iload_n 3, 1) := by decide +kernel
theorem dX7_feedsAll_52 : decode cX7_feedsAll 52 = .ok (.invokestatic 60, 3) := by decide +kernel
theorem dX7_feedsAll_55 : decode cX7_feedsAll 55 = .ok (.iload_n 3, 1) := by decide +kernel
theorem dX7_feedsAll_56 : decode cX7_feedsAll 56 = .ok (.invokestatic 64, 3) := by decide +kernel
theorem dX7_feedsAll_59 : decode cX7_feedsAll 59 = .ok (.iload_n 3, 1) := by decide +kernel
theorem dX7_feedsAll_60 : decode cX7_feedsAll 60 = .ok (.invokestatic 92, 3) := by decide +kernel
theorem dX7_feedsAll_63 : decode cX7_feedsAll 63 = .ok (.iload 5, 2) := by decide +kernel
theorem dX7_feedsAll_65 : decode cX7_feedsAll 65 = .ok (.invokevirtual 96, 3) := by decide +kernel
theorem dX7_feedsAll_68 : decode cX7_feedsAll 68 = .ok (.istore 6, 2) := by decide +kernel
theorem dX7_feedsAll_70 : decode cX7_feedsAll 70 = .ok (.aload 4, 2) := by decide +kernel
theorem dX7_feedsAll_72 : decode cX7_feedsAll 72 = .ok (.getfield 85, 3) := by decide +kernel
theorem dX7_feedsAll_75 : decode cX7_feedsAll 75 = .ok (.iload 5, 2) := by decide +kernel
theorem dX7_feedsAll_77 : decode cX7_feedsAll 77 = .ok (.iaload, 1) := by decide +kernel
theorem dX7_feedsAll_78 : decode cX7_feedsAll 78 = .ok (.iload 6, 2) := by decide +kernel
theorem dX7_feedsAll_80 : decode cX7_feedsAll 80 = .ok (.iadd, 1) := by decide +kernel
theorem dX7_feedsAll_81 : decode cX7_feedsAll 81 = .ok (.aload_n 1, 1) := by decide +kernel
theorem dX7_feedsAll_82 : decode cX7_feedsAll 82 = .ok (.getfield 89, 3) := by decide +kernel
theorem dX7_feedsAll_85 : decode cX7_feedsAll 85 = .ok (.iload 5, 2) := by decide +kernel
theorem dX7_feedsAll_87 : decode cX7_feedsAll 87 = .ok (.iaload, 1) := by decide +kernel
theorem dX7_feedsAll_88 : decode cX7_feedsAll 88 = .ok (.if_icmp .ge 5, 3) := by decide +kernel
theorem dX7_feedsAll_91 : decode cX7_feedsAll 91 = .ok (.iconst 0, 1) := by decide +kernel
theorem dX7_feedsAll_92 : decode cX7_feedsAll 92 = .ok (.ireturn, 1) := by decide +kernel
theorem dX7_feedsAll_93 : decode cX7_feedsAll 93 = .ok (.iinc 5 1, 3) := by decide +kernel
theorem dX7_feedsAll_96 : decode cX7_feedsAll 96 = .ok (.goto (-85), 3) := by decide +kernel
theorem dX7_feedsAll_99 : decode cX7_feedsAll 99 = .ok (.iconst 1, 1) := by decide +kernel
theorem dX7_feedsAll_100 : decode cX7_feedsAll 100 = .ok (.ireturn, 1) := by decide +kernel
theorem dX7_chooses_0 : decode cX7_chooses 0 = .ok (.aload_n 0, 1) := by decide +kernel
theorem dX7_chooses_1 : decode cX7_chooses 1 = .ok (.getfield 29, 3) := by decide +kernel
theorem dX7_chooses_4 : decode cX7_chooses 4 = .ok (.iload_n 2, 1) := by decide +kernel
theorem dX7_chooses_5 : decode cX7_chooses 5 = .ok (.iconst 1, 1) := by decide +kernel
theorem dX7_chooses_6 : decode cX7_chooses 6 = .ok (.iadd, 1) := by decide +kernel
theorem dX7_chooses_7 : decode cX7_chooses 7 = .ok (.aaload, 1) := by decide +kernel
theorem dX7_chooses_8 : decode cX7_chooses 8 = .ok (.astore 4, 2) := by decide +kernel
theorem dX7_chooses_10 : decode cX7_chooses 10 = .ok (.aload 4, 2) := by decide +kernel
theorem dX7_chooses_12 : decode cX7_chooses 12 = .ok (.aload_n 0, 1) := by decide +kernel
theorem dX7_chooses_13 : decode cX7_chooses 13 = .ok (.getfield 29, 3) := by decide +kernel
theorem dX7_chooses_16 : decode cX7_chooses 16 = .ok (.iload_n 2, 1) := by decide +kernel
theorem dX7_chooses_17 : decode cX7_chooses 17 = .ok (.aaload, 1) := by decide +kernel
theorem dX7_chooses_18 : decode cX7_chooses 18 = .ok (.invokevirtual 41, 3) := by decide +kernel
theorem dX7_chooses_21 : decode cX7_chooses 21 = .ok (.iload_n 3, 1) := by decide +kernel
theorem dX7_chooses_22 : decode cX7_chooses 22 = .ok (.bipush 60, 2) := by decide +kernel
theorem dX7_chooses_24 : decode cX7_chooses 24 = .ok (.if_icmp .eq 22, 3) := by decide +kernel
theorem dX7_chooses_27 : decode cX7_chooses 27 = .ok (.aload 4, 2) := by decide +kernel
theorem dX7_chooses_29 : decode cX7_chooses 29 = .ok (.aload_n 1, 1) := by decide +kernel
theorem dX7_chooses_30 : decode cX7_chooses 30 = .ok (.iload_n 3, 1) := by decide +kernel
theorem dX7_chooses_31 : decode cX7_chooses 31 = .ok (.invokestatic 60, 3) := by decide +kernel
theorem dX7_chooses_34 : decode cX7_chooses 34 = .ok (.iload_n 3, 1) := by decide +kernel
theorem dX7_chooses_35 : decode cX7_chooses 35 = .ok (.invokestatic 64, 3) := by decide +kernel
theorem dX7_chooses_38 : decode cX7_chooses 38 = .ok (.iload_n 3, 1) := by decide +kernel
theorem dX7_chooses_39 : decode cX7_chooses 39 = .ok (.invokestatic 92, 3) := by decide +kernel
theorem dX7_chooses_42 : decode cX7_chooses 42 = .ok (.invokevirtual 100, 3) := by decide +kernel
theorem dX7_chooses_45 : decode cX7_chooses 45 = .ok (.pop, 1) := by decide +kernel
theorem dX7_chooses_46 : decode cX7_chooses 46 = .ok (.aload 4, 2) := by decide +kernel
theorem dX7_chooses_48 : decode cX7_chooses 48 = .ok (.aload_n 1, 1) := by decide +kernel
theorem dX7_chooses_49 : decode cX7_chooses 49 = .ok (.invokevirtual 104, 3) := by decide +kernel
theorem dX7_chooses_52 : decode cX7_chooses 52 = .ok (.pop, 1) := by decide +kernel
theorem dX7_chooses_53 : decode cX7_chooses 53 = .ok (.return_, 1) := by decide +kernel
theorem dX8_init_0 : decode cX8_init 0 = .ok (.aload_n 0, 1) := by decide +kernel
theorem dX8_init_1 : decode cX8_init 1 = .ok (.invokespecial 3, 3) := by decide +kernel
theorem dX8_init_4 : decode cX8_init 4 = .ok (.aload_n 0, 1) := by decide +kernel
theorem dX8_init_5 : decode cX8_init 5 = .ok (.iconst 0, 1) := by decide +kernel
theorem dX8_init_6 : decode cX8_init 6 = .ok (.putfield 9, 3) := by decide +kernel
theorem dX8_init_9 : decode cX8_init 9 = .ok (.aload_n 0, 1) := by decide +kernel
theorem dX8_init_10 : decode cX8_init 10 = .ok (.iconst 0, 1) := by decide +kernel
theorem dX8_init_11 : decode cX8_init 11 = .ok (.putfield 15, 3) := by decide +kernel
theorem dX8_init_14 : decode cX8_init 14 = .ok (.aload_n 0, 1) := by decide +kernel
theorem dX8_init_15 : decode cX8_init 15 = .ok (.iconst 0, 1) := by decide +kernel
theorem dX8_init_16 : decode cX8_init 16 = .ok (.putfield 18, 3) := by decide +kernel
theorem dX8_init_19 : decode cX8_init 19 = .ok (.aload_n 0, 1) := by decide +kernel
theorem dX8_init_20 : decode cX8_init 20 = .ok (.bipush 6, 2) := by decide +kernel
theorem dX8_init_22 : decode cX8_init 22 = .ok (.newarray .int, 2) := by decide +kernel
theorem dX8_init_24 : decode cX8_init 24 = .ok (.putfield 21, 3) := by decide +kernel
theorem dX8_init_27 : decode cX8_init 27 = .ok (.aload_n 0, 1) := by decide +kernel
theorem dX8_init_28 : decode cX8_init 28 = .ok (.bipush 6, 2) := by decide +kernel
theorem dX8_init_30 : decode cX8_init 30 = .ok (.newarray .int, 2) := by decide +kernel
theorem dX8_init_32 : decode cX8_init 32 = .ok (.putfield 25, 3) := by decide +kernel
theorem dX8_init_35 : decode cX8_init 35 = .ok (.aload_n 0, 1) := by decide +kernel
theorem dX8_init_36 : decode cX8_init 36 = .ok (.bipush 6, 2) := by decide +kernel
theorem dX8_init_38 : decode cX8_init 38 = .ok (.newarray .int, 2) := by decide +kernel
theorem dX8_init_40 : decode cX8_init 40 = .ok (.putfield 28, 3) := by decide +kernel
theorem dX8_init_43 : decode cX8_init 43 = .ok (.return_, 1) := by decide +kernel
theorem dX8_begins_0 : decode cX8_begins 0 = .ok (.aload_n 0, 1) := by decide +kernel
theorem dX8_begins_1 : decode cX8_begins 1 = .ok (.iconst 0, 1) := by decide +kernel
theorem dX8_begins_2 : decode cX8_begins 2 = .ok (.putfield 9, 3) := by decide +kernel
theorem dX8_begins_5 : decode cX8_begins 5 = .ok (.aload_n 0, 1) := by decide +kernel
theorem dX8_begins_6 : decode cX8_begins 6 = .ok (.aload_n 1, 1) := by decide +kernel
theorem dX8_begins_7 : decode cX8_begins 7 = .ok (.getfield 31, 3) := by decide +kernel
theorem dX8_begins_10 : decode cX8_begins 10 = .ok (.putfield 15, 3) := by decide +kernel
theorem dX8_begins_13 : decode cX8_begins 13 = .ok (.aload_n 0, 1) := by decide +kernel
theorem dX8_begins_14 : decode cX8_begins 14 = .ok (.iconst 0, 1) := by decide +kernel
theorem dX8_begins_15 : decode cX8_begins 15 = .ok (.putfield 18, 3) := by decide +kernel
theorem dX8_begins_18 : decode cX8_begins 18 = .ok (.aload_n 0, 1) := by decide +kernel
theorem dX8_begins_19 : decode cX8_begins 19 = .ok (.getfield 21, 3) := by decide +kernel
theorem dX8_begins_22 : decode cX8_begins 22 = .ok (.bipush 50, 2) := by decide +kernel
theorem dX8_begins_24 : decode cX8_begins 24 = .ok (.invokestatic 34, 3) := by decide +kernel
theorem dX8_begins_27 : decode cX8_begins 27 = .ok (.aload_n 0, 1) := by decide +kernel
theorem dX8_begins_28 : decode cX8_begins 28 = .ok (.getfield 25, 3) := by decide +kernel
theorem dX8_begins_31 : decode cX8_begins 31 = .ok (.iconst (-1), 1) := by decide +kernel
theorem dX8_begins_32 : decode cX8_begins 32 = .ok (.invokestatic 34, 3) := by decide +kernel
theorem dX8_begins_35 : decode cX8_begins 35 = .ok (.aload_n 0, 1) := by decide +kernel
theorem dX8_begins_36 : decode cX8_begins 36 = .ok (.getfield 28, 3) := by decide +kernel
theorem dX8_begins_39 : decode cX8_begins 39 = .ok (.iconst 0, 1) := by decide +kernel
theorem dX8_begins_40 : decode cX8_begins 40 = .ok (.invokestatic 34, 3) := by decide +kernel
theorem dX8_begins_43 : decode cX8_begins 43 = .ok (.return_, 1) := by decide +kernel
theorem dX8_copies_0 : decode cX8_copies 0 = .ok (.aload_n 0, 1) := by decide +kernel
theorem dX8_copies_1 : decode cX8_copies 1 = .ok (.aload_n 1, 1) := by decide +kernel
theorem dX8_copies_2 : decode cX8_copies 2 = .ok (.invokevirtual 40, 3) := by decide +kernel
theorem dX8_copies_5 : decode cX8_copies 5 = .ok (.aload_n 0, 1) := by decide +kernel
theorem dX8_copies_6 : decode cX8_copies 6 = .ok (.aload_n 1, 1) := by decide +kernel
theorem dX8_copies_7 : decode cX8_copies 7 = .ok (.getfield 18, 3) := by decide +kernel
theorem dX8_copies_10 : decode cX8_copies 10 = .ok (.putfield 18, 3) := by decide +kernel
theorem dX8_copies_13 : decode cX8_copies 13 = .ok (.aload_n 1, 1) := by decide +kernel
theorem dX8_copies_14 : decode cX8_copies 14 = .ok (.getfield 28, 3) := by decide +kernel
theorem dX8_copies_17 : decode cX8_copies 17 = .ok (.iconst 0, 1) := by decide +kernel
theorem dX8_copies_18 : decode cX8_copies 18 = .ok (.aload_n 0, 1) := by decide +kernel
theorem dX8_copies_19 : decode cX8_copies 19 = .ok (.getfield 28, 3) := by decide +kernel
theorem dX8_copies_22 : decode cX8_copies 22 = .ok (.iconst 0, 1) := by decide +kernel
theorem dX8_copies_23 : decode cX8_copies 23 = .ok (.bipush 6, 2) := by decide +kernel
theorem dX8_copies_25 : decode cX8_copies 25 = .ok (.invokestatic 44, 3) := by decide +kernel
theorem dX8_copies_28 : decode cX8_copies 28 = .ok (.return_, 1) := by decide +kernel
theorem dX8_copiesDay_0 : decode cX8_copiesDay 0 = .ok (.aload_n 0, 1) := by decide +kernel
theorem dX8_copiesDay_1 : decode cX8_copiesDay 1 = .ok (.aload_n 1, 1) := by decide +kernel
theorem dX8_copiesDay_2 : decode cX8_copiesDay 2 = .ok (.getfield 9, 3) := by decide +kernel
theorem dX8_copiesDay_5 : decode cX8_copiesDay 5 = .ok (.putfield 9, 3) := by decide +kernel
theorem dX8_copiesDay_8 : decode cX8_copiesDay 8 = .ok (.aload_n 0, 1) := by decide +kernel
theorem dX8_copiesDay_9 : decode cX8_copiesDay 9 = .ok (.aload_n 1, 1) := by decide +kernel
theorem dX8_copiesDay_10 : decode cX8_copiesDay 10 = .ok (.getfield 15, 3) := by decide +kernel
theorem dX8_copiesDay_13 : decode cX8_copiesDay 13 = .ok (.putfield 15, 3) := by decide +kernel
theorem dX8_copiesDay_16 : decode cX8_copiesDay 16 = .ok (.aload_n 1, 1) := by decide +kernel
theorem dX8_copiesDay_17 : decode cX8_copiesDay 17 = .ok (.getfield 21, 3) := by decide +kernel
theorem dX8_copiesDay_20 : decode cX8_copiesDay 20 = .ok (.iconst 0, 1) := by decide +kernel
theorem dX8_copiesDay_21 : decode cX8_copiesDay 21 = .ok (.aload_n 0, 1) := by decide +kernel
theorem dX8_copiesDay_22 : decode cX8_copiesDay 22 = .ok (.getfield 21, 3) := by decide +kernel
theorem dX8_copiesDay_25 : decode cX8_copiesDay 25 = .ok (.iconst 0, 1) := by decide +kernel
theorem dX8_copiesDay_26 : decode cX8_copiesDay 26 = .ok (.bipush 6, 2) := by decide +kernel
theorem dX8_copiesDay_28 : decode cX8_copiesDay 28 = .ok (.invokestatic 44, 3) := by decide +kernel
theorem dX8_copiesDay_31 : decode cX8_copiesDay 31 = .ok (.aload_n 1, 1) := by decide +kernel
theorem dX8_copiesDay_32 : decode cX8_copiesDay 32 = .ok (.getfield 25, 3) := by decide +kernel
theorem dX8_copiesDay_35 : decode cX8_copiesDay 35 = .ok (.iconst 0, 1) := by decide +kernel
theorem dX8_copiesDay_36 : decode cX8_copiesDay 36 = .ok (.aload_n 0, 1) := by decide +kernel
theorem dX8_copiesDay_37 : decode cX8_copiesDay 37 = .ok (.getfield 25, 3) := by decide +kernel
theorem dX8_copiesDay_40 : decode cX8_copiesDay 40 = .ok (.iconst 0, 1) := by decide +kernel
theorem dX8_copiesDay_41 : decode cX8_copiesDay 41 = .ok (.bipush 6, 2) := by decide +kernel
theorem dX8_copiesDay_43 : decode cX8_copiesDay 43 = .ok (.invokestatic 44, 3) := by decide +kernel
theorem dX8_copiesDay_46 : decode cX8_copiesDay 46 = .ok (.return_, 1) := by decide +kernel
theorem dX8_sits_0 : decode cX8_sits 0 = .ok (.aload_n 1, 1) := by decide +kernel
theorem dX8_sits_1 : decode cX8_sits 1 = .ok (.iload_n 2, 1) := by decide +kernel
theorem dX8_sits_2 : decode cX8_sits 2 = .ok (.aload_n 0, 1) := by decide +kernel
theorem dX8_sits_3 : decode cX8_sits 3 = .ok (.getfield 9, 3) := by decide +kernel
theorem dX8_sits_6 : decode cX8_sits 6 = .ok (.invokevirtual 50, 3) := by decide +kernel
theorem dX8_sits_9 : decode cX8_sits 9 = .ok (.ifCond .ne 7, 3) := by decide +kernel
theorem dX8_sits_12 : decode cX8_sits 12 = .ok (.iconst 1, 1) := by decide +kernel
theorem dX8_sits_13 : decode cX8_sits 13 = .ok (.goto 4, 3) := by decide +kernel
theorem dX8_sits_16 : decode cX8_sits 16 = .ok (.iconst 0, 1) := by decide +kernel
theorem dX8_sits_17 : decode cX8_sits 17 = .ok (.ireturn, 1) := by decide +kernel
theorem dX8_whoSits_0 : decode cX8_whoSits 0 = .ok (.iconst 0, 1) := by decide +kernel
theorem dX8_whoSits_1 : decode cX8_whoSits 1 = .ok (.istore_n 2, 1) := by decide +kernel
theorem dX8_whoSits_2 : decode cX8_whoSits 2 = .ok (.iconst 0, 1) := by decide +kernel
theorem dX8_whoSits_3 : decode cX8_whoSits 3 = .ok (.istore_n 3, 1) := by decide +kernel
theorem dX8_whoSits_4 : decode cX8_whoSits 4 = .ok (.iload_n 3, 1) := by decide +kernel
theorem dX8_whoSits_5 : decode cX8_whoSits 5 = .ok (.aload_n 1, 1) := by decide +kernel
theorem dX8_whoSits_6 : decode cX8_whoSits 6 = .ok (.getfield 54, 3) := by decide +kernel
theorem dX8_whoSits_9 : decode cX8_whoSits 9 = .ok (.if_icmp .ge 24, 3) := by decide +kernel
theorem dX8_whoSits_12 : decode cX8_whoSits 12 = .ok (.aload_n 0, 1) := by decide +kernel
theorem dX8_whoSits_13 : decode cX8_whoSits 13 = .ok (.aload_n 1, 1) := by decide +kernel
theorem dX8_whoSits_14 : decode cX8_whoSits 14 = .ok (.iload_n 3, 1) := by decide +kernel
theorem dX8_whoSits_15 : decode cX8_whoSits 15 = .ok (.invokevirtual 57, 3) := by decide +kernel
theorem dX8_whoSits_18 : decode cX8_whoSits 18 = .ok (.ifCond .eq 9, 3) := by decide +kernel
theorem dX8_whoSits_21 : decode cX8_whoSits 21 = .ok (.iload_n 2, 1) := by decide +kernel
theorem dX8_whoSits_22 : decode cX8_whoSits 22 = .ok (.iconst 1, 1) := by decide +kernel
theorem dX8_whoSits_23 : decode cX8_whoSits 23 = .ok (.iload_n 3, 1) := by decide +kernel
theorem dX8_whoSits_24 : decode cX8_whoSits 24 = .ok (.ishl, 1) := by decide +kernel
theorem dX8_whoSits_25 : decode cX8_whoSits 25 = .ok (.ior, 1) := by decide +kernel
theorem dX8_whoSits_26 : decode cX8_whoSits 26 = .ok (.istore_n 2, 1) := by decide +kernel
theorem dX8_whoSits_27 : decode cX8_whoSits 27 = .ok (.iinc 3 1, 3) := by decide +kernel
theorem dX8_whoSits_30 : decode cX8_whoSits 30 = .ok (.goto (-26), 3) := by decide +kernel
theorem dX8_whoSits_33 : decode cX8_whoSits 33 = .ok (.iload_n 2, 1) := by decide +kernel
theorem dX8_whoSits_34 : decode cX8_whoSits 34 = .ok (.ireturn, 1) := by decide +kernel
theorem dX8_canEat_0 : decode cX8_canEat 0 = .ok (.aload_n 0, 1) := by decide +kernel
theorem dX8_canEat_1 : decode cX8_canEat 1 = .ok (.aload_n 1, 1) := by decide +kernel
theorem dX8_canEat_2 : decode cX8_canEat 2 = .ok (.iload_n 2, 1) := by decide +kernel
theorem dX8_canEat_3 : decode cX8_canEat 3 = .ok (.invokevirtual 57, 3) := by decide +kernel
theorem dX8_canEat_6 : decode cX8_canEat 6 = .ok (.ifCond .eq 20, 3) := by decide +kernel
theorem dX8_canEat_9 : decode cX8_canEat 9 = .ok (.aload_n 1, 1) := by decide +kernel
theorem dX8_canEat_10 : decode cX8_canEat 10 = .ok (.iload_n 2, 1) := by decide +kernel
theorem dX8_canEat_11 : decode cX8_canEat 11 = .ok (.iload_n 3, 1) := by decide +kernel
theorem dX8_canEat_12 : decode cX8_canEat 12 = .ok (.invokevirtual 61, 3) := by decide +kernel
theorem dX8_canEat_15 : decode cX8_canEat 15 = .ok (.aload_n 0, 1) := by decide +kernel
theorem dX8_canEat_16 : decode cX8_canEat 16 = .ok (.getfield 15, 3) := by decide +kernel
theorem dX8_canEat_19 : decode cX8_canEat 19 = .ok (.if_icmp .gt 7, 3) := by decide +kernel
theorem dX8_canEat_22 : decode cX8_canEat 22 = .ok (.iconst 1, 1) := by decide +kernel
theorem dX8_canEat_23 : decode cX8_canEat 23 = .ok (.goto 4, 3) := by decide +kernel
theorem dX8_canEat_26 : decode cX8_canEat 26 = .ok (.iconst 0, 1) := by decide +kernel
theorem dX8_canEat_27 : decode cX8_canEat 27 = .ok (.ireturn, 1) := by decide +kernel
theorem dX8_wouldBeIll_0 : decode cX8_wouldBeIll 0 = .ok (.aload_n 0, 1) := by decide +kernel
theorem dX8_wouldBeIll_1 : decode cX8_wouldBeIll 1 = .ok (.getfield 25, 3) := by decide +kernel
theorem dX8_wouldBeIll_4 : decode cX8_wouldBeIll 4 = .ok (.iload_n 2, 1) := by decide +kernel
theorem dX8_wouldBeIll_5 : decode cX8_wouldBeIll 5 = .ok (.iaload, 1) := by decide +kernel
theorem dX8_wouldBeIll_6 : decode cX8_wouldBeIll 6 = .ok (.iconst (-1), 1) := by decide +kernel
theorem dX8_wouldBeIll_7 : decode cX8_wouldBeIll 7 = .ok (.if_icmp .eq 25, 3) := by decide +kernel
theorem dX8_wouldBeIll_10 : decode cX8_wouldBeIll 10 = .ok (.aload_n 0, 1) := by decide +kernel
theorem dX8_wouldBeIll_11 : decode cX8_wouldBeIll 11 = .ok (.getfield 9, 3) := by decide +kernel
theorem dX8_wouldBeIll_14 : decode cX8_wouldBeIll 14 = .ok (.aload_n 0, 1) := by decide +kernel
theorem dX8_wouldBeIll_15 : decode cX8_wouldBeIll 15 = .ok (.getfield 25, 3) := by decide +kernel
theorem dX8_wouldBeIll_18 : decode cX8_wouldBeIll 18 = .ok (.iload_n 2, 1) := by decide +kernel
theorem dX8_wouldBeIll_19 : decode cX8_wouldBeIll 19 = .ok (.iaload, 1) := by decide +kernel
theorem dX8_wouldBeIll_20 : decode cX8_wouldBeIll 20 = .ok (.isub, 1) := by decide +kernel
theorem dX8_wouldBeIll_21 : decode cX8_wouldBeIll 21 = .ok (.aload_n 1, 1) := by decide +kernel
theorem dX8_wouldBeIll_22 : decode cX8_wouldBeIll 22 = .ok (.getfield 65, 3) := by decide +kernel
theorem dX8_wouldBeIll_25 : decode cX8_wouldBeIll 25 = .ok (.if_icmp .gt 7, 3) := by decide +kernel
theorem dX8_wouldBeIll_28 : decode cX8_wouldBeIll 28 = .ok (.iconst 1, 1) := by decide +kernel
theorem dX8_wouldBeIll_29 : decode cX8_wouldBeIll 29 = .ok (.goto 4, 3) := by decide +kernel
theorem dX8_wouldBeIll_32 : decode cX8_wouldBeIll 32 = .ok (.iconst 0, 1) := by decide +kernel
theorem dX8_wouldBeIll_33 : decode cX8_wouldBeIll 33 = .ok (.ireturn, 1) := by decide +kernel
theorem dX8_gain_0 : decode cX8_gain 0 = .ok (.aload_n 0, 1) := by decide +kernel
theorem dX8_gain_1 : decode cX8_gain 1 = .ok (.aload_n 1, 1) := by decide +kernel
theorem dX8_gain_2 : decode cX8_gain 2 = .ok (.iload_n 2, 1) := by decide +kernel
theorem dX8_gain_3 : decode cX8_gain 3 = .ok (.invokevirtual 68, 3) := by decide +kernel
theorem dX8_gain_6 : decode cX8_gain 6 = .ok (.ifCond .ne 13, 3) := by decide +kernel
theorem dX8_gain_9 : decode cX8_gain 9 = .ok (.aload_n 0, 1) := by decide +kernel
theorem dX8_gain_10 : decode cX8_gain 10 = .ok (.aload_n 1, 1) := by decide +kernel
theorem dX8_gain_11 : decode cX8_gain 11 = .ok (.iload 5, 2) := by decide +kernel
theorem dX8_gain_13 : decode cX8_gain 13 = .ok (.invokevirtual 57, 3) := by decide +kernel
theorem dX8_gain_16 : decode cX8_gain 16 = .ok (.ifCond .ne 5, 3) := by decide +kernel
theorem dX8_gain_19 : decode cX8_gain 19 = .ok (.iconst 0, 1) := by decide +kernel
theorem dX8_gain_20 : decode cX8_gain 20 = .ok (.ireturn, 1) := by decide +kernel
theorem dX8_gain_21 : decode cX8_gain 21 = .ok (.aload_n 1, 1) := by decide +kernel
theorem dX8_gain_22 : decode cX8_gain 22 = .ok (.iload_n 2, 1) := by decide +kernel
theorem dX8_gain_23 : decode cX8_gain 23 = .ok (.iload_n 3, 1) := by decide +kernel
theorem dX8_gain_24 : decode cX8_gain 24 = .ok (.iload 4, 2) := by decide +kernel
theorem dX8_gain_26 : decode cX8_gain 26 = .ok (.iload 5, 2) := by decide +kernel
theorem dX8_gain_28 : decode cX8_gain 28 = .ok (.invokevirtual 71, 3) := by decide +kernel
theorem dX8_gain_31 : decode cX8_gain 31 = .ok (.ireturn, 1) := by decide +kernel
theorem dX8_takesMeal_0 : decode cX8_takesMeal 0 = .ok (.aload_n 0, 1) := by decide +kernel
theorem dX8_takesMeal_1 : decode cX8_takesMeal 1 = .ok (.aload_n 1, 1) := by decide +kernel
theorem dX8_takesMeal_2 : decode cX8_takesMeal 2 = .ok (.iload_n 2, 1) := by decide +kernel
theorem dX8_takesMeal_3 : decode cX8_takesMeal 3 = .ok (.invokevirtual 68, 3) := by decide +kernel
theorem dX8_takesMeal_6 : decode cX8_takesMeal 6 = .ok (.istore 5, 2) := by decide +kernel
theorem dX8_takesMeal_8 : decode cX8_takesMeal 8 = .ok (.iconst 0, 1) := by decide +kernel
theorem dX8_takesMeal_9 : decode cX8_takesMeal 9 = .ok (.istore 6, 2) := by decide +kernel
theorem dX8_takesMeal_11 : decode cX8_takesMeal 11 = .ok (.iload 6, 2) := by decide +kernel
theorem dX8_takesMeal_13 : decode cX8_takesMeal 13 = .ok (.aload_n 1, 1) := by decide +kernel
theorem dX8_takesMeal_14 : decode cX8_takesMeal 14 = .ok (.getfield 54, 3) := by decide +kernel
theorem dX8_takesMeal_17 : decode cX8_takesMeal 17 = .ok (.if_icmp .ge 26, 3) := by decide +kernel
theorem dX8_takesMeal_20 : decode cX8_takesMeal 20 = .ok (.aload_n 0, 1) := by decide +kernel
theorem dX8_takesMeal_21 : decode cX8_takesMeal 21 = .ok (.iload 6, 2) := by decide +kernel
theorem dX8_takesMeal_23 : decode cX8_takesMeal 23 = .ok (.aload_n 0, 1) := by decide +kernel
theorem dX8_takesMeal_24 : decode cX8_takesMeal 24 = .ok (.aload_n 1, 1) := by decide +kernel
theorem dX8_takesMeal_25 : decode cX8_takesMeal 25 = .ok (.iload_n 2, 1) := by decide +kernel
theorem dX8_takesMeal_26 : decode cX8_takesMeal 26 = .ok (.iload_n 3, 1) := by decide +kernel
theorem dX8_takesMeal_27 : decode cX8_takesMeal 27 = .ok (.iload 4, 2) := by decide +kernel
theorem dX8_takesMeal_29 : decode cX8_takesMeal 29 = .ok (.iload 6, 2) := by decide +kernel
theorem dX8_takesMeal_31 : decode cX8_takesMeal 31 = .ok (.invokevirtual 75, 3) := by decide +kernel
theorem dX8_takesMeal_34 : decode cX8_takesMeal 34 = .ok (.invokevirtual 79, 3) := by decide +kernel
theorem dX8_takesMeal_37 : decode cX8_takesMeal 37 = .ok (.iinc 6 1, 3) := by decide +kernel
theorem dX8_takesMeal_40 : decode cX8_takesMeal 40 = .ok (.goto (-29), 3) := by decide +kernel
theorem dX8_takesMeal_43 : decode cX8_takesMeal 43 = .ok (.aload_n 0, 1) := by decide +kernel
theorem dX8_takesMeal_44 : decode cX8_takesMeal 44 = .ok (.dup, 1) := by decide +kernel
theorem dX8_takesMeal_45 : decode cX8_takesMeal 45 = .ok (.getfield 15, 3) := by decide +kernel
theorem dX8_takesMeal_48 : decode cX8_takesMeal 48 = .ok (.aload_n 1, 1) := by decide +kernel
theorem dX8_takesMeal_49 : decode cX8_takesMeal 49 = .ok (.iload_n 2, 1) := by decide +kernel
theorem dX8_takesMeal_50 : decode cX8_takesMeal 50 = .ok (.iload_n 3, 1) := by decide +kernel
theorem dX8_takesMeal_51 : decode cX8_takesMeal 51 = .ok (.invokevirtual 61, 3) := by decide +kernel
theorem dX8_takesMeal_54 : decode cX8_takesMeal 54 = .ok (.isub, 1) := by decide +kernel
theorem dX8_takesMeal_55 : decode cX8_takesMeal 55 = .ok (.putfield 15, 3) := by decide +kernel
theorem dX8_takesMeal_58 : decode cX8_takesMeal 58 = .ok (.aload_n 0, 1) := by decide +kernel
theorem dX8_takesMeal_59 : decode cX8_takesMeal 59 = .ok (.getfield 25, 3) := by decide +kernel
theorem dX8_takesMeal_62 : decode cX8_takesMeal 62 = .ok (.iload_n 2, 1) := by decide +kernel
theorem dX8_takesMeal_63 : decode cX8_takesMeal 63 = .ok (.aload_n 0, 1) := by decide +kernel
theorem dX8_takesMeal_64 : decode cX8_takesMeal 64 = .ok (.getfield 9, 3) := by decide +kernel
theorem dX8_takesMeal_67 : decode cX8_takesMeal 67 = .ok (.iastore, 1) := by decide +kernel
theorem dX8_takesMeal_68 : decode cX8_takesMeal 68 = .ok (.aload_n 0, 1) := by decide +kernel
theorem dX8_takesMeal_69 : decode cX8_takesMeal 69 = .ok (.dup, 1) := by decide +kernel
theorem dX8_takesMeal_70 : decode cX8_takesMeal 70 = .ok (.getfield 18, 3) := by decide +kernel
theorem dX8_takesMeal_73 : decode cX8_takesMeal 73 = .ok (.iload 5, 2) := by decide +kernel
theorem dX8_takesMeal_75 : decode cX8_takesMeal 75 = .ok (.ifCond .eq 7, 3) := by decide +kernel
theorem dX8_takesMeal_78 : decode cX8_takesMeal 78 = .ok (.iconst 1, 1) := by decide +kernel
theorem dX8_takesMeal_79 : decode cX8_takesMeal 79 = .ok (.goto 4, 3) := by decide +kernel
theorem dX8_takesMeal_82 : decode cX8_takesMeal 82 = .ok (.iconst 0, 1) := by decide +kernel
theorem dX8_takesMeal_83 : decode cX8_takesMeal 83 = .ok (.iadd, 1) := by decide +kernel
theorem dX8_takesMeal_84 : decode cX8_takesMeal 84 = .ok (.putfield 18, 3) := by decide +kernel
theorem dX8_takesMeal_87 : decode cX8_takesMeal 87 = .ok (.iload 5, 2) := by decide +kernel
theorem dX8_takesMeal_89 : decode cX8_takesMeal 89 = .ok (.ireturn, 1) := by decide +kernel
theorem dX8_eatsAbroad_0 : decode cX8_eatsAbroad 0 = .ok (.aload_n 0, 1) := by decide +kernel
theorem dX8_eatsAbroad_1 : decode cX8_eatsAbroad 1 = .ok (.iload_n 2, 1) := by decide +kernel
theorem dX8_eatsAbroad_2 : decode cX8_eatsAbroad 2 = .ok (.aload_n 1, 1) := by decide +kernel
theorem dX8_eatsAbroad_3 : decode cX8_eatsAbroad 3 = .ok (.iload_n 2, 1) := by decide +kernel
theorem dX8_eatsAbroad_4 : decode cX8_eatsAbroad 4 = .ok (.iload_n 3, 1) := by decide +kernel
theorem dX8_eatsAbroad_5 : decode cX8_eatsAbroad 5 = .ok (.invokevirtual 82, 3) := by decide +kernel
theorem dX8_eatsAbroad_8 : decode cX8_eatsAbroad 8 = .ok (.invokevirtual 79, 3) := by decide +kernel
theorem dX8_eatsAbroad_11 : decode cX8_eatsAbroad 11 = .ok (.return_, 1) := by decide +kernel
theorem dX8_fill_0 : decode cX8_fill 0 = .ok (.aload_n 0, 1) := by decide +kernel
theorem dX8_fill_1 : decode cX8_fill 1 = .ok (.getfield 21, 3) := by decide +kernel
theorem dX8_fill_4 : decode cX8_fill 4 = .ok (.iload_n 1, 1) := by decide +kernel
theorem dX8_fill_5 : decode cX8_fill 5 = .ok (.bipush 99, 2) := by decide +kernel
theorem dX8_fill_7 : decode cX8_fill 7 = .ok (.aload_n 0, 1) := by decide +kernel
theorem dX8_fill_8 : decode cX8_fill 8 = .ok (.getfield 21, 3) := by decide +kernel
theorem dX8_fill_11 : decode cX8_fill 11 = .ok (.iload_n 1, 1) := by decide +kernel
theorem dX8_fill_12 : decode cX8_fill 12 = .ok (.iaload, 1) := by decide +kernel
theorem dX8_fill_13 : decode cX8_fill 13 = .ok (.iload_n 2, 1) := by decide +kernel
theorem dX8_fill_14 : decode cX8_fill 14 = .ok (.iadd, 1) := by decide +kernel
theorem dX8_fill_15 : decode cX8_fill 15 = .ok (.invokestatic 85, 3) := by decide +kernel
theorem dX8_fill_18 : decode cX8_fill 18 = .ok (.iastore, 1) := by decide +kernel
theorem dX8_fill_19 : decode cX8_fill 19 = .ok (.return_, 1) := by decide +kernel
theorem dX8_endsDay_0 : decode cX8_endsDay 0 = .ok (.iconst 0, 1) := by decide +kernel
theorem dX8_endsDay_1 : decode cX8_endsDay 1 = .ok (.istore_n 2, 1) := by decide +kernel
theorem dX8_endsDay_2 : decode cX8_endsDay 2 = .ok (.iconst 0, 1) := by decide +kernel
theorem dX8_endsDay_3 : decode cX8_endsDay 3 = .ok (.istore_n 3, 1) := by decide +kernel
theorem dX8_endsDay_4 : decode cX8_endsDay 4 = .ok (.iload_n 3, 1) := by decide +kernel
theorem dX8_endsDay_5 : decode cX8_endsDay 5 = .ok (.aload_n 1, 1) := by decide +kernel
theorem dX8_endsDay_6 : decode cX8_endsDay 6 = .ok (.getfield 54, 3) := by decide +kernel
theorem dX8_endsDay_9 : decode cX8_endsDay 9 = .ok (.if_icmp .ge 62, 3) := by decide +kernel
theorem dX8_endsDay_12 : decode cX8_endsDay 12 = .ok (.aload_n 0, 1) := by decide +kernel
theorem dX8_endsDay_13 : decode cX8_endsDay 13 = .ok (.getfield 21, 3) := by decide +kernel
theorem dX8_endsDay_16 : decode cX8_endsDay 16 = .ok (.iload_n 3, 1) := by decide +kernel
theorem dX8_endsDay_17 : decode cX8_endsDay 17 = .ok (.iaload, 1) := by decide +kernel
theorem dX8_endsDay_18 : decode cX8_endsDay 18 = .ok (.aload_n 1, 1) := by decide +kernel
theorem dX8_endsDay_19 : decode cX8_endsDay 19 = .ok (.getfield 90, 3) := by decide +kernel
theorem dX8_endsDay_22 : decode cX8_endsDay 22 = .ok (.iload_n 3, 1) := by decide +kernel
theorem dX8_endsDay_23 : decode cX8_endsDay 23 = .ok (.iaload, 1) := by decide +kernel
theorem dX8_endsDay_24 : decode cX8_endsDay 24 = .ok (.if_icmp .ge 26, 3) := by decide +kernel
theorem dX8_endsDay_27 : decode cX8_endsDay 27 = .ok (.aload_n 0, 1) := by decide +kernel
theorem dX8_endsDay_28 : decode cX8_endsDay 28 = .ok (.getfield 21, 3) := by decide +kernel
theorem dX8_endsDay_31 : decode cX8_endsDay 31 = .ok (.iload_n 3, 1) := by decide +kernel
theorem dX8_endsDay_32 : decode cX8_endsDay 32 = .ok (.iconst 0, 1) := by decide +kernel
theorem dX8_endsDay_33 : decode cX8_endsDay 33 = .ok (.iastore, 1) := by decide +kernel
theorem dX8_endsDay_34 : decode cX8_endsDay 34 = .ok (.aload_n 0, 1) := by decide +kernel
theorem dX8_endsDay_35 : decode cX8_endsDay 35 = .ok (.getfield 28, 3) := by decide +kernel
theorem dX8_endsDay_38 : decode cX8_endsDay 38 = .ok (.iload_n 3, 1) := by decide +kernel
theorem dX8_endsDay_39 : decode cX8_endsDay 39 = .ok (.dup2, 1) := by decide +kernel
theorem dX8_endsDay_40 : decode cX8_endsDay 40 = .ok (.iaload, 1) := by decide +kernel
theorem dX8_endsDay_41 : decode cX8_endsDay 41 = .ok (.iconst 1, 1) := by decide +kernel
theorem dX8_endsDay_42 : decode cX8_endsDay 42 = .ok (.iadd, 1) := by decide +kernel
theorem dX8_endsDay_43 : decode cX8_endsDay 43 = .ok (.iastore, 1) := by decide +kernel
theorem dX8_endsDay_44 : decode cX8_endsDay 44 = .ok (.iinc 2 1, 3) := by decide +kernel
theorem dX8_endsDay_47 : decode cX8_endsDay 47 = .ok (.goto 18, 3) := by decide +kernel
theorem dX8_endsDay_50 : decode cX8_endsDay 50 = .ok (.aload_n 0, 1) := by decide +kernel
theorem dX8_endsDay_51 : decode cX8_endsDay 51 = .ok (.getfield 21, 3) := by decide +kernel
theorem dX8_endsDay_54 : decode cX8_endsDay 54 = .ok (.iload_n 3, 1) := by decide +kernel
theorem dX8_endsDay_55 : decode cX8_endsDay 55 = .ok (.dup2, 1) := by decide +kernel
theorem dX8_endsDay_56 : decode cX8_endsDay 56 = .ok (.iaload, 1) := by decide +kernel
theorem dX8_endsDay_57 : decode cX8_endsDay 57 = .ok (.aload_n 1, 1) := by decide +kernel
theorem dX8_endsDay_58 : decode cX8_endsDay 58 = .ok (.getfield 90, 3) := by decide +kernel
theorem dX8_endsDay_61 : decode cX8_endsDay 61 = .ok (.iload_n 3, 1) := by decide +kernel
theorem dX8_endsDay_62 : decode cX8_endsDay 62 = .ok (.iaload, 1) := by decide +kernel
theorem dX8_endsDay_63 : decode cX8_endsDay 63 = .ok (.isub, 1) := by decide +kernel
theorem dX8_endsDay_64 : decode cX8_endsDay 64 = .ok (.iastore, 1) := by decide +kernel
theorem dX8_endsDay_65 : decode cX8_endsDay 65 = .ok (.iinc 3 1, 3) := by decide +kernel
theorem dX8_endsDay_68 : decode cX8_endsDay 68 = .ok (.goto (-64), 3) := by decide +kernel
theorem dX8_endsDay_71 : decode cX8_endsDay 71 = .ok (.aload_n 0, 1) := by decide +kernel
theorem dX8_endsDay_72 : decode cX8_endsDay 72 = .ok (.dup, 1) := by decide +kernel
theorem dX8_endsDay_73 : decode cX8_endsDay 73 = .ok (.getfield 9, 3) := by decide +kernel
theorem dX8_endsDay_76 : decode cX8_endsDay 76 = .ok (.iconst 1, 1) := by decide +kernel
theorem dX8_endsDay_77 : decode cX8_endsDay 77 = .ok (.iadd, 1) := by decide +kernel
theorem dX8_endsDay_78 : decode cX8_endsDay 78 = .ok (.putfield 9, 3) := by decide +kernel
theorem dX8_endsDay_81 : decode cX8_endsDay 81 = .ok (.iload_n 2, 1) := by decide +kernel
theorem dX8_endsDay_82 : decode cX8_endsDay 82 = .ok (.ireturn, 1) := by decide +kernel
theorem dX9_init_0 : decode cX9_init 0 = .ok (.aload_n 0, 1) := by decide +kernel
theorem dX9_init_1 : decode cX9_init 1 = .ok (.invokespecial 3, 3) := by decide +kernel
theorem dX9_init_4 : decode cX9_init 4 = .ok (.aload_n 0, 1) := by decide +kernel
theorem dX9_init_5 : decode cX9_init 5 = .ok (.sipush 1000, 3) := by decide +kernel
theorem dX9_init_8 : decode cX9_init 8 = .ok (.newarray .byte, 2) := by decide +kernel
theorem dX9_init_10 : decode cX9_init 10 = .ok (.putfield 9, 3) := by decide +kernel
theorem dX9_init_13 : decode cX9_init 13 = .ok (.aload_n 0, 1) := by decide +kernel
theorem dX9_init_14 : decode cX9_init 14 = .ok (.iconst 0, 1) := by decide +kernel
theorem dX9_init_15 : decode cX9_init 15 = .ok (.putfield 15, 3) := by decide +kernel
theorem dX9_init_18 : decode cX9_init 18 = .ok (.aload_n 0, 1) := by decide +kernel
theorem dX9_init_19 : decode cX9_init 19 = .ok (.iconst 0, 1) := by decide +kernel
theorem dX9_init_20 : decode cX9_init 20 = .ok (.putfield 19, 3) := by decide +kernel
theorem dX9_init_23 : decode cX9_init 23 = .ok (.aload_n 0, 1) := by decide +kernel
theorem dX9_init_24 : decode cX9_init 24 = .ok (.iconst 0, 1) := by decide +kernel
theorem dX9_init_25 : decode cX9_init 25 = .ok (.putfield 22, 3) := by decide +kernel
theorem dX9_init_28 : decode cX9_init 28 = .ok (.aload_n 0, 1) := by decide +kernel
theorem dX9_init_29 : decode cX9_init 29 = .ok (.iconst 0, 1) := by decide +kernel
theorem dX9_init_30 : decode cX9_init 30 = .ok (.putfield 25, 3) := by decide +kernel
theorem dX9_init_33 : decode cX9_init 33 = .ok (.aload_n 0, 1) := by decide +kernel
theorem dX9_init_34 : decode cX9_init 34 = .ok (.bipush 32, 2) := by decide +kernel
theorem dX9_init_36 : decode cX9_init 36 = .ok (.putfield 28, 3) := by decide +kernel
theorem dX9_init_39 : decode cX9_init 39 = .ok (.aload_n 0, 1) := by decide +kernel
theorem dX9_init_40 : decode cX9_init 40 = .ok (.lconst 0, 1) := by decide +kernel
theorem dX9_init_41 : decode cX9_init 41 = .ok (.putfield 32, 3) := by decide +kernel
theorem dX9_init_44 : decode cX9_init 44 = .ok (.aload_n 0, 1) := by decide +kernel
theorem dX9_init_45 : decode cX9_init 45 = .ok (.iconst 0, 1) := by decide +kernel
theorem dX9_init_46 : decode cX9_init 46 = .ok (.putfield 36, 3) := by decide +kernel
theorem dX9_init_49 : decode cX9_init 49 = .ok (.aload_n 0, 1) := by decide +kernel
theorem dX9_init_50 : decode cX9_init 50 = .ok (.iconst 0, 1) := by decide +kernel
theorem dX9_init_51 : decode cX9_init 51 = .ok (.putfield 39, 3) := by decide +kernel
theorem dX9_init_54 : decode cX9_init 54 = .ok (.return_, 1) := by decide +kernel
theorem dX9_addBytes_0 : decode cX9_addBytes 0 = .ok (.bipush 56, 2) := by decide +kernel
theorem dX9_addBytes_2 : decode cX9_addBytes 2 = .ok (.istore_n 3, 1) := by decide +kernel
theorem dX9_addBytes_3 : decode cX9_addBytes 3 = .ok (.iload_n 3, 1) := by decide +kernel
theorem dX9_addBytes_4 : decode cX9_addBytes 4 = .ok (.ifCond .lt 84, 3) := by decide +kernel
theorem dX9_addBytes_7 : decode cX9_addBytes 7 = .ok (.lload_n 1, 1) := by decide +kernel
theorem dX9_addBytes_8 : decode cX9_addBytes 8 = .ok (.iload_n 3, 1) := by decide +kernel
theorem dX9_addBytes_9 : decode cX9_addBytes 9 = .ok (.lushr, 1) := by decide +kernel
theorem dX9_addBytes_10 : decode cX9_addBytes 10 = .ok (.ldc2_w 42, 3) := by decide +kernel
theorem dX9_addBytes_13 : decode cX9_addBytes 13 = .ok (.land, 1) := by decide +kernel
theorem dX9_addBytes_14 : decode cX9_addBytes 14 = .ok (.l2i, 1) := by decide +kernel
theorem dX9_addBytes_15 : decode cX9_addBytes 15 = .ok (.istore 4, 2) := by decide +kernel
theorem dX9_addBytes_17 : decode cX9_addBytes 17 = .ok (.iload 4, 2) := by decide +kernel
theorem dX9_addBytes_19 : decode cX9_addBytes 19 = .ok (.bipush 10, 2) := by decide +kernel
theorem dX9_addBytes_21 : decode cX9_addBytes 21 = .ok (.if_icmp .eq 17, 3) := by decide +kernel
theorem dX9_addBytes_24 : decode cX9_addBytes 24 = .ok (.iload 4, 2) := by decide +kernel
theorem dX9_addBytes_26 : decode cX9_addBytes 26 = .ok (.bipush 32, 2) := by decide +kernel
theorem dX9_addBytes_28 : decode cX9_addBytes 28 = .ok (.if_icmp .lt 14, 3) := by decide +kernel
theorem dX9_addBytes_31 : decode cX9_addBytes 31 = .ok (.iload 4, 2) := by decide +kernel
theorem dX9_addBytes_33 : decode cX9_addBytes 33 = .ok (.bipush 126, 2) := by decide +kernel
theorem dX9_addBytes_35 : decode cX9_addBytes 35 = .ok (.if_icmp .gt 7, 3) := by decide +kernel
theorem dX9_addBytes_38 : decode cX9_addBytes 38 = .ok (.iconst 1, 1) := by decide +kernel
theorem dX9_addBytes_39 : decode cX9_addBytes 39 = .ok (.goto 4, 3) := by decide +kernel
theorem dX9_addBytes_42 : decode cX9_addBytes 42 = .ok (.iconst 0, 1) := by decide +kernel
theorem dX9_addBytes_43 : decode cX9_addBytes 43 = .ok (.istore 5, 2) := by decide +kernel
theorem dX9_addBytes_45 : decode cX9_addBytes 45 = .ok (.iload 5, 2) := by decide +kernel
theorem dX9_addBytes_47 : decode cX9_addBytes 47 = .ok (.ifCond .eq 35, 3) := by decide +kernel
theorem dX9_addBytes_50 : decode cX9_addBytes 50 = .ok (.aload_n 0, 1) := by decide +kernel
theorem dX9_addBytes_51 : decode cX9_addBytes 51 = .ok (.getfield 15, 3) := by decide +kernel
theorem dX9_addBytes_54 : decode cX9_addBytes 54 = .ok (.sipush 1000, 3) := by decide +kernel
theorem dX9_addBytes_57 : decode cX9_addBytes 57 = .ok (.if_icmp .ge 25, 3) := by decide +kernel
theorem dX9_addBytes_60 : decode cX9_addBytes 60 = .ok (.aload_n 0, 1) := by decide +kernel
theorem dX9_addBytes_61 : decode cX9_addBytes 61 = .ok (.getfield 9, 3) := by decide +kernel
theorem dX9_addBytes_64 : decode cX9_addBytes 64 = .ok (.aload_n 0, 1) := by decide +kernel
theorem dX9_addBytes_65 : decode cX9_addBytes 65 = .ok (.getfield 15, 3) := by decide +kernel
theorem dX9_addBytes_68 : decode cX9_addBytes 68 = .ok (.iload 4, 2) := by decide +kernel
theorem dX9_addBytes_70 : decode cX9_addBytes 70 = .ok (.i2b, 1) := by decide +kernel
theorem dX9_addBytes_71 : decode cX9_addBytes 71 = .ok (.bastore, 1) := by decide +kernel
theorem dX9_addBytes_72 : decode cX9_addBytes 72 = .ok (.aload_n 0, 1) := by decide +kernel
theorem dX9_addBytes_73 : decode cX9_addBytes 73 = .ok (.dup, 1) := by decide +kernel
theorem dX9_addBytes_74 : decode cX9_addBytes 74 = .ok (.getfield 15, 3) := by decide +kernel
theorem dX9_addBytes_77 : decode cX9_addBytes 77 = .ok (.iconst 1, 1) := by decide +kernel
theorem dX9_addBytes_78 : decode cX9_addBytes 78 = .ok (.iadd, 1) := by decide +kernel
theorem dX9_addBytes_79 : decode cX9_addBytes 79 = .ok (.putfield 15, 3) := by decide +kernel
theorem dX9_addBytes_82 : decode cX9_addBytes 82 = .ok (.iinc 3 (-8), 3) := by decide +kernel
theorem dX9_addBytes_85 : decode cX9_addBytes 85 = .ok (.goto (-82), 3) := by decide +kernel
theorem dX9_addBytes_88 : decode cX9_addBytes 88 = .ok (.return_, 1) := by decide +kernel
theorem dX9_rewind_0 : decode cX9_rewind 0 = .ok (.aload_n 0, 1) := by decide +kernel
theorem dX9_rewind_1 : decode cX9_rewind 1 = .ok (.iconst 0, 1) := by decide +kernel
theorem dX9_rewind_2 : decode cX9_rewind 2 = .ok (.putfield 36, 3) := by decide +kernel
theorem dX9_rewind_5 : decode cX9_rewind 5 = .ok (.aload_n 0, 1) := by decide +kernel
theorem dX9_rewind_6 : decode cX9_rewind 6 = .ok (.iconst 0, 1) := by decide +kernel
theorem dX9_rewind_7 : decode cX9_rewind 7 = .ok (.putfield 19, 3) := by decide +kernel
theorem dX9_rewind_10 : decode cX9_rewind 10 = .ok (.return_, 1) := by decide +kernel
theorem dX9_takesToken_0 : decode cX9_takesToken 0 = .ok (.aload_n 0, 1) := by decide +kernel
theorem dX9_takesToken_1 : decode cX9_takesToken 1 = .ok (.getfield 36, 3) := by decide +kernel
theorem dX9_takesToken_4 : decode cX9_takesToken 4 = .ok (.aload_n 0, 1) := by decide +kernel
theorem dX9_takesToken_5 : decode cX9_takesToken 5 = .ok (.getfield 15, 3) := by decide +kernel
theorem dX9_takesToken_8 : decode cX9_takesToken 8 = .ok (.if_icmp .ge 31, 3) := by decide +kernel
theorem dX9_takesToken_11 : decode cX9_takesToken 11 = .ok (.aload_n 0, 1) := by decide +kernel
theorem dX9_takesToken_12 : decode cX9_takesToken 12 = .ok (.getfield 9, 3) := by decide +kernel
theorem dX9_takesToken_15 : decode cX9_takesToken 15 = .ok (.aload_n 0, 1) := by decide +kernel
theorem dX9_takesToken_16 : decode cX9_takesToken 16 = .ok (.getfield 36, 3) := by decide +kernel
theorem dX9_takesToken_19 : decode cX9_takesToken 19 = .ok (.baload, 1) := by decide +kernel
theorem dX9_takesToken_20 : decode cX9_takesToken 20 = .ok (.invokestatic 44, 3) := by decide +kernel
theorem dX9_takesToken_23 : decode cX9_takesToken 23 = .ok (.ifCond .eq 16, 3) := by decide +kernel
theorem dX9_takesToken_26 : decode cX9_takesToken 26 = .ok (.aload_n 0, 1) := by decide +kernel
theorem dX9_takesToken_27 : decode cX9_takesToken 27 = .ok (.dup, 1) := by decide +kernel
theorem dX9_takesToken_28 : decode cX9_takesToken 28 = .ok (.getfield 36, 3) := by decide +kernel
theorem dX9_takesToken_31 : decode cX9_takesToken 31 = .ok (.iconst 1, 1) := by decide +kernel
theorem dX9_takesToken_32 : decode cX9_takesToken 32 = .ok (.iadd, 1) := by decide +kernel
theorem dX9_takesToken_33 : decode cX9_takesToken 33 = .ok (.putfield 36, 3) := by decide +kernel
theorem dX9_takesToken_36 : decode cX9_takesToken 36 = .ok (.goto (-36), 3) := by decide +kernel
theorem dX9_takesToken_39 : decode cX9_takesToken 39 = .ok (.aload_n 0, 1) := by decide +kernel
theorem dX9_takesToken_40 : decode cX9_takesToken 40 = .ok (.aload_n 0, 1) := by decide +kernel
theorem dX9_takesToken_41 : decode cX9_takesToken 41 = .ok (.getfield 36, 3) := by decide +kernel
theorem dX9_takesToken_44 : decode cX9_takesToken 44 = .ok (.putfield 39, 3) := by decide +kernel
theorem dX9_takesToken_47 : decode cX9_takesToken 47 = .ok (.aload_n 0, 1) := by decide +kernel
theorem dX9_takesToken_48 : decode cX9_takesToken 48 = .ok (.getfield 36, 3) := by decide +kernel
theorem dX9_takesToken_51 : decode cX9_takesToken 51 = .ok (.aload_n 0, 1) := by decide +kernel
theorem dX9_takesToken_52 : decode cX9_takesToken 52 = .ok (.getfield 15, 3) := by decide +kernel
theorem dX9_takesToken_55 : decode cX9_takesToken 55 = .ok (.if_icmp .lt 11, 3) := by decide +kernel
theorem dX9_takesToken_58 : decode cX9_takesToken 58 = .ok (.aload_n 0, 1) := by decide +kernel
theorem dX9_takesToken_59 : decode cX9_takesToken 59 = .ok (.iconst 0, 1) := by decide +kernel
theorem dX9_takesToken_60 : decode cX9_takesToken 60 = .ok (.putfield 22, 3) := by decide +kernel
theorem dX9_takesToken_63 : decode cX9_takesToken 63 = .ok (.goto 92, 3) := by decide +kernel
theorem dX9_takesToken_66 : decode cX9_takesToken 66 = .ok (.aload_n 0, 1) := by decide +kernel
theorem dX9_takesToken_67 : decode cX9_takesToken 67 = .ok (.getfield 9, 3) := by decide +kernel
theorem dX9_takesToken_70 : decode cX9_takesToken 70 = .ok (.aload_n 0, 1) := by decide +kernel
theorem dX9_takesToken_71 : decode cX9_takesToken 71 = .ok (.getfield 36, 3) := by decide +kernel
theorem dX9_takesToken_74 : decode cX9_takesToken 74 = .ok (.baload, 1) := by decide +kernel
theorem dX9_takesToken_75 : decode cX9_takesToken 75 = .ok (.invokestatic 48, 3) := by decide +kernel
theorem dX9_takesToken_78 : decode cX9_takesToken 78 = .ok (.ifCond .eq 10, 3) := by decide +kernel
theorem dX9_takesToken_81 : decode cX9_takesToken 81 = .ok (.aload_n 0, 1) := by decide +kernel
theorem dX9_takesToken_82 : decode cX9_takesToken 82 = .ok (.invokevirtual 51, 3) := by decide +kernel
theorem dX9_takesToken_85 : decode cX9_takesToken 85 = .ok (.goto 70, 3) := by decide +kernel
theorem dX9_takesToken_88 : decode cX9_takesToken 88 = .ok (.aload_n 0, 1) := by decide +kernel
theorem dX9_takesToken_89 : decode cX9_takesToken 89 = .ok (.getfield 9, 3) := by decide +kernel
theorem dX9_takesToken_92 : decode cX9_takesToken 92 = .ok (.aload_n 0, 1) := by decide +kernel
theorem dX9_takesToken_93 : decode cX9_takesToken 93 = .ok (.getfield 36, 3) := by decide +kernel
theorem dX9_takesToken_96 : decode cX9_takesToken 96 = .ok (.baload, 1) := by decide +kernel
theorem dX9_takesToken_97 : decode cX9_takesToken 97 = .ok (.invokestatic 54, 3) := by decide +kernel
theorem dX9_takesToken_100 : decode cX9_takesToken 100 = .ok (.ifCond .eq 10, 3) := by decide +kernel
theorem dX9_takesToken_103 : decode cX9_takesToken 103 = .ok (.aload_n 0, 1) := by decide +kernel
theorem dX9_takesToken_104 : decode cX9_takesToken 104 = .ok (.invokevirtual 57, 3) := by decide +kernel
theorem dX9_takesToken_107 : decode cX9_takesToken 107 = .ok (.goto 48, 3) := by decide +kernel
theorem dX9_takesToken_110 : decode cX9_takesToken 110 = .ok (.aload_n 0, 1) := by decide +kernel
theorem dX9_takesToken_111 : decode cX9_takesToken 111 = .ok (.aload_n 0, 1) := by decide +kernel
theorem dX9_takesToken_112 : decode cX9_takesToken 112 = .ok (.getfield 9, 3) := by decide +kernel
theorem dX9_takesToken_115 : decode cX9_takesToken 115 = .ok (.aload_n 0, 1) := by decide +kernel
theorem dX9_takesToken_116 : decode cX9_takesToken 116 = .ok (.getfield 36, 3) := by decide +kernel
theorem dX9_takesToken_119 : decode cX9_takesToken 119 = .ok (.baload, 1) := by decide +kernel
theorem dX9_takesToken_120 : decode cX9_takesToken 120 = .ok (.i2c, 1) := by decide +kernel
theorem dX9_takesToken_121 : decode cX9_takesToken 121 = .ok (.putfield 28, 3) := by decide +kernel
theorem dX9_takesToken_124 : decode cX9_takesToken 124 = .ok (.aload_n 0, 1) := by decide +kernel
theorem dX9_takesToken_125 : decode cX9_takesToken 125 = .ok (.ldc 60, 2) := by decide +kernel
theorem dX9_takesToken_127 : decode cX9_takesToken 127 = .ok (.aload_n 0, 1) := by decide +kernel
theorem dX9_takesToken_128 : decode cX9_takesToken 128 = .ok (.getfield 28, 3) := by decide +kernel
theorem dX9_takesToken_131 : decode cX9_takesToken 131 = .ok (.invokevirtual 62, 3) := by decide +kernel
theorem dX9_takesToken_134 : decode cX9_takesToken 134 = .ok (.ifCond .lt 7, 3) := by decide +kernel
theorem dX9_takesToken_137 : decode cX9_takesToken 137 = .ok (.iconst 3, 1) := by decide +kernel
theorem dX9_takesToken_138 : decode cX9_takesToken 138 = .ok (.goto 4, 3) := by decide +kernel
theorem dX9_takesToken_141 : decode cX9_takesToken 141 = .ok (.iconst 4, 1) := by decide +kernel
theorem dX9_takesToken_142 : decode cX9_takesToken 142 = .ok (.putfield 22, 3) := by decide +kernel
theorem dX9_takesToken_145 : decode cX9_takesToken 145 = .ok (.aload_n 0, 1) := by decide +kernel
theorem dX9_takesToken_146 : decode cX9_takesToken 146 = .ok (.dup, 1) := by decide +kernel
theorem dX9_takesToken_147 : decode cX9_takesToken 147 = .ok (.getfield 36, 3) := by decide +kernel
theorem dX9_takesToken_150 : decode cX9_takesToken 150 = .ok (.iconst 1, 1) := by decide +kernel
theorem dX9_takesToken_151 : decode cX9_takesToken 151 = .ok (.iadd, 1) := by decide +kernel
theorem dX9_takesToken_152 : decode cX9_takesToken 152 = .ok (.putfield 36, 3) := by decide +kernel
theorem dX9_takesToken_155 : decode cX9_takesToken 155 = .ok (.return_, 1) := by decide +kernel
theorem dX9_takesLetters_0 : decode cX9_takesLetters 0 = .ok (.aload_n 0, 1) := by decide +kernel
theorem dX9_takesLetters_1 : decode cX9_takesLetters 1 = .ok (.lconst 0, 1) := by decide +kernel
theorem dX9_takesLetters_2 : decode cX9_takesLetters 2 = .ok (.putfield 32, 3) := by decide +kernel
theorem dX9_takesLetters_5 : decode cX9_takesLetters 5 = .ok (.aload_n 0, 1) := by decide +kernel
theorem dX9_takesLetters_6 : decode cX9_takesLetters 6 = .ok (.getfield 36, 3) := by decide +kernel
theorem dX9_takesLetters_9 : decode cX9_takesLetters 9 = .ok (.aload_n 0, 1) := by decide +kernel
theorem dX9_takesLetters_10 : decode cX9_takesLetters 10 = .ok (.getfield 15, 3) := by decide +kernel
theorem dX9_takesLetters_13 : decode cX9_takesLetters 13 = .ok (.if_icmp .ge 52, 3) := by decide +kernel
theorem dX9_takesLetters_16 : decode cX9_takesLetters 16 = .ok (.aload_n 0, 1) := by decide +kernel
theorem dX9_takesLetters_17 : decode cX9_takesLetters 17 = .ok (.getfield 9, 3) := by decide +kernel
theorem dX9_takesLetters_20 : decode cX9_takesLetters 20 = .ok (.aload_n 0, 1) := by decide +kernel
theorem dX9_takesLetters_21 : decode cX9_takesLetters 21 = .ok (.getfield 36, 3) := by decide +kernel
theorem dX9_takesLetters_24 : decode cX9_takesLetters 24 = .ok (.baload, 1) := by decide +kernel
theorem dX9_takesLetters_25 : decode cX9_takesLetters 25 = .ok (.invokestatic 48, 3) := by decide +kernel
theorem dX9_takesLetters_28 : decode cX9_takesLetters 28 = .ok (.ifCond .eq 37, 3) := by decide +kernel
theorem dX9_takesLetters_31 : decode cX9_takesLetters 31 = .ok (.aload_n 0, 1) := by decide +kernel
theorem dX9_takesLetters_32 : decode cX9_takesLetters 32 = .ok (.aload_n 0, 1) := by decide +kernel
theorem dX9_takesLetters_33 : decode cX9_takesLetters 33 = .ok (.getfield 32, 3) := by decide +kernel
theorem dX9_takesLetters_36 : decode cX9_takesLetters 36 = .ok (.aload_n 0, 1) := by decide +kernel
theorem dX9_takesLetters_37 : decode cX9_takesLetters 37 = .ok (.getfield 9, 3) := by decide +kernel
theorem dX9_takesLetters_40 : decode cX9_takesLetters 40 = .ok (.aload_n 0, 1) := by decide +kernel
theorem dX9_takesLetters_41 : decode cX9_takesLetters 41 = .ok (.getfield 36, 3) := by decide +kernel
theorem dX9_takesLetters_44 : decode cX9_takesLetters 44 = .ok (.baload, 1) := by decide +kernel
theorem dX9_takesLetters_45 : decode cX9_takesLetters 45 = .ok (.i2c, 1) := by decide +kernel
theorem dX9_takesLetters_46 : decode cX9_takesLetters 46 = .ok (.invokestatic 68, 3) := by decide +kernel
theorem dX9_takesLetters_49 : decode cX9_takesLetters 49 = .ok (.putfield 32, 3) := by decide +kernel
theorem dX9_takesLetters_52 : decode cX9_takesLetters 52 = .ok (.aload_n 0, 1) := by decide +kernel
theorem dX9_takesLetters_53 : decode cX9_takesLetters 53 = .ok (.dup, 1) := by decide +kernel
theorem dX9_takesLetters_54 : decode cX9_takesLetters 54 = .ok (.getfield 36, 3) := by decide +kernel
theorem dX9_takesLetters_57 : decode cX9_takesLetters 57 = .ok (.iconst 1, 1) := by decide +kernel
theorem dX9_takesLetters_58 : decode cX9_takesLetters 58 = .ok (.iadd, 1) := by decide +kernel
theorem dX9_takesLetters_59 : decode cX9_takesLetters 59 = .ok (.putfield 36, 3) := by decide +kernel
theorem dX9_takesLetters_62 : decode cX9_takesLetters 62 = .ok (.goto (-57), 3) := by decide +kernel
theorem dX9_takesLetters_65 : decode cX9_takesLetters 65 = .ok (.aload_n 0, 1) := by decide +kernel
theorem dX9_takesLetters_66 : decode cX9_takesLetters 66 = .ok (.aload_n 0, 1) := by decide +kernel
theorem dX9_takesLetters_67 : decode cX9_takesLetters 67 = .ok (.getfield 36, 3) := by decide +kernel
theorem dX9_takesLetters_70 : decode cX9_takesLetters 70 = .ok (.aload_n 0, 1) := by decide +kernel
theorem dX9_takesLetters_71 : decode cX9_takesLetters 71 = .ok (.getfield 39, 3) := by decide +kernel
theorem dX9_takesLetters_74 : decode cX9_takesLetters 74 = .ok (.isub, 1) := by decide +kernel
theorem dX9_takesLetters_75 : decode cX9_takesLetters 75 = .ok (.bipush 8, 2) := by decide +kernel
theorem dX9_takesLetters_77 : decode cX9_takesLetters 77 = .ok (.if_icmp .gt 7, 3) := by decide +kernel
theorem dX9_takesLetters_80 : decode cX9_takesLetters 80 = .ok (.iconst 1, 1) := by decide +kernel
theorem dX9_takesLetters_81 : decode cX9_takesLetters 81 = .ok (.goto 4, 3) := by decide +kernel
theorem dX9_takesLetters_84 : decode cX9_takesLetters 84 = .ok (.iconst 4, 1) := by decide +kernel
theorem dX9_takesLetters_85 : decode cX9_takesLetters 85 = .ok (.putfield 22, 3) := by decide +kernel
theorem dX9_takesLetters_88 : decode cX9_takesLetters 88 = .ok (.return_, 1) := by decide +kernel
theorem dX9_takesDigits_0 : decode cX9_takesDigits 0 = .ok (.aload_n 0, 1) := by decide +kernel
theorem dX9_takesDigits_1 : decode cX9_takesDigits 1 = .ok (.iconst 0, 1) := by decide +kernel
theorem dX9_takesDigits_2 : decode cX9_takesDigits 2 = .ok (.putfield 25, 3) := by decide +kernel
theorem dX9_takesDigits_5 : decode cX9_takesDigits 5 = .ok (.aload_n 0, 1) := by decide +kernel
theorem dX9_takesDigits_6 : decode cX9_takesDigits 6 = .ok (.getfield 36, 3) := by decide +kernel
theorem dX9_takesDigits_9 : decode cX9_takesDigits 9 = .ok (.aload_n 0, 1) := by decide +kernel
theorem dX9_takesDigits_10 : decode cX9_takesDigits 10 = .ok (.getfield 15, 3) := by decide +kernel
theorem dX9_takesDigits_13 : decode cX9_takesDigits 13 = .ok (.if_icmp .ge 55, 3) := by decide +kernel
theorem dX9_takesDigits_16 : decode cX9_takesDigits 16 = .ok (.aload_n 0, 1) := by decide +kernel
theorem dX9_takesDigits_17 : decode cX9_takesDigits 17 = .ok (.getfield 9, 3) := by decide +kernel
theorem dX9_takesDigits_20 : decode cX9_takesDigits 20 = .ok (.aload_n 0, 1) := by decide +kernel
theorem dX9_takesDigits_21 : decode cX9_takesDigits 21 = .ok (.getfield 36, 3) := by decide +kernel
theorem dX9_takesDigits_24 : decode cX9_takesDigits 24 = .ok (.baload, 1) := by decide +kernel
theorem dX9_takesDigits_25 : decode cX9_takesDigits 25 = .ok (.invokestatic 54, 3) := by decide +kernel
theorem dX9_takesDigits_28 : decode cX9_takesDigits 28 = .ok (.ifCond .eq 40, 3) := by decide +kernel
theorem dX9_takesDigits_31 : decode cX9_takesDigits 31 = .ok (.aload_n 0, 1) := by decide +kernel
theorem dX9_takesDigits_32 : decode cX9_takesDigits 32 = .ok (.aload_n 0, 1) := by decide +kernel
theorem dX9_takesDigits_33 : decode cX9_takesDigits 33 = .ok (.getfield 25, 3) := by decide +kernel
theorem dX9_takesDigits_36 : decode cX9_takesDigits 36 = .ok (.bipush 10, 2) := by decide +kernel
theorem dX9_takesDigits_38 : decode cX9_takesDigits 38 = .ok (.imul, 1) := by decide +kernel
theorem dX9_takesDigits_39 : decode cX9_takesDigits 39 = .ok (.aload_n 0, 1) := by decide +kernel
theorem dX9_takesDigits_40 : decode cX9_takesDigits 40 = .ok (.getfield 9, 3) := by decide +kernel
theorem dX9_takesDigits_43 : decode cX9_takesDigits 43 = .ok (.aload_n 0, 1) := by decide +kernel
theorem dX9_takesDigits_44 : decode cX9_takesDigits 44 = .ok (.getfield 36, 3) := by decide +kernel
theorem dX9_takesDigits_47 : decode cX9_takesDigits 47 = .ok (.baload, 1) := by decide +kernel
theorem dX9_takesDigits_48 : decode cX9_takesDigits 48 = .ok (.iadd, 1) := by decide +kernel
theorem dX9_takesDigits_49 : decode cX9_takesDigits 49 = .ok (.bipush 48, 2) := by decide +kernel
theorem dX9_takesDigits_51 : decode cX9_takesDigits 51 = .ok (.isub, 1) := by decide +kernel
theorem dX9_takesDigits_52 : decode cX9_takesDigits 52 = .ok (.putfield 25, 3) := by decide +kernel
theorem dX9_takesDigits_55 : decode cX9_takesDigits 55 = .ok (.aload_n 0, 1) := by decide +kernel
theorem dX9_takesDigits_56 : decode cX9_takesDigits 56 = .ok (.dup, 1) := by decide +kernel
theorem dX9_takesDigits_57 : decode cX9_takesDigits 57 = .ok (.getfield 36, 3) := by decide +kernel
theorem dX9_takesDigits_60 : decode cX9_takesDigits 60 = .ok (.iconst 1, 1) := by decide +kernel
theorem dX9_takesDigits_61 : decode cX9_takesDigits 61 = .ok (.iadd, 1) := by decide +kernel
theorem dX9_takesDigits_62 : decode cX9_takesDigits 62 = .ok (.putfield 36, 3) := by decide +kernel
theorem dX9_takesDigits_65 : decode cX9_takesDigits 65 = .ok (.goto (-60), 3) := by decide +kernel
theorem dX9_takesDigits_68 : decode cX9_takesDigits 68 = .ok (.aload_n 0, 1) := by decide +kernel
theorem dX9_takesDigits_69 : decode cX9_takesDigits 69 = .ok (.aload_n 0, 1) := by decide +kernel
theorem dX9_takesDigits_70 : decode cX9_takesDigits 70 = .ok (.getfield 36, 3) := by decide +kernel
theorem dX9_takesDigits_73 : decode cX9_takesDigits 73 = .ok (.aload_n 0, 1) := by decide +kernel
theorem dX9_takesDigits_74 : decode cX9_takesDigits 74 = .ok (.getfield 39, 3) := by decide +kernel
theorem dX9_takesDigits_77 : decode cX9_takesDigits 77 = .ok (.isub, 1) := by decide +kernel
theorem dX9_takesDigits_78 : decode cX9_takesDigits 78 = .ok (.iconst 4, 1) := by decide +kernel
theorem dX9_takesDigits_79 : decode cX9_takesDigits 79 = .ok (.if_icmp .gt 7, 3) := by decide +kernel
theorem dX9_takesDigits_82 : decode cX9_takesDigits 82 = .ok (.iconst 2, 1) := by decide +kernel
theorem dX9_takesDigits_83 : decode cX9_takesDigits 83 = .ok (.goto 4, 3) := by decide +kernel
theorem dX9_takesDigits_86 : decode cX9_takesDigits 86 = .ok (.iconst 4, 1) := by decide +kernel
theorem dX9_takesDigits_87 : decode cX9_takesDigits 87 = .ok (.putfield 22, 3) := by decide +kernel
theorem dX9_takesDigits_90 : decode cX9_takesDigits 90 = .ok (.return_, 1) := by decide +kernel
theorem dX9_isBlank_0 : decode cX9_isBlank 0 = .ok (.iload_n 0, 1) := by decide +kernel
theorem dX9_isBlank_1 : decode cX9_isBlank 1 = .ok (.bipush 10, 2) := by decide +kernel
theorem dX9_isBlank_3 : decode cX9_isBlank 3 = .ok (.if_icmp .eq 9, 3) := by decide +kernel
theorem dX9_isBlank_6 : decode cX9_isBlank 6 = .ok (.iload_n 0, 1) := by decide +kernel
theorem dX9_isBlank_7 : decode cX9_isBlank 7 = .ok (.bipush 32, 2) := by decide +kernel
theorem dX9_isBlank_9 : decode cX9_isBlank 9 = .ok (.if_icmp .ne 7, 3) := by decide +kernel
theorem dX9_isBlank_12 : decode cX9_isBlank 12 = .ok (.iconst 1, 1) := by decide +kernel
theorem dX9_isBlank_13 : decode cX9_isBlank 13 = .ok (.goto 4, 3) := by decide +kernel
theorem dX9_isBlank_16 : decode cX9_isBlank 16 = .ok (.iconst 0, 1) := by decide +kernel
theorem dX9_isBlank_17 : decode cX9_isBlank 17 = .ok (.ireturn, 1) := by decide +kernel
theorem dX9_isLetter_0 : decode cX9_isLetter 0 = .ok (.iload_n 0, 1) := by decide +kernel
theorem dX9_isLetter_1 : decode cX9_isLetter 1 = .ok (.bipush 97, 2) := by decide +kernel
theorem dX9_isLetter_3 : decode cX9_isLetter 3 = .ok (.if_icmp .lt 13, 3) := by decide +kernel
theorem dX9_isLetter_6 : decode cX9_isLetter 6 = .ok (.iload_n 0, 1) := by decide +kernel
theorem dX9_isLetter_7 : decode cX9_isLetter 7 = .ok (.bipush 122, 2) := by decide +kernel
theorem dX9_isLetter_9 : decode cX9_isLetter 9 = .ok (.if_icmp .gt 7, 3) := by decide +kernel
theorem dX9_isLetter_12 : decode cX9_isLetter 12 = .ok (.iconst 1, 1) := by decide +kernel
theorem dX9_isLetter_13 : decode cX9_isLetter 13 = .ok (.goto 4, 3) := by decide +kernel
theorem dX9_isLetter_16 : decode cX9_isLetter 16 = .ok (.iconst 0, 1) := by decide +kernel
theorem dX9_isLetter_17 : decode cX9_isLetter 17 = .ok (.ireturn, 1) := by decide +kernel
theorem dX9_isDigit_0 : decode cX9_isDigit 0 = .ok (.iload_n 0, 1) := by decide +kernel
theorem dX9_isDigit_1 : decode cX9_isDigit 1 = .ok (.bipush 48, 2) := by decide +kernel
theorem dX9_isDigit_3 : decode cX9_isDigit 3 = .ok (.if_icmp .lt 13, 3) := by decide +kernel
theorem dX9_isDigit_6 : decode cX9_isDigit 6 = .ok (.iload_n 0, 1) := by decide +kernel
theorem dX9_isDigit_7 : decode cX9_isDigit 7 = .ok (.bipush 57, 2) := by decide +kernel
theorem dX9_isDigit_9 : decode cX9_isDigit 9 = .ok (.if_icmp .gt 7, 3) := by decide +kernel
theorem dX9_isDigit_12 : decode cX9_isDigit 12 = .ok (.iconst 1, 1) := by decide +kernel
theorem dX9_isDigit_13 : decode cX9_isDigit 13 = .ok (.goto 4, 3) := by decide +kernel
theorem dX9_isDigit_16 : decode cX9_isDigit 16 = .ok (.iconst 0, 1) := by decide +kernel
theorem dX9_isDigit_17 : decode cX9_isDigit 17 = .ok (.ireturn, 1) := by decide +kernel
theorem dX9_withLetter_0 : decode cX9_withLetter 0 = .ok (.lload_n 0, 1) := by decide +kernel
theorem dX9_withLetter_1 : decode cX9_withLetter 1 = .ok (.ldc2_w 72, 3) := by decide +kernel
theorem dX9_withLetter_4 : decode cX9_withLetter 4 = .ok (.lmul, 1) := by decide +kernel
theorem dX9_withLetter_5 : decode cX9_withLetter 5 = .ok (.iload_n 2, 1) := by decide +kernel
theorem dX9_withLetter_6 : decode cX9_withLetter 6 = .ok (.bipush 97, 2) := by decide +kernel
theorem dX9_withLetter_8 : decode cX9_withLetter 8 = .ok (.isub, 1) := by decide +kernel
theorem dX9_withLetter_9 : decode cX9_withLetter 9 = .ok (.iconst 1, 1) := by decide +kernel
theorem dX9_withLetter_10 : decode cX9_withLetter 10 = .ok (.iadd, 1) := by decide +kernel
theorem dX9_withLetter_11 : decode cX9_withLetter 11 = .ok (.i2l, 1) := by decide +kernel
theorem dX9_withLetter_12 : decode cX9_withLetter 12 = .ok (.ladd, 1) := by decide +kernel
theorem dX9_withLetter_13 : decode cX9_withLetter 13 = .ok (.lreturn, 1) := by decide +kernel
theorem dX9_isWord_0 : decode cX9_isWord 0 = .ok (.aload_n 0, 1) := by decide +kernel
theorem dX9_isWord_1 : decode cX9_isWord 1 = .ok (.getfield 22, 3) := by decide +kernel
theorem dX9_isWord_4 : decode cX9_isWord 4 = .ok (.iconst 1, 1) := by decide +kernel
theorem dX9_isWord_5 : decode cX9_isWord 5 = .ok (.if_icmp .eq 5, 3) := by decide +kernel
theorem dX9_isWord_8 : decode cX9_isWord 8 = .ok (.iconst 0, 1) := by decide +kernel
theorem dX9_isWord_9 : decode cX9_isWord 9 = .ok (.ireturn, 1) := by decide +kernel
theorem dX9_isWord_10 : decode cX9_isWord 10 = .ok (.lconst 0, 1) := by decide +kernel
theorem dX9_isWord_11 : decode cX9_isWord 11 = .ok (.lstore_n 2, 1) := by decide +kernel
theorem dX9_isWord_12 : decode cX9_isWord 12 = .ok (.iconst 0, 1) := by decide +kernel
theorem dX9_isWord_13 : decode cX9_isWord 13 = .ok (.istore 4, 2) := by decide +kernel
theorem dX9_isWord_15 : decode cX9_isWord 15 = .ok (.iload 4, 2) := by decide +kernel
theorem dX9_isWord_17 : decode cX9_isWord 17 = .ok (.aload_n 1, 1) := by decide +kernel
theorem dX9_isWord_18 : decode cX9_isWord 18 = .ok (.invokevirtual 74, 3) := by decide +kernel
theorem dX9_isWord_21 : decode cX9_isWord 21 = .ok (.if_icmp .ge 20, 3) := by decide +kernel
theorem dX9_isWord_24 : decode cX9_isWord 24 = .ok (.lload_n 2, 1) := by decide +kernel
theorem dX9_isWord_25 : decode cX9_isWord 25 = .ok (.aload_n 1, 1) := by decide +kernel
theorem dX9_isWord_26 : decode cX9_isWord 26 = .ok (.iload 4, 2) := by decide +kernel
theorem dX9_isWord_28 : decode cX9_isWord 28 = .ok (.invokevirtual 77, 3) := by decide +kernel
theorem dX9_isWord_31 : decode cX9_isWord 31 = .ok (.invokestatic 68, 3) := by decide +kernel
theorem dX9_isWord_34 : decode cX9_isWord 34 = .ok (.lstore_n 2, 1) := by decide +kernel
theorem dX9_isWord_35 : decode cX9_isWord 35 = .ok (.iinc 4 1, 3) := by decide +kernel
theorem dX9_isWord_38 : decode cX9_isWord 38 = .ok (.goto (-23), 3) := by decide +kernel
theorem dX9_isWord_41 : decode cX9_isWord 41 = .ok (.lload_n 2, 1) := by decide +kernel
theorem dX9_isWord_42 : decode cX9_isWord 42 = .ok (.aload_n 0, 1) := by decide +kernel
theorem dX9_isWord_43 : decode cX9_isWord 43 = .ok (.getfield 32, 3) := by decide +kernel
theorem dX9_isWord_46 : decode cX9_isWord 46 = .ok (.lcmp, 1) := by decide +kernel
theorem dX9_isWord_47 : decode cX9_isWord 47 = .ok (.ifCond .ne 7, 3) := by decide +kernel
theorem dX9_isWord_50 : decode cX9_isWord 50 = .ok (.iconst 1, 1) := by decide +kernel
theorem dX9_isWord_51 : decode cX9_isWord 51 = .ok (.goto 4, 3) := by decide +kernel
theorem dX9_isWord_54 : decode cX9_isWord 54 = .ok (.iconst 0, 1) := by decide +kernel
theorem dX9_isWord_55 : decode cX9_isWord 55 = .ok (.ireturn, 1) := by decide +kernel
theorem dX9_isSign_0 : decode cX9_isSign 0 = .ok (.aload_n 0, 1) := by decide +kernel
theorem dX9_isSign_1 : decode cX9_isSign 1 = .ok (.getfield 22, 3) := by decide +kernel
theorem dX9_isSign_4 : decode cX9_isSign 4 = .ok (.iconst 3, 1) := by decide +kernel
theorem dX9_isSign_5 : decode cX9_isSign 5 = .ok (.if_icmp .ne 15, 3) := by decide +kernel
theorem dX9_isSign_8 : decode cX9_isSign 8 = .ok (.aload_n 0, 1) := by decide +kernel
theorem dX9_isSign_9 : decode cX9_isSign 9 = .ok (.getfield 28, 3) := by decide +kernel
theorem dX9_isSign_12 : decode cX9_isSign 12 = .ok (.iload_n 1, 1) := by decide +kernel
theorem dX9_isSign_13 : decode cX9_isSign 13 = .ok (.if_icmp .ne 7, 3) := by decide +kernel
theorem dX9_isSign_16 : decode cX9_isSign 16 = .ok (.iconst 1, 1) := by decide +kernel
theorem dX9_isSign_17 : decode cX9_isSign 17 = .ok (.goto 4, 3) := by decide +kernel
theorem dX9_isSign_20 : decode cX9_isSign 20 = .ok (.iconst 0, 1) := by decide +kernel
theorem dX9_isSign_21 : decode cX9_isSign 21 = .ok (.ireturn, 1) := by decide +kernel
theorem dX9_isName_0 : decode cX9_isName 0 = .ok (.aload_n 0, 1) := by decide +kernel
theorem dX9_isName_1 : decode cX9_isName 1 = .ok (.getfield 22, 3) := by decide +kernel
theorem dX9_isName_4 : decode cX9_isName 4 = .ok (.iconst 1, 1) := by decide +kernel
theorem dX9_isName_5 : decode cX9_isName 5 = .ok (.if_icmp .eq 5, 3) := by decide +kernel
theorem dX9_isName_8 : decode cX9_isName 8 = .ok (.iconst 0, 1) := by decide +kernel
theorem dX9_isName_9 : decode cX9_isName 9 = .ok (.ireturn, 1) := by decide +kernel
theorem dX9_isName_10 : decode cX9_isName 10 = .ok (.lconst 0, 1) := by decide +kernel
theorem dX9_isName_11 : decode cX9_isName 11 = .ok (.lstore_n 1, 1) := by decide +kernel
theorem dX9_isName_12 : decode cX9_isName 12 = .ok (.iconst 0, 1) := by decide +kernel
theorem dX9_isName_13 : decode cX9_isName 13 = .ok (.istore_n 3, 1) := by decide +kernel
theorem dX9_isName_14 : decode cX9_isName 14 = .ok (.iload_n 3, 1) := by decide +kernel
theorem dX9_isName_15 : decode cX9_isName 15 = .ok (.ldc 81, 2) := by decide +kernel
theorem dX9_isName_17 : decode cX9_isName 17 = .ok (.invokevirtual 74, 3) := by decide +kernel
theorem dX9_isName_20 : decode cX9_isName 20 = .ok (.if_icmp .ge 47, 3) := by decide +kernel
theorem dX9_isName_23 : decode cX9_isName 23 = .ok (.ldc 81, 2) := by decide +kernel
theorem dX9_isName_25 : decode cX9_isName 25 = .ok (.iload_n 3, 1) := by decide +kernel
theorem dX9_isName_26 : decode cX9_isName 26 = .ok (.invokevirtual 77, 3) := by decide +kernel
theorem dX9_isName_29 : decode cX9_isName 29 = .ok (.istore 4, 2) := by decide +kernel
theorem dX9_isName_31 : decode cX9_isName 31 = .ok (.iload 4, 2) := by decide +kernel
theorem dX9_isName_33 : decode cX9_isName 33 = .ok (.bipush 32, 2) := by decide +kernel
theorem dX9_isName_35 : decode cX9_isName 35 = .ok (.if_icmp .eq 13, 3) := by decide +kernel
theorem dX9_isName_38 : decode cX9_isName 38 = .ok (.lload_n 1, 1) := by decide +kernel
theorem dX9_isName_39 : decode cX9_isName 39 = .ok (.iload 4, 2) := by decide +kernel
theorem dX9_isName_41 : decode cX9_isName 41 = .ok (.invokestatic 68, 3) := by decide +kernel
theorem dX9_isName_44 : decode cX9_isName 44 = .ok (.lstore_n 1, 1) := by decide +kernel
theorem dX9_isName_45 : decode cX9_isName 45 = .ok (.goto 16, 3) := by decide +kernel
theorem dX9_isName_48 : decode cX9_isName 48 = .ok (.lload_n 1, 1) := by decide +kernel
theorem dX9_isName_49 : decode cX9_isName 49 = .ok (.aload_n 0, 1) := by decide +kernel
theorem dX9_isName_50 : decode cX9_isName 50 = .ok (.getfield 32, 3) := by decide +kernel
theorem dX9_isName_53 : decode cX9_isName 53 = .ok (.lcmp, 1) := by decide +kernel
theorem dX9_isName_54 : decode cX9_isName 54 = .ok (.ifCond .ne 5, 3) := by decide +kernel
theorem dX9_isName_57 : decode cX9_isName 57 = .ok (.iconst 0, 1) := by decide +kernel
theorem dX9_isName_58 : decode cX9_isName 58 = .ok (.ireturn, 1) := by decide +kernel
theorem dX9_isName_59 : decode cX9_isName 59 = .ok (.lconst 0, 1) := by decide +kernel
theorem dX9_isName_60 : decode cX9_isName 60 = .ok (.lstore_n 1, 1) := by decide +kernel
theorem dX9_isName_61 : decode cX9_isName 61 = .ok (.iinc 3 1, 3) := by decide +kernel
theorem dX9_isName_64 : decode cX9_isName 64 = .ok (.goto (-50), 3) := by decide +kernel
theorem dX9_isName_67 : decode cX9_isName 67 = .ok (.iconst 1, 1) := by decide +kernel
theorem dX9_isName_68 : decode cX9_isName 68 = .ok (.ireturn, 1) := by decide +kernel
theorem dX9_wrong_0 : decode cX9_wrong 0 = .ok (.aload_n 0, 1) := by decide +kernel
theorem dX9_wrong_1 : decode cX9_wrong 1 = .ok (.iload_n 1, 1) := by decide +kernel
theorem dX9_wrong_2 : decode cX9_wrong 2 = .ok (.bipush 16, 2) := by decide +kernel
theorem dX9_wrong_4 : decode cX9_wrong 4 = .ok (.aload_n 0, 1) := by decide +kernel
theorem dX9_wrong_5 : decode cX9_wrong 5 = .ok (.getfield 39, 3) := by decide +kernel
theorem dX9_wrong_8 : decode cX9_wrong 8 = .ok (.imul, 1) := by decide +kernel
theorem dX9_wrong_9 : decode cX9_wrong 9 = .ok (.iadd, 1) := by decide +kernel
theorem dX9_wrong_10 : decode cX9_wrong 10 = .ok (.putfield 19, 3) := by decide +kernel
theorem dX9_wrong_13 : decode cX9_wrong 13 = .ok (.iconst 0, 1) := by decide +kernel
theorem dX9_wrong_14 : decode cX9_wrong 14 = .ok (.ireturn, 1) := by decide +kernel
theorem dX9_takesWord_0 : decode cX9_takesWord 0 = .ok (.aload_n 0, 1) := by decide +kernel
theorem dX9_takesWord_1 : decode cX9_takesWord 1 = .ok (.invokevirtual 83, 3) := by decide +kernel
theorem dX9_takesWord_4 : decode cX9_takesWord 4 = .ok (.aload_n 0, 1) := by decide +kernel
theorem dX9_takesWord_5 : decode cX9_takesWord 5 = .ok (.aload_n 1, 1) := by decide +kernel
theorem dX9_takesWord_6 : decode cX9_takesWord 6 = .ok (.invokevirtual 86, 3) := by decide +kernel
theorem dX9_takesWord_9 : decode cX9_takesWord 9 = .ok (.ifCond .ne 11, 3) := by decide +kernel
theorem dX9_takesWord_12 : decode cX9_takesWord 12 = .ok (.aload_n 0, 1) := by decide +kernel
theorem dX9_takesWord_13 : decode cX9_takesWord 13 = .ok (.iconst 1, 1) := by decide +kernel
theorem dX9_takesWord_14 : decode cX9_takesWord 14 = .ok (.invokevirtual 90, 3) := by decide +kernel
theorem dX9_takesWord_17 : decode cX9_takesWord 17 = .ok (.ifCond .eq 7, 3) := by decide +kernel
theorem dX9_takesWord_20 : decode cX9_takesWord 20 = .ok (.iconst 1, 1) := by decide +kernel
theorem dX9_takesWord_21 : decode cX9_takesWord 21 = .ok (.goto 4, 3) := by decide +kernel
theorem dX9_takesWord_24 : decode cX9_takesWord 24 = .ok (.iconst 0, 1) := by decide +kernel
theorem dX9_takesWord_25 : decode cX9_takesWord 25 = .ok (.ireturn, 1) := by decide +kernel
theorem dX9_takesEnd_0 : decode cX9_takesEnd 0 = .ok (.aload_n 0, 1) := by decide +kernel
theorem dX9_takesEnd_1 : decode cX9_takesEnd 1 = .ok (.invokevirtual 83, 3) := by decide +kernel
theorem dX9_takesEnd_4 : decode cX9_takesEnd 4 = .ok (.aload_n 0, 1) := by decide +kernel
theorem dX9_takesEnd_5 : decode cX9_takesEnd 5 = .ok (.bipush 59, 2) := by decide +kernel
theorem dX9_takesEnd_7 : decode cX9_takesEnd 7 = .ok (.invokevirtual 93, 3) := by decide +kernel
theorem dX9_takesEnd_10 : decode cX9_takesEnd 10 = .ok (.ifCond .ne 11, 3) := by decide +kernel
theorem dX9_takesEnd_13 : decode cX9_takesEnd 13 = .ok (.aload_n 0, 1) := by decide +kernel
theorem dX9_takesEnd_14 : decode cX9_takesEnd 14 = .ok (.iconst 1, 1) := by decide +kernel
theorem dX9_takesEnd_15 : decode cX9_takesEnd 15 = .ok (.invokevirtual 90, 3) := by decide +kernel
theorem dX9_takesEnd_18 : decode cX9_takesEnd 18 = .ok (.ifCond .eq 7, 3) := by decide +kernel
theorem dX9_takesEnd_21 : decode cX9_takesEnd 21 = .ok (.iconst 1, 1) := by decide +kernel
theorem dX9_takesEnd_22 : decode cX9_takesEnd 22 = .ok (.goto 4, 3) := by decide +kernel
theorem dX9_takesEnd_25 : decode cX9_takesEnd 25 = .ok (.iconst 0, 1) := by decide +kernel
theorem dX9_takesEnd_26 : decode cX9_takesEnd 26 = .ok (.ireturn, 1) := by decide +kernel
theorem dX9_takesNumber_0 : decode cX9_takesNumber 0 = .ok (.aload_n 0, 1) := by decide +kernel
theorem dX9_takesNumber_1 : decode cX9_takesNumber 1 = .ok (.invokevirtual 83, 3) := by decide +kernel
theorem dX9_takesNumber_4 : decode cX9_takesNumber 4 = .ok (.aload_n 0, 1) := by decide +kernel
theorem dX9_takesNumber_5 : decode cX9_takesNumber 5 = .ok (.getfield 22, 3) := by decide +kernel
theorem dX9_takesNumber_8 : decode cX9_takesNumber 8 = .ok (.iconst 2, 1) := by decide +kernel
theorem dX9_takesNumber_9 : decode cX9_takesNumber 9 = .ok (.if_icmp .eq 9, 3) := by decide +kernel
theorem dX9_takesNumber_12 : decode cX9_takesNumber 12 = .ok (.aload_n 0, 1) := by decide +kernel
theorem dX9_takesNumber_13 : decode cX9_takesNumber 13 = .ok (.iconst 1, 1) := by decide +kernel
theorem dX9_takesNumber_14 : decode cX9_takesNumber 14 = .ok (.invokevirtual 90, 3) := by decide +kernel
theorem dX9_takesNumber_17 : decode cX9_takesNumber 17 = .ok (.ireturn, 1) := by decide +kernel
theorem dX9_takesNumber_18 : decode cX9_takesNumber 18 = .ok (.aload_n 0, 1) := by decide +kernel
theorem dX9_takesNumber_19 : decode cX9_takesNumber 19 = .ok (.getfield 25, 3) := by decide +kernel
theorem dX9_takesNumber_22 : decode cX9_takesNumber 22 = .ok (.iload_n 1, 1) := by decide +kernel
theorem dX9_takesNumber_23 : decode cX9_takesNumber 23 = .ok (.if_icmp .lt 11, 3) := by decide +kernel
theorem dX9_takesNumber_26 : decode cX9_takesNumber 26 = .ok (.aload_n 0, 1) := by decide +kernel
theorem dX9_takesNumber_27 : decode cX9_takesNumber 27 = .ok (.getfield 25, 3) := by decide +kernel
theorem dX9_takesNumber_30 : decode cX9_takesNumber 30 = .ok (.iload_n 2, 1) := by decide +kernel
theorem dX9_takesNumber_31 : decode cX9_takesNumber 31 = .ok (.if_icmp .le 11, 3) := by decide +kernel
theorem dX9_takesNumber_34 : decode cX9_takesNumber 34 = .ok (.aload_n 0, 1) := by decide +kernel
theorem dX9_takesNumber_35 : decode cX9_takesNumber 35 = .ok (.iconst 4, 1) := by decide +kernel
theorem dX9_takesNumber_36 : decode cX9_takesNumber 36 = .ok (.invokevirtual 90, 3) := by decide +kernel
theorem dX9_takesNumber_39 : decode cX9_takesNumber 39 = .ok (.ifCond .eq 7, 3) := by decide +kernel
theorem dX9_takesNumber_42 : decode cX9_takesNumber 42 = .ok (.iconst 1, 1) := by decide +kernel
theorem dX9_takesNumber_43 : decode cX9_takesNumber 43 = .ok (.goto 4, 3) := by decide +kernel
theorem dX9_takesNumber_46 : decode cX9_takesNumber 46 = .ok (.iconst 0, 1) := by decide +kernel
theorem dX9_takesNumber_47 : decode cX9_takesNumber 47 = .ok (.ireturn, 1) := by decide +kernel
theorem dX9_takesNumberOf_0 : decode cX9_takesNumberOf 0 = .ok (.aload_n 0, 1) := by decide +kernel
theorem dX9_takesNumberOf_1 : decode cX9_takesNumberOf 1 = .ok (.aload_n 1, 1) := by decide +kernel
theorem dX9_takesNumberOf_2 : decode cX9_takesNumberOf 2 = .ok (.invokevirtual 97, 3) := by decide +kernel
theorem dX9_takesNumberOf_5 : decode cX9_takesNumberOf 5 = .ok (.ifCond .eq 16, 3) := by decide +kernel
theorem dX9_takesNumberOf_8 : decode cX9_takesNumberOf 8 = .ok (.aload_n 0, 1) := by decide +kernel
theorem dX9_takesNumberOf_9 : decode cX9_takesNumberOf 9 = .ok (.iconst 0, 1) := by decide +kernel
theorem dX9_takesNumberOf_10 : decode cX9_takesNumberOf 10 = .ok (.iload_n 2, 1) := by decide +kernel
theorem dX9_takesNumberOf_11 : decode cX9_takesNumberOf 11 = .ok (.invokevirtual 100, 3) := by decide +kernel
theorem dX9_takesNumberOf_14 : decode cX9_takesNumberOf 14 = .ok (.ifCond .eq 7, 3) := by decide +kernel
theorem dX9_takesNumberOf_17 : decode cX9_takesNumberOf 17 = .ok (.iconst 1, 1) := by decide +kernel
theorem dX9_takesNumberOf_18 : decode cX9_takesNumberOf 18 = .ok (.goto 4, 3) := by decide +kernel
theorem dX9_takesNumberOf_21 : decode cX9_takesNumberOf 21 = .ok (.iconst 0, 1) := by decide +kernel
theorem dX9_takesNumberOf_22 : decode cX9_takesNumberOf 22 = .ok (.ireturn, 1) := by decide +kernel
theorem dX9_takesName_0 : decode cX9_takesName 0 = .ok (.aload_n 0, 1) := by decide +kernel
theorem dX9_takesName_1 : decode cX9_takesName 1 = .ok (.invokevirtual 83, 3) := by decide +kernel
theorem dX9_takesName_4 : decode cX9_takesName 4 = .ok (.aload_n 0, 1) := by decide +kernel
theorem dX9_takesName_5 : decode cX9_takesName 5 = .ok (.invokevirtual 104, 3) := by decide +kernel
theorem dX9_takesName_8 : decode cX9_takesName 8 = .ok (.ifCond .ne 11, 3) := by decide +kernel
theorem dX9_takesName_11 : decode cX9_takesName 11 = .ok (.aload_n 0, 1) := by decide +kernel
theorem dX9_takesName_12 : decode cX9_takesName 12 = .ok (.iconst 1, 1) := by decide +kernel
theorem dX9_takesName_13 : decode cX9_takesName 13 = .ok (.invokevirtual 90, 3) := by decide +kernel
theorem dX9_takesName_16 : decode cX9_takesName 16 = .ok (.ifCond .eq 7, 3) := by decide +kernel
theorem dX9_takesName_19 : decode cX9_takesName 19 = .ok (.iconst 1, 1) := by decide +kernel
theorem dX9_takesName_20 : decode cX9_takesName 20 = .ok (.goto 4, 3) := by decide +kernel
theorem dX9_takesName_23 : decode cX9_takesName 23 = .ok (.iconst 0, 1) := by decide +kernel
theorem dX9_takesName_24 : decode cX9_takesName 24 = .ok (.ireturn, 1) := by decide +kernel
theorem dX9_takesPerson_0 : decode cX9_takesPerson 0 = .ok (.aload_n 0, 1) := by decide +kernel
theorem dX9_takesPerson_1 : decode cX9_takesPerson 1 = .ok (.invokevirtual 83, 3) := by decide +kernel
theorem dX9_takesPerson_4 : decode cX9_takesPerson 4 = .ok (.aload_n 0, 1) := by decide +kernel
theorem dX9_takesPerson_5 : decode cX9_takesPerson 5 = .ok (.invokevirtual 104, 3) := by decide +kernel
theorem dX9_takesPerson_8 : decode cX9_takesPerson 8 = .ok (.ifCond .ne 9, 3) := by decide +kernel
theorem dX9_takesPerson_11 : decode cX9_takesPerson 11 = .ok (.aload_n 0, 1) := by decide +kernel
theorem dX9_takesPerson_12 : decode cX9_takesPerson 12 = .ok (.iconst 1, 1) := by decide +kernel
theorem dX9_takesPerson_13 : decode cX9_takesPerson 13 = .ok (.invokevirtual 90, 3) := by decide +kernel
theorem dX9_takesPerson_16 : decode cX9_takesPerson 16 = .ok (.ireturn, 1) := by decide +kernel
theorem dX9_takesPerson_17 : decode cX9_takesPerson 17 = .ok (.aload_n 1, 1) := by decide +kernel
theorem dX9_takesPerson_18 : decode cX9_takesPerson 18 = .ok (.aload_n 0, 1) := by decide +kernel
theorem dX9_takesPerson_19 : decode cX9_takesPerson 19 = .ok (.getfield 32, 3) := by decide +kernel
theorem dX9_takesPerson_22 : decode cX9_takesPerson 22 = .ok (.invokevirtual 108, 3) := by decide +kernel
theorem dX9_takesPerson_25 : decode cX9_takesPerson 25 = .ok (.iconst (-1), 1) := by decide +kernel
theorem dX9_takesPerson_26 : decode cX9_takesPerson 26 = .ok (.if_icmp .ne 11, 3) := by decide +kernel
theorem dX9_takesPerson_29 : decode cX9_takesPerson 29 = .ok (.aload_n 0, 1) := by decide +kernel
theorem dX9_takesPerson_30 : decode cX9_takesPerson 30 = .ok (.iconst 2, 1) := by decide +kernel
theorem dX9_takesPerson_31 : decode cX9_takesPerson 31 = .ok (.invokevirtual 90, 3) := by decide +kernel
theorem dX9_takesPerson_34 : decode cX9_takesPerson 34 = .ok (.ifCond .eq 7, 3) := by decide +kernel
theorem dX9_takesPerson_37 : decode cX9_takesPerson 37 = .ok (.iconst 1, 1) := by decide +kernel
theorem dX9_takesPerson_38 : decode cX9_takesPerson 38 = .ok (.goto 4, 3) := by decide +kernel
theorem dX9_takesPerson_41 : decode cX9_takesPerson 41 = .ok (.iconst 0, 1) := by decide +kernel
theorem dX9_takesPerson_42 : decode cX9_takesPerson 42 = .ok (.ireturn, 1) := by decide +kernel
theorem dX9_takesDish_0 : decode cX9_takesDish 0 = .ok (.aload_n 0, 1) := by decide +kernel
theorem dX9_takesDish_1 : decode cX9_takesDish 1 = .ok (.invokevirtual 83, 3) := by decide +kernel
theorem dX9_takesDish_4 : decode cX9_takesDish 4 = .ok (.aload_n 0, 1) := by decide +kernel
theorem dX9_takesDish_5 : decode cX9_takesDish 5 = .ok (.invokevirtual 104, 3) := by decide +kernel
theorem dX9_takesDish_8 : decode cX9_takesDish 8 = .ok (.ifCond .ne 9, 3) := by decide +kernel
theorem dX9_takesDish_11 : decode cX9_takesDish 11 = .ok (.aload_n 0, 1) := by decide +kernel
theorem dX9_takesDish_12 : decode cX9_takesDish 12 = .ok (.iconst 1, 1) := by decide +kernel
theorem dX9_takesDish_13 : decode cX9_takesDish 13 = .ok (.invokevirtual 90, 3) := by decide +kernel
theorem dX9_takesDish_16 : decode cX9_takesDish 16 = .ok (.ireturn, 1) := by decide +kernel
theorem dX9_takesDish_17 : decode cX9_takesDish 17 = .ok (.aload_n 1, 1) := by decide +kernel
theorem dX9_takesDish_18 : decode cX9_takesDish 18 = .ok (.aload_n 0, 1) := by decide +kernel
theorem dX9_takesDish_19 : decode cX9_takesDish 19 = .ok (.getfield 32, 3) := by decide +kernel
theorem dX9_takesDish_22 : decode cX9_takesDish 22 = .ok (.invokevirtual 114, 3) := by decide +kernel
theorem dX9_takesDish_25 : decode cX9_takesDish 25 = .ok (.iconst (-1), 1) := by decide +kernel
theorem dX9_takesDish_26 : decode cX9_takesDish 26 = .ok (.if_icmp .ne 11, 3) := by decide +kernel
theorem dX9_takesDish_29 : decode cX9_takesDish 29 = .ok (.aload_n 0, 1) := by decide +kernel
theorem dX9_takesDish_30 : decode cX9_takesDish 30 = .ok (.iconst 2, 1) := by decide +kernel
theorem dX9_takesDish_31 : decode cX9_takesDish 31 = .ok (.invokevirtual 90, 3) := by decide +kernel
theorem dX9_takesDish_34 : decode cX9_takesDish 34 = .ok (.ifCond .eq 7, 3) := by decide +kernel
theorem dX9_takesDish_37 : decode cX9_takesDish 37 = .ok (.iconst 1, 1) := by decide +kernel
theorem dX9_takesDish_38 : decode cX9_takesDish 38 = .ok (.goto 4, 3) := by decide +kernel
theorem dX9_takesDish_41 : decode cX9_takesDish 41 = .ok (.iconst 0, 1) := by decide +kernel
theorem dX9_takesDish_42 : decode cX9_takesDish 42 = .ok (.ireturn, 1) := by decide +kernel
theorem dX10_init_0 : decode cX10_init 0 = .ok (.aload_n 0, 1) := by decide +kernel
theorem dX10_init_1 : decode cX10_init 1 = .ok (.invokespecial 3, 3) := by decide +kernel
theorem dX10_init_4 : decode cX10_init 4 = .ok (.aload_n 0, 1) := by decide +kernel
theorem dX10_init_5 : decode cX10_init 5 = .ok (.bipush 40, 2) := by decide +kernel
theorem dX10_init_7 : decode cX10_init 7 = .ok (.newarray .int, 2) := by decide +kernel
theorem dX10_init_9 : decode cX10_init 9 = .ok (.putfield 9, 3) := by decide +kernel
theorem dX10_init_12 : decode cX10_init 12 = .ok (.aload_n 0, 1) := by decide +kernel
theorem dX10_init_13 : decode cX10_init 13 = .ok (.bipush 40, 2) := by decide +kernel
theorem dX10_init_15 : decode cX10_init 15 = .ok (.newarray .int, 2) := by decide +kernel
theorem dX10_init_17 : decode cX10_init 17 = .ok (.putfield 15, 3) := by decide +kernel
theorem dX10_init_20 : decode cX10_init 20 = .ok (.aload_n 0, 1) := by decide +kernel
theorem dX10_init_21 : decode cX10_init 21 = .ok (.bipush 40, 2) := by decide +kernel
theorem dX10_init_23 : decode cX10_init 23 = .ok (.newarray .int, 2) := by decide +kernel
theorem dX10_init_25 : decode cX10_init 25 = .ok (.putfield 18, 3) := by decide +kernel
theorem dX10_init_28 : decode cX10_init 28 = .ok (.aload_n 0, 1) := by decide +kernel
theorem dX10_init_29 : decode cX10_init 29 = .ok (.iconst 0, 1) := by decide +kernel
theorem dX10_init_30 : decode cX10_init 30 = .ok (.putfield 21, 3) := by decide +kernel
theorem dX10_init_33 : decode cX10_init 33 = .ok (.return_, 1) := by decide +kernel
theorem dX10_copies_0 : decode cX10_copies 0 = .ok (.aload_n 0, 1) := by decide +kernel
theorem dX10_copies_1 : decode cX10_copies 1 = .ok (.aload_n 1, 1) := by decide +kernel
theorem dX10_copies_2 : decode cX10_copies 2 = .ok (.getfield 21, 3) := by decide +kernel
theorem dX10_copies_5 : decode cX10_copies 5 = .ok (.putfield 21, 3) := by decide +kernel
theorem dX10_copies_8 : decode cX10_copies 8 = .ok (.aload_n 1, 1) := by decide +kernel
theorem dX10_copies_9 : decode cX10_copies 9 = .ok (.getfield 9, 3) := by decide +kernel
theorem dX10_copies_12 : decode cX10_copies 12 = .ok (.iconst 0, 1) := by decide +kernel
theorem dX10_copies_13 : decode cX10_copies 13 = .ok (.aload_n 0, 1) := by decide +kernel
theorem dX10_copies_14 : decode cX10_copies 14 = .ok (.getfield 9, 3) := by decide +kernel
theorem dX10_copies_17 : decode cX10_copies 17 = .ok (.iconst 0, 1) := by decide +kernel
theorem dX10_copies_18 : decode cX10_copies 18 = .ok (.bipush 40, 2) := by decide +kernel
theorem dX10_copies_20 : decode cX10_copies 20 = .ok (.invokestatic 25, 3) := by decide +kernel
theorem dX10_copies_23 : decode cX10_copies 23 = .ok (.aload_n 1, 1) := by decide +kernel
theorem dX10_copies_24 : decode cX10_copies 24 = .ok (.getfield 15, 3) := by decide +kernel
theorem dX10_copies_27 : decode cX10_copies 27 = .ok (.iconst 0, 1) := by decide +kernel
theorem dX10_copies_28 : decode cX10_copies 28 = .ok (.aload_n 0, 1) := by decide +kernel
theorem dX10_copies_29 : decode cX10_copies 29 = .ok (.getfield 15, 3) := by decide +kernel
theorem dX10_copies_32 : decode cX10_copies 32 = .ok (.iconst 0, 1) := by decide +kernel
theorem dX10_copies_33 : decode cX10_copies 33 = .ok (.bipush 40, 2) := by decide +kernel
theorem dX10_copies_35 : decode cX10_copies 35 = .ok (.invokestatic 25, 3) := by decide +kernel
theorem dX10_copies_38 : decode cX10_copies 38 = .ok (.aload_n 1, 1) := by decide +kernel
theorem dX10_copies_39 : decode cX10_copies 39 = .ok (.getfield 18, 3) := by decide +kernel
theorem dX10_copies_42 : decode cX10_copies 42 = .ok (.iconst 0, 1) := by decide +kernel
theorem dX10_copies_43 : decode cX10_copies 43 = .ok (.aload_n 0, 1) := by decide +kernel
theorem dX10_copies_44 : decode cX10_copies 44 = .ok (.getfield 18, 3) := by decide +kernel
theorem dX10_copies_47 : decode cX10_copies 47 = .ok (.iconst 0, 1) := by decide +kernel
theorem dX10_copies_48 : decode cX10_copies 48 = .ok (.bipush 40, 2) := by decide +kernel
theorem dX10_copies_50 : decode cX10_copies 50 = .ok (.invokestatic 25, 3) := by decide +kernel
theorem dX10_copies_53 : decode cX10_copies 53 = .ok (.return_, 1) := by decide +kernel
theorem dX10_reads_0 : decode cX10_reads 0 = .ok (.aload_n 0, 1) := by decide +kernel
theorem dX10_reads_1 : decode cX10_reads 1 = .ok (.iconst 0, 1) := by decide +kernel
theorem dX10_reads_2 : decode cX10_reads 2 = .ok (.putfield 21, 3) := by decide +kernel
theorem dX10_reads_5 : decode cX10_reads 5 = .ok (.aload_n 1, 1) := by decide +kernel
theorem dX10_reads_6 : decode cX10_reads 6 = .ok (.invokevirtual 31, 3) := by decide +kernel
theorem dX10_reads_9 : decode cX10_reads 9 = .ok (.iconst 0, 1) := by decide +kernel
theorem dX10_reads_10 : decode cX10_reads 10 = .ok (.istore_n 3, 1) := by decide +kernel
theorem dX10_reads_11 : decode cX10_reads 11 = .ok (.iload_n 3, 1) := by decide +kernel
theorem dX10_reads_12 : decode cX10_reads 12 = .ok (.bipush 40, 2) := by decide +kernel
theorem dX10_reads_14 : decode cX10_reads 14 = .ok (.if_icmp .gt 33, 3) := by decide +kernel
theorem dX10_reads_17 : decode cX10_reads 17 = .ok (.aload_n 1, 1) := by decide +kernel
theorem dX10_reads_18 : decode cX10_reads 18 = .ok (.invokevirtual 36, 3) := by decide +kernel
theorem dX10_reads_21 : decode cX10_reads 21 = .ok (.aload_n 1, 1) := by decide +kernel
theorem dX10_reads_22 : decode cX10_reads 22 = .ok (.getfield 39, 3) := by decide +kernel
theorem dX10_reads_25 : decode cX10_reads 25 = .ok (.ifCond .ne 5, 3) := by decide +kernel
theorem dX10_reads_28 : decode cX10_reads 28 = .ok (.iconst 1, 1) := by decide +kernel
theorem dX10_reads_29 : decode cX10_reads 29 = .ok (.ireturn, 1) := by decide +kernel
theorem dX10_reads_30 : decode cX10_reads 30 = .ok (.aload_n 0, 1) := by decide +kernel
theorem dX10_reads_31 : decode cX10_reads 31 = .ok (.aload_n 1, 1) := by decide +kernel
theorem dX10_reads_32 : decode cX10_reads 32 = .ok (.aload_n 2, 1) := by decide +kernel
theorem dX10_reads_33 : decode cX10_reads 33 = .ok (.invokevirtual 42, 3) := by decide +kernel
theorem dX10_reads_36 : decode cX10_reads 36 = .ok (.ifCond .ne 5, 3) := by decide +kernel
theorem dX10_reads_39 : decode cX10_reads 39 = .ok (.iconst 0, 1) := by decide +kernel
theorem dX10_reads_40 : decode cX10_reads 40 = .ok (.ireturn, 1) := by decide +kernel
theorem dX10_reads_41 : decode cX10_reads 41 = .ok (.iinc 3 1, 3) := by decide +kernel
theorem dX10_reads_44 : decode cX10_reads 44 = .ok (.goto (-33), 3) := by decide +kernel
theorem dX10_reads_47 : decode cX10_reads 47 = .ok (.aload_n 1, 1) := by decide +kernel
theorem dX10_reads_48 : decode cX10_reads 48 = .ok (.iconst 5, 1) := by decide +kernel
theorem dX10_reads_49 : decode cX10_reads 49 = .ok (.invokevirtual 46, 3) := by decide +kernel
theorem dX10_reads_52 : decode cX10_reads 52 = .ok (.ireturn, 1) := by decide +kernel
theorem dX10_readsLine_0 : decode cX10_readsLine 0 = .ok (.aload_n 1, 1) := by decide +kernel
theorem dX10_readsLine_1 : decode cX10_readsLine 1 = .ok (.ldc 50, 2) := by decide +kernel
theorem dX10_readsLine_3 : decode cX10_readsLine 3 = .ok (.invokevirtual 52, 3) := by decide +kernel
theorem dX10_readsLine_6 : decode cX10_readsLine 6 = .ok (.istore_n 3, 1) := by decide +kernel
theorem dX10_readsLine_7 : decode cX10_readsLine 7 = .ok (.aload_n 1, 1) := by decide +kernel
theorem dX10_readsLine_8 : decode cX10_readsLine 8 = .ok (.ldc 56, 2) := by decide +kernel
theorem dX10_readsLine_10 : decode cX10_readsLine 10 = .ok (.invokevirtual 52, 3) := by decide +kernel
theorem dX10_readsLine_13 : decode cX10_readsLine 13 = .ok (.istore 4, 2) := by decide +kernel
theorem dX10_readsLine_15 : decode cX10_readsLine 15 = .ok (.iload_n 3, 1) := by decide +kernel
theorem dX10_readsLine_16 : decode cX10_readsLine 16 = .ok (.ifCond .ne 23, 3) := by decide +kernel
theorem dX10_readsLine_19 : decode cX10_readsLine 19 = .ok (.iload 4, 2) := by decide +kernel
theorem dX10_readsLine_21 : decode cX10_readsLine 21 = .ok (.ifCond .ne 18, 3) := by decide +kernel
theorem dX10_readsLine_24 : decode cX10_readsLine 24 = .ok (.aload_n 1, 1) := by decide +kernel
theorem dX10_readsLine_25 : decode cX10_readsLine 25 = .ok (.ldc 58, 2) := by decide +kernel
theorem dX10_readsLine_27 : decode cX10_readsLine 27 = .ok (.invokevirtual 52, 3) := by decide +kernel
theorem dX10_readsLine_30 : decode cX10_readsLine 30 = .ok (.ifCond .ne 9, 3) := by decide +kernel
theorem dX10_readsLine_33 : decode cX10_readsLine 33 = .ok (.aload_n 1, 1) := by decide +kernel
theorem dX10_readsLine_34 : decode cX10_readsLine 34 = .ok (.iconst 1, 1) := by decide +kernel
theorem dX10_readsLine_35 : decode cX10_readsLine 35 = .ok (.invokevirtual 46, 3) := by decide +kernel
theorem dX10_readsLine_38 : decode cX10_readsLine 38 = .ok (.ireturn, 1) := by decide +kernel
theorem dX10_readsLine_39 : decode cX10_readsLine 39 = .ok (.aload_n 0, 1) := by decide +kernel
theorem dX10_readsLine_40 : decode cX10_readsLine 40 = .ok (.getfield 21, 3) := by decide +kernel
theorem dX10_readsLine_43 : decode cX10_readsLine 43 = .ok (.bipush 40, 2) := by decide +kernel
theorem dX10_readsLine_45 : decode cX10_readsLine 45 = .ok (.if_icmp .lt 9, 3) := by decide +kernel
theorem dX10_readsLine_48 : decode cX10_readsLine 48 = .ok (.aload_n 1, 1) := by decide +kernel
theorem dX10_readsLine_49 : decode cX10_readsLine 49 = .ok (.iconst 5, 1) := by decide +kernel
theorem dX10_readsLine_50 : decode cX10_readsLine 50 = .ok (.invokevirtual 46, 3) := by decide +kernel
theorem dX10_readsLine_53 : decode cX10_readsLine 53 = .ok (.ireturn, 1) := by decide +kernel
theorem dX10_readsLine_54 : decode cX10_readsLine 54 = .ok (.aload_n 0, 1) := by decide +kernel
theorem dX10_readsLine_55 : decode cX10_readsLine 55 = .ok (.getfield 9, 3) := by decide +kernel
theorem dX10_readsLine_58 : decode cX10_readsLine 58 = .ok (.aload_n 0, 1) := by decide +kernel
theorem dX10_readsLine_59 : decode cX10_readsLine 59 = .ok (.getfield 21, 3) := by decide +kernel
theorem dX10_readsLine_62 : decode cX10_readsLine 62 = .ok (.iload 4, 2) := by decide +kernel
theorem dX10_readsLine_64 : decode cX10_readsLine 64 = .ok (.ifCond .eq 7, 3) := by decide +kernel
theorem dX10_readsLine_67 : decode cX10_readsLine 67 = .ok (.iconst 1, 1) := by decide +kernel
theorem dX10_readsLine_68 : decode cX10_readsLine 68 = .ok (.goto 4, 3) := by decide +kernel
theorem dX10_readsLine_71 : decode cX10_readsLine 71 = .ok (.iconst 0, 1) := by decide +kernel
theorem dX10_readsLine_72 : decode cX10_readsLine 72 = .ok (.iastore, 1) := by decide +kernel
theorem dX10_readsLine_73 : decode cX10_readsLine 73 = .ok (.iload_n 3, 1) := by decide +kernel
theorem dX10_readsLine_74 : decode cX10_readsLine 74 = .ok (.ifCond .ne 8, 3) := by decide +kernel
theorem dX10_readsLine_77 : decode cX10_readsLine 77 = .ok (.iload 4, 2) := by decide +kernel
theorem dX10_readsLine_79 : decode cX10_readsLine 79 = .ok (.ifCond .eq 14, 3) := by decide +kernel
theorem dX10_readsLine_82 : decode cX10_readsLine 82 = .ok (.aload_n 0, 1) := by decide +kernel
theorem dX10_readsLine_83 : decode cX10_readsLine 83 = .ok (.aload_n 1, 1) := by decide +kernel
theorem dX10_readsLine_84 : decode cX10_readsLine 84 = .ok (.aload_n 2, 1) := by decide +kernel
theorem dX10_readsLine_85 : decode cX10_readsLine 85 = .ok (.invokevirtual 60, 3) := by decide +kernel
theorem dX10_readsLine_88 : decode cX10_readsLine 88 = .ok (.ifCond .ne 5, 3) := by decide +kernel
theorem dX10_readsLine_91 : decode cX10_readsLine 91 = .ok (.iconst 0, 1) := by decide +kernel
theorem dX10_readsLine_92 : decode cX10_readsLine 92 = .ok (.ireturn, 1) := by decide +kernel
theorem dX10_readsLine_93 : decode cX10_readsLine 93 = .ok (.iload_n 3, 1) := by decide +kernel
theorem dX10_readsLine_94 : decode cX10_readsLine 94 = .ok (.ifCond .eq 13, 3) := by decide +kernel
theorem dX10_readsLine_97 : decode cX10_readsLine 97 = .ok (.aload_n 0, 1) := by decide +kernel
theorem dX10_readsLine_98 : decode cX10_readsLine 98 = .ok (.aload_n 1, 1) := by decide +kernel
theorem dX10_readsLine_99 : decode cX10_readsLine 99 = .ok (.invokevirtual 63, 3) := by decide +kernel
theorem dX10_readsLine_102 : decode cX10_readsLine 102 = .ok (.ifCond .ne 5, 3) := by decide +kernel
theorem dX10_readsLine_105 : decode cX10_readsLine 105 = .ok (.iconst 0, 1) := by decide +kernel
theorem dX10_readsLine_106 : decode cX10_readsLine 106 = .ok (.ireturn, 1) := by decide +kernel
theorem dX10_readsLine_107 : decode cX10_readsLine 107 = .ok (.aload_n 0, 1) := by decide +kernel
theorem dX10_readsLine_108 : decode cX10_readsLine 108 = .ok (.dup, 1) := by decide +kernel
theorem dX10_readsLine_109 : decode cX10_readsLine 109 = .ok (.getfield 21, 3) := by decide +kernel
theorem dX10_readsLine_112 : decode cX10_readsLine 112 = .ok (.iconst 1, 1) := by decide +kernel
theorem dX10_readsLine_113 : decode cX10_readsLine 113 = .ok (.iadd, 1) := by decide +kernel
theorem dX10_readsLine_114 : decode cX10_readsLine 114 = .ok (.putfield 21, 3) := by decide +kernel
theorem dX10_readsLine_117 : decode cX10_readsLine 117 = .ok (.aload_n 1, 1) := by decide +kernel
theorem dX10_readsLine_118 : decode cX10_readsLine 118 = .ok (.invokevirtual 67, 3) := by decide +kernel
theorem dX10_readsLine_121 : decode cX10_readsLine 121 = .ok (.ireturn, 1) := by decide +kernel
theorem dX10_takesWhoAndWhat_0 : decode cX10_takesWhoAndWhat 0 = .ok (.aload_n 1, 1) := by decide +kernel
theorem dX10_takesWhoAndWhat_1 : decode cX10_takesWhoAndWhat 1 = .ok (.aload_n 2, 1) := by decide +kernel
theorem dX10_takesWhoAndWhat_2 : decode cX10_takesWhoAndWhat 2 = .ok (.invokevirtual 71, 3) := by decide +kernel
theorem dX10_takesWhoAndWhat_5 : decode cX10_takesWhoAndWhat 5 = .ok (.ifCond .ne 5, 3) := by decide +kernel
theorem dX10_takesWhoAndWhat_8 : decode cX10_takesWhoAndWhat 8 = .ok (.iconst 0, 1) := by decide +kernel
theorem dX10_takesWhoAndWhat_9 : decode cX10_takesWhoAndWhat 9 = .ok (.ireturn, 1) := by decide +kernel
theorem dX10_takesWhoAndWhat_10 : decode cX10_takesWhoAndWhat 10 = .ok (.aload_n 0, 1) := by decide +kernel
theorem dX10_takesWhoAndWhat_11 : decode cX10_takesWhoAndWhat 11 = .ok (.getfield 15, 3) := by decide +kernel
theorem dX10_takesWhoAndWhat_14 : decode cX10_takesWhoAndWhat 14 = .ok (.aload_n 0, 1) := by decide +kernel
theorem dX10_takesWhoAndWhat_15 : decode cX10_takesWhoAndWhat 15 = .ok (.getfield 21, 3) := by decide +kernel
theorem dX10_takesWhoAndWhat_18 : decode cX10_takesWhoAndWhat 18 = .ok (.aload_n 2, 1) := by decide +kernel
theorem dX10_takesWhoAndWhat_19 : decode cX10_takesWhoAndWhat 19 = .ok (.aload_n 1, 1) := by decide +kernel
theorem dX10_takesWhoAndWhat_20 : decode cX10_takesWhoAndWhat 20 = .ok (.getfield 75, 3) := by decide +kernel
theorem dX10_takesWhoAndWhat_23 : decode cX10_takesWhoAndWhat 23 = .ok (.invokevirtual 79, 3) := by decide +kernel
theorem dX10_takesWhoAndWhat_26 : decode cX10_takesWhoAndWhat 26 = .ok (.iastore, 1) := by decide +kernel
theorem dX10_takesWhoAndWhat_27 : decode cX10_takesWhoAndWhat 27 = .ok (.aload_n 1, 1) := by decide +kernel
theorem dX10_takesWhoAndWhat_28 : decode cX10_takesWhoAndWhat 28 = .ok (.aload_n 2, 1) := by decide +kernel
theorem dX10_takesWhoAndWhat_29 : decode cX10_takesWhoAndWhat 29 = .ok (.invokevirtual 85, 3) := by decide +kernel
theorem dX10_takesWhoAndWhat_32 : decode cX10_takesWhoAndWhat 32 = .ok (.ifCond .ne 5, 3) := by decide +kernel
theorem dX10_takesWhoAndWhat_35 : decode cX10_takesWhoAndWhat 35 = .ok (.iconst 0, 1) := by decide +kernel
theorem dX10_takesWhoAndWhat_36 : decode cX10_takesWhoAndWhat 36 = .ok (.ireturn, 1) := by decide +kernel
theorem dX10_takesWhoAndWhat_37 : decode cX10_takesWhoAndWhat 37 = .ok (.aload_n 0, 1) := by decide +kernel
theorem dX10_takesWhoAndWhat_38 : decode cX10_takesWhoAndWhat 38 = .ok (.getfield 18, 3) := by decide +kernel
theorem dX10_takesWhoAndWhat_41 : decode cX10_takesWhoAndWhat 41 = .ok (.aload_n 0, 1) := by decide +kernel
theorem dX10_takesWhoAndWhat_42 : decode cX10_takesWhoAndWhat 42 = .ok (.getfield 21, 3) := by decide +kernel
theorem dX10_takesWhoAndWhat_45 : decode cX10_takesWhoAndWhat 45 = .ok (.aload_n 2, 1) := by decide +kernel
theorem dX10_takesWhoAndWhat_46 : decode cX10_takesWhoAndWhat 46 = .ok (.aload_n 1, 1) := by decide +kernel
theorem dX10_takesWhoAndWhat_47 : decode cX10_takesWhoAndWhat 47 = .ok (.getfield 75, 3) := by decide +kernel
theorem dX10_takesWhoAndWhat_50 : decode cX10_takesWhoAndWhat 50 = .ok (.invokevirtual 88, 3) := by decide +kernel
theorem dX10_takesWhoAndWhat_53 : decode cX10_takesWhoAndWhat 53 = .ok (.iastore, 1) := by decide +kernel
theorem dX10_takesWhoAndWhat_54 : decode cX10_takesWhoAndWhat 54 = .ok (.iconst 1, 1) := by decide +kernel
theorem dX10_takesWhoAndWhat_55 : decode cX10_takesWhoAndWhat 55 = .ok (.ireturn, 1) := by decide +kernel
theorem dX10_takesHow_0 : decode cX10_takesHow 0 = .ok (.aload_n 1, 1) := by decide +kernel
theorem dX10_takesHow_1 : decode cX10_takesHow 1 = .ok (.invokevirtual 36, 3) := by decide +kernel
theorem dX10_takesHow_4 : decode cX10_takesHow 4 = .ok (.aload_n 1, 1) := by decide +kernel
theorem dX10_takesHow_5 : decode cX10_takesHow 5 = .ok (.ldc 91, 2) := by decide +kernel
theorem dX10_takesHow_7 : decode cX10_takesHow 7 = .ok (.invokevirtual 52, 3) := by decide +kernel
theorem dX10_takesHow_10 : decode cX10_takesHow 10 = .ok (.istore_n 2, 1) := by decide +kernel
theorem dX10_takesHow_11 : decode cX10_takesHow 11 = .ok (.iload_n 2, 1) := by decide +kernel
theorem dX10_takesHow_12 : decode cX10_takesHow 12 = .ok (.ifCond .ne 18, 3) := by decide +kernel
theorem dX10_takesHow_15 : decode cX10_takesHow 15 = .ok (.aload_n 1, 1) := by decide +kernel
theorem dX10_takesHow_16 : decode cX10_takesHow 16 = .ok (.ldc 93, 2) := by decide +kernel
theorem dX10_takesHow_18 : decode cX10_takesHow 18 = .ok (.invokevirtual 52, 3) := by decide +kernel
theorem dX10_takesHow_21 : decode cX10_takesHow 21 = .ok (.ifCond .ne 9, 3) := by decide +kernel
theorem dX10_takesHow_24 : decode cX10_takesHow 24 = .ok (.aload_n 1, 1) := by decide +kernel
theorem dX10_takesHow_25 : decode cX10_takesHow 25 = .ok (.iconst 1, 1) := by decide +kernel
theorem dX10_takesHow_26 : decode cX10_takesHow 26 = .ok (.invokevirtual 46, 3) := by decide +kernel
theorem dX10_takesHow_29 : decode cX10_takesHow 29 = .ok (.ireturn, 1) := by decide +kernel
theorem dX10_takesHow_30 : decode cX10_takesHow 30 = .ok (.aload_n 0, 1) := by decide +kernel
theorem dX10_takesHow_31 : decode cX10_takesHow 31 = .ok (.getfield 9, 3) := by decide +kernel
theorem dX10_takesHow_34 : decode cX10_takesHow 34 = .ok (.aload_n 0, 1) := by decide +kernel
theorem dX10_takesHow_35 : decode cX10_takesHow 35 = .ok (.getfield 21, 3) := by decide +kernel
theorem dX10_takesHow_38 : decode cX10_takesHow 38 = .ok (.iload_n 2, 1) := by decide +kernel
theorem dX10_takesHow_39 : decode cX10_takesHow 39 = .ok (.ifCond .eq 7, 3) := by decide +kernel
theorem dX10_takesHow_42 : decode cX10_takesHow 42 = .ok (.iconst 2, 1) := by decide +kernel
theorem dX10_takesHow_43 : decode cX10_takesHow 43 = .ok (.goto 4, 3) := by decide +kernel
theorem dX10_takesHow_46 : decode cX10_takesHow 46 = .ok (.iconst 3, 1) := by decide +kernel
theorem dX10_takesHow_47 : decode cX10_takesHow 47 = .ok (.iastore, 1) := by decide +kernel
theorem dX10_takesHow_48 : decode cX10_takesHow 48 = .ok (.iconst 1, 1) := by decide +kernel
theorem dX10_takesHow_49 : decode cX10_takesHow 49 = .ok (.ireturn, 1) := by decide +kernel
theorem dX10_happens_0 : decode cX10_happens 0 = .ok (.aload_n 0, 1) := by decide +kernel
theorem dX10_happens_1 : decode cX10_happens 1 = .ok (.getfield 9, 3) := by decide +kernel
theorem dX10_happens_4 : decode cX10_happens 4 = .ok (.iload_n 1, 1) := by decide +kernel
theorem dX10_happens_5 : decode cX10_happens 5 = .ok (.iaload, 1) := by decide +kernel
theorem dX10_happens_6 : decode cX10_happens 6 = .ok (.iconst 1, 1) := by decide +kernel
theorem dX10_happens_7 : decode cX10_happens 7 = .ok (.if_icmp .ne 22, 3) := by decide +kernel
theorem dX10_happens_10 : decode cX10_happens 10 = .ok (.aload_n 3, 1) := by decide +kernel
theorem dX10_happens_11 : decode cX10_happens 11 = .ok (.aload_n 2, 1) := by decide +kernel
theorem dX10_happens_12 : decode cX10_happens 12 = .ok (.aload_n 0, 1) := by decide +kernel
theorem dX10_happens_13 : decode cX10_happens 13 = .ok (.getfield 15, 3) := by decide +kernel
theorem dX10_happens_16 : decode cX10_happens 16 = .ok (.iload_n 1, 1) := by decide +kernel
theorem dX10_happens_17 : decode cX10_happens 17 = .ok (.iaload, 1) := by decide +kernel
theorem dX10_happens_18 : decode cX10_happens 18 = .ok (.aload_n 0, 1) := by decide +kernel
theorem dX10_happens_19 : decode cX10_happens 19 = .ok (.getfield 18, 3) := by decide +kernel
theorem dX10_happens_22 : decode cX10_happens 22 = .ok (.iload_n 1, 1) := by decide +kernel
theorem dX10_happens_23 : decode cX10_happens 23 = .ok (.iaload, 1) := by decide +kernel
theorem dX10_happens_24 : decode cX10_happens 24 = .ok (.invokevirtual 95, 3) := by decide +kernel
theorem dX10_happens_27 : decode cX10_happens 27 = .ok (.iconst 0, 1) := by decide +kernel
theorem dX10_happens_28 : decode cX10_happens 28 = .ok (.ireturn, 1) := by decide +kernel
theorem dX10_happens_29 : decode cX10_happens 29 = .ok (.iconst 0, 1) := by decide +kernel
theorem dX10_happens_30 : decode cX10_happens 30 = .ok (.istore 4, 2) := by decide +kernel
theorem dX10_happens_32 : decode cX10_happens 32 = .ok (.aload_n 0, 1) := by decide +kernel
theorem dX10_happens_33 : decode cX10_happens 33 = .ok (.getfield 9, 3) := by decide +kernel
theorem dX10_happens_36 : decode cX10_happens 36 = .ok (.iload_n 1, 1) := by decide +kernel
theorem dX10_happens_37 : decode cX10_happens 37 = .ok (.iaload, 1) := by decide +kernel
theorem dX10_happens_38 : decode cX10_happens 38 = .ok (.ifCond .eq 71, 3) := by decide +kernel
theorem dX10_happens_41 : decode cX10_happens 41 = .ok (.aload_n 3, 1) := by decide +kernel
theorem dX10_happens_42 : decode cX10_happens 42 = .ok (.aload_n 2, 1) := by decide +kernel
theorem dX10_happens_43 : decode cX10_happens 43 = .ok (.aload_n 0, 1) := by decide +kernel
theorem dX10_happens_44 : decode cX10_happens 44 = .ok (.getfield 15, 3) := by decide +kernel
theorem dX10_happens_47 : decode cX10_happens 47 = .ok (.iload_n 1, 1) := by decide +kernel
theorem dX10_happens_48 : decode cX10_happens 48 = .ok (.iaload, 1) := by decide +kernel
theorem dX10_happens_49 : decode cX10_happens 49 = .ok (.aload_n 0, 1) := by decide +kernel
theorem dX10_happens_50 : decode cX10_happens 50 = .ok (.getfield 18, 3) := by decide +kernel
theorem dX10_happens_53 : decode cX10_happens 53 = .ok (.iload_n 1, 1) := by decide +kernel
theorem dX10_happens_54 : decode cX10_happens 54 = .ok (.iaload, 1) := by decide +kernel
theorem dX10_happens_55 : decode cX10_happens 55 = .ok (.invokevirtual 101, 3) := by decide +kernel
theorem dX10_happens_58 : decode cX10_happens 58 = .ok (.ifCond .ne 5, 3) := by decide +kernel
theorem dX10_happens_61 : decode cX10_happens 61 = .ok (.iconst 1, 1) := by decide +kernel
theorem dX10_happens_62 : decode cX10_happens 62 = .ok (.ireturn, 1) := by decide +kernel
theorem dX10_happens_63 : decode cX10_happens 63 = .ok (.aload_n 0, 1) := by decide +kernel
theorem dX10_happens_64 : decode cX10_happens 64 = .ok (.getfield 9, 3) := by decide +kernel
theorem dX10_happens_67 : decode cX10_happens 67 = .ok (.iload_n 1, 1) := by decide +kernel
theorem dX10_happens_68 : decode cX10_happens 68 = .ok (.iaload, 1) := by decide +kernel
theorem dX10_happens_69 : decode cX10_happens 69 = .ok (.iconst 2, 1) := by decide +kernel
theorem dX10_happens_70 : decode cX10_happens 70 = .ok (.if_icmp .ne 7, 3) := by decide +kernel
theorem dX10_happens_73 : decode cX10_happens 73 = .ok (.iconst 1, 1) := by decide +kernel
theorem dX10_happens_74 : decode cX10_happens 74 = .ok (.goto 4, 3) := by decide +kernel
theorem dX10_happens_77 : decode cX10_happens 77 = .ok (.iconst 0, 1) := by decide +kernel
theorem dX10_happens_78 : decode cX10_happens 78 = .ok (.istore 5, 2) := by decide +kernel
theorem dX10_happens_80 : decode cX10_happens 80 = .ok (.aload_n 3, 1) := by decide +kernel
theorem dX10_happens_81 : decode cX10_happens 81 = .ok (.aload_n 2, 1) := by decide +kernel
theorem dX10_happens_82 : decode cX10_happens 82 = .ok (.aload_n 0, 1) := by decide +kernel
theorem dX10_happens_83 : decode cX10_happens 83 = .ok (.getfield 15, 3) := by decide +kernel
theorem dX10_happens_86 : decode cX10_happens 86 = .ok (.iload_n 1, 1) := by decide +kernel
theorem dX10_happens_87 : decode cX10_happens 87 = .ok (.iaload, 1) := by decide +kernel
theorem dX10_happens_88 : decode cX10_happens 88 = .ok (.aload_n 0, 1) := by decide +kernel
theorem dX10_happens_89 : decode cX10_happens 89 = .ok (.getfield 18, 3) := by decide +kernel
theorem dX10_happens_92 : decode cX10_happens 92 = .ok (.iload_n 1, 1) := by decide +kernel
theorem dX10_happens_93 : decode cX10_happens 93 = .ok (.iaload, 1) := by decide +kernel
theorem dX10_happens_94 : decode cX10_happens 94 = .ok (.iload 5, 2) := by decide +kernel
theorem dX10_happens_96 : decode cX10_happens 96 = .ok (.invokevirtual 105, 3) := by decide +kernel
theorem dX10_happens_99 : decode cX10_happens 99 = .ok (.ifCond .eq 7, 3) := by decide +kernel
theorem dX10_happens_102 : decode cX10_happens 102 = .ok (.iconst 4, 1) := by decide +kernel
theorem dX10_happens_103 : decode cX10_happens 103 = .ok (.goto 4, 3) := by decide +kernel
theorem dX10_happens_106 : decode cX10_happens 106 = .ok (.iconst 0, 1) := by decide +kernel
theorem dX10_happens_107 : decode cX10_happens 107 = .ok (.istore 4, 2) := by decide +kernel
theorem dX10_happens_109 : decode cX10_happens 109 = .ok (.aload_n 3, 1) := by decide +kernel
theorem dX10_happens_110 : decode cX10_happens 110 = .ok (.aload_n 2, 1) := by decide +kernel
theorem dX10_happens_111 : decode cX10_happens 111 = .ok (.invokevirtual 109, 3) := by decide +kernel
theorem dX10_happens_114 : decode cX10_happens 114 = .ok (.ifCond .le 10, 3) := by decide +kernel
theorem dX10_happens_117 : decode cX10_happens 117 = .ok (.iload 4, 2) := by decide +kernel
theorem dX10_happens_119 : decode cX10_happens 119 = .ok (.iconst 2, 1) := by decide +kernel
theorem dX10_happens_120 : decode cX10_happens 120 = .ok (.ior, 1) := by decide +kernel
theorem dX10_happens_121 : decode cX10_happens 121 = .ok (.goto 5, 3) := by decide +kernel
theorem dX10_happens_124 : decode cX10_happens 124 = .ok (.iload 4, 2) := by decide +kernel
theorem dX10_happens_126 : decode cX10_happens 126 = .ok (.ireturn, 1) := by decide +kernel
theorem dX11_init_0 : decode cX11_init 0 = .ok (.aload_n 0, 1) := by decide +kernel
theorem dX11_init_1 : decode cX11_init 1 = .ok (.invokespecial 1, 3) := by decide +kernel
theorem dX11_init_4 : decode cX11_init 4 = .ok (.aload_n 0, 1) := by decide +kernel
theorem dX11_init_5 : decode cX11_init 5 = .ok (.new 7, 3) := by decide +kernel
theorem dX11_init_8 : decode cX11_init 8 = .ok (.dup, 1) := by decide +kernel
theorem dX11_init_9 : decode cX11_init 9 = .ok (.invokespecial 9, 3) := by decide +kernel
theorem dX11_init_12 : decode cX11_init 12 = .ok (.putfield 10, 3) := by decide +kernel
theorem dX11_init_15 : decode cX11_init 15 = .ok (.aload_n 0, 1) := by decide +kernel
theorem dX11_init_16 : decode cX11_init 16 = .ok (.new 16, 3) := by decide +kernel
theorem dX11_init_19 : decode cX11_init 19 = .ok (.dup, 1) := by decide +kernel
theorem dX11_init_20 : decode cX11_init 20 = .ok (.invokespecial 18, 3) := by decide +kernel
theorem dX11_init_23 : decode cX11_init 23 = .ok (.putfield 19, 3) := by decide +kernel
theorem dX11_init_26 : decode cX11_init 26 = .ok (.aload_n 0, 1) := by decide +kernel
theorem dX11_init_27 : decode cX11_init 27 = .ok (.new 23, 3) := by decide +kernel
theorem dX11_init_30 : decode cX11_init 30 = .ok (.dup, 1) := by decide +kernel
theorem dX11_init_31 : decode cX11_init 31 = .ok (.invokespecial 25, 3) := by decide +kernel
theorem dX11_init_34 : decode cX11_init 34 = .ok (.putfield 26, 3) := by decide +kernel
theorem dX11_init_37 : decode cX11_init 37 = .ok (.aload_n 0, 1) := by decide +kernel
theorem dX11_init_38 : decode cX11_init 38 = .ok (.new 23, 3) := by decide +kernel
theorem dX11_init_41 : decode cX11_init 41 = .ok (.dup, 1) := by decide +kernel
theorem dX11_init_42 : decode cX11_init 42 = .ok (.invokespecial 25, 3) := by decide +kernel
theorem dX11_init_45 : decode cX11_init 45 = .ok (.putfield 30, 3) := by decide +kernel
theorem dX11_init_48 : decode cX11_init 48 = .ok (.aload_n 0, 1) := by decide +kernel
theorem dX11_init_49 : decode cX11_init 49 = .ok (.new 33, 3) := by decide +kernel
theorem dX11_init_52 : decode cX11_init 52 = .ok (.dup, 1) := by decide +kernel
theorem dX11_init_53 : decode cX11_init 53 = .ok (.invokespecial 35, 3) := by decide +kernel
theorem dX11_init_56 : decode cX11_init 56 = .ok (.putfield 36, 3) := by decide +kernel
theorem dX11_init_59 : decode cX11_init 59 = .ok (.aload_n 0, 1) := by decide +kernel
theorem dX11_init_60 : decode cX11_init 60 = .ok (.new 33, 3) := by decide +kernel
theorem dX11_init_63 : decode cX11_init 63 = .ok (.dup, 1) := by decide +kernel
theorem dX11_init_64 : decode cX11_init 64 = .ok (.invokespecial 35, 3) := by decide +kernel
theorem dX11_init_67 : decode cX11_init 67 = .ok (.putfield 40, 3) := by decide +kernel
theorem dX11_init_70 : decode cX11_init 70 = .ok (.aload_n 0, 1) := by decide +kernel
theorem dX11_init_71 : decode cX11_init 71 = .ok (.new 43, 3) := by decide +kernel
theorem dX11_init_74 : decode cX11_init 74 = .ok (.dup, 1) := by decide +kernel
theorem dX11_init_75 : decode cX11_init 75 = .ok (.invokespecial 45, 3) := by decide +kernel
theorem dX11_init_78 : decode cX11_init 78 = .ok (.putfield 46, 3) := by decide +kernel
theorem dX11_init_81 : decode cX11_init 81 = .ok (.aload_n 0, 1) := by decide +kernel
theorem dX11_init_82 : decode cX11_init 82 = .ok (.new 43, 3) := by decide +kernel
theorem dX11_init_85 : decode cX11_init 85 = .ok (.dup, 1) := by decide +kernel
theorem dX11_init_86 : decode cX11_init 86 = .ok (.invokespecial 45, 3) := by decide +kernel
theorem dX11_init_89 : decode cX11_init 89 = .ok (.putfield 50, 3) := by decide +kernel
theorem dX11_init_92 : decode cX11_init 92 = .ok (.aload_n 0, 1) := by decide +kernel
theorem dX11_init_93 : decode cX11_init 93 = .ok (.bipush 16, 2) := by decide +kernel
theorem dX11_init_95 : decode cX11_init 95 = .ok (.anewarray 43, 3) := by decide +kernel
theorem dX11_init_98 : decode cX11_init 98 = .ok (.putfield 53, 3) := by decide +kernel
theorem dX11_init_101 : decode cX11_init 101 = .ok (.aload_n 0, 1) := by decide +kernel
theorem dX11_init_102 : decode cX11_init 102 = .ok (.iconst 0, 1) := by decide +kernel
theorem dX11_init_103 : decode cX11_init 103 = .ok (.putfield 57, 3) := by decide +kernel
theorem dX11_init_106 : decode cX11_init 106 = .ok (.aload_n 0, 1) := by decide +kernel
theorem dX11_init_107 : decode cX11_init 107 = .ok (.iconst 0, 1) := by decide +kernel
theorem dX11_init_108 : decode cX11_init 108 = .ok (.putfield 61, 3) := by decide +kernel
theorem dX11_init_111 : decode cX11_init 111 = .ok (.aload_n 0, 1) := by decide +kernel
theorem dX11_init_112 : decode cX11_init 112 = .ok (.iconst 4, 1) := by decide +kernel
theorem dX11_init_113 : decode cX11_init 113 = .ok (.anewarray 64, 3) := by decide +kernel
theorem dX11_init_116 : decode cX11_init 116 = .ok (.putfield 66, 3) := by decide +kernel
theorem dX11_init_119 : decode cX11_init 119 = .ok (.aload_n 0, 1) := by decide +kernel
theorem dX11_init_120 : decode cX11_init 120 = .ok (.new 70, 3) := by decide +kernel
theorem dX11_init_123 : decode cX11_init 123 = .ok (.dup, 1) := by decide +kernel
theorem dX11_init_124 : decode cX11_init 124 = .ok (.invokespecial 72, 3) := by decide +kernel
theorem dX11_init_127 : decode cX11_init 127 = .ok (.putfield 73, 3) := by decide +kernel
theorem dX11_init_130 : decode cX11_init 130 = .ok (.aload_n 0, 1) := by decide +kernel
theorem dX11_init_131 : decode cX11_init 131 = .ok (.new 77, 3) := by decide +kernel
theorem dX11_init_134 : decode cX11_init 134 = .ok (.dup, 1) := by decide +kernel
theorem dX11_init_135 : decode cX11_init 135 = .ok (.invokespecial 79, 3) := by decide +kernel
theorem dX11_init_138 : decode cX11_init 138 = .ok (.putfield 80, 3) := by decide +kernel
theorem dX11_init_141 : decode cX11_init 141 = .ok (.aload_n 0, 1) := by decide +kernel
theorem dX11_init_142 : decode cX11_init 142 = .ok (.new 84, 3) := by decide +kernel
theorem dX11_init_145 : decode cX11_init 145 = .ok (.dup, 1) := by decide +kernel
theorem dX11_init_146 : decode cX11_init 146 = .ok (.invokespecial 86, 3) := by decide +kernel
theorem dX11_init_149 : decode cX11_init 149 = .ok (.putfield 87, 3) := by decide +kernel
theorem dX11_init_152 : decode cX11_init 152 = .ok (.aload_n 0, 1) := by decide +kernel
theorem dX11_init_153 : decode cX11_init 153 = .ok (.new 91, 3) := by decide +kernel
theorem dX11_init_156 : decode cX11_init 156 = .ok (.dup, 1) := by decide +kernel
theorem dX11_init_157 : decode cX11_init 157 = .ok (.invokespecial 93, 3) := by decide +kernel
theorem dX11_init_160 : decode cX11_init 160 = .ok (.putfield 94, 3) := by decide +kernel
theorem dX11_init_163 : decode cX11_init 163 = .ok (.aload_n 0, 1) := by decide +kernel
theorem dX11_init_164 : decode cX11_init 164 = .ok (.bipush 25, 2) := by decide +kernel
theorem dX11_init_166 : decode cX11_init 166 = .ok (.newarray .int, 2) := by decide +kernel
theorem dX11_init_168 : decode cX11_init 168 = .ok (.putfield 98, 3) := by decide +kernel
theorem dX11_init_171 : decode cX11_init 171 = .ok (.iconst 0, 1) := by decide +kernel
theorem dX11_init_172 : decode cX11_init 172 = .ok (.istore_n 1, 1) := by decide +kernel
theorem dX11_init_173 : decode cX11_init 173 = .ok (.iload_n 1, 1) := by decide +kernel
theorem dX11_init_174 : decode cX11_init 174 = .ok (.bipush 16, 2) := by decide +kernel
theorem dX11_init_176 : decode cX11_init 176 = .ok (.if_icmp .ge 22, 3) := by decide +kernel
theorem dX11_init_179 : decode cX11_init 179 = .ok (.aload_n 0, 1) := by decide +kernel
theorem dX11_init_180 : decode cX11_init 180 = .ok (.getfield 53, 3) := by decide +kernel
theorem dX11_init_183 : decode cX11_init 183 = .ok (.iload_n 1, 1) := by decide +kernel
theorem dX11_init_184 : decode cX11_init 184 = .ok (.new 43, 3) := by decide +kernel
theorem dX11_init_187 : decode cX11_init 187 = .ok (.dup, 1) := by decide +kernel
theorem dX11_init_188 : decode cX11_init 188 = .ok (.invokespecial 45, 3) := by decide +kernel
theorem dX11_init_191 : decode cX11_init 191 = .ok (.aastore, 1) := by decide +kernel
theorem dX11_init_192 : decode cX11_init 192 = .ok (.iinc 1 1, 3) := by decide +kernel
theorem dX11_init_195 : decode cX11_init 195 = .ok (.goto (-22), 3) := by decide +kernel
theorem dX11_init_198 : decode cX11_init 198 = .ok (.iconst 0, 1) := by decide +kernel
theorem dX11_init_199 : decode cX11_init 199 = .ok (.istore_n 1, 1) := by decide +kernel
theorem dX11_init_200 : decode cX11_init 200 = .ok (.iload_n 1, 1) := by decide +kernel
theorem dX11_init_201 : decode cX11_init 201 = .ok (.iconst 4, 1) := by decide +kernel
theorem dX11_init_202 : decode cX11_init 202 = .ok (.if_icmp .ge 22, 3) := by decide +kernel
theorem dX11_init_205 : decode cX11_init 205 = .ok (.aload_n 0, 1) := by decide +kernel
theorem dX11_init_206 : decode cX11_init 206 = .ok (.getfield 66, 3) := by decide +kernel
theorem dX11_init_209 : decode cX11_init 209 = .ok (.iload_n 1, 1) := by decide +kernel
theorem dX11_init_210 : decode cX11_init 210 = .ok (.new 64, 3) := by decide +kernel
theorem dX11_init_213 : decode cX11_init 213 = .ok (.dup, 1) := by decide +kernel
theorem dX11_init_214 : decode cX11_init 214 = .ok (.invokespecial 102, 3) := by decide +kernel
theorem dX11_init_217 : decode cX11_init 217 = .ok (.aastore, 1) := by decide +kernel
theorem dX11_init_218 : decode cX11_init 218 = .ok (.iinc 1 1, 3) := by decide +kernel
theorem dX11_init_221 : decode cX11_init 221 = .ok (.goto (-21), 3) := by decide +kernel
theorem dX11_init_224 : decode cX11_init 224 = .ok (.return_, 1) := by decide +kernel
theorem dX11_feed_0 : decode cX11_feed 0 = .ok (.aload_n 0, 1) := by decide +kernel
theorem dX11_feed_1 : decode cX11_feed 1 = .ok (.getfield 10, 3) := by decide +kernel
theorem dX11_feed_4 : decode cX11_feed 4 = .ok (.lload_n 1, 1) := by decide +kernel
theorem dX11_feed_5 : decode cX11_feed 5 = .ok (.invokevirtual 103, 3) := by decide +kernel
theorem dX11_feed_8 : decode cX11_feed 8 = .ok (.aload_n 0, 1) := by decide +kernel
theorem dX11_feed_9 : decode cX11_feed 9 = .ok (.getfield 10, 3) := by decide +kernel
theorem dX11_feed_12 : decode cX11_feed 12 = .ok (.lload_n 3, 1) := by decide +kernel
theorem dX11_feed_13 : decode cX11_feed 13 = .ok (.invokevirtual 103, 3) := by decide +kernel
theorem dX11_feed_16 : decode cX11_feed 16 = .ok (.aload_n 0, 1) := by decide +kernel
theorem dX11_feed_17 : decode cX11_feed 17 = .ok (.getfield 10, 3) := by decide +kernel
theorem dX11_feed_20 : decode cX11_feed 20 = .ok (.lload 5, 2) := by decide +kernel
theorem dX11_feed_22 : decode cX11_feed 22 = .ok (.invokevirtual 103, 3) := by decide +kernel
theorem dX11_feed_25 : decode cX11_feed 25 = .ok (.aload_n 0, 1) := by decide +kernel
theorem dX11_feed_26 : decode cX11_feed 26 = .ok (.getfield 10, 3) := by decide +kernel
theorem dX11_feed_29 : decode cX11_feed 29 = .ok (.getfield 107, 3) := by decide +kernel
theorem dX11_feed_32 : decode cX11_feed 32 = .ok (.ireturn, 1) := by decide +kernel
theorem dX11_commune_0 : decode cX11_commune 0 = .ok (.aload_n 0, 1) := by decide +kernel
theorem dX11_commune_1 : decode cX11_commune 1 = .ok (.getfield 19, 3) := by decide +kernel
theorem dX11_commune_4 : decode cX11_commune 4 = .ok (.aload_n 0, 1) := by decide +kernel
theorem dX11_commune_5 : decode cX11_commune 5 = .ok (.getfield 10, 3) := by decide +kernel
theorem dX11_commune_8 : decode cX11_commune 8 = .ok (.aload_n 0, 1) := by decide +kernel
theorem dX11_commune_9 : decode cX11_commune 9 = .ok (.getfield 30, 3) := by decide +kernel
theorem dX11_commune_12 : decode cX11_commune 12 = .ok (.invokevirtual 110, 3) := by decide +kernel
theorem dX11_commune_15 : decode cX11_commune 15 = .ok (.ifCond .eq 32, 3) := by decide +kernel
theorem dX11_commune_18 : decode cX11_commune 18 = .ok (.aload_n 0, 1) := by decide +kernel
theorem dX11_commune_19 : decode cX11_commune 19 = .ok (.getfield 26, 3) := by decide +kernel
theorem dX11_commune_22 : decode cX11_commune 22 = .ok (.astore_n 1, 1) := by decide +kernel
theorem dX11_commune_23 : decode cX11_commune 23 = .ok (.aload_n 0, 1) := by decide +kernel
theorem dX11_commune_24 : decode cX11_commune 24 = .ok (.aload_n 0, 1) := by decide +kernel
theorem dX11_commune_25 : decode cX11_commune 25 = .ok (.getfield 30, 3) := by decide +kernel
theorem dX11_commune_28 : decode cX11_commune 28 = .ok (.putfield 26, 3) := by decide +kernel
theorem dX11_commune_31 : decode cX11_commune 31 = .ok (.aload_n 0, 1) := by decide +kernel
theorem dX11_commune_32 : decode cX11_commune 32 = .ok (.aload_n 1, 1) := by decide +kernel
theorem dX11_commune_33 : decode cX11_commune 33 = .ok (.putfield 30, 3) := by decide +kernel
theorem dX11_commune_36 : decode cX11_commune 36 = .ok (.aload_n 0, 1) := by decide +kernel
theorem dX11_commune_37 : decode cX11_commune 37 = .ok (.getfield 26, 3) := by decide +kernel
theorem dX11_commune_40 : decode cX11_commune 40 = .ok (.invokevirtual 114, 3) := by decide +kernel
theorem dX11_commune_43 : decode cX11_commune 43 = .ok (.aload_n 0, 1) := by decide +kernel
theorem dX11_commune_44 : decode cX11_commune 44 = .ok (.invokevirtual 117, 3) := by decide +kernel
theorem dX11_commune_47 : decode cX11_commune 47 = .ok (.aload_n 0, 1) := by decide +kernel
theorem dX11_commune_48 : decode cX11_commune 48 = .ok (.getfield 10, 3) := by decide +kernel
theorem dX11_commune_51 : decode cX11_commune 51 = .ok (.iconst 0, 1) := by decide +kernel
theorem dX11_commune_52 : decode cX11_commune 52 = .ok (.putfield 107, 3) := by decide +kernel
theorem dX11_commune_55 : decode cX11_commune 55 = .ok (.aload_n 0, 1) := by decide +kernel
theorem dX11_commune_56 : decode cX11_commune 56 = .ok (.getfield 10, 3) := by decide +kernel
theorem dX11_commune_59 : decode cX11_commune 59 = .ok (.getfield 120, 3) := by decide +kernel
theorem dX11_commune_62 : decode cX11_commune 62 = .ok (.ireturn, 1) := by decide +kernel
theorem dX11_weeks_0 : decode cX11_weeks 0 = .ok (.aload_n 0, 1) := by decide +kernel
theorem dX11_weeks_1 : decode cX11_weeks 1 = .ok (.getfield 40, 3) := by decide +kernel
theorem dX11_weeks_4 : decode cX11_weeks 4 = .ok (.aload_n 0, 1) := by decide +kernel
theorem dX11_weeks_5 : decode cX11_weeks 5 = .ok (.getfield 10, 3) := by decide +kernel
theorem dX11_weeks_8 : decode cX11_weeks 8 = .ok (.aload_n 0, 1) := by decide +kernel
theorem dX11_weeks_9 : decode cX11_weeks 9 = .ok (.getfield 26, 3) := by decide +kernel
theorem dX11_weeks_12 : decode cX11_weeks 12 = .ok (.invokevirtual 123, 3) := by decide +kernel
theorem dX11_weeks_15 : decode cX11_weeks 15 = .ok (.ifCond .eq 21, 3) := by decide +kernel
theorem dX11_weeks_18 : decode cX11_weeks 18 = .ok (.aload_n 0, 1) := by decide +kernel
theorem dX11_weeks_19 : decode cX11_weeks 19 = .ok (.getfield 36, 3) := by decide +kernel
theorem dX11_weeks_22 : decode cX11_weeks 22 = .ok (.astore_n 1, 1) := by decide +kernel
theorem dX11_weeks_23 : decode cX11_weeks 23 = .ok (.aload_n 0, 1) := by decide +kernel
theorem dX11_weeks_24 : decode cX11_weeks 24 = .ok (.aload_n 0, 1) := by decide +kernel
theorem dX11_weeks_25 : decode cX11_weeks 25 = .ok (.getfield 40, 3) := by decide +kernel
theorem dX11_weeks_28 : decode cX11_weeks 28 = .ok (.putfield 36, 3) := by decide +kernel
theorem dX11_weeks_31 : decode cX11_weeks 31 = .ok (.aload_n 0, 1) := by decide +kernel
theorem dX11_weeks_32 : decode cX11_weeks 32 = .ok (.aload_n 1, 1) := by decide +kernel
theorem dX11_weeks_33 : decode cX11_weeks 33 = .ok (.putfield 40, 3) := by decide +kernel
theorem dX11_weeks_36 : decode cX11_weeks 36 = .ok (.aload_n 0, 1) := by decide +kernel
theorem dX11_weeks_37 : decode cX11_weeks 37 = .ok (.getfield 10, 3) := by decide +kernel
theorem dX11_weeks_40 : decode cX11_weeks 40 = .ok (.iconst 0, 1) := by decide +kernel
theorem dX11_weeks_41 : decode cX11_weeks 41 = .ok (.putfield 107, 3) := by decide +kernel
theorem dX11_weeks_44 : decode cX11_weeks 44 = .ok (.aload_n 0, 1) := by decide +kernel
theorem dX11_weeks_45 : decode cX11_weeks 45 = .ok (.getfield 10, 3) := by decide +kernel
theorem dX11_weeks_48 : decode cX11_weeks 48 = .ok (.getfield 120, 3) := by decide +kernel
theorem dX11_weeks_51 : decode cX11_weeks 51 = .ok (.ireturn, 1) := by decide +kernel
theorem dX11_person_0 : decode cX11_person 0 = .ok (.aload_n 0, 1) := by decide +kernel
theorem dX11_person_1 : decode cX11_person 1 = .ok (.iload_n 1, 1) := by decide +kernel
theorem dX11_person_2 : decode cX11_person 2 = .ok (.invokevirtual 124, 3) := by decide +kernel
theorem dX11_person_5 : decode cX11_person 5 = .ok (.ifCond .ne 5, 3) := by decide +kernel
theorem dX11_person_8 : decode cX11_person 8 = .ok (.iconst (-1), 1) := by decide +kernel
theorem dX11_person_9 : decode cX11_person 9 = .ok (.ireturn, 1) := by decide +kernel
theorem dX11_person_10 : decode cX11_person 10 = .ok (.iload_n 2, 1) := by decide +kernel
theorem dX11_person_11 : decode cX11_person 11 = .ok (.tableswitch 136 0 7 #[45, 55, 65, 75, 85, 95, 116, 126], 45) := by decide +kernel
theorem dX11_person_56 : decode cX11_person 56 = .ok (.aload_n 0, 1) := by decide +kernel
theorem dX11_person_57 : decode cX11_person 57 = .ok (.getfield 26, 3) := by decide +kernel
theorem dX11_person_60 : decode cX11_person 60 = .ok (.getfield 128, 3) := by decide +kernel
theorem dX11_person_63 : decode cX11_person 63 = .ok (.iload_n 1, 1) := by decide +kernel
theorem dX11_person_64 : decode cX11_person 64 = .ok (.iaload, 1) := by decide +kernel
theorem dX11_person_65 : decode cX11_person 65 = .ok (.ireturn, 1) := by decide +kernel
theorem dX11_person_66 : decode cX11_person 66 = .ok (.aload_n 0, 1) := by decide +kernel
theorem dX11_person_67 : decode cX11_person 67 = .ok (.getfield 26, 3) := by decide +kernel
theorem dX11_person_70 : decode cX11_person 70 = .ok (.getfield 131, 3) := by decide +kernel
theorem dX11_person_73 : decode cX11_person 73 = .ok (.iload_n 1, 1) := by decide +kernel
theorem dX11_person_74 : decode cX11_person 74 = .ok (.iaload, 1) := by decide +kernel
theorem dX11_person_75 : decode cX11_person 75 = .ok (.ireturn, 1) := by decide +kernel
theorem dX11_person_76 : decode cX11_person 76 = .ok (.aload_n 0, 1) := by decide +kernel
theorem dX11_person_77 : decode cX11_person 77 = .ok (.getfield 26, 3) := by decide +kernel
theorem dX11_person_80 : decode cX11_person 80 = .ok (.getfield 134, 3) := by decide +kernel
theorem dX11_person_83 : decode cX11_person 83 = .ok (.iload_n 1, 1) := by decide +kernel
theorem dX11_person_84 : decode cX11_person 84 = .ok (.iaload, 1) := by decide +kernel
theorem dX11_person_85 : decode cX11_person 85 = .ok (.ireturn, 1) := by decide +kernel
theorem dX11_person_86 : decode cX11_person 86 = .ok (.aload_n 0, 1) := by decide +kernel
theorem dX11_person_87 : decode cX11_person 87 = .ok (.getfield 26, 3) := by decide +kernel
theorem dX11_person_90 : decode cX11_person 90 = .ok (.getfield 137, 3) := by decide +kernel
theorem dX11_person_93 : decode cX11_person 93 = .ok (.iload_n 1, 1) := by decide +kernel
theorem dX11_person_94 : decode cX11_person 94 = .ok (.iaload, 1) := by decide +kernel
theorem dX11_person_95 : decode cX11_person 95 = .ok (.ireturn, 1) := by decide +kernel
theorem dX11_person_96 : decode cX11_person 96 = .ok (.aload_n 0, 1) := by decide +kernel
theorem dX11_person_97 : decode cX11_person 97 = .ok (.getfield 46, 3) := by decide +kernel
theorem dX11_person_100 : decode cX11_person 100 = .ok (.getfield 140, 3) := by decide +kernel
theorem dX11_person_103 : decode cX11_person 103 = .ok (.iload_n 1, 1) := by decide +kernel
theorem dX11_person_104 : decode cX11_person 104 = .ok (.iaload, 1) := by decide +kernel
theorem dX11_person_105 : decode cX11_person 105 = .ok (.ireturn, 1) := by decide +kernel
theorem dX11_person_106 : decode cX11_person 106 = .ok (.aload_n 0, 1) := by decide +kernel
theorem dX11_person_107 : decode cX11_person 107 = .ok (.getfield 46, 3) := by decide +kernel
theorem dX11_person_110 : decode cX11_person 110 = .ok (.aload_n 0, 1) := by decide +kernel
theorem dX11_person_111 : decode cX11_person 111 = .ok (.getfield 26, 3) := by decide +kernel
theorem dX11_person_114 : decode cX11_person 114 = .ok (.iload_n 1, 1) := by decide +kernel
theorem dX11_person_115 : decode cX11_person 115 = .ok (.invokevirtual 143, 3) := by decide +kernel
theorem dX11_person_118 : decode cX11_person 118 = .ok (.ifCond .eq 7, 3) := by decide +kernel
theorem dX11_person_121 : decode cX11_person 121 = .ok (.iconst 1, 1) := by decide +kernel
theorem dX11_person_122 : decode cX11_person 122 = .ok (.goto 4, 3) := by decide +kernel
theorem dX11_person_125 : decode cX11_person 125 = .ok (.iconst 0, 1) := by decide +kernel
theorem dX11_person_126 : decode cX11_person 126 = .ok (.ireturn, 1) := by decide +kernel
theorem dX11_person_127 : decode cX11_person 127 = .ok (.aload_n 0, 1) := by decide +kernel
theorem dX11_person_128 : decode cX11_person 128 = .ok (.getfield 46, 3) := by decide +kernel
theorem dX11_person_131 : decode cX11_person 131 = .ok (.getfield 147, 3) := by decide +kernel
theorem dX11_person_134 : decode cX11_person 134 = .ok (.iload_n 1, 1) := by decide +kernel
theorem dX11_person_135 : decode cX11_person 135 = .ok (.iaload, 1) := by decide +kernel
theorem dX11_person_136 : decode cX11_person 136 = .ok (.ireturn, 1) := by decide +kernel
theorem dX11_person_137 : decode cX11_person 137 = .ok (.aload_n 0, 1) := by decide +kernel
theorem dX11_person_138 : decode cX11_person 138 = .ok (.getfield 46, 3) := by decide +kernel
theorem dX11_person_141 : decode cX11_person 141 = .ok (.getfield 150, 3) := by decide +kernel
theorem dX11_person_144 : decode cX11_person 144 = .ok (.iload_n 1, 1) := by decide +kernel
theorem dX11_person_145 : decode cX11_person 145 = .ok (.iaload, 1) := by decide +kernel
theorem dX11_person_146 : decode cX11_person 146 = .ok (.ireturn, 1) := by decide +kernel
theorem dX11_person_147 : decode cX11_person 147 = .ok (.iconst (-1), 1) := by decide +kernel
theorem dX11_person_148 : decode cX11_person 148 = .ok (.ireturn, 1) := by decide +kernel
theorem dX11_dish_0 : decode cX11_dish 0 = .ok (.aload_n 0, 1) := by decide +kernel
theorem dX11_dish_1 : decode cX11_dish 1 = .ok (.iload_n 1, 1) := by decide +kernel
theorem dX11_dish_2 : decode cX11_dish 2 = .ok (.invokevirtual 153, 3) := by decide +kernel
theorem dX11_dish_5 : decode cX11_dish 5 = .ok (.ifCond .ne 5, 3) := by decide +kernel
theorem dX11_dish_8 : decode cX11_dish 8 = .ok (.iconst (-1), 1) := by decide +kernel
theorem dX11_dish_9 : decode cX11_dish 9 = .ok (.ireturn, 1) := by decide +kernel
theorem dX11_dish_10 : decode cX11_dish 10 = .ok (.iload_n 2, 1) := by decide +kernel
theorem dX11_dish_11 : decode cX11_dish 11 = .ok (.tableswitch 55 0 2 #[25, 35, 45], 25) := by decide +kernel
theorem dX11_dish_36 : decode cX11_dish 36 = .ok (.aload_n 0, 1) := by decide +kernel
theorem dX11_dish_37 : decode cX11_dish 37 = .ok (.getfield 26, 3) := by decide +kernel
theorem dX11_dish_40 : decode cX11_dish 40 = .ok (.getfield 156, 3) := by decide +kernel
theorem dX11_dish_43 : decode cX11_dish 43 = .ok (.iload_n 1, 1) := by decide +kernel
theorem dX11_dish_44 : decode cX11_dish 44 = .ok (.iaload, 1) := by decide +kernel
theorem dX11_dish_45 : decode cX11_dish 45 = .ok (.ireturn, 1) := by decide +kernel
theorem dX11_dish_46 : decode cX11_dish 46 = .ok (.aload_n 0, 1) := by decide +kernel
theorem dX11_dish_47 : decode cX11_dish 47 = .ok (.getfield 26, 3) := by decide +kernel
theorem dX11_dish_50 : decode cX11_dish 50 = .ok (.getfield 159, 3) := by decide +kernel
theorem dX11_dish_53 : decode cX11_dish 53 = .ok (.iload_n 1, 1) := by decide +kernel
theorem dX11_dish_54 : decode cX11_dish 54 = .ok (.iaload, 1) := by decide +kernel
theorem dX11_dish_55 : decode cX11_dish 55 = .ok (.ireturn, 1) := by decide +kernel
theorem dX11_dish_56 : decode cX11_dish 56 = .ok (.aload_n 0, 1) := by decide +kernel
theorem dX11_dish_57 : decode cX11_dish 57 = .ok (.getfield 26, 3) := by decide +kernel
theorem dX11_dish_60 : decode cX11_dish 60 = .ok (.getfield 162, 3) := by decide +kernel
theorem dX11_dish_63 : decode cX11_dish 63 = .ok (.iload_n 1, 1) := by decide +kernel
theorem dX11_dish_64 : decode cX11_dish 64 = .ok (.iaload, 1) := by decide +kernel
theorem dX11_dish_65 : decode cX11_dish 65 = .ok (.ireturn, 1) := by decide +kernel
theorem dX11_dish_66 : decode cX11_dish 66 = .ok (.iconst (-1), 1) := by decide +kernel
theorem dX11_dish_67 : decode cX11_dish 67 = .ok (.ireturn, 1) := by decide +kernel
theorem dX11_would_0 : decode cX11_would 0 = .ok (.aload_n 0, 1) := by decide +kernel
theorem dX11_would_1 : decode cX11_would 1 = .ok (.iload_n 1, 1) := by decide +kernel
theorem dX11_would_2 : decode cX11_would 2 = .ok (.iload_n 2, 1) := by decide +kernel
theorem dX11_would_3 : decode cX11_would 3 = .ok (.invokevirtual 165, 3) := by decide +kernel
theorem dX11_would_6 : decode cX11_would 6 = .ok (.ifCond .eq 12, 3) := by decide +kernel
theorem dX11_would_9 : decode cX11_would 9 = .ok (.aload_n 0, 1) := by decide +kernel
theorem dX11_would_10 : decode cX11_would 10 = .ok (.iload 4, 2) := by decide +kernel
theorem dX11_would_12 : decode cX11_would 12 = .ok (.invokevirtual 124, 3) := by decide +kernel
theorem dX11_would_15 : decode cX11_would 15 = .ok (.ifCond .ne 5, 3) := by decide +kernel
theorem dX11_would_18 : decode cX11_would 18 = .ok (.iconst (-1), 1) := by decide +kernel
theorem dX11_would_19 : decode cX11_would 19 = .ok (.ireturn, 1) := by decide +kernel
theorem dX11_would_20 : decode cX11_would 20 = .ok (.aload_n 0, 1) := by decide +kernel
theorem dX11_would_21 : decode cX11_would 21 = .ok (.getfield 46, 3) := by decide +kernel
theorem dX11_would_24 : decode cX11_would 24 = .ok (.aload_n 0, 1) := by decide +kernel
theorem dX11_would_25 : decode cX11_would 25 = .ok (.getfield 26, 3) := by decide +kernel
theorem dX11_would_28 : decode cX11_would 28 = .ok (.iload_n 1, 1) := by decide +kernel
theorem dX11_would_29 : decode cX11_would 29 = .ok (.iload_n 2, 1) := by decide +kernel
theorem dX11_would_30 : decode cX11_would 30 = .ok (.iload_n 3, 1) := by decide +kernel
theorem dX11_would_31 : decode cX11_would 31 = .ok (.iload 4, 2) := by decide +kernel
theorem dX11_would_33 : decode cX11_would 33 = .ok (.invokevirtual 169, 3) := by decide +kernel
theorem dX11_would_36 : decode cX11_would 36 = .ok (.ireturn, 1) := by decide +kernel
theorem dX11_eat_0 : decode cX11_eat 0 = .ok (.aload_n 0, 1) := by decide +kernel
theorem dX11_eat_1 : decode cX11_eat 1 = .ok (.iload_n 1, 1) := by decide +kernel
theorem dX11_eat_2 : decode cX11_eat 2 = .ok (.iload_n 2, 1) := by decide +kernel
theorem dX11_eat_3 : decode cX11_eat 3 = .ok (.invokevirtual 165, 3) := by decide +kernel
theorem dX11_eat_6 : decode cX11_eat 6 = .ok (.ifCond .ne 5, 3) := by decide +kernel
theorem dX11_eat_9 : decode cX11_eat 9 = .ok (.iconst (-1), 1) := by decide +kernel
theorem dX11_eat_10 : decode cX11_eat 10 = .ok (.ireturn, 1) := by decide +kernel
theorem dX11_eat_11 : decode cX11_eat 11 = .ok (.aload_n 0, 1) := by decide +kernel
theorem dX11_eat_12 : decode cX11_eat 12 = .ok (.invokevirtual 173, 3) := by decide +kernel
theorem dX11_eat_15 : decode cX11_eat 15 = .ok (.aload_n 0, 1) := by decide +kernel
theorem dX11_eat_16 : decode cX11_eat 16 = .ok (.getfield 46, 3) := by decide +kernel
theorem dX11_eat_19 : decode cX11_eat 19 = .ok (.aload_n 0, 1) := by decide +kernel
theorem dX11_eat_20 : decode cX11_eat 20 = .ok (.getfield 26, 3) := by decide +kernel
theorem dX11_eat_23 : decode cX11_eat 23 = .ok (.iload_n 1, 1) := by decide +kernel
theorem dX11_eat_24 : decode cX11_eat 24 = .ok (.iload_n 2, 1) := by decide +kernel
theorem dX11_eat_25 : decode cX11_eat 25 = .ok (.iload_n 3, 1) := by decide +kernel
theorem dX11_eat_26 : decode cX11_eat 26 = .ok (.invokevirtual 176, 3) := by decide +kernel
theorem dX11_eat_29 : decode cX11_eat 29 = .ok (.istore 4, 2) := by decide +kernel
theorem dX11_eat_31 : decode cX11_eat 31 = .ok (.aload_n 0, 1) := by decide +kernel
theorem dX11_eat_32 : decode cX11_eat 32 = .ok (.getfield 46, 3) := by decide +kernel
theorem dX11_eat_35 : decode cX11_eat 35 = .ok (.aload_n 0, 1) := by decide +kernel
theorem dX11_eat_36 : decode cX11_eat 36 = .ok (.getfield 26, 3) := by decide +kernel
theorem dX11_eat_39 : decode cX11_eat 39 = .ok (.invokevirtual 180, 3) := by decide +kernel
theorem dX11_eat_42 : decode cX11_eat 42 = .ok (.pop, 1) := by decide +kernel
theorem dX11_eat_43 : decode cX11_eat 43 = .ok (.iload 4, 2) := by decide +kernel
theorem dX11_eat_45 : decode cX11_eat 45 = .ok (.ifCond .eq 7, 3) := by decide +kernel
theorem dX11_eat_48 : decode cX11_eat 48 = .ok (.iconst 0, 1) := by decide +kernel
theorem dX11_eat_49 : decode cX11_eat 49 = .ok (.goto 4, 3) := by decide +kernel
theorem dX11_eat_52 : decode cX11_eat 52 = .ok (.iconst 1, 1) := by decide +kernel
theorem dX11_eat_53 : decode cX11_eat 53 = .ok (.ireturn, 1) := by decide +kernel
theorem dX11_abroad_0 : decode cX11_abroad 0 = .ok (.aload_n 0, 1) := by decide +kernel
theorem dX11_abroad_1 : decode cX11_abroad 1 = .ok (.iload_n 1, 1) := by decide +kernel
theorem dX11_abroad_2 : decode cX11_abroad 2 = .ok (.invokevirtual 124, 3) := by decide +kernel
theorem dX11_abroad_5 : decode cX11_abroad 5 = .ok (.ifCond .eq 11, 3) := by decide +kernel
theorem dX11_abroad_8 : decode cX11_abroad 8 = .ok (.aload_n 0, 1) := by decide +kernel
theorem dX11_abroad_9 : decode cX11_abroad 9 = .ok (.iload_n 2, 1) := by decide +kernel
theorem dX11_abroad_10 : decode cX11_abroad 10 = .ok (.invokevirtual 153, 3) := by decide +kernel
theorem dX11_abroad_13 : decode cX11_abroad 13 = .ok (.ifCond .ne 5, 3) := by decide +kernel
theorem dX11_abroad_16 : decode cX11_abroad 16 = .ok (.iconst (-1), 1) := by decide +kernel
theorem dX11_abroad_17 : decode cX11_abroad 17 = .ok (.ireturn, 1) := by decide +kernel
theorem dX11_abroad_18 : decode cX11_abroad 18 = .ok (.aload_n 0, 1) := by decide +kernel
theorem dX11_abroad_19 : decode cX11_abroad 19 = .ok (.invokevirtual 173, 3) := by decide +kernel
theorem dX11_abroad_22 : decode cX11_abroad 22 = .ok (.aload_n 0, 1) := by decide +kernel
theorem dX11_abroad_23 : decode cX11_abroad 23 = .ok (.getfield 46, 3) := by decide +kernel
theorem dX11_abroad_26 : decode cX11_abroad 26 = .ok (.aload_n 0, 1) := by decide +kernel
theorem dX11_abroad_27 : decode cX11_abroad 27 = .ok (.getfield 26, 3) := by decide +kernel
theorem dX11_abroad_30 : decode cX11_abroad 30 = .ok (.iload_n 1, 1) := by decide +kernel
theorem dX11_abroad_31 : decode cX11_abroad 31 = .ok (.iload_n 2, 1) := by decide +kernel
theorem dX11_abroad_32 : decode cX11_abroad 32 = .ok (.invokevirtual 184, 3) := by decide +kernel
theorem dX11_abroad_35 : decode cX11_abroad 35 = .ok (.aload_n 0, 1) := by decide +kernel
theorem dX11_abroad_36 : decode cX11_abroad 36 = .ok (.getfield 46, 3) := by decide +kernel
theorem dX11_abroad_39 : decode cX11_abroad 39 = .ok (.getfield 140, 3) := by decide +kernel
theorem dX11_abroad_42 : decode cX11_abroad 42 = .ok (.iload_n 1, 1) := by decide +kernel
theorem dX11_abroad_43 : decode cX11_abroad 43 = .ok (.iaload, 1) := by decide +kernel
theorem dX11_abroad_44 : decode cX11_abroad 44 = .ok (.ireturn, 1) := by decide +kernel
theorem dX11_fast_0 : decode cX11_fast 0 = .ok (.aload_n 0, 1) := by decide +kernel
theorem dX11_fast_1 : decode cX11_fast 1 = .ok (.invokevirtual 173, 3) := by decide +kernel
theorem dX11_fast_4 : decode cX11_fast 4 = .ok (.aload_n 0, 1) := by decide +kernel
theorem dX11_fast_5 : decode cX11_fast 5 = .ok (.getfield 46, 3) := by decide +kernel
theorem dX11_fast_8 : decode cX11_fast 8 = .ok (.aload_n 0, 1) := by decide +kernel
theorem dX11_fast_9 : decode cX11_fast 9 = .ok (.getfield 26, 3) := by decide +kernel
theorem dX11_fast_12 : decode cX11_fast 12 = .ok (.invokevirtual 180, 3) := by decide +kernel
theorem dX11_fast_15 : decode cX11_fast 15 = .ok (.pop, 1) := by decide +kernel
theorem dX11_fast_16 : decode cX11_fast 16 = .ok (.aload_n 0, 1) := by decide +kernel
theorem dX11_fast_17 : decode cX11_fast 17 = .ok (.getfield 46, 3) := by decide +kernel
theorem dX11_fast_20 : decode cX11_fast 20 = .ok (.getfield 188, 3) := by decide +kernel
theorem dX11_fast_23 : decode cX11_fast 23 = .ok (.ireturn, 1) := by decide +kernel
theorem dX11_undo_0 : decode cX11_undo 0 = .ok (.aload_n 0, 1) := by decide +kernel
theorem dX11_undo_1 : decode cX11_undo 1 = .ok (.getfield 61, 3) := by decide +kernel
theorem dX11_undo_4 : decode cX11_undo 4 = .ok (.ifCond .ne 5, 3) := by decide +kernel
theorem dX11_undo_7 : decode cX11_undo 7 = .ok (.iconst 0, 1) := by decide +kernel
theorem dX11_undo_8 : decode cX11_undo 8 = .ok (.ireturn, 1) := by decide +kernel
theorem dX11_undo_9 : decode cX11_undo 9 = .ok (.aload_n 0, 1) := by decide +kernel
theorem dX11_undo_10 : decode cX11_undo 10 = .ok (.dup, 1) := by decide +kernel
theorem dX11_undo_11 : decode cX11_undo 11 = .ok (.getfield 61, 3) := by decide +kernel
theorem dX11_undo_14 : decode cX11_undo 14 = .ok (.iconst 1, 1) := by decide +kernel
theorem dX11_undo_15 : decode cX11_undo 15 = .ok (.isub, 1) := by decide +kernel
theorem dX11_undo_16 : decode cX11_undo 16 = .ok (.putfield 61, 3) := by decide +kernel
theorem dX11_undo_19 : decode cX11_undo 19 = .ok (.aload_n 0, 1) := by decide +kernel
theorem dX11_undo_20 : decode cX11_undo 20 = .ok (.aload_n 0, 1) := by decide +kernel
theorem dX11_undo_21 : decode cX11_undo 21 = .ok (.getfield 57, 3) := by decide +kernel
theorem dX11_undo_24 : decode cX11_undo 24 = .ok (.bipush 16, 2) := by decide +kernel
theorem dX11_undo_26 : decode cX11_undo 26 = .ok (.iadd, 1) := by decide +kernel
theorem dX11_undo_27 : decode cX11_undo 27 = .ok (.iconst 1, 1) := by decide +kernel
theorem dX11_undo_28 : decode cX11_undo 28 = .ok (.isub, 1) := by decide +kernel
theorem dX11_undo_29 : decode cX11_undo 29 = .ok (.bipush 16, 2) := by decide +kernel
theorem dX11_undo_31 : decode cX11_undo 31 = .ok (.irem, 1) := by decide +kernel
theorem dX11_undo_32 : decode cX11_undo 32 = .ok (.putfield 57, 3) := by decide +kernel
theorem dX11_undo_35 : decode cX11_undo 35 = .ok (.aload_n 0, 1) := by decide +kernel
theorem dX11_undo_36 : decode cX11_undo 36 = .ok (.getfield 46, 3) := by decide +kernel
theorem dX11_undo_39 : decode cX11_undo 39 = .ok (.aload_n 0, 1) := by decide +kernel
theorem dX11_undo_40 : decode cX11_undo 40 = .ok (.getfield 53, 3) := by decide +kernel
theorem dX11_undo_43 : decode cX11_undo 43 = .ok (.aload_n 0, 1) := by decide +kernel
theorem dX11_undo_44 : decode cX11_undo 44 = .ok (.getfield 57, 3) := by decide +kernel
theorem dX11_undo_47 : decode cX11_undo 47 = .ok (.aaload, 1) := by decide +kernel
theorem dX11_undo_48 : decode cX11_undo 48 = .ok (.invokevirtual 191, 3) := by decide +kernel
theorem dX11_undo_51 : decode cX11_undo 51 = .ok (.iconst 1, 1) := by decide +kernel
theorem dX11_undo_52 : decode cX11_undo 52 = .ok (.ireturn, 1) := by decide +kernel
theorem dX11_judged_0 : decode cX11_judged 0 = .ok (.iload_n 1, 1) := by decide +kernel
theorem dX11_judged_1 : decode cX11_judged 1 = .ok (.ifCond .lt 8, 3) := by decide +kernel
theorem dX11_judged_4 : decode cX11_judged 4 = .ok (.iload_n 1, 1) := by decide +kernel
theorem dX11_judged_5 : decode cX11_judged 5 = .ok (.iconst 3, 1) := by decide +kernel
theorem dX11_judged_6 : decode cX11_judged 6 = .ok (.if_icmp .le 6, 3) := by decide +kernel
theorem dX11_judged_9 : decode cX11_judged 9 = .ok (.bipush (-2), 2) := by decide +kernel
theorem dX11_judged_11 : decode cX11_judged 11 = .ok (.ireturn, 1) := by decide +kernel
theorem dX11_judged_12 : decode cX11_judged 12 = .ok (.aload_n 0, 1) := by decide +kernel
theorem dX11_judged_13 : decode cX11_judged 13 = .ok (.getfield 50, 3) := by decide +kernel
theorem dX11_judged_16 : decode cX11_judged 16 = .ok (.aload_n 0, 1) := by decide +kernel
theorem dX11_judged_17 : decode cX11_judged 17 = .ok (.getfield 26, 3) := by decide +kernel
theorem dX11_judged_20 : decode cX11_judged 20 = .ok (.invokevirtual 195, 3) := by decide +kernel
theorem dX11_judged_23 : decode cX11_judged 23 = .ok (.iconst (-1), 1) := by decide +kernel
theorem dX11_judged_24 : decode cX11_judged 24 = .ok (.istore_n 2, 1) := by decide +kernel
theorem dX11_judged_25 : decode cX11_judged 25 = .ok (.iconst 0, 1) := by decide +kernel
theorem dX11_judged_26 : decode cX11_judged 26 = .ok (.istore_n 3, 1) := by decide +kernel
theorem dX11_judged_27 : decode cX11_judged 27 = .ok (.iload_n 3, 1) := by decide +kernel
theorem dX11_judged_28 : decode cX11_judged 28 = .ok (.aload_n 0, 1) := by decide +kernel
theorem dX11_judged_29 : decode cX11_judged 29 = .ok (.getfield 36, 3) := by decide +kernel
theorem dX11_judged_32 : decode cX11_judged 32 = .ok (.getfield 199, 3) := by decide +kernel
theorem dX11_judged_35 : decode cX11_judged 35 = .ok (.if_icmp .ge 44, 3) := by decide +kernel
theorem dX11_judged_38 : decode cX11_judged 38 = .ok (.aload_n 0, 1) := by decide +kernel
theorem dX11_judged_39 : decode cX11_judged 39 = .ok (.getfield 36, 3) := by decide +kernel
theorem dX11_judged_42 : decode cX11_judged 42 = .ok (.iload_n 3, 1) := by decide +kernel
theorem dX11_judged_43 : decode cX11_judged 43 = .ok (.aload_n 0, 1) := by decide +kernel
theorem dX11_judged_44 : decode cX11_judged 44 = .ok (.getfield 26, 3) := by decide +kernel
theorem dX11_judged_47 : decode cX11_judged 47 = .ok (.aload_n 0, 1) := by decide +kernel
theorem dX11_judged_48 : decode cX11_judged 48 = .ok (.getfield 50, 3) := by decide +kernel
theorem dX11_judged_51 : decode cX11_judged 51 = .ok (.invokevirtual 200, 3) := by decide +kernel
theorem dX11_judged_54 : decode cX11_judged 54 = .ok (.istore 4, 2) := by decide +kernel
theorem dX11_judged_56 : decode cX11_judged 56 = .ok (.iload_n 2, 1) := by decide +kernel
theorem dX11_judged_57 : decode cX11_judged 57 = .ok (.iconst (-1), 1) := by decide +kernel
theorem dX11_judged_58 : decode cX11_judged 58 = .ok (.if_icmp .ne 15, 3) := by decide +kernel
theorem dX11_judged_61 : decode cX11_judged 61 = .ok (.iload 4, 2) := by decide +kernel
theorem dX11_judged_63 : decode cX11_judged 63 = .ok (.iload_n 1, 1) := by decide +kernel
theorem dX11_judged_64 : decode cX11_judged 64 = .ok (.ishr, 1) := by decide +kernel
theorem dX11_judged_65 : decode cX11_judged 65 = .ok (.iconst 1, 1) := by decide +kernel
theorem dX11_judged_66 : decode cX11_judged 66 = .ok (.iand, 1) := by decide +kernel
theorem dX11_judged_67 : decode cX11_judged 67 = .ok (.iconst 1, 1) := by decide +kernel
theorem dX11_judged_68 : decode cX11_judged 68 = .ok (.if_icmp .ne 5, 3) := by decide +kernel
theorem dX11_judged_71 : decode cX11_judged 71 = .ok (.iload_n 3, 1) := by decide +kernel
theorem dX11_judged_72 : decode cX11_judged 72 = .ok (.istore_n 2, 1) := by decide +kernel
theorem dX11_judged_73 : decode cX11_judged 73 = .ok (.iinc 3 1, 3) := by decide +kernel
theorem dX11_judged_76 : decode cX11_judged 76 = .ok (.goto (-49), 3) := by decide +kernel
theorem dX11_judged_79 : decode cX11_judged 79 = .ok (.iload_n 1, 1) := by decide +kernel
theorem dX11_judged_80 : decode cX11_judged 80 = .ok (.iconst 3, 1) := by decide +kernel
theorem dX11_judged_81 : decode cX11_judged 81 = .ok (.if_icmp .ne 13, 3) := by decide +kernel
theorem dX11_judged_84 : decode cX11_judged 84 = .ok (.aload_n 0, 1) := by decide +kernel
theorem dX11_judged_85 : decode cX11_judged 85 = .ok (.getfield 50, 3) := by decide +kernel
theorem dX11_judged_88 : decode cX11_judged 88 = .ok (.getfield 204, 3) := by decide +kernel
theorem dX11_judged_91 : decode cX11_judged 91 = .ok (.goto 4, 3) := by decide +kernel
theorem dX11_judged_94 : decode cX11_judged 94 = .ok (.iload_n 2, 1) := by decide +kernel
theorem dX11_judged_95 : decode cX11_judged 95 = .ok (.ireturn, 1) := by decide +kernel
theorem dX11_plan_0 : decode cX11_plan 0 = .ok (.iload_n 1, 1) := by decide +kernel
theorem dX11_plan_1 : decode cX11_plan 1 = .ok (.ifCond .lt 17, 3) := by decide +kernel
theorem dX11_plan_4 : decode cX11_plan 4 = .ok (.iload_n 1, 1) := by decide +kernel
theorem dX11_plan_5 : decode cX11_plan 5 = .ok (.iconst 3, 1) := by decide +kernel
theorem dX11_plan_6 : decode cX11_plan 6 = .ok (.if_icmp .gt 12, 3) := by decide +kernel
theorem dX11_plan_9 : decode cX11_plan 9 = .ok (.iload_n 2, 1) := by decide +kernel
theorem dX11_plan_10 : decode cX11_plan 10 = .ok (.ifCond .lt 8, 3) := by decide +kernel
theorem dX11_plan_13 : decode cX11_plan 13 = .ok (.iload_n 2, 1) := by decide +kernel
theorem dX11_plan_14 : decode cX11_plan 14 = .ok (.iconst 1, 1) := by decide +kernel
theorem dX11_plan_15 : decode cX11_plan 15 = .ok (.if_icmp .le 6, 3) := by decide +kernel
theorem dX11_plan_18 : decode cX11_plan 18 = .ok (.bipush (-2), 2) := by decide +kernel
theorem dX11_plan_20 : decode cX11_plan 20 = .ok (.ireturn, 1) := by decide +kernel
theorem dX11_plan_21 : decode cX11_plan 21 = .ok (.aload_n 0, 1) := by decide +kernel
theorem dX11_plan_22 : decode cX11_plan 22 = .ok (.getfield 80, 3) := by decide +kernel
theorem dX11_plan_25 : decode cX11_plan 25 = .ok (.aload_n 0, 1) := by decide +kernel
theorem dX11_plan_26 : decode cX11_plan 26 = .ok (.getfield 26, 3) := by decide +kernel
theorem dX11_plan_29 : decode cX11_plan 29 = .ok (.aload_n 0, 1) := by decide +kernel
theorem dX11_plan_30 : decode cX11_plan 30 = .ok (.getfield 46, 3) := by decide +kernel
theorem dX11_plan_33 : decode cX11_plan 33 = .ok (.iload_n 1, 1) := by decide +kernel
theorem dX11_plan_34 : decode cX11_plan 34 = .ok (.invokevirtual 207, 3) := by decide +kernel
theorem dX11_plan_37 : decode cX11_plan 37 = .ok (.ifCond .ne 6, 3) := by decide +kernel
theorem dX11_plan_40 : decode cX11_plan 40 = .ok (.bipush (-2), 2) := by decide +kernel
theorem dX11_plan_42 : decode cX11_plan 42 = .ok (.ireturn, 1) := by decide +kernel
theorem dX11_plan_43 : decode cX11_plan 43 = .ok (.iload_n 2, 1) := by decide +kernel
theorem dX11_plan_44 : decode cX11_plan 44 = .ok (.ifCond .ne 13, 3) := by decide +kernel
theorem dX11_plan_47 : decode cX11_plan 47 = .ok (.aload_n 0, 1) := by decide +kernel
theorem dX11_plan_48 : decode cX11_plan 48 = .ok (.getfield 80, 3) := by decide +kernel
theorem dX11_plan_51 : decode cX11_plan 51 = .ok (.getfield 211, 3) := by decide +kernel
theorem dX11_plan_54 : decode cX11_plan 54 = .ok (.goto 10, 3) := by decide +kernel
theorem dX11_plan_57 : decode cX11_plan 57 = .ok (.aload_n 0, 1) := by decide +kernel
theorem dX11_plan_58 : decode cX11_plan 58 = .ok (.getfield 80, 3) := by decide +kernel
theorem dX11_plan_61 : decode cX11_plan 61 = .ok (.getfield 214, 3) := by decide +kernel
theorem dX11_plan_64 : decode cX11_plan 64 = .ok (.ireturn, 1) := by decide +kernel
theorem dX11_tables_0 : decode cX11_tables 0 = .ok (.aload_n 0, 1) := by decide +kernel
theorem dX11_tables_1 : decode cX11_tables 1 = .ok (.iload_n 1, 1) := by decide +kernel
theorem dX11_tables_2 : decode cX11_tables 2 = .ok (.invokevirtual 153, 3) := by decide +kernel
theorem dX11_tables_5 : decode cX11_tables 5 = .ok (.ifCond .eq 16, 3) := by decide +kernel
theorem dX11_tables_8 : decode cX11_tables 8 = .ok (.iload_n 2, 1) := by decide +kernel
theorem dX11_tables_9 : decode cX11_tables 9 = .ok (.iconst (-1), 1) := by decide +kernel
theorem dX11_tables_10 : decode cX11_tables 10 = .ok (.if_icmp .eq 14, 3) := by decide +kernel
theorem dX11_tables_13 : decode cX11_tables 13 = .ok (.aload_n 0, 1) := by decide +kernel
theorem dX11_tables_14 : decode cX11_tables 14 = .ok (.iload_n 2, 1) := by decide +kernel
theorem dX11_tables_15 : decode cX11_tables 15 = .ok (.invokevirtual 124, 3) := by decide +kernel
theorem dX11_tables_18 : decode cX11_tables 18 = .ok (.ifCond .ne 6, 3) := by decide +kernel
theorem dX11_tables_21 : decode cX11_tables 21 = .ok (.bipush (-2), 2) := by decide +kernel
theorem dX11_tables_23 : decode cX11_tables 23 = .ok (.ireturn, 1) := by decide +kernel
theorem dX11_tables_24 : decode cX11_tables 24 = .ok (.aload_n 0, 1) := by decide +kernel
theorem dX11_tables_25 : decode cX11_tables 25 = .ok (.getfield 87, 3) := by decide +kernel
theorem dX11_tables_28 : decode cX11_tables 28 = .ok (.aload_n 0, 1) := by decide +kernel
theorem dX11_tables_29 : decode cX11_tables 29 = .ok (.getfield 26, 3) := by decide +kernel
theorem dX11_tables_32 : decode cX11_tables 32 = .ok (.aload_n 0, 1) := by decide +kernel
theorem dX11_tables_33 : decode cX11_tables 33 = .ok (.getfield 46, 3) := by decide +kernel
theorem dX11_tables_36 : decode cX11_tables 36 = .ok (.aload_n 0, 1) := by decide +kernel
theorem dX11_tables_37 : decode cX11_tables 37 = .ok (.getfield 26, 3) := by decide +kernel
theorem dX11_tables_40 : decode cX11_tables 40 = .ok (.invokevirtual 217, 3) := by decide +kernel
theorem dX11_tables_43 : decode cX11_tables 43 = .ok (.iload_n 1, 1) := by decide +kernel
theorem dX11_tables_44 : decode cX11_tables 44 = .ok (.invokevirtual 220, 3) := by decide +kernel
theorem dX11_tables_47 : decode cX11_tables 47 = .ok (.iload_n 2, 1) := by decide +kernel
theorem dX11_tables_48 : decode cX11_tables 48 = .ok (.iconst (-1), 1) := by decide +kernel
theorem dX11_tables_49 : decode cX11_tables 49 = .ok (.if_icmp .ne 13, 3) := by decide +kernel
theorem dX11_tables_52 : decode cX11_tables 52 = .ok (.aload_n 0, 1) := by decide +kernel
theorem dX11_tables_53 : decode cX11_tables 53 = .ok (.getfield 87, 3) := by decide +kernel
theorem dX11_tables_56 : decode cX11_tables 56 = .ok (.getfield 223, 3) := by decide +kernel
theorem dX11_tables_59 : decode cX11_tables 59 = .ok (.goto 12, 3) := by decide +kernel
theorem dX11_tables_62 : decode cX11_tables 62 = .ok (.aload_n 0, 1) := by decide +kernel
theorem dX11_tables_63 : decode cX11_tables 63 = .ok (.getfield 87, 3) := by decide +kernel
theorem dX11_tables_66 : decode cX11_tables 66 = .ok (.getfield 226, 3) := by decide +kernel
theorem dX11_tables_69 : decode cX11_tables 69 = .ok (.iload_n 2, 1) := by decide +kernel
theorem dX11_tables_70 : decode cX11_tables 70 = .ok (.iaload, 1) := by decide +kernel
theorem dX11_tables_71 : decode cX11_tables 71 = .ok (.ireturn, 1) := by decide +kernel
theorem dX11_last_0 : decode cX11_last 0 = .ok (.aload_n 0, 1) := by decide +kernel
theorem dX11_last_1 : decode cX11_last 1 = .ok (.iload_n 1, 1) := by decide +kernel
theorem dX11_last_2 : decode cX11_last 2 = .ok (.invokevirtual 153, 3) := by decide +kernel
theorem dX11_last_5 : decode cX11_last 5 = .ok (.ifCond .ne 5, 3) := by decide +kernel
theorem dX11_last_8 : decode cX11_last 8 = .ok (.iconst (-1), 1) := by decide +kernel
theorem dX11_last_9 : decode cX11_last 9 = .ok (.ireturn, 1) := by decide +kernel
theorem dX11_last_10 : decode cX11_last 10 = .ok (.aload_n 0, 1) := by decide +kernel
theorem dX11_last_11 : decode cX11_last 11 = .ok (.getfield 50, 3) := by decide +kernel
theorem dX11_last_14 : decode cX11_last 14 = .ok (.aload_n 0, 1) := by decide +kernel
theorem dX11_last_15 : decode cX11_last 15 = .ok (.getfield 46, 3) := by decide +kernel
theorem dX11_last_18 : decode cX11_last 18 = .ok (.invokevirtual 191, 3) := by decide +kernel
theorem dX11_last_21 : decode cX11_last 21 = .ok (.iconst 0, 1) := by decide +kernel
theorem dX11_last_22 : decode cX11_last 22 = .ok (.istore_n 2, 1) := by decide +kernel
theorem dX11_last_23 : decode cX11_last 23 = .ok (.iconst 0, 1) := by decide +kernel
theorem dX11_last_24 : decode cX11_last 24 = .ok (.istore_n 3, 1) := by decide +kernel
theorem dX11_last_25 : decode cX11_last 25 = .ok (.iload_n 3, 1) := by decide +kernel
theorem dX11_last_26 : decode cX11_last 26 = .ok (.bipush 60, 2) := by decide +kernel
theorem dX11_last_28 : decode cX11_last 28 = .ok (.if_icmp .ge 62, 3) := by decide +kernel
theorem dX11_last_31 : decode cX11_last 31 = .ok (.aload_n 0, 1) := by decide +kernel
theorem dX11_last_32 : decode cX11_last 32 = .ok (.iload_n 2, 1) := by decide +kernel
theorem dX11_last_33 : decode cX11_last 33 = .ok (.iload_n 1, 1) := by decide +kernel
theorem dX11_last_34 : decode cX11_last 34 = .ok (.invokevirtual 229, 3) := by decide +kernel
theorem dX11_last_37 : decode cX11_last 37 = .ok (.istore 4, 2) := by decide +kernel
theorem dX11_last_39 : decode cX11_last 39 = .ok (.iload 4, 2) := by decide +kernel
theorem dX11_last_41 : decode cX11_last 41 = .ok (.iconst (-1), 1) := by decide +kernel
theorem dX11_last_42 : decode cX11_last 42 = .ok (.if_icmp .ne 5, 3) := by decide +kernel
theorem dX11_last_45 : decode cX11_last 45 = .ok (.iload_n 3, 1) := by decide +kernel
theorem dX11_last_46 : decode cX11_last 46 = .ok (.ireturn, 1) := by decide +kernel
theorem dX11_last_47 : decode cX11_last 47 = .ok (.aload_n 0, 1) := by decide +kernel
theorem dX11_last_48 : decode cX11_last 48 = .ok (.getfield 50, 3) := by decide +kernel
theorem dX11_last_51 : decode cX11_last 51 = .ok (.aload_n 0, 1) := by decide +kernel
theorem dX11_last_52 : decode cX11_last 52 = .ok (.getfield 26, 3) := by decide +kernel
theorem dX11_last_55 : decode cX11_last 55 = .ok (.iload 4, 2) := by decide +kernel
theorem dX11_last_57 : decode cX11_last 57 = .ok (.iload_n 1, 1) := by decide +kernel
theorem dX11_last_58 : decode cX11_last 58 = .ok (.iconst 1, 1) := by decide +kernel
theorem dX11_last_59 : decode cX11_last 59 = .ok (.invokevirtual 176, 3) := by decide +kernel
theorem dX11_last_62 : decode cX11_last 62 = .ok (.pop, 1) := by decide +kernel
theorem dX11_last_63 : decode cX11_last 63 = .ok (.aload_n 0, 1) := by decide +kernel
theorem dX11_last_64 : decode cX11_last 64 = .ok (.getfield 50, 3) := by decide +kernel
theorem dX11_last_67 : decode cX11_last 67 = .ok (.aload_n 0, 1) := by decide +kernel
theorem dX11_last_68 : decode cX11_last 68 = .ok (.getfield 26, 3) := by decide +kernel
theorem dX11_last_71 : decode cX11_last 71 = .ok (.invokevirtual 180, 3) := by decide +kernel
theorem dX11_last_74 : decode cX11_last 74 = .ok (.ifCond .le 5, 3) := by decide +kernel
theorem dX11_last_77 : decode cX11_last 77 = .ok (.iload_n 3, 1) := by decide +kernel
theorem dX11_last_78 : decode cX11_last 78 = .ok (.ireturn, 1) := by decide +kernel
theorem dX11_last_79 : decode cX11_last 79 = .ok (.iload 4, 2) := by decide +kernel
theorem dX11_last_81 : decode cX11_last 81 = .ok (.iconst 1, 1) := by decide +kernel
theorem dX11_last_82 : decode cX11_last 82 = .ok (.iadd, 1) := by decide +kernel
theorem dX11_last_83 : decode cX11_last 83 = .ok (.istore_n 2, 1) := by decide +kernel
theorem dX11_last_84 : decode cX11_last 84 = .ok (.iinc 3 1, 3) := by decide +kernel
theorem dX11_last_87 : decode cX11_last 87 = .ok (.goto (-62), 3) := by decide +kernel
theorem dX11_last_90 : decode cX11_last 90 = .ok (.bipush 60, 2) := by decide +kernel
theorem dX11_last_92 : decode cX11_last 92 = .ok (.ireturn, 1) := by decide +kernel
theorem dX11_tell_0 : decode cX11_tell 0 = .ok (.aload_n 0, 1) := by decide +kernel
theorem dX11_tell_1 : decode cX11_tell 1 = .ok (.iload_n 1, 1) := by decide +kernel
theorem dX11_tell_2 : decode cX11_tell 2 = .ok (.invokevirtual 124, 3) := by decide +kernel
theorem dX11_tell_5 : decode cX11_tell 5 = .ok (.ifCond .eq 13, 3) := by decide +kernel
theorem dX11_tell_8 : decode cX11_tell 8 = .ok (.iload_n 2, 1) := by decide +kernel
theorem dX11_tell_9 : decode cX11_tell 9 = .ok (.ifCond .lt 9, 3) := by decide +kernel
theorem dX11_tell_12 : decode cX11_tell 12 = .ok (.iload_n 2, 1) := by decide +kernel
theorem dX11_tell_13 : decode cX11_tell 13 = .ok (.bipush 99, 2) := by decide +kernel
theorem dX11_tell_15 : decode cX11_tell 15 = .ok (.if_icmp .le 5, 3) := by decide +kernel
theorem dX11_tell_18 : decode cX11_tell 18 = .ok (.iconst 0, 1) := by decide +kernel
theorem dX11_tell_19 : decode cX11_tell 19 = .ok (.ireturn, 1) := by decide +kernel
theorem dX11_tell_20 : decode cX11_tell 20 = .ok (.aload_n 0, 1) := by decide +kernel
theorem dX11_tell_21 : decode cX11_tell 21 = .ok (.getfield 73, 3) := by decide +kernel
theorem dX11_tell_24 : decode cX11_tell 24 = .ok (.getfield 233, 3) := by decide +kernel
theorem dX11_tell_27 : decode cX11_tell 27 = .ok (.iload_n 1, 1) := by decide +kernel
theorem dX11_tell_28 : decode cX11_tell 28 = .ok (.iload_n 2, 1) := by decide +kernel
theorem dX11_tell_29 : decode cX11_tell 29 = .ok (.iastore, 1) := by decide +kernel
theorem dX11_tell_30 : decode cX11_tell 30 = .ok (.iconst 1, 1) := by decide +kernel
theorem dX11_tell_31 : decode cX11_tell 31 = .ok (.ireturn, 1) := by decide +kernel
theorem dX11_sets_0 : decode cX11_sets 0 = .ok (.aload_n 0, 1) := by decide +kernel
theorem dX11_sets_1 : decode cX11_sets 1 = .ok (.iload_n 1, 1) := by decide +kernel
theorem dX11_sets_2 : decode cX11_sets 2 = .ok (.invokevirtual 153, 3) := by decide +kernel
theorem dX11_sets_5 : decode cX11_sets 5 = .ok (.ifCond .eq 12, 3) := by decide +kernel
theorem dX11_sets_8 : decode cX11_sets 8 = .ok (.iload_n 2, 1) := by decide +kernel
theorem dX11_sets_9 : decode cX11_sets 9 = .ok (.ifCond .lt 8, 3) := by decide +kernel
theorem dX11_sets_12 : decode cX11_sets 12 = .ok (.iload_n 2, 1) := by decide +kernel
theorem dX11_sets_13 : decode cX11_sets 13 = .ok (.iconst 3, 1) := by decide +kernel
theorem dX11_sets_14 : decode cX11_sets 14 = .ok (.if_icmp .le 5, 3) := by decide +kernel
theorem dX11_sets_17 : decode cX11_sets 17 = .ok (.iconst (-1), 1) := by decide +kernel
theorem dX11_sets_18 : decode cX11_sets 18 = .ok (.ireturn, 1) := by decide +kernel
theorem dX11_sets_19 : decode cX11_sets 19 = .ok (.aload_n 0, 1) := by decide +kernel
theorem dX11_sets_20 : decode cX11_sets 20 = .ok (.getfield 73, 3) := by decide +kernel
theorem dX11_sets_23 : decode cX11_sets 23 = .ok (.aload_n 0, 1) := by decide +kernel
theorem dX11_sets_24 : decode cX11_sets 24 = .ok (.getfield 26, 3) := by decide +kernel
theorem dX11_sets_27 : decode cX11_sets 27 = .ok (.aload_n 0, 1) := by decide +kernel
theorem dX11_sets_28 : decode cX11_sets 28 = .ok (.getfield 46, 3) := by decide +kernel
theorem dX11_sets_31 : decode cX11_sets 31 = .ok (.iload_n 1, 1) := by decide +kernel
theorem dX11_sets_32 : decode cX11_sets 32 = .ok (.invokevirtual 236, 3) := by decide +kernel
theorem dX11_sets_35 : decode cX11_sets 35 = .ok (.iload_n 2, 1) := by decide +kernel
theorem dX11_sets_36 : decode cX11_sets 36 = .ok (.ifCond .ne 11, 3) := by decide +kernel
theorem dX11_sets_39 : decode cX11_sets 39 = .ok (.aload_n 0, 1) := by decide +kernel
theorem dX11_sets_40 : decode cX11_sets 40 = .ok (.getfield 73, 3) := by decide +kernel
theorem dX11_sets_43 : decode cX11_sets 43 = .ok (.getfield 240, 3) := by decide +kernel
theorem dX11_sets_46 : decode cX11_sets 46 = .ok (.ireturn, 1) := by decide +kernel
theorem dX11_sets_47 : decode cX11_sets 47 = .ok (.aload_n 0, 1) := by decide +kernel
theorem dX11_sets_48 : decode cX11_sets 48 = .ok (.getfield 73, 3) := by decide +kernel
theorem dX11_sets_51 : decode cX11_sets 51 = .ok (.getfield 240, 3) := by decide +kernel
theorem dX11_sets_54 : decode cX11_sets 54 = .ok (.ifCond .ne 5, 3) := by decide +kernel
theorem dX11_sets_57 : decode cX11_sets 57 = .ok (.iconst (-1), 1) := by decide +kernel
theorem dX11_sets_58 : decode cX11_sets 58 = .ok (.ireturn, 1) := by decide +kernel
theorem dX11_sets_59 : decode cX11_sets 59 = .ok (.iload_n 2, 1) := by decide +kernel
theorem dX11_sets_60 : decode cX11_sets 60 = .ok (.iconst 3, 1) := by decide +kernel
theorem dX11_sets_61 : decode cX11_sets 61 = .ok (.if_icmp .ne 20, 3) := by decide +kernel
theorem dX11_sets_64 : decode cX11_sets 64 = .ok (.aload_n 0, 1) := by decide +kernel
theorem dX11_sets_65 : decode cX11_sets 65 = .ok (.getfield 73, 3) := by decide +kernel
theorem dX11_sets_68 : decode cX11_sets 68 = .ok (.aload_n 0, 1) := by decide +kernel
theorem dX11_sets_69 : decode cX11_sets 69 = .ok (.getfield 26, 3) := by decide +kernel
theorem dX11_sets_72 : decode cX11_sets 72 = .ok (.aload_n 0, 1) := by decide +kernel
theorem dX11_sets_73 : decode cX11_sets 73 = .ok (.getfield 46, 3) := by decide +kernel
theorem dX11_sets_76 : decode cX11_sets 76 = .ok (.iload_n 1, 1) := by decide +kernel
theorem dX11_sets_77 : decode cX11_sets 77 = .ok (.invokevirtual 243, 3) := by decide +kernel
theorem dX11_sets_80 : decode cX11_sets 80 = .ok (.ireturn, 1) := by decide +kernel
theorem dX11_sets_81 : decode cX11_sets 81 = .ok (.iload_n 2, 1) := by decide +kernel
theorem dX11_sets_82 : decode cX11_sets 82 = .ok (.iconst 1, 1) := by decide +kernel
theorem dX11_sets_83 : decode cX11_sets 83 = .ok (.if_icmp .ne 13, 3) := by decide +kernel
theorem dX11_sets_86 : decode cX11_sets 86 = .ok (.aload_n 0, 1) := by decide +kernel
theorem dX11_sets_87 : decode cX11_sets 87 = .ok (.getfield 73, 3) := by decide +kernel
theorem dX11_sets_90 : decode cX11_sets 90 = .ok (.getfield 247, 3) := by decide +kernel
theorem dX11_sets_93 : decode cX11_sets 93 = .ok (.goto 10, 3) := by decide +kernel
theorem dX11_sets_96 : decode cX11_sets 96 = .ok (.aload_n 0, 1) := by decide +kernel
theorem dX11_sets_97 : decode cX11_sets 97 = .ok (.getfield 73, 3) := by decide +kernel
theorem dX11_sets_100 : decode cX11_sets 100 = .ok (.getfield 250, 3) := by decide +kernel
theorem dX11_sets_103 : decode cX11_sets 103 = .ok (.ireturn, 1) := by decide +kernel
theorem dX11_stop_0 : decode cX11_stop 0 = .ok (.aload_n 0, 1) := by decide +kernel
theorem dX11_stop_1 : decode cX11_stop 1 = .ok (.iload_n 1, 1) := by decide +kernel
theorem dX11_stop_2 : decode cX11_stop 2 = .ok (.invokevirtual 124, 3) := by decide +kernel
theorem dX11_stop_5 : decode cX11_stop 5 = .ok (.ifCond .eq 18, 3) := by decide +kernel
theorem dX11_stop_8 : decode cX11_stop 8 = .ok (.aload_n 0, 1) := by decide +kernel
theorem dX11_stop_9 : decode cX11_stop 9 = .ok (.getfield 46, 3) := by decide +kernel
theorem dX11_stop_12 : decode cX11_stop 12 = .ok (.aload_n 0, 1) := by decide +kernel
theorem dX11_stop_13 : decode cX11_stop 13 = .ok (.getfield 26, 3) := by decide +kernel
theorem dX11_stop_16 : decode cX11_stop 16 = .ok (.iload_n 1, 1) := by decide +kernel
theorem dX11_stop_17 : decode cX11_stop 17 = .ok (.invokevirtual 143, 3) := by decide +kernel
theorem dX11_stop_20 : decode cX11_stop 20 = .ok (.ifCond .ne 5, 3) := by decide +kernel
theorem dX11_stop_23 : decode cX11_stop 23 = .ok (.iconst (-1), 1) := by decide +kernel
theorem dX11_stop_24 : decode cX11_stop 24 = .ok (.ireturn, 1) := by decide +kernel
theorem dX11_stop_25 : decode cX11_stop 25 = .ok (.aload_n 0, 1) := by decide +kernel
theorem dX11_stop_26 : decode cX11_stop 26 = .ok (.getfield 46, 3) := by decide +kernel
theorem dX11_stop_29 : decode cX11_stop 29 = .ok (.aload_n 0, 1) := by decide +kernel
theorem dX11_stop_30 : decode cX11_stop 30 = .ok (.getfield 26, 3) := by decide +kernel
theorem dX11_stop_33 : decode cX11_stop 33 = .ok (.invokevirtual 217, 3) := by decide +kernel
theorem dX11_stop_36 : decode cX11_stop 36 = .ok (.istore_n 2, 1) := by decide +kernel
theorem dX11_stop_37 : decode cX11_stop 37 = .ok (.aload_n 0, 1) := by decide +kernel
theorem dX11_stop_38 : decode cX11_stop 38 = .ok (.getfield 26, 3) := by decide +kernel
theorem dX11_stop_41 : decode cX11_stop 41 = .ok (.invokevirtual 253, 3) := by decide +kernel
theorem dX11_stop_44 : decode cX11_stop 44 = .ok (.iload_n 2, 1) := by decide +kernel
theorem dX11_stop_45 : decode cX11_stop 45 = .ok (.iconst (-1), 1) := by decide +kernel
theorem dX11_stop_46 : decode cX11_stop 46 = .ok (.ixor, 1) := by decide +kernel
theorem dX11_stop_47 : decode cX11_stop 47 = .ok (.iand, 1) := by decide +kernel
theorem dX11_stop_48 : decode cX11_stop 48 = .ok (.istore_n 3, 1) := by decide +kernel
theorem dX11_stop_49 : decode cX11_stop 49 = .ok (.iload_n 2, 1) := by decide +kernel
theorem dX11_stop_50 : decode cX11_stop 50 = .ok (.iconst 1, 1) := by decide +kernel
theorem dX11_stop_51 : decode cX11_stop 51 = .ok (.iload_n 1, 1) := by decide +kernel
theorem dX11_stop_52 : decode cX11_stop 52 = .ok (.ishl, 1) := by decide +kernel
theorem dX11_stop_53 : decode cX11_stop 53 = .ok (.iconst (-1), 1) := by decide +kernel
theorem dX11_stop_54 : decode cX11_stop 54 = .ok (.ixor, 1) := by decide +kernel
theorem dX11_stop_55 : decode cX11_stop 55 = .ok (.iand, 1) := by decide +kernel
theorem dX11_stop_56 : decode cX11_stop 56 = .ok (.istore 4, 2) := by decide +kernel
theorem dX11_stop_58 : decode cX11_stop 58 = .ok (.iconst (-1), 1) := by decide +kernel
theorem dX11_stop_59 : decode cX11_stop 59 = .ok (.istore 5, 2) := by decide +kernel
theorem dX11_stop_61 : decode cX11_stop 61 = .ok (.iconst 0, 1) := by decide +kernel
theorem dX11_stop_62 : decode cX11_stop 62 = .ok (.istore 6, 2) := by decide +kernel
theorem dX11_stop_64 : decode cX11_stop 64 = .ok (.iload 6, 2) := by decide +kernel
theorem dX11_stop_66 : decode cX11_stop 66 = .ok (.iload 4, 2) := by decide +kernel
theorem dX11_stop_68 : decode cX11_stop 68 = .ok (.if_icmp .gt 71, 3) := by decide +kernel
theorem dX11_stop_71 : decode cX11_stop 71 = .ok (.iload 5, 2) := by decide +kernel
theorem dX11_stop_73 : decode cX11_stop 73 = .ok (.iconst (-1), 1) := by decide +kernel
theorem dX11_stop_74 : decode cX11_stop 74 = .ok (.if_icmp .eq 16, 3) := by decide +kernel
theorem dX11_stop_77 : decode cX11_stop 77 = .ok (.iload 6, 2) := by decide +kernel
theorem dX11_stop_79 : decode cX11_stop 79 = .ok (.invokestatic 257, 3) := by decide +kernel
theorem dX11_stop_82 : decode cX11_stop 82 = .ok (.iload 5, 2) := by decide +kernel
theorem dX11_stop_84 : decode cX11_stop 84 = .ok (.invokestatic 257, 3) := by decide +kernel
theorem dX11_stop_87 : decode cX11_stop 87 = .ok (.if_icmp .ge 7, 3) := by decide +kernel
theorem dX11_stop_90 : decode cX11_stop 90 = .ok (.iconst 1, 1) := by decide +kernel
theorem dX11_stop_91 : decode cX11_stop 91 = .ok (.goto 4, 3) := by decide +kernel
theorem dX11_stop_94 : decode cX11_stop 94 = .ok (.iconst 0, 1) := by decide +kernel
theorem dX11_stop_95 : decode cX11_stop 95 = .ok (.istore 7, 2) := by decide +kernel
theorem dX11_stop_97 : decode cX11_stop 97 = .ok (.iload 6, 2) := by decide +kernel
theorem dX11_stop_99 : decode cX11_stop 99 = .ok (.iload 4, 2) := by decide +kernel
theorem dX11_stop_101 : decode cX11_stop 101 = .ok (.iconst (-1), 1) := by decide +kernel
theorem dX11_stop_102 : decode cX11_stop 102 = .ok (.ixor, 1) := by decide +kernel
theorem dX11_stop_103 : decode cX11_stop 103 = .ok (.iand, 1) := by decide +kernel
theorem dX11_stop_104 : decode cX11_stop 104 = .ok (.ifCond .ne 29, 3) := by decide +kernel
theorem dX11_stop_107 : decode cX11_stop 107 = .ok (.iload 7, 2) := by decide +kernel
theorem dX11_stop_109 : decode cX11_stop 109 = .ok (.ifCond .eq 24, 3) := by decide +kernel
theorem dX11_stop_112 : decode cX11_stop 112 = .ok (.aload_n 0, 1) := by decide +kernel
theorem dX11_stop_113 : decode cX11_stop 113 = .ok (.getfield 26, 3) := by decide +kernel
theorem dX11_stop_116 : decode cX11_stop 116 = .ok (.iload_n 3, 1) := by decide +kernel
theorem dX11_stop_117 : decode cX11_stop 117 = .ok (.iload 6, 2) := by decide +kernel
theorem dX11_stop_119 : decode cX11_stop 119 = .ok (.invokevirtual 263, 3) := by decide +kernel
theorem dX11_stop_122 : decode cX11_stop 122 = .ok (.iload_n 1, 1) := by decide +kernel
theorem dX11_stop_123 : decode cX11_stop 123 = .ok (.ishr, 1) := by decide +kernel
theorem dX11_stop_124 : decode cX11_stop 124 = .ok (.iconst 1, 1) := by decide +kernel
theorem dX11_stop_125 : decode cX11_stop 125 = .ok (.iand, 1) := by decide +kernel
theorem dX11_stop_126 : decode cX11_stop 126 = .ok (.ifCond .ne 7, 3) := by decide +kernel
theorem dX11_stop_129 : decode cX11_stop 129 = .ok (.iload 6, 2) := by decide +kernel
theorem dX11_stop_131 : decode cX11_stop 131 = .ok (.istore 5, 2) := by decide +kernel
theorem dX11_stop_133 : decode cX11_stop 133 = .ok (.iinc 6 1, 3) := by decide +kernel
theorem dX11_stop_136 : decode cX11_stop 136 = .ok (.goto (-72), 3) := by decide +kernel
theorem dX11_stop_139 : decode cX11_stop 139 = .ok (.iload 5, 2) := by decide +kernel
theorem dX11_stop_141 : decode cX11_stop 141 = .ok (.ireturn, 1) := by decide +kernel
theorem dX11_power_0 : decode cX11_power 0 = .ok (.aload_n 0, 1) := by decide +kernel
theorem dX11_power_1 : decode cX11_power 1 = .ok (.iload_n 1, 1) := by decide +kernel
theorem dX11_power_2 : decode cX11_power 2 = .ok (.invokevirtual 124, 3) := by decide +kernel
theorem dX11_power_5 : decode cX11_power 5 = .ok (.ifCond .eq 14, 3) := by decide +kernel
theorem dX11_power_8 : decode cX11_power 8 = .ok (.iload_n 2, 1) := by decide +kernel
theorem dX11_power_9 : decode cX11_power 9 = .ok (.ifCond .lt 10, 3) := by decide +kernel
theorem dX11_power_12 : decode cX11_power 12 = .ok (.iload_n 2, 1) := by decide +kernel
theorem dX11_power_13 : decode cX11_power 13 = .ok (.sipush 999, 3) := by decide +kernel
theorem dX11_power_16 : decode cX11_power 16 = .ok (.if_icmp .le 5, 3) := by decide +kernel
theorem dX11_power_19 : decode cX11_power 19 = .ok (.iconst (-1), 1) := by decide +kernel
theorem dX11_power_20 : decode cX11_power 20 = .ok (.ireturn, 1) := by decide +kernel
theorem dX11_power_21 : decode cX11_power 21 = .ok (.iconst 0, 1) := by decide +kernel
theorem dX11_power_22 : decode cX11_power 22 = .ok (.istore_n 3, 1) := by decide +kernel
theorem dX11_power_23 : decode cX11_power 23 = .ok (.iconst 0, 1) := by decide +kernel
theorem dX11_power_24 : decode cX11_power 24 = .ok (.istore 4, 2) := by decide +kernel
theorem dX11_power_26 : decode cX11_power 26 = .ok (.iload 4, 2) := by decide +kernel
theorem dX11_power_28 : decode cX11_power 28 = .ok (.aload_n 0, 1) := by decide +kernel
theorem dX11_power_29 : decode cX11_power 29 = .ok (.getfield 26, 3) := by decide +kernel
theorem dX11_power_32 : decode cX11_power 32 = .ok (.invokevirtual 253, 3) := by decide +kernel
theorem dX11_power_35 : decode cX11_power 35 = .ok (.if_icmp .gt 66, 3) := by decide +kernel
theorem dX11_power_38 : decode cX11_power 38 = .ok (.aload_n 0, 1) := by decide +kernel
theorem dX11_power_39 : decode cX11_power 39 = .ok (.getfield 26, 3) := by decide +kernel
theorem dX11_power_42 : decode cX11_power 42 = .ok (.iload 4, 2) := by decide +kernel
theorem dX11_power_44 : decode cX11_power 44 = .ok (.invokevirtual 266, 3) := by decide +kernel
theorem dX11_power_47 : decode cX11_power 47 = .ok (.istore 5, 2) := by decide +kernel
theorem dX11_power_49 : decode cX11_power 49 = .ok (.iload 4, 2) := by decide +kernel
theorem dX11_power_51 : decode cX11_power 51 = .ok (.iload_n 1, 1) := by decide +kernel
theorem dX11_power_52 : decode cX11_power 52 = .ok (.ishr, 1) := by decide +kernel
theorem dX11_power_53 : decode cX11_power 53 = .ok (.iconst 1, 1) := by decide +kernel
theorem dX11_power_54 : decode cX11_power 54 = .ok (.iand, 1) := by decide +kernel
theorem dX11_power_55 : decode cX11_power 55 = .ok (.ifCond .ne 7, 3) := by decide +kernel
theorem dX11_power_58 : decode cX11_power 58 = .ok (.iconst 1, 1) := by decide +kernel
theorem dX11_power_59 : decode cX11_power 59 = .ok (.goto 4, 3) := by decide +kernel
theorem dX11_power_62 : decode cX11_power 62 = .ok (.iconst 0, 1) := by decide +kernel
theorem dX11_power_63 : decode cX11_power 63 = .ok (.istore 6, 2) := by decide +kernel
theorem dX11_power_65 : decode cX11_power 65 = .ok (.iload 6, 2) := by decide +kernel
theorem dX11_power_67 : decode cX11_power 67 = .ok (.ifCond .eq 28, 3) := by decide +kernel
theorem dX11_power_70 : decode cX11_power 70 = .ok (.iload 5, 2) := by decide +kernel
theorem dX11_power_72 : decode cX11_power 72 = .ok (.iload_n 2, 1) := by decide +kernel
theorem dX11_power_73 : decode cX11_power 73 = .ok (.if_icmp .ge 22, 3) := by decide +kernel
theorem dX11_power_76 : decode cX11_power 76 = .ok (.iload 5, 2) := by decide +kernel
theorem dX11_power_78 : decode cX11_power 78 = .ok (.aload_n 0, 1) := by decide +kernel
theorem dX11_power_79 : decode cX11_power 79 = .ok (.getfield 26, 3) := by decide +kernel
theorem dX11_power_82 : decode cX11_power 82 = .ok (.getfield 137, 3) := by decide +kernel
theorem dX11_power_85 : decode cX11_power 85 = .ok (.iload_n 1, 1) := by decide +kernel
theorem dX11_power_86 : decode cX11_power 86 = .ok (.iaload, 1) := by decide +kernel
theorem dX11_power_87 : decode cX11_power 87 = .ok (.iadd, 1) := by decide +kernel
theorem dX11_power_88 : decode cX11_power 88 = .ok (.iload_n 2, 1) := by decide +kernel
theorem dX11_power_89 : decode cX11_power 89 = .ok (.if_icmp .lt 6, 3) := by decide +kernel
theorem dX11_power_92 : decode cX11_power 92 = .ok (.iinc 3 1, 3) := by decide +kernel
theorem dX11_power_95 : decode cX11_power 95 = .ok (.iinc 4 1, 3) := by decide +kernel
theorem dX11_power_98 : decode cX11_power 98 = .ok (.goto (-72), 3) := by decide +kernel
theorem dX11_power_101 : decode cX11_power 101 = .ok (.iload_n 3, 1) := by decide +kernel
theorem dX11_power_102 : decode cX11_power 102 = .ok (.ireturn, 1) := by decide +kernel
theorem dX11_couples_0 : decode cX11_couples 0 = .ok (.iload_n 1, 1) := by decide +kernel
theorem dX11_couples_1 : decode cX11_couples 1 = .ok (.iconst (-1), 1) := by decide +kernel
theorem dX11_couples_2 : decode cX11_couples 2 = .ok (.if_icmp .eq 14, 3) := by decide +kernel
theorem dX11_couples_5 : decode cX11_couples 5 = .ok (.aload_n 0, 1) := by decide +kernel
theorem dX11_couples_6 : decode cX11_couples 6 = .ok (.iload_n 1, 1) := by decide +kernel
theorem dX11_couples_7 : decode cX11_couples 7 = .ok (.invokevirtual 124, 3) := by decide +kernel
theorem dX11_couples_10 : decode cX11_couples 10 = .ok (.ifCond .ne 6, 3) := by decide +kernel
theorem dX11_couples_13 : decode cX11_couples 13 = .ok (.bipush (-2), 2) := by decide +kernel
theorem dX11_couples_15 : decode cX11_couples 15 = .ok (.ireturn, 1) := by decide +kernel
theorem dX11_couples_16 : decode cX11_couples 16 = .ok (.aload_n 0, 1) := by decide +kernel
theorem dX11_couples_17 : decode cX11_couples 17 = .ok (.getfield 94, 3) := by decide +kernel
theorem dX11_couples_20 : decode cX11_couples 20 = .ok (.aload_n 0, 1) := by decide +kernel
theorem dX11_couples_21 : decode cX11_couples 21 = .ok (.getfield 26, 3) := by decide +kernel
theorem dX11_couples_24 : decode cX11_couples 24 = .ok (.aload_n 0, 1) := by decide +kernel
theorem dX11_couples_25 : decode cX11_couples 25 = .ok (.getfield 46, 3) := by decide +kernel
theorem dX11_couples_28 : decode cX11_couples 28 = .ok (.aload_n 0, 1) := by decide +kernel
theorem dX11_couples_29 : decode cX11_couples 29 = .ok (.getfield 26, 3) := by decide +kernel
theorem dX11_couples_32 : decode cX11_couples 32 = .ok (.invokevirtual 217, 3) := by decide +kernel
theorem dX11_couples_35 : decode cX11_couples 35 = .ok (.invokevirtual 269, 3) := by decide +kernel
theorem dX11_couples_38 : decode cX11_couples 38 = .ok (.iload_n 1, 1) := by decide +kernel
theorem dX11_couples_39 : decode cX11_couples 39 = .ok (.iconst (-1), 1) := by decide +kernel
theorem dX11_couples_40 : decode cX11_couples 40 = .ok (.if_icmp .ne 13, 3) := by decide +kernel
theorem dX11_couples_43 : decode cX11_couples 43 = .ok (.aload_n 0, 1) := by decide +kernel
theorem dX11_couples_44 : decode cX11_couples 44 = .ok (.getfield 94, 3) := by decide +kernel
theorem dX11_couples_47 : decode cX11_couples 47 = .ok (.getfield 273, 3) := by decide +kernel
theorem dX11_couples_50 : decode cX11_couples 50 = .ok (.goto 12, 3) := by decide +kernel
theorem dX11_couples_53 : decode cX11_couples 53 = .ok (.aload_n 0, 1) := by decide +kernel
theorem dX11_couples_54 : decode cX11_couples 54 = .ok (.getfield 94, 3) := by decide +kernel
theorem dX11_couples_57 : decode cX11_couples 57 = .ok (.getfield 274, 3) := by decide +kernel
theorem dX11_couples_60 : decode cX11_couples 60 = .ok (.iload_n 1, 1) := by decide +kernel
theorem dX11_couples_61 : decode cX11_couples 61 = .ok (.iaload, 1) := by decide +kernel
theorem dX11_couples_62 : decode cX11_couples 62 = .ok (.ireturn, 1) := by decide +kernel
theorem dX11_rests_0 : decode cX11_rests 0 = .ok (.iload_n 1, 1) := by decide +kernel
theorem dX11_rests_1 : decode cX11_rests 1 = .ok (.ifCond .lt 19, 3) := by decide +kernel
theorem dX11_rests_4 : decode cX11_rests 4 = .ok (.iload_n 1, 1) := by decide +kernel
theorem dX11_rests_5 : decode cX11_rests 5 = .ok (.bipush 20, 2) := by decide +kernel
theorem dX11_rests_7 : decode cX11_rests 7 = .ok (.if_icmp .gt 13, 3) := by decide +kernel
theorem dX11_rests_10 : decode cX11_rests 10 = .ok (.iload_n 2, 1) := by decide +kernel
theorem dX11_rests_11 : decode cX11_rests 11 = .ok (.ifCond .lt 9, 3) := by decide +kernel
theorem dX11_rests_14 : decode cX11_rests 14 = .ok (.iload_n 2, 1) := by decide +kernel
theorem dX11_rests_15 : decode cX11_rests 15 = .ok (.bipush 9, 2) := by decide +kernel
theorem dX11_rests_17 : decode cX11_rests 17 = .ok (.if_icmp .le 14, 3) := by decide +kernel
theorem dX11_rests_20 : decode cX11_rests 20 = .ok (.new 275, 3) := by decide +kernel
theorem dX11_rests_23 : decode cX11_rests 23 = .ok (.dup, 1) := by decide +kernel
theorem dX11_rests_24 : decode cX11_rests 24 = .ok (.ldc_w 277, 3) := by decide +kernel
theorem dX11_rests_27 : decode cX11_rests 27 = .ok (.invokespecial 279, 3) := by decide +kernel
theorem dX11_rests_30 : decode cX11_rests 30 = .ok (.athrow, 1) := by decide +kernel
theorem dX11_rests_31 : decode cX11_rests 31 = .ok (.aload_n 0, 1) := by decide +kernel
theorem dX11_rests_32 : decode cX11_rests 32 = .ok (.iload_n 1, 1) := by decide +kernel
theorem dX11_rests_33 : decode cX11_rests 33 = .ok (.iload_n 2, 1) := by decide +kernel
theorem dX11_rests_34 : decode cX11_rests 34 = .ok (.invokevirtual 282, 3) := by decide +kernel
theorem dX11_rests_37 : decode cX11_rests 37 = .ok (.istore 4, 2) := by decide +kernel
theorem dX11_rests_39 : decode cX11_rests 39 = .ok (.iload_n 3, 1) := by decide +kernel
theorem dX11_rests_40 : decode cX11_rests 40 = .ok (.iconst (-1), 1) := by decide +kernel
theorem dX11_rests_41 : decode cX11_rests 41 = .ok (.if_icmp .ne 6, 3) := by decide +kernel
theorem dX11_rests_44 : decode cX11_rests 44 = .ok (.iload 4, 2) := by decide +kernel
theorem dX11_rests_46 : decode cX11_rests 46 = .ok (.ireturn, 1) := by decide +kernel
theorem dX11_rests_47 : decode cX11_rests 47 = .ok (.iload_n 3, 1) := by decide +kernel
theorem dX11_rests_48 : decode cX11_rests 48 = .ok (.ifCond .lt 9, 3) := by decide +kernel
theorem dX11_rests_51 : decode cX11_rests 51 = .ok (.iload_n 3, 1) := by decide +kernel
theorem dX11_rests_52 : decode cX11_rests 52 = .ok (.iload 4, 2) := by decide +kernel
theorem dX11_rests_54 : decode cX11_rests 54 = .ok (.if_icmp .lt 14, 3) := by decide +kernel
theorem dX11_rests_57 : decode cX11_rests 57 = .ok (.new 275, 3) := by decide +kernel
theorem dX11_rests_60 : decode cX11_rests 60 = .ok (.dup, 1) := by decide +kernel
theorem dX11_rests_61 : decode cX11_rests 61 = .ok (.ldc_w 285, 3) := by decide +kernel
theorem dX11_rests_64 : decode cX11_rests 64 = .ok (.invokespecial 279, 3) := by decide +kernel
theorem dX11_rests_67 : decode cX11_rests 67 = .ok (.athrow, 1) := by decide +kernel
theorem dX11_rests_68 : decode cX11_rests 68 = .ok (.aload_n 0, 1) := by decide +kernel
theorem dX11_rests_69 : decode cX11_rests 69 = .ok (.getfield 98, 3) := by decide +kernel
theorem dX11_rests_72 : decode cX11_rests 72 = .ok (.iload_n 3, 1) := by decide +kernel
theorem dX11_rests_73 : decode cX11_rests 73 = .ok (.iaload, 1) := by decide +kernel
theorem dX11_rests_74 : decode cX11_rests 74 = .ok (.ireturn, 1) := by decide +kernel
theorem dX11_years_0 : decode cX11_years 0 = .ok (.iload_n 1, 1) := by decide +kernel
theorem dX11_years_1 : decode cX11_years 1 = .ok (.ifCond .lt 30, 3) := by decide +kernel
theorem dX11_years_4 : decode cX11_years 4 = .ok (.iload_n 1, 1) := by decide +kernel
theorem dX11_years_5 : decode cX11_years 5 = .ok (.sipush 9999, 3) := by decide +kernel
theorem dX11_years_8 : decode cX11_years 8 = .ok (.if_icmp .gt 23, 3) := by decide +kernel
theorem dX11_years_11 : decode cX11_years 11 = .ok (.iload_n 2, 1) := by decide +kernel
theorem dX11_years_12 : decode cX11_years 12 = .ok (.iconst 1, 1) := by decide +kernel
theorem dX11_years_13 : decode cX11_years 13 = .ok (.if_icmp .lt 18, 3) := by decide +kernel
theorem dX11_years_16 : decode cX11_years 16 = .ok (.iload_n 2, 1) := by decide +kernel
theorem dX11_years_17 : decode cX11_years 17 = .ok (.bipush 100, 2) := by decide +kernel
theorem dX11_years_19 : decode cX11_years 19 = .ok (.if_icmp .gt 12, 3) := by decide +kernel
theorem dX11_years_22 : decode cX11_years 22 = .ok (.iload_n 3, 1) := by decide +kernel
theorem dX11_years_23 : decode cX11_years 23 = .ok (.ifCond .lt 8, 3) := by decide +kernel
theorem dX11_years_26 : decode cX11_years 26 = .ok (.iload_n 3, 1) := by decide +kernel
theorem dX11_years_27 : decode cX11_years 27 = .ok (.iconst 2, 1) := by decide +kernel
theorem dX11_years_28 : decode cX11_years 28 = .ok (.if_icmp .le 5, 3) := by decide +kernel
theorem dX11_years_31 : decode cX11_years 31 = .ok (.iconst (-1), 1) := by decide +kernel
theorem dX11_years_32 : decode cX11_years 32 = .ok (.ireturn, 1) := by decide +kernel
theorem dX11_years_33 : decode cX11_years 33 = .ok (.aload_n 0, 1) := by decide +kernel
theorem dX11_years_34 : decode cX11_years 34 = .ok (.getfield 50, 3) := by decide +kernel
theorem dX11_years_37 : decode cX11_years 37 = .ok (.aload_n 0, 1) := by decide +kernel
theorem dX11_years_38 : decode cX11_years 38 = .ok (.getfield 46, 3) := by decide +kernel
theorem dX11_years_41 : decode cX11_years 41 = .ok (.invokevirtual 191, 3) := by decide +kernel
theorem dX11_years_44 : decode cX11_years 44 = .ok (.aload_n 0, 1) := by decide +kernel
theorem dX11_years_45 : decode cX11_years 45 = .ok (.getfield 50, 3) := by decide +kernel
theorem dX11_years_48 : decode cX11_years 48 = .ok (.iconst 0, 1) := by decide +kernel
theorem dX11_years_49 : decode cX11_years 49 = .ok (.putfield 287, 3) := by decide +kernel
theorem dX11_years_52 : decode cX11_years 52 = .ok (.iconst 0, 1) := by decide +kernel
theorem dX11_years_53 : decode cX11_years 53 = .ok (.istore 4, 2) := by decide +kernel
theorem dX11_years_55 : decode cX11_years 55 = .ok (.iload_n 1, 1) := by decide +kernel
theorem dX11_years_56 : decode cX11_years 56 = .ok (.i2l, 1) := by decide +kernel
theorem dX11_years_57 : decode cX11_years 57 = .ok (.lstore 5, 2) := by decide +kernel
theorem dX11_years_59 : decode cX11_years 59 = .ok (.iconst 0, 1) := by decide +kernel
theorem dX11_years_60 : decode cX11_years 60 = .ok (.istore 7, 2) := by decide +kernel
theorem dX11_years_62 : decode cX11_years 62 = .ok (.iload 7, 2) := by decide +kernel
theorem dX11_years_64 : decode cX11_years 64 = .ok (.iload_n 2, 1) := by decide +kernel
theorem dX11_years_65 : decode cX11_years 65 = .ok (.if_icmp .ge 91, 3) := by decide +kernel
theorem dX11_years_68 : decode cX11_years 68 = .ok (.lload 5, 2) := by decide +kernel
theorem dX11_years_70 : decode cX11_years 70 = .ok (.invokestatic 290, 3) := by decide +kernel
theorem dX11_years_73 : decode cX11_years 73 = .ok (.lstore 5, 2) := by decide +kernel
theorem dX11_years_75 : decode cX11_years 75 = .ok (.lload 5, 2) := by decide +kernel
theorem dX11_years_77 : decode cX11_years 77 = .ok (.bipush 10, 2) := by decide +kernel
theorem dX11_years_79 : decode cX11_years 79 = .ok (.invokestatic 294, 3) := by decide +kernel
theorem dX11_years_82 : decode cX11_years 82 = .ok (.ifCond .ne 24, 3) := by decide +kernel
theorem dX11_years_85 : decode cX11_years 85 = .ok (.aload_n 0, 1) := by decide +kernel
theorem dX11_years_86 : decode cX11_years 86 = .ok (.getfield 50, 3) := by decide +kernel
theorem dX11_years_89 : decode cX11_years 89 = .ok (.dup, 1) := by decide +kernel
theorem dX11_years_90 : decode cX11_years 90 = .ok (.getfield 204, 3) := by decide +kernel
theorem dX11_years_93 : decode cX11_years 93 = .ok (.aload_n 0, 1) := by decide +kernel
theorem dX11_years_94 : decode cX11_years 94 = .ok (.getfield 50, 3) := by decide +kernel
theorem dX11_years_97 : decode cX11_years 97 = .ok (.getfield 204, 3) := by decide +kernel
theorem dX11_years_100 : decode cX11_years 100 = .ok (.iconst 2, 1) := by decide +kernel
theorem dX11_years_101 : decode cX11_years 101 = .ok (.idiv, 1) := by decide +kernel
theorem dX11_years_102 : decode cX11_years 102 = .ok (.isub, 1) := by decide +kernel
theorem dX11_years_103 : decode cX11_years 103 = .ok (.putfield 204, 3) := by decide +kernel
theorem dX11_years_106 : decode cX11_years 106 = .ok (.aload_n 0, 1) := by decide +kernel
theorem dX11_years_107 : decode cX11_years 107 = .ok (.getfield 26, 3) := by decide +kernel
theorem dX11_years_110 : decode cX11_years 110 = .ok (.getfield 298, 3) := by decide +kernel
theorem dX11_years_113 : decode cX11_years 113 = .ok (.ifCond .le 21, 3) := by decide +kernel
theorem dX11_years_116 : decode cX11_years 116 = .ok (.aload_n 0, 1) := by decide +kernel
theorem dX11_years_117 : decode cX11_years 117 = .ok (.getfield 26, 3) := by decide +kernel
theorem dX11_years_120 : decode cX11_years 120 = .ok (.getfield 301, 3) := by decide +kernel
theorem dX11_years_123 : decode cX11_years 123 = .ok (.ifCond .le 11, 3) := by decide +kernel
theorem dX11_years_126 : decode cX11_years 126 = .ok (.aload_n 0, 1) := by decide +kernel
theorem dX11_years_127 : decode cX11_years 127 = .ok (.lload 5, 2) := by decide +kernel
theorem dX11_years_129 : decode cX11_years 129 = .ok (.invokevirtual 304, 3) := by decide +kernel
theorem dX11_years_132 : decode cX11_years 132 = .ok (.lstore 5, 2) := by decide +kernel
theorem dX11_years_134 : decode cX11_years 134 = .ok (.iload 4, 2) := by decide +kernel
theorem dX11_years_136 : decode cX11_years 136 = .ok (.aload_n 0, 1) := by decide +kernel
theorem dX11_years_137 : decode cX11_years 137 = .ok (.getfield 50, 3) := by decide +kernel
theorem dX11_years_140 : decode cX11_years 140 = .ok (.aload_n 0, 1) := by decide +kernel
theorem dX11_years_141 : decode cX11_years 141 = .ok (.getfield 26, 3) := by decide +kernel
theorem dX11_years_144 : decode cX11_years 144 = .ok (.invokevirtual 180, 3) := by decide +kernel
theorem dX11_years_147 : decode cX11_years 147 = .ok (.iadd, 1) := by decide +kernel
theorem dX11_years_148 : decode cX11_years 148 = .ok (.istore 4, 2) := by decide +kernel
theorem dX11_years_150 : decode cX11_years 150 = .ok (.iinc 7 1, 3) := by decide +kernel
theorem dX11_years_153 : decode cX11_years 153 = .ok (.goto (-91), 3) := by decide +kernel
theorem dX11_years_156 : decode cX11_years 156 = .ok (.iload_n 3, 1) := by decide +kernel
theorem dX11_years_157 : decode cX11_years 157 = .ok (.ifCond .ne 6, 3) := by decide +kernel
theorem dX11_years_160 : decode cX11_years 160 = .ok (.iload 4, 2) := by decide +kernel
theorem dX11_years_162 : decode cX11_years 162 = .ok (.ireturn, 1) := by decide +kernel
theorem dX11_years_163 : decode cX11_years 163 = .ok (.iload_n 3, 1) := by decide +kernel
theorem dX11_years_164 : decode cX11_years 164 = .ok (.iconst 1, 1) := by decide +kernel
theorem dX11_years_165 : decode cX11_years 165 = .ok (.if_icmp .ne 13, 3) := by decide +kernel
theorem dX11_years_168 : decode cX11_years 168 = .ok (.aload_n 0, 1) := by decide +kernel
theorem dX11_years_169 : decode cX11_years 169 = .ok (.getfield 50, 3) := by decide +kernel
theorem dX11_years_172 : decode cX11_years 172 = .ok (.getfield 287, 3) := by decide +kernel
theorem dX11_years_175 : decode cX11_years 175 = .ok (.goto 10, 3) := by decide +kernel
theorem dX11_years_178 : decode cX11_years 178 = .ok (.aload_n 0, 1) := by decide +kernel
theorem dX11_years_179 : decode cX11_years 179 = .ok (.getfield 50, 3) := by decide +kernel
theorem dX11_years_182 : decode cX11_years 182 = .ok (.getfield 204, 3) := by decide +kernel
theorem dX11_years_185 : decode cX11_years 185 = .ok (.ireturn, 1) := by decide +kernel
theorem dX11_mark_0 : decode cX11_mark 0 = .ok (.iload_n 1, 1) := by decide +kernel
theorem dX11_mark_1 : decode cX11_mark 1 = .ok (.ifCond .lt 24, 3) := by decide +kernel
theorem dX11_mark_4 : decode cX11_mark 4 = .ok (.iload_n 1, 1) := by decide +kernel
theorem dX11_mark_5 : decode cX11_mark 5 = .ok (.iconst 4, 1) := by decide +kernel
theorem dX11_mark_6 : decode cX11_mark 6 = .ok (.if_icmp .ge 19, 3) := by decide +kernel
theorem dX11_mark_9 : decode cX11_mark 9 = .ok (.iload_n 2, 1) := by decide +kernel
theorem dX11_mark_10 : decode cX11_mark 10 = .ok (.ifCond .eq 17, 3) := by decide +kernel
theorem dX11_mark_13 : decode cX11_mark 13 = .ok (.aload_n 0, 1) := by decide +kernel
theorem dX11_mark_14 : decode cX11_mark 14 = .ok (.getfield 66, 3) := by decide +kernel
theorem dX11_mark_17 : decode cX11_mark 17 = .ok (.iload_n 1, 1) := by decide +kernel
theorem dX11_mark_18 : decode cX11_mark 18 = .ok (.aaload, 1) := by decide +kernel
theorem dX11_mark_19 : decode cX11_mark 19 = .ok (.getfield 307, 3) := by decide +kernel
theorem dX11_mark_22 : decode cX11_mark 22 = .ok (.ifCond .ne 5, 3) := by decide +kernel
theorem dX11_mark_25 : decode cX11_mark 25 = .ok (.iconst 0, 1) := by decide +kernel
theorem dX11_mark_26 : decode cX11_mark 26 = .ok (.ireturn, 1) := by decide +kernel
theorem dX11_mark_27 : decode cX11_mark 27 = .ok (.iload_n 2, 1) := by decide +kernel
theorem dX11_mark_28 : decode cX11_mark 28 = .ok (.ifCond .eq 32, 3) := by decide +kernel
theorem dX11_mark_31 : decode cX11_mark 31 = .ok (.aload_n 0, 1) := by decide +kernel
theorem dX11_mark_32 : decode cX11_mark 32 = .ok (.getfield 66, 3) := by decide +kernel
theorem dX11_mark_35 : decode cX11_mark 35 = .ok (.iload_n 1, 1) := by decide +kernel
theorem dX11_mark_36 : decode cX11_mark 36 = .ok (.aaload, 1) := by decide +kernel
theorem dX11_mark_37 : decode cX11_mark 37 = .ok (.aload_n 0, 1) := by decide +kernel
theorem dX11_mark_38 : decode cX11_mark 38 = .ok (.getfield 46, 3) := by decide +kernel
theorem dX11_mark_41 : decode cX11_mark 41 = .ok (.aload_n 0, 1) := by decide +kernel
theorem dX11_mark_42 : decode cX11_mark 42 = .ok (.getfield 36, 3) := by decide +kernel
theorem dX11_mark_45 : decode cX11_mark 45 = .ok (.aload_n 0, 1) := by decide +kernel
theorem dX11_mark_46 : decode cX11_mark 46 = .ok (.getfield 73, 3) := by decide +kernel
theorem dX11_mark_49 : decode cX11_mark 49 = .ok (.invokevirtual 311, 3) := by decide +kernel
theorem dX11_mark_52 : decode cX11_mark 52 = .ok (.aload_n 0, 1) := by decide +kernel
theorem dX11_mark_53 : decode cX11_mark 53 = .ok (.iconst 0, 1) := by decide +kernel
theorem dX11_mark_54 : decode cX11_mark 54 = .ok (.putfield 61, 3) := by decide +kernel
theorem dX11_mark_57 : decode cX11_mark 57 = .ok (.goto 24, 3) := by decide +kernel
theorem dX11_mark_60 : decode cX11_mark 60 = .ok (.aload_n 0, 1) := by decide +kernel
theorem dX11_mark_61 : decode cX11_mark 61 = .ok (.getfield 66, 3) := by decide +kernel
theorem dX11_mark_64 : decode cX11_mark 64 = .ok (.iload_n 1, 1) := by decide +kernel
theorem dX11_mark_65 : decode cX11_mark 65 = .ok (.aaload, 1) := by decide +kernel
theorem dX11_mark_66 : decode cX11_mark 66 = .ok (.aload_n 0, 1) := by decide +kernel
theorem dX11_mark_67 : decode cX11_mark 67 = .ok (.getfield 46, 3) := by decide +kernel
theorem dX11_mark_70 : decode cX11_mark 70 = .ok (.aload_n 0, 1) := by decide +kernel
theorem dX11_mark_71 : decode cX11_mark 71 = .ok (.getfield 36, 3) := by decide +kernel
theorem dX11_mark_74 : decode cX11_mark 74 = .ok (.aload_n 0, 1) := by decide +kernel
theorem dX11_mark_75 : decode cX11_mark 75 = .ok (.getfield 73, 3) := by decide +kernel
theorem dX11_mark_78 : decode cX11_mark 78 = .ok (.invokevirtual 315, 3) := by decide +kernel
theorem dX11_mark_81 : decode cX11_mark 81 = .ok (.iconst 1, 1) := by decide +kernel
theorem dX11_mark_82 : decode cX11_mark 82 = .ok (.ireturn, 1) := by decide +kernel
theorem dX11_count_0 : decode cX11_count 0 = .ok (.iload_n 1, 1) := by decide +kernel
theorem dX11_count_1 : decode cX11_count 1 = .ok (.tableswitch 192 0 12 #[67, 75, 83, 91, 99, 107, 119, 137, 145, 153, 161, 166, 174], 67) := by decide +kernel
theorem dX11_count_68 : decode cX11_count 68 = .ok (.aload_n 0, 1) := by decide +kernel
theorem dX11_count_69 : decode cX11_count 69 = .ok (.getfield 26, 3) := by decide +kernel
theorem dX11_count_72 : decode cX11_count 72 = .ok (.getfield 298, 3) := by decide +kernel
theorem dX11_count_75 : decode cX11_count 75 = .ok (.ireturn, 1) := by decide +kernel
theorem dX11_count_76 : decode cX11_count 76 = .ok (.aload_n 0, 1) := by decide +kernel
theorem dX11_count_77 : decode cX11_count 77 = .ok (.getfield 26, 3) := by decide +kernel
theorem dX11_count_80 : decode cX11_count 80 = .ok (.getfield 301, 3) := by decide +kernel
theorem dX11_count_83 : decode cX11_count 83 = .ok (.ireturn, 1) := by decide +kernel
theorem dX11_count_84 : decode cX11_count 84 = .ok (.aload_n 0, 1) := by decide +kernel
theorem dX11_count_85 : decode cX11_count 85 = .ok (.getfield 26, 3) := by decide +kernel
theorem dX11_count_88 : decode cX11_count 88 = .ok (.invokevirtual 318, 3) := by decide +kernel
theorem dX11_count_91 : decode cX11_count 91 = .ok (.ireturn, 1) := by decide +kernel
theorem dX11_count_92 : decode cX11_count 92 = .ok (.aload_n 0, 1) := by decide +kernel
theorem dX11_count_93 : decode cX11_count 93 = .ok (.getfield 46, 3) := by decide +kernel
theorem dX11_count_96 : decode cX11_count 96 = .ok (.getfield 188, 3) := by decide +kernel
theorem dX11_count_99 : decode cX11_count 99 = .ok (.ireturn, 1) := by decide +kernel
theorem dX11_count_100 : decode cX11_count 100 = .ok (.aload_n 0, 1) := by decide +kernel
theorem dX11_count_101 : decode cX11_count 101 = .ok (.getfield 46, 3) := by decide +kernel
theorem dX11_count_104 : decode cX11_count 104 = .ok (.getfield 204, 3) := by decide +kernel
theorem dX11_count_107 : decode cX11_count 107 = .ok (.ireturn, 1) := by decide +kernel
theorem dX11_count_108 : decode cX11_count 108 = .ok (.aload_n 0, 1) := by decide +kernel
theorem dX11_count_109 : decode cX11_count 109 = .ok (.getfield 46, 3) := by decide +kernel
theorem dX11_count_112 : decode cX11_count 112 = .ok (.aload_n 0, 1) := by decide +kernel
theorem dX11_count_113 : decode cX11_count 113 = .ok (.getfield 26, 3) := by decide +kernel
theorem dX11_count_116 : decode cX11_count 116 = .ok (.invokevirtual 217, 3) := by decide +kernel
theorem dX11_count_119 : decode cX11_count 119 = .ok (.ireturn, 1) := by decide +kernel
theorem dX11_count_120 : decode cX11_count 120 = .ok (.aload_n 0, 1) := by decide +kernel
theorem dX11_count_121 : decode cX11_count 121 = .ok (.getfield 46, 3) := by decide +kernel
theorem dX11_count_124 : decode cX11_count 124 = .ok (.getfield 150, 3) := by decide +kernel
theorem dX11_count_127 : decode cX11_count 127 = .ok (.aload_n 0, 1) := by decide +kernel
theorem dX11_count_128 : decode cX11_count 128 = .ok (.getfield 26, 3) := by decide +kernel
theorem dX11_count_131 : decode cX11_count 131 = .ok (.getfield 298, 3) := by decide +kernel
theorem dX11_count_134 : decode cX11_count 134 = .ok (.invokestatic 321, 3) := by decide +kernel
theorem dX11_count_137 : decode cX11_count 137 = .ok (.ireturn, 1) := by decide +kernel
theorem dX11_count_138 : decode cX11_count 138 = .ok (.aload_n 0, 1) := by decide +kernel
theorem dX11_count_139 : decode cX11_count 139 = .ok (.getfield 46, 3) := by decide +kernel
theorem dX11_count_142 : decode cX11_count 142 = .ok (.getfield 287, 3) := by decide +kernel
theorem dX11_count_145 : decode cX11_count 145 = .ok (.ireturn, 1) := by decide +kernel
theorem dX11_count_146 : decode cX11_count 146 = .ok (.aload_n 0, 1) := by decide +kernel
theorem dX11_count_147 : decode cX11_count 147 = .ok (.getfield 36, 3) := by decide +kernel
theorem dX11_count_150 : decode cX11_count 150 = .ok (.getfield 199, 3) := by decide +kernel
theorem dX11_count_153 : decode cX11_count 153 = .ok (.ireturn, 1) := by decide +kernel
theorem dX11_count_154 : decode cX11_count 154 = .ok (.aload_n 0, 1) := by decide +kernel
theorem dX11_count_155 : decode cX11_count 155 = .ok (.getfield 73, 3) := by decide +kernel
theorem dX11_count_158 : decode cX11_count 158 = .ok (.invokevirtual 325, 3) := by decide +kernel
theorem dX11_count_161 : decode cX11_count 161 = .ok (.ireturn, 1) := by decide +kernel
theorem dX11_count_162 : decode cX11_count 162 = .ok (.aload_n 0, 1) := by decide +kernel
theorem dX11_count_163 : decode cX11_count 163 = .ok (.getfield 61, 3) := by decide +kernel
theorem dX11_count_166 : decode cX11_count 166 = .ok (.ireturn, 1) := by decide +kernel
theorem dX11_count_167 : decode cX11_count 167 = .ok (.aload_n 0, 1) := by decide +kernel
theorem dX11_count_168 : decode cX11_count 168 = .ok (.getfield 10, 3) := by decide +kernel
theorem dX11_count_171 : decode cX11_count 171 = .ok (.getfield 107, 3) := by decide +kernel
theorem dX11_count_174 : decode cX11_count 174 = .ok (.ireturn, 1) := by decide +kernel
theorem dX11_count_175 : decode cX11_count 175 = .ok (.aload_n 0, 1) := by decide +kernel
theorem dX11_count_176 : decode cX11_count 176 = .ok (.getfield 46, 3) := by decide +kernel
theorem dX11_count_179 : decode cX11_count 179 = .ok (.getfield 140, 3) := by decide +kernel
theorem dX11_count_182 : decode cX11_count 182 = .ok (.aload_n 0, 1) := by decide +kernel
theorem dX11_count_183 : decode cX11_count 183 = .ok (.getfield 26, 3) := by decide +kernel
theorem dX11_count_186 : decode cX11_count 186 = .ok (.getfield 298, 3) := by decide +kernel
theorem dX11_count_189 : decode cX11_count 189 = .ok (.invokestatic 321, 3) := by decide +kernel
theorem dX11_count_192 : decode cX11_count 192 = .ok (.ireturn, 1) := by decide +kernel
theorem dX11_count_193 : decode cX11_count 193 = .ok (.iconst (-1), 1) := by decide +kernel
theorem dX11_count_194 : decode cX11_count 194 = .ok (.ireturn, 1) := by decide +kernel
theorem dX11_isPerson_0 : decode cX11_isPerson 0 = .ok (.iload_n 1, 1) := by decide +kernel
theorem dX11_isPerson_1 : decode cX11_isPerson 1 = .ok (.ifCond .lt 18, 3) := by decide +kernel
theorem dX11_isPerson_4 : decode cX11_isPerson 4 = .ok (.iload_n 1, 1) := by decide +kernel
theorem dX11_isPerson_5 : decode cX11_isPerson 5 = .ok (.aload_n 0, 1) := by decide +kernel
theorem dX11_isPerson_6 : decode cX11_isPerson 6 = .ok (.getfield 26, 3) := by decide +kernel
theorem dX11_isPerson_9 : decode cX11_isPerson 9 = .ok (.getfield 298, 3) := by decide +kernel
theorem dX11_isPerson_12 : decode cX11_isPerson 12 = .ok (.if_icmp .ge 7, 3) := by decide +kernel
theorem dX11_isPerson_15 : decode cX11_isPerson 15 = .ok (.iconst 1, 1) := by decide +kernel
theorem dX11_isPerson_16 : decode cX11_isPerson 16 = .ok (.goto 4, 3) := by decide +kernel
theorem dX11_isPerson_19 : decode cX11_isPerson 19 = .ok (.iconst 0, 1) := by decide +kernel
theorem dX11_isPerson_20 : decode cX11_isPerson 20 = .ok (.ireturn, 1) := by decide +kernel
theorem dX11_isDish_0 : decode cX11_isDish 0 = .ok (.iload_n 1, 1) := by decide +kernel
theorem dX11_isDish_1 : decode cX11_isDish 1 = .ok (.ifCond .lt 18, 3) := by decide +kernel
theorem dX11_isDish_4 : decode cX11_isDish 4 = .ok (.iload_n 1, 1) := by decide +kernel
theorem dX11_isDish_5 : decode cX11_isDish 5 = .ok (.aload_n 0, 1) := by decide +kernel
theorem dX11_isDish_6 : decode cX11_isDish 6 = .ok (.getfield 26, 3) := by decide +kernel
theorem dX11_isDish_9 : decode cX11_isDish 9 = .ok (.getfield 301, 3) := by decide +kernel
theorem dX11_isDish_12 : decode cX11_isDish 12 = .ok (.if_icmp .ge 7, 3) := by decide +kernel
theorem dX11_isDish_15 : decode cX11_isDish 15 = .ok (.iconst 1, 1) := by decide +kernel
theorem dX11_isDish_16 : decode cX11_isDish 16 = .ok (.goto 4, 3) := by decide +kernel
theorem dX11_isDish_19 : decode cX11_isDish 19 = .ok (.iconst 0, 1) := by decide +kernel
theorem dX11_isDish_20 : decode cX11_isDish 20 = .ok (.ireturn, 1) := by decide +kernel
theorem dX11_canBeMeal_0 : decode cX11_canBeMeal 0 = .ok (.aload_n 0, 1) := by decide +kernel
theorem dX11_canBeMeal_1 : decode cX11_canBeMeal 1 = .ok (.iload_n 1, 1) := by decide +kernel
theorem dX11_canBeMeal_2 : decode cX11_canBeMeal 2 = .ok (.invokevirtual 124, 3) := by decide +kernel
theorem dX11_canBeMeal_5 : decode cX11_canBeMeal 5 = .ok (.ifCond .eq 31, 3) := by decide +kernel
theorem dX11_canBeMeal_8 : decode cX11_canBeMeal 8 = .ok (.aload_n 0, 1) := by decide +kernel
theorem dX11_canBeMeal_9 : decode cX11_canBeMeal 9 = .ok (.iload_n 2, 1) := by decide +kernel
theorem dX11_canBeMeal_10 : decode cX11_canBeMeal 10 = .ok (.invokevirtual 153, 3) := by decide +kernel
theorem dX11_canBeMeal_13 : decode cX11_canBeMeal 13 = .ok (.ifCond .eq 23, 3) := by decide +kernel
theorem dX11_canBeMeal_16 : decode cX11_canBeMeal 16 = .ok (.aload_n 0, 1) := by decide +kernel
theorem dX11_canBeMeal_17 : decode cX11_canBeMeal 17 = .ok (.getfield 46, 3) := by decide +kernel
theorem dX11_canBeMeal_20 : decode cX11_canBeMeal 20 = .ok (.aload_n 0, 1) := by decide +kernel
theorem dX11_canBeMeal_21 : decode cX11_canBeMeal 21 = .ok (.getfield 26, 3) := by decide +kernel
theorem dX11_canBeMeal_24 : decode cX11_canBeMeal 24 = .ok (.iload_n 1, 1) := by decide +kernel
theorem dX11_canBeMeal_25 : decode cX11_canBeMeal 25 = .ok (.iload_n 2, 1) := by decide +kernel
theorem dX11_canBeMeal_26 : decode cX11_canBeMeal 26 = .ok (.invokevirtual 328, 3) := by decide +kernel
theorem dX11_canBeMeal_29 : decode cX11_canBeMeal 29 = .ok (.ifCond .eq 7, 3) := by decide +kernel
theorem dX11_canBeMeal_32 : decode cX11_canBeMeal 32 = .ok (.iconst 1, 1) := by decide +kernel
theorem dX11_canBeMeal_33 : decode cX11_canBeMeal 33 = .ok (.goto 4, 3) := by decide +kernel
theorem dX11_canBeMeal_36 : decode cX11_canBeMeal 36 = .ok (.iconst 0, 1) := by decide +kernel
theorem dX11_canBeMeal_37 : decode cX11_canBeMeal 37 = .ok (.ireturn, 1) := by decide +kernel
theorem dX11_beginAnew_0 : decode cX11_beginAnew 0 = .ok (.aload_n 0, 1) := by decide +kernel
theorem dX11_beginAnew_1 : decode cX11_beginAnew 1 = .ok (.getfield 46, 3) := by decide +kernel
theorem dX11_beginAnew_4 : decode cX11_beginAnew 4 = .ok (.aload_n 0, 1) := by decide +kernel
theorem dX11_beginAnew_5 : decode cX11_beginAnew 5 = .ok (.getfield 26, 3) := by decide +kernel
theorem dX11_beginAnew_8 : decode cX11_beginAnew 8 = .ok (.invokevirtual 195, 3) := by decide +kernel
theorem dX11_beginAnew_11 : decode cX11_beginAnew 11 = .ok (.aload_n 0, 1) := by decide +kernel
theorem dX11_beginAnew_12 : decode cX11_beginAnew 12 = .ok (.getfield 36, 3) := by decide +kernel
theorem dX11_beginAnew_15 : decode cX11_beginAnew 15 = .ok (.iconst 0, 1) := by decide +kernel
theorem dX11_beginAnew_16 : decode cX11_beginAnew 16 = .ok (.putfield 199, 3) := by decide +kernel
theorem dX11_beginAnew_19 : decode cX11_beginAnew 19 = .ok (.aload_n 0, 1) := by decide +kernel
theorem dX11_beginAnew_20 : decode cX11_beginAnew 20 = .ok (.iconst 0, 1) := by decide +kernel
theorem dX11_beginAnew_21 : decode cX11_beginAnew 21 = .ok (.putfield 61, 3) := by decide +kernel
theorem dX11_beginAnew_24 : decode cX11_beginAnew 24 = .ok (.aload_n 0, 1) := by decide +kernel
theorem dX11_beginAnew_25 : decode cX11_beginAnew 25 = .ok (.getfield 73, 3) := by decide +kernel
theorem dX11_beginAnew_28 : decode cX11_beginAnew 28 = .ok (.getfield 233, 3) := by decide +kernel
theorem dX11_beginAnew_31 : decode cX11_beginAnew 31 = .ok (.iconst (-1), 1) := by decide +kernel
theorem dX11_beginAnew_32 : decode cX11_beginAnew 32 = .ok (.invokestatic 332, 3) := by decide +kernel
theorem dX11_beginAnew_35 : decode cX11_beginAnew 35 = .ok (.iconst 0, 1) := by decide +kernel
theorem dX11_beginAnew_36 : decode cX11_beginAnew 36 = .ok (.istore_n 1, 1) := by decide +kernel
theorem dX11_beginAnew_37 : decode cX11_beginAnew 37 = .ok (.iload_n 1, 1) := by decide +kernel
theorem dX11_beginAnew_38 : decode cX11_beginAnew 38 = .ok (.iconst 4, 1) := by decide +kernel
theorem dX11_beginAnew_39 : decode cX11_beginAnew 39 = .ok (.if_icmp .ge 19, 3) := by decide +kernel
theorem dX11_beginAnew_42 : decode cX11_beginAnew 42 = .ok (.aload_n 0, 1) := by decide +kernel
theorem dX11_beginAnew_43 : decode cX11_beginAnew 43 = .ok (.getfield 66, 3) := by decide +kernel
theorem dX11_beginAnew_46 : decode cX11_beginAnew 46 = .ok (.iload_n 1, 1) := by decide +kernel
theorem dX11_beginAnew_47 : decode cX11_beginAnew 47 = .ok (.aaload, 1) := by decide +kernel
theorem dX11_beginAnew_48 : decode cX11_beginAnew 48 = .ok (.iconst 0, 1) := by decide +kernel
theorem dX11_beginAnew_49 : decode cX11_beginAnew 49 = .ok (.putfield 307, 3) := by decide +kernel
theorem dX11_beginAnew_52 : decode cX11_beginAnew 52 = .ok (.iinc 1 1, 3) := by decide +kernel
theorem dX11_beginAnew_55 : decode cX11_beginAnew 55 = .ok (.goto (-18), 3) := by decide +kernel
theorem dX11_beginAnew_58 : decode cX11_beginAnew 58 = .ok (.return_, 1) := by decide +kernel
theorem dX11_remember_0 : decode cX11_remember 0 = .ok (.aload_n 0, 1) := by decide +kernel
theorem dX11_remember_1 : decode cX11_remember 1 = .ok (.getfield 53, 3) := by decide +kernel
theorem dX11_remember_4 : decode cX11_remember 4 = .ok (.aload_n 0, 1) := by decide +kernel
theorem dX11_remember_5 : decode cX11_remember 5 = .ok (.getfield 57, 3) := by decide +kernel
theorem dX11_remember_8 : decode cX11_remember 8 = .ok (.aaload, 1) := by decide +kernel
theorem dX11_remember_9 : decode cX11_remember 9 = .ok (.aload_n 0, 1) := by decide +kernel
theorem dX11_remember_10 : decode cX11_remember 10 = .ok (.getfield 46, 3) := by decide +kernel
theorem dX11_remember_13 : decode cX11_remember 13 = .ok (.invokevirtual 191, 3) := by decide +kernel
theorem dX11_remember_16 : decode cX11_remember 16 = .ok (.aload_n 0, 1) := by decide +kernel
theorem dX11_remember_17 : decode cX11_remember 17 = .ok (.aload_n 0, 1) := by decide +kernel
theorem dX11_remember_18 : decode cX11_remember 18 = .ok (.getfield 57, 3) := by decide +kernel
theorem dX11_remember_21 : decode cX11_remember 21 = .ok (.iconst 1, 1) := by decide +kernel
theorem dX11_remember_22 : decode cX11_remember 22 = .ok (.iadd, 1) := by decide +kernel
theorem dX11_remember_23 : decode cX11_remember 23 = .ok (.bipush 16, 2) := by decide +kernel
theorem dX11_remember_25 : decode cX11_remember 25 = .ok (.irem, 1) := by decide +kernel
theorem dX11_remember_26 : decode cX11_remember 26 = .ok (.putfield 57, 3) := by decide +kernel
theorem dX11_remember_29 : decode cX11_remember 29 = .ok (.aload_n 0, 1) := by decide +kernel
theorem dX11_remember_30 : decode cX11_remember 30 = .ok (.aload_n 0, 1) := by decide +kernel
theorem dX11_remember_31 : decode cX11_remember 31 = .ok (.getfield 61, 3) := by decide +kernel
theorem dX11_remember_34 : decode cX11_remember 34 = .ok (.iconst 1, 1) := by decide +kernel
theorem dX11_remember_35 : decode cX11_remember 35 = .ok (.iadd, 1) := by decide +kernel
theorem dX11_remember_36 : decode cX11_remember 36 = .ok (.bipush 16, 2) := by decide +kernel
theorem dX11_remember_38 : decode cX11_remember 38 = .ok (.invokestatic 338, 3) := by decide +kernel
theorem dX11_remember_41 : decode cX11_remember 41 = .ok (.putfield 61, 3) := by decide +kernel
theorem dX11_remember_44 : decode cX11_remember 44 = .ok (.return_, 1) := by decide +kernel
theorem dX11_nextWell_0 : decode cX11_nextWell 0 = .ok (.iconst 0, 1) := by decide +kernel
theorem dX11_nextWell_1 : decode cX11_nextWell 1 = .ok (.istore_n 3, 1) := by decide +kernel
theorem dX11_nextWell_2 : decode cX11_nextWell 2 = .ok (.iload_n 3, 1) := by decide +kernel
theorem dX11_nextWell_3 : decode cX11_nextWell 3 = .ok (.aload_n 0, 1) := by decide +kernel
theorem dX11_nextWell_4 : decode cX11_nextWell 4 = .ok (.getfield 26, 3) := by decide +kernel
theorem dX11_nextWell_7 : decode cX11_nextWell 7 = .ok (.getfield 298, 3) := by decide +kernel
theorem dX11_nextWell_10 : decode cX11_nextWell 10 = .ok (.if_icmp .ge 58, 3) := by decide +kernel
theorem dX11_nextWell_13 : decode cX11_nextWell 13 = .ok (.iload_n 1, 1) := by decide +kernel
theorem dX11_nextWell_14 : decode cX11_nextWell 14 = .ok (.iload_n 3, 1) := by decide +kernel
theorem dX11_nextWell_15 : decode cX11_nextWell 15 = .ok (.iadd, 1) := by decide +kernel
theorem dX11_nextWell_16 : decode cX11_nextWell 16 = .ok (.aload_n 0, 1) := by decide +kernel
theorem dX11_nextWell_17 : decode cX11_nextWell 17 = .ok (.getfield 26, 3) := by decide +kernel
theorem dX11_nextWell_20 : decode cX11_nextWell 20 = .ok (.getfield 298, 3) := by decide +kernel
theorem dX11_nextWell_23 : decode cX11_nextWell 23 = .ok (.irem, 1) := by decide +kernel
theorem dX11_nextWell_24 : decode cX11_nextWell 24 = .ok (.istore 4, 2) := by decide +kernel
theorem dX11_nextWell_26 : decode cX11_nextWell 26 = .ok (.aload_n 0, 1) := by decide +kernel
theorem dX11_nextWell_27 : decode cX11_nextWell 27 = .ok (.getfield 50, 3) := by decide +kernel
theorem dX11_nextWell_30 : decode cX11_nextWell 30 = .ok (.aload_n 0, 1) := by decide +kernel
theorem dX11_nextWell_31 : decode cX11_nextWell 31 = .ok (.getfield 26, 3) := by decide +kernel
theorem dX11_nextWell_34 : decode cX11_nextWell 34 = .ok (.iload 4, 2) := by decide +kernel
theorem dX11_nextWell_36 : decode cX11_nextWell 36 = .ok (.iload_n 2, 1) := by decide +kernel
theorem dX11_nextWell_37 : decode cX11_nextWell 37 = .ok (.invokevirtual 328, 3) := by decide +kernel
theorem dX11_nextWell_40 : decode cX11_nextWell 40 = .ok (.ifCond .eq 22, 3) := by decide +kernel
theorem dX11_nextWell_43 : decode cX11_nextWell 43 = .ok (.aload_n 0, 1) := by decide +kernel
theorem dX11_nextWell_44 : decode cX11_nextWell 44 = .ok (.getfield 50, 3) := by decide +kernel
theorem dX11_nextWell_47 : decode cX11_nextWell 47 = .ok (.aload_n 0, 1) := by decide +kernel
theorem dX11_nextWell_48 : decode cX11_nextWell 48 = .ok (.getfield 26, 3) := by decide +kernel
theorem dX11_nextWell_51 : decode cX11_nextWell 51 = .ok (.iload 4, 2) := by decide +kernel
theorem dX11_nextWell_53 : decode cX11_nextWell 53 = .ok (.invokevirtual 343, 3) := by decide +kernel
theorem dX11_nextWell_56 : decode cX11_nextWell 56 = .ok (.ifCond .ne 6, 3) := by decide +kernel
theorem dX11_nextWell_59 : decode cX11_nextWell 59 = .ok (.iload 4, 2) := by decide +kernel
theorem dX11_nextWell_61 : decode cX11_nextWell 61 = .ok (.ireturn, 1) := by decide +kernel
theorem dX11_nextWell_62 : decode cX11_nextWell 62 = .ok (.iinc 3 1, 3) := by decide +kernel
theorem dX11_nextWell_65 : decode cX11_nextWell 65 = .ok (.goto (-63), 3) := by decide +kernel
theorem dX11_nextWell_68 : decode cX11_nextWell 68 = .ok (.iconst (-1), 1) := by decide +kernel
theorem dX11_nextWell_69 : decode cX11_nextWell 69 = .ok (.ireturn, 1) := by decide +kernel
theorem dX11_findRests_0 : decode cX11_findRests 0 = .ok (.iconst 0, 1) := by decide +kernel
theorem dX11_findRests_1 : decode cX11_findRests 1 = .ok (.istore_n 3, 1) := by decide +kernel
theorem dX11_findRests_2 : decode cX11_findRests 2 = .ok (.iconst 1, 1) := by decide +kernel
theorem dX11_findRests_3 : decode cX11_findRests 3 = .ok (.istore 4, 2) := by decide +kernel
theorem dX11_findRests_5 : decode cX11_findRests 5 = .ok (.iload 4, 2) := by decide +kernel
theorem dX11_findRests_7 : decode cX11_findRests 7 = .ok (.iconst 5, 1) := by decide +kernel
theorem dX11_findRests_8 : decode cX11_findRests 8 = .ok (.if_icmp .gt 65, 3) := by decide +kernel
theorem dX11_findRests_11 : decode cX11_findRests 11 = .ok (.iconst 1, 1) := by decide +kernel
theorem dX11_findRests_12 : decode cX11_findRests 12 = .ok (.istore 5, 2) := by decide +kernel
theorem dX11_findRests_14 : decode cX11_findRests 14 = .ok (.iload 5, 2) := by decide +kernel
theorem dX11_findRests_16 : decode cX11_findRests 16 = .ok (.iconst 5, 1) := by decide +kernel
theorem dX11_findRests_17 : decode cX11_findRests 17 = .ok (.if_icmp .gt 50, 3) := by decide +kernel
theorem dX11_findRests_20 : decode cX11_findRests 20 = .ok (.iload 4, 2) := by decide +kernel
theorem dX11_findRests_22 : decode cX11_findRests 22 = .ok (.iload 5, 2) := by decide +kernel
theorem dX11_findRests_24 : decode cX11_findRests 24 = .ok (.iload_n 1, 1) := by decide +kernel
theorem dX11_findRests_25 : decode cX11_findRests 25 = .ok (.iload_n 2, 1) := by decide +kernel
theorem dX11_findRests_26 : decode cX11_findRests 26 = .ok (.invokestatic 346, 3) := by decide +kernel
theorem dX11_findRests_29 : decode cX11_findRests 29 = .ok (.ifCond .eq 32, 3) := by decide +kernel
theorem dX11_findRests_32 : decode cX11_findRests 32 = .ok (.iload 5, 2) := by decide +kernel
theorem dX11_findRests_34 : decode cX11_findRests 34 = .ok (.iload 4, 2) := by decide +kernel
theorem dX11_findRests_36 : decode cX11_findRests 36 = .ok (.iload_n 1, 1) := by decide +kernel
theorem dX11_findRests_37 : decode cX11_findRests 37 = .ok (.iload_n 2, 1) := by decide +kernel
theorem dX11_findRests_38 : decode cX11_findRests 38 = .ok (.invokestatic 346, 3) := by decide +kernel
theorem dX11_findRests_41 : decode cX11_findRests 41 = .ok (.ifCond .eq 20, 3) := by decide +kernel
theorem dX11_findRests_44 : decode cX11_findRests 44 = .ok (.aload_n 0, 1) := by decide +kernel
theorem dX11_findRests_45 : decode cX11_findRests 45 = .ok (.getfield 98, 3) := by decide +kernel
theorem dX11_findRests_48 : decode cX11_findRests 48 = .ok (.iload_n 3, 1) := by decide +kernel
theorem dX11_findRests_49 : decode cX11_findRests 49 = .ok (.bipush 10, 2) := by decide +kernel
theorem dX11_findRests_51 : decode cX11_findRests 51 = .ok (.iload 4, 2) := by decide +kernel
theorem dX11_findRests_53 : decode cX11_findRests 53 = .ok (.imul, 1) := by decide +kernel
theorem dX11_findRests_54 : decode cX11_findRests 54 = .ok (.iload 5, 2) := by decide +kernel
theorem dX11_findRests_56 : decode cX11_findRests 56 = .ok (.iadd, 1) := by decide +kernel
theorem dX11_findRests_57 : decode cX11_findRests 57 = .ok (.iastore, 1) := by decide +kernel
theorem dX11_findRests_58 : decode cX11_findRests 58 = .ok (.iinc 3 1, 3) := by decide +kernel
theorem dX11_findRests_61 : decode cX11_findRests 61 = .ok (.iinc 5 1, 3) := by decide +kernel
theorem dX11_findRests_64 : decode cX11_findRests 64 = .ok (.goto (-50), 3) := by decide +kernel
theorem dX11_findRests_67 : decode cX11_findRests 67 = .ok (.iinc 4 1, 3) := by decide +kernel
theorem dX11_findRests_70 : decode cX11_findRests 70 = .ok (.goto (-65), 3) := by decide +kernel
theorem dX11_findRests_73 : decode cX11_findRests 73 = .ok (.iload_n 3, 1) := by decide +kernel
theorem dX11_findRests_74 : decode cX11_findRests 74 = .ok (.ireturn, 1) := by decide +kernel
theorem dX11_isBestFor_0 : decode cX11_isBestFor 0 = .ok (.iload_n 0, 1) := by decide +kernel
theorem dX11_isBestFor_1 : decode cX11_isBestFor 1 = .ok (.iload_n 1, 1) := by decide +kernel
theorem dX11_isBestFor_2 : decode cX11_isBestFor 2 = .ok (.iload_n 2, 1) := by decide +kernel
theorem dX11_isBestFor_3 : decode cX11_isBestFor 3 = .ok (.iload_n 3, 1) := by decide +kernel
theorem dX11_isBestFor_4 : decode cX11_isBestFor 4 = .ok (.invokestatic 350, 3) := by decide +kernel
theorem dX11_isBestFor_7 : decode cX11_isBestFor 7 = .ok (.istore 4, 2) := by decide +kernel
theorem dX11_isBestFor_9 : decode cX11_isBestFor 9 = .ok (.iconst 1, 1) := by decide +kernel
theorem dX11_isBestFor_10 : decode cX11_isBestFor 10 = .ok (.istore 5, 2) := by decide +kernel
theorem dX11_isBestFor_12 : decode cX11_isBestFor 12 = .ok (.iload 5, 2) := by decide +kernel
theorem dX11_isBestFor_14 : decode cX11_isBestFor 14 = .ok (.iconst 5, 1) := by decide +kernel
theorem dX11_isBestFor_15 : decode cX11_isBestFor 15 = .ok (.if_icmp .gt 24, 3) := by decide +kernel
theorem dX11_isBestFor_18 : decode cX11_isBestFor 18 = .ok (.iload 5, 2) := by decide +kernel
theorem dX11_isBestFor_20 : decode cX11_isBestFor 20 = .ok (.iload_n 1, 1) := by decide +kernel
theorem dX11_isBestFor_21 : decode cX11_isBestFor 21 = .ok (.iload_n 2, 1) := by decide +kernel
theorem dX11_isBestFor_22 : decode cX11_isBestFor 22 = .ok (.iload_n 3, 1) := by decide +kernel
theorem dX11_isBestFor_23 : decode cX11_isBestFor 23 = .ok (.invokestatic 350, 3) := by decide +kernel
theorem dX11_isBestFor_26 : decode cX11_isBestFor 26 = .ok (.iload 4, 2) := by decide +kernel
theorem dX11_isBestFor_28 : decode cX11_isBestFor 28 = .ok (.if_icmp .le 5, 3) := by decide +kernel
theorem dX11_isBestFor_31 : decode cX11_isBestFor 31 = .ok (.iconst 0, 1) := by decide +kernel
theorem dX11_isBestFor_32 : decode cX11_isBestFor 32 = .ok (.ireturn, 1) := by decide +kernel
theorem dX11_isBestFor_33 : decode cX11_isBestFor 33 = .ok (.iinc 5 1, 3) := by decide +kernel
theorem dX11_isBestFor_36 : decode cX11_isBestFor 36 = .ok (.goto (-24), 3) := by decide +kernel
theorem dX11_isBestFor_39 : decode cX11_isBestFor 39 = .ok (.iconst 1, 1) := by decide +kernel
theorem dX11_isBestFor_40 : decode cX11_isBestFor 40 = .ok (.ireturn, 1) := by decide +kernel
theorem dX11_greedGain_0 : decode cX11_greedGain 0 = .ok (.iconst 3, 1) := by decide +kernel
theorem dX11_greedGain_1 : decode cX11_greedGain 1 = .ok (.iload_n 0, 1) := by decide +kernel
theorem dX11_greedGain_2 : decode cX11_greedGain 2 = .ok (.imul, 1) := by decide +kernel
theorem dX11_greedGain_3 : decode cX11_greedGain 3 = .ok (.iload_n 3, 1) := by decide +kernel
theorem dX11_greedGain_4 : decode cX11_greedGain 4 = .ok (.iconst 0, 1) := by decide +kernel
theorem dX11_greedGain_5 : decode cX11_greedGain 5 = .ok (.iload_n 0, 1) := by decide +kernel
theorem dX11_greedGain_6 : decode cX11_greedGain 6 = .ok (.iload_n 1, 1) := by decide +kernel
theorem dX11_greedGain_7 : decode cX11_greedGain 7 = .ok (.iadd, 1) := by decide +kernel
theorem dX11_greedGain_8 : decode cX11_greedGain 8 = .ok (.iload_n 2, 1) := by decide +kernel
theorem dX11_greedGain_9 : decode cX11_greedGain 9 = .ok (.isub, 1) := by decide +kernel
theorem dX11_greedGain_10 : decode cX11_greedGain 10 = .ok (.invokestatic 354, 3) := by decide +kernel
theorem dX11_greedGain_13 : decode cX11_greedGain 13 = .ok (.imul, 1) := by decide +kernel
theorem dX11_greedGain_14 : decode cX11_greedGain 14 = .ok (.isub, 1) := by decide +kernel
theorem dX11_greedGain_15 : decode cX11_greedGain 15 = .ok (.ireturn, 1) := by decide +kernel
theorem dX11_nextDraw_0 : decode cX11_nextDraw 0 = .ok (.lload_n 0, 1) := by decide +kernel
theorem dX11_nextDraw_1 : decode cX11_nextDraw 1 = .ok (.ldc2_w 357, 3) := by decide +kernel
theorem dX11_nextDraw_4 : decode cX11_nextDraw 4 = .ok (.lmul, 1) := by decide +kernel
theorem dX11_nextDraw_5 : decode cX11_nextDraw 5 = .ok (.ldc2_w 359, 3) := by decide +kernel
