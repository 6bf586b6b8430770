theorem dX12_laysTold_5 : decode cX12_laysTold 5 = .ok (.if_icmp .ge 31, 3) := by decide +kernel
theorem dX12_laysTold_8 : decode cX12_laysTold 8 = .ok (.aload_n 0, 1) := by decide +kernel
theorem dX12_laysTold_9 : decode cX12_laysTold 9 = .ok (.getfield 114, 3) := by decide +kernel
theorem dX12_laysTold_12 : decode cX12_laysTold 12 = .ok (.bipush 6, 2) := by decide +kernel
theorem dX12_laysTold_14 : decode cX12_laysTold 14 = .ok (.iload_n 2, 1) := by decide +kernel
theorem dX12_laysTold_15 : decode cX12_laysTold 15 = .ok (.imul, 1) := by decide +kernel
theorem dX12_laysTold_16 : decode cX12_laysTold 16 = .ok (.iload_n 3, 1) := by decide +kernel
theorem dX12_laysTold_17 : decode cX12_laysTold 17 = .ok (.iadd, 1) := by decide +kernel
theorem dX12_laysTold_18 : decode cX12_laysTold 18 = .ok (.aload_n 0, 1) := by decide +kernel
theorem dX12_laysTold_19 : decode cX12_laysTold 19 = .ok (.getfield 114, 3) := by decide +kernel
theorem dX12_laysTold_22 : decode cX12_laysTold 22 = .ok (.bipush 6, 2) := by decide +kernel
theorem dX12_laysTold_24 : decode cX12_laysTold 24 = .ok (.iload_n 1, 1) := by decide +kernel
theorem dX12_laysTold_25 : decode cX12_laysTold 25 = .ok (.imul, 1) := by decide +kernel
theorem dX12_laysTold_26 : decode cX12_laysTold 26 = .ok (.iload_n 3, 1) := by decide +kernel
theorem dX12_laysTold_27 : decode cX12_laysTold 27 = .ok (.iadd, 1) := by decide +kernel
theorem dX12_laysTold_28 : decode cX12_laysTold 28 = .ok (.iaload, 1) := by decide +kernel
theorem dX12_laysTold_29 : decode cX12_laysTold 29 = .ok (.iastore, 1) := by decide +kernel
theorem dX12_laysTold_30 : decode cX12_laysTold 30 = .ok (.iinc 3 1, 3) := by decide +kernel
theorem dX12_laysTold_33 : decode cX12_laysTold 33 = .ok (.goto (-31), 3) := by decide +kernel
theorem dX12_laysTold_36 : decode cX12_laysTold 36 = .ok (.return_, 1) := by decide +kernel
theorem dX12_fresh_0 : decode cX12_fresh 0 = .ok (.iconst 0, 1) := by decide +kernel
theorem dX12_fresh_1 : decode cX12_fresh 1 = .ok (.istore_n 1, 1) := by decide +kernel
theorem dX12_fresh_2 : decode cX12_fresh 2 = .ok (.iload_n 1, 1) := by decide +kernel
theorem dX12_fresh_3 : decode cX12_fresh 3 = .ok (.bipush 21, 2) := by decide +kernel
theorem dX12_fresh_5 : decode cX12_fresh 5 = .ok (.if_icmp .ge 16, 3) := by decide +kernel
theorem dX12_fresh_8 : decode cX12_fresh 8 = .ok (.aload_n 0, 1) := by decide +kernel
theorem dX12_fresh_9 : decode cX12_fresh 9 = .ok (.getfield 117, 3) := by decide +kernel
theorem dX12_fresh_12 : decode cX12_fresh 12 = .ok (.iload_n 1, 1) := by decide +kernel
theorem dX12_fresh_13 : decode cX12_fresh 13 = .ok (.iconst 0, 1) := by decide +kernel
theorem dX12_fresh_14 : decode cX12_fresh 14 = .ok (.iastore, 1) := by decide +kernel
theorem dX12_fresh_15 : decode cX12_fresh 15 = .ok (.iinc 1 1, 3) := by decide +kernel
theorem dX12_fresh_18 : decode cX12_fresh 18 = .ok (.goto (-16), 3) := by decide +kernel
theorem dX12_fresh_21 : decode cX12_fresh 21 = .ok (.aload_n 0, 1) := by decide +kernel
theorem dX12_fresh_22 : decode cX12_fresh 22 = .ok (.getfield 117, 3) := by decide +kernel
theorem dX12_fresh_25 : decode cX12_fresh 25 = .ok (.iconst 1, 1) := by decide +kernel
theorem dX12_fresh_26 : decode cX12_fresh 26 = .ok (.aload_n 0, 1) := by decide +kernel
theorem dX12_fresh_27 : decode cX12_fresh 27 = .ok (.getfield 13, 3) := by decide +kernel
theorem dX12_fresh_30 : decode cX12_fresh 30 = .ok (.iconst 3, 1) := by decide +kernel
theorem dX12_fresh_31 : decode cX12_fresh 31 = .ok (.iaload, 1) := by decide +kernel
theorem dX12_fresh_32 : decode cX12_fresh 32 = .ok (.iastore, 1) := by decide +kernel
theorem dX12_fresh_33 : decode cX12_fresh 33 = .ok (.iconst 0, 1) := by decide +kernel
theorem dX12_fresh_34 : decode cX12_fresh 34 = .ok (.istore_n 1, 1) := by decide +kernel
theorem dX12_fresh_35 : decode cX12_fresh 35 = .ok (.iload_n 1, 1) := by decide +kernel
theorem dX12_fresh_36 : decode cX12_fresh 36 = .ok (.bipush 6, 2) := by decide +kernel
theorem dX12_fresh_38 : decode cX12_fresh 38 = .ok (.if_icmp .ge 43, 3) := by decide +kernel
theorem dX12_fresh_41 : decode cX12_fresh 41 = .ok (.aload_n 0, 1) := by decide +kernel
theorem dX12_fresh_42 : decode cX12_fresh 42 = .ok (.getfield 117, 3) := by decide +kernel
theorem dX12_fresh_45 : decode cX12_fresh 45 = .ok (.iconst 3, 1) := by decide +kernel
theorem dX12_fresh_46 : decode cX12_fresh 46 = .ok (.iload_n 1, 1) := by decide +kernel
theorem dX12_fresh_47 : decode cX12_fresh 47 = .ok (.iadd, 1) := by decide +kernel
theorem dX12_fresh_48 : decode cX12_fresh 48 = .ok (.iload_n 1, 1) := by decide +kernel
theorem dX12_fresh_49 : decode cX12_fresh 49 = .ok (.aload_n 0, 1) := by decide +kernel
theorem dX12_fresh_50 : decode cX12_fresh 50 = .ok (.getfield 13, 3) := by decide +kernel
theorem dX12_fresh_53 : decode cX12_fresh 53 = .ok (.iconst 0, 1) := by decide +kernel
theorem dX12_fresh_54 : decode cX12_fresh 54 = .ok (.iaload, 1) := by decide +kernel
theorem dX12_fresh_55 : decode cX12_fresh 55 = .ok (.if_icmp .ge 8, 3) := by decide +kernel
theorem dX12_fresh_58 : decode cX12_fresh 58 = .ok (.bipush 50, 2) := by decide +kernel
theorem dX12_fresh_60 : decode cX12_fresh 60 = .ok (.goto 4, 3) := by decide +kernel
theorem dX12_fresh_63 : decode cX12_fresh 63 = .ok (.iconst 0, 1) := by decide +kernel
theorem dX12_fresh_64 : decode cX12_fresh 64 = .ok (.iastore, 1) := by decide +kernel
theorem dX12_fresh_65 : decode cX12_fresh 65 = .ok (.aload_n 0, 1) := by decide +kernel
theorem dX12_fresh_66 : decode cX12_fresh 66 = .ok (.getfield 117, 3) := by decide +kernel
theorem dX12_fresh_69 : decode cX12_fresh 69 = .ok (.bipush 9, 2) := by decide +kernel
theorem dX12_fresh_71 : decode cX12_fresh 71 = .ok (.iload_n 1, 1) := by decide +kernel
theorem dX12_fresh_72 : decode cX12_fresh 72 = .ok (.iadd, 1) := by decide +kernel
theorem dX12_fresh_73 : decode cX12_fresh 73 = .ok (.iconst (-1), 1) := by decide +kernel
theorem dX12_fresh_74 : decode cX12_fresh 74 = .ok (.iastore, 1) := by decide +kernel
theorem dX12_fresh_75 : decode cX12_fresh 75 = .ok (.iinc 1 1, 3) := by decide +kernel
theorem dX12_fresh_78 : decode cX12_fresh 78 = .ok (.goto (-43), 3) := by decide +kernel
theorem dX12_fresh_81 : decode cX12_fresh 81 = .ok (.return_, 1) := by decide +kernel
theorem dX12_forgets_0 : decode cX12_forgets 0 = .ok (.iconst 0, 1) := by decide +kernel
theorem dX12_forgets_1 : decode cX12_forgets 1 = .ok (.istore_n 1, 1) := by decide +kernel
theorem dX12_forgets_2 : decode cX12_forgets 2 = .ok (.iload_n 1, 1) := by decide +kernel
theorem dX12_forgets_3 : decode cX12_forgets 3 = .ok (.bipush 6, 2) := by decide +kernel
theorem dX12_forgets_5 : decode cX12_forgets 5 = .ok (.if_icmp .ge 16, 3) := by decide +kernel
theorem dX12_forgets_8 : decode cX12_forgets 8 = .ok (.aload_n 0, 1) := by decide +kernel
theorem dX12_forgets_9 : decode cX12_forgets 9 = .ok (.getfield 114, 3) := by decide +kernel
theorem dX12_forgets_12 : decode cX12_forgets 12 = .ok (.iload_n 1, 1) := by decide +kernel
theorem dX12_forgets_13 : decode cX12_forgets 13 = .ok (.iconst (-1), 1) := by decide +kernel
theorem dX12_forgets_14 : decode cX12_forgets 14 = .ok (.iastore, 1) := by decide +kernel
theorem dX12_forgets_15 : decode cX12_forgets 15 = .ok (.iinc 1 1, 3) := by decide +kernel
theorem dX12_forgets_18 : decode cX12_forgets 18 = .ok (.goto (-16), 3) := by decide +kernel
theorem dX12_forgets_21 : decode cX12_forgets 21 = .ok (.return_, 1) := by decide +kernel
theorem dX12_commune_0 : decode cX12_commune 0 = .ok (.aload_n 0, 1) := by decide +kernel
theorem dX12_commune_1 : decode cX12_commune 1 = .ok (.iconst 0, 1) := by decide +kernel
theorem dX12_commune_2 : decode cX12_commune 2 = .ok (.putfield 156, 3) := by decide +kernel
theorem dX12_commune_5 : decode cX12_commune 5 = .ok (.aload_n 0, 1) := by decide +kernel
theorem dX12_commune_6 : decode cX12_commune 6 = .ok (.invokevirtual 376, 3) := by decide +kernel
theorem dX12_commune_9 : decode cX12_commune 9 = .ok (.ifCond .ne 8, 3) := by decide +kernel
theorem dX12_commune_12 : decode cX12_commune 12 = .ok (.aload_n 0, 1) := by decide +kernel
theorem dX12_commune_13 : decode cX12_commune 13 = .ok (.getfield 192, 3) := by decide +kernel
theorem dX12_commune_16 : decode cX12_commune 16 = .ok (.ireturn, 1) := by decide +kernel
theorem dX12_commune_17 : decode cX12_commune 17 = .ok (.aload_n 0, 1) := by decide +kernel
theorem dX12_commune_18 : decode cX12_commune 18 = .ok (.invokevirtual 379, 3) := by decide +kernel
theorem dX12_commune_21 : decode cX12_commune 21 = .ok (.aload_n 0, 1) := by decide +kernel
theorem dX12_commune_22 : decode cX12_commune 22 = .ok (.invokevirtual 153, 3) := by decide +kernel
theorem dX12_commune_25 : decode cX12_commune 25 = .ok (.aload_n 0, 1) := by decide +kernel
theorem dX12_commune_26 : decode cX12_commune 26 = .ok (.invokevirtual 382, 3) := by decide +kernel
theorem dX12_commune_29 : decode cX12_commune 29 = .ok (.aload_n 0, 1) := by decide +kernel
theorem dX12_commune_30 : decode cX12_commune 30 = .ok (.getfield 99, 3) := by decide +kernel
theorem dX12_commune_33 : decode cX12_commune 33 = .ok (.iconst 0, 1) := by decide +kernel
theorem dX12_commune_34 : decode cX12_commune 34 = .ok (.iconst 0, 1) := by decide +kernel
theorem dX12_commune_35 : decode cX12_commune 35 = .ok (.iastore, 1) := by decide +kernel
theorem dX12_commune_36 : decode cX12_commune 36 = .ok (.aload_n 0, 1) := by decide +kernel
theorem dX12_commune_37 : decode cX12_commune 37 = .ok (.iconst 0, 1) := by decide +kernel
theorem dX12_commune_38 : decode cX12_commune 38 = .ok (.putfield 385, 3) := by decide +kernel
theorem dX12_commune_41 : decode cX12_commune 41 = .ok (.iconst 0, 1) := by decide +kernel
theorem dX12_commune_42 : decode cX12_commune 42 = .ok (.istore_n 1, 1) := by decide +kernel
theorem dX12_commune_43 : decode cX12_commune 43 = .ok (.iload_n 1, 1) := by decide +kernel
theorem dX12_commune_44 : decode cX12_commune 44 = .ok (.iconst 4, 1) := by decide +kernel
theorem dX12_commune_45 : decode cX12_commune 45 = .ok (.if_icmp .ge 16, 3) := by decide +kernel
theorem dX12_commune_48 : decode cX12_commune 48 = .ok (.aload_n 0, 1) := by decide +kernel
theorem dX12_commune_49 : decode cX12_commune 49 = .ok (.getfield 132, 3) := by decide +kernel
theorem dX12_commune_52 : decode cX12_commune 52 = .ok (.iload_n 1, 1) := by decide +kernel
theorem dX12_commune_53 : decode cX12_commune 53 = .ok (.iconst 0, 1) := by decide +kernel
theorem dX12_commune_54 : decode cX12_commune 54 = .ok (.bastore, 1) := by decide +kernel
theorem dX12_commune_55 : decode cX12_commune 55 = .ok (.iinc 1 1, 3) := by decide +kernel
theorem dX12_commune_58 : decode cX12_commune 58 = .ok (.goto (-15), 3) := by decide +kernel
theorem dX12_commune_61 : decode cX12_commune 61 = .ok (.iconst 0, 1) := by decide +kernel
theorem dX12_commune_62 : decode cX12_commune 62 = .ok (.ireturn, 1) := by decide +kernel
theorem dX12_weeks_0 : decode cX12_weeks 0 = .ok (.aload_n 0, 1) := by decide +kernel
theorem dX12_weeks_1 : decode cX12_weeks 1 = .ok (.iconst 0, 1) := by decide +kernel
theorem dX12_weeks_2 : decode cX12_weeks 2 = .ok (.putfield 156, 3) := by decide +kernel
theorem dX12_weeks_5 : decode cX12_weeks 5 = .ok (.aload_n 0, 1) := by decide +kernel
theorem dX12_weeks_6 : decode cX12_weeks 6 = .ok (.getfield 99, 3) := by decide +kernel
theorem dX12_weeks_9 : decode cX12_weeks 9 = .ok (.iconst 5, 1) := by decide +kernel
theorem dX12_weeks_10 : decode cX12_weeks 10 = .ok (.iconst 0, 1) := by decide +kernel
theorem dX12_weeks_11 : decode cX12_weeks 11 = .ok (.iastore, 1) := by decide +kernel
theorem dX12_weeks_12 : decode cX12_weeks 12 = .ok (.aload_n 0, 1) := by decide +kernel
theorem dX12_weeks_13 : decode cX12_weeks 13 = .ok (.invokevirtual 341, 3) := by decide +kernel
theorem dX12_weeks_16 : decode cX12_weeks 16 = .ok (.aload_n 0, 1) := by decide +kernel
theorem dX12_weeks_17 : decode cX12_weeks 17 = .ok (.getfield 181, 3) := by decide +kernel
theorem dX12_weeks_20 : decode cX12_weeks 20 = .ok (.ifCond .eq 15, 3) := by decide +kernel
theorem dX12_weeks_23 : decode cX12_weeks 23 = .ok (.aload_n 0, 1) := by decide +kernel
theorem dX12_weeks_24 : decode cX12_weeks 24 = .ok (.invokevirtual 388, 3) := by decide +kernel
theorem dX12_weeks_27 : decode cX12_weeks 27 = .ok (.ifCond .ne (-11), 3) := by decide +kernel
theorem dX12_weeks_30 : decode cX12_weeks 30 = .ok (.aload_n 0, 1) := by decide +kernel
theorem dX12_weeks_31 : decode cX12_weeks 31 = .ok (.getfield 192, 3) := by decide +kernel
theorem dX12_weeks_34 : decode cX12_weeks 34 = .ok (.ireturn, 1) := by decide +kernel
theorem dX12_weeks_35 : decode cX12_weeks 35 = .ok (.aload_n 0, 1) := by decide +kernel
theorem dX12_weeks_36 : decode cX12_weeks 36 = .ok (.iconst 5, 1) := by decide +kernel
theorem dX12_weeks_37 : decode cX12_weeks 37 = .ok (.iconst 0, 1) := by decide +kernel
theorem dX12_weeks_38 : decode cX12_weeks 38 = .ok (.invokevirtual 391, 3) := by decide +kernel
theorem dX12_weeks_41 : decode cX12_weeks 41 = .ok (.iconst 0, 1) := by decide +kernel
theorem dX12_weeks_42 : decode cX12_weeks 42 = .ok (.ireturn, 1) := by decide +kernel
theorem dX12_isPerson_0 : decode cX12_isPerson 0 = .ok (.iload_n 1, 1) := by decide +kernel
theorem dX12_isPerson_1 : decode cX12_isPerson 1 = .ok (.ifCond .lt 17, 3) := by decide +kernel
theorem dX12_isPerson_4 : decode cX12_isPerson 4 = .ok (.iload_n 1, 1) := by decide +kernel
theorem dX12_isPerson_5 : decode cX12_isPerson 5 = .ok (.aload_n 0, 1) := by decide +kernel
theorem dX12_isPerson_6 : decode cX12_isPerson 6 = .ok (.getfield 13, 3) := by decide +kernel
theorem dX12_isPerson_9 : decode cX12_isPerson 9 = .ok (.iconst 0, 1) := by decide +kernel
theorem dX12_isPerson_10 : decode cX12_isPerson 10 = .ok (.iaload, 1) := by decide +kernel
theorem dX12_isPerson_11 : decode cX12_isPerson 11 = .ok (.if_icmp .ge 7, 3) := by decide +kernel
theorem dX12_isPerson_14 : decode cX12_isPerson 14 = .ok (.iconst 1, 1) := by decide +kernel
theorem dX12_isPerson_15 : decode cX12_isPerson 15 = .ok (.goto 4, 3) := by decide +kernel
theorem dX12_isPerson_18 : decode cX12_isPerson 18 = .ok (.iconst 0, 1) := by decide +kernel
theorem dX12_isPerson_19 : decode cX12_isPerson 19 = .ok (.ireturn, 1) := by decide +kernel
theorem dX12_isDish_0 : decode cX12_isDish 0 = .ok (.iload_n 1, 1) := by decide +kernel
theorem dX12_isDish_1 : decode cX12_isDish 1 = .ok (.ifCond .lt 17, 3) := by decide +kernel
theorem dX12_isDish_4 : decode cX12_isDish 4 = .ok (.iload_n 1, 1) := by decide +kernel
theorem dX12_isDish_5 : decode cX12_isDish 5 = .ok (.aload_n 0, 1) := by decide +kernel
theorem dX12_isDish_6 : decode cX12_isDish 6 = .ok (.getfield 13, 3) := by decide +kernel
theorem dX12_isDish_9 : decode cX12_isDish 9 = .ok (.iconst 1, 1) := by decide +kernel
theorem dX12_isDish_10 : decode cX12_isDish 10 = .ok (.iaload, 1) := by decide +kernel
theorem dX12_isDish_11 : decode cX12_isDish 11 = .ok (.if_icmp .ge 7, 3) := by decide +kernel
theorem dX12_isDish_14 : decode cX12_isDish 14 = .ok (.iconst 1, 1) := by decide +kernel
theorem dX12_isDish_15 : decode cX12_isDish 15 = .ok (.goto 4, 3) := by decide +kernel
theorem dX12_isDish_18 : decode cX12_isDish 18 = .ok (.iconst 0, 1) := by decide +kernel
theorem dX12_isDish_19 : decode cX12_isDish 19 = .ok (.ireturn, 1) := by decide +kernel
theorem dX12_isSick_0 : decode cX12_isSick 0 = .ok (.aload_n 0, 1) := by decide +kernel
theorem dX12_isSick_1 : decode cX12_isSick 1 = .ok (.getfield 117, 3) := by decide +kernel
theorem dX12_isSick_4 : decode cX12_isSick 4 = .ok (.iconst 0, 1) := by decide +kernel
theorem dX12_isSick_5 : decode cX12_isSick 5 = .ok (.iaload, 1) := by decide +kernel
theorem dX12_isSick_6 : decode cX12_isSick 6 = .ok (.aload_n 0, 1) := by decide +kernel
theorem dX12_isSick_7 : decode cX12_isSick 7 = .ok (.getfield 35, 3) := by decide +kernel
theorem dX12_isSick_10 : decode cX12_isSick 10 = .ok (.iload_n 1, 1) := by decide +kernel
theorem dX12_isSick_11 : decode cX12_isSick 11 = .ok (.iaload, 1) := by decide +kernel
theorem dX12_isSick_12 : decode cX12_isSick 12 = .ok (.aload_n 0, 1) := by decide +kernel
theorem dX12_isSick_13 : decode cX12_isSick 13 = .ok (.getfield 38, 3) := by decide +kernel
theorem dX12_isSick_16 : decode cX12_isSick 16 = .ok (.iload_n 1, 1) := by decide +kernel
theorem dX12_isSick_17 : decode cX12_isSick 17 = .ok (.iaload, 1) := by decide +kernel
theorem dX12_isSick_18 : decode cX12_isSick 18 = .ok (.invokestatic 293, 3) := by decide +kernel
theorem dX12_isSick_21 : decode cX12_isSick 21 = .ok (.ireturn, 1) := by decide +kernel
theorem dX12_sitting_0 : decode cX12_sitting 0 = .ok (.iconst 0, 1) := by decide +kernel
theorem dX12_sitting_1 : decode cX12_sitting 1 = .ok (.istore_n 1, 1) := by decide +kernel
theorem dX12_sitting_2 : decode cX12_sitting 2 = .ok (.iconst 0, 1) := by decide +kernel
theorem dX12_sitting_3 : decode cX12_sitting 3 = .ok (.istore_n 2, 1) := by decide +kernel
theorem dX12_sitting_4 : decode cX12_sitting 4 = .ok (.iload_n 2, 1) := by decide +kernel
theorem dX12_sitting_5 : decode cX12_sitting 5 = .ok (.aload_n 0, 1) := by decide +kernel
theorem dX12_sitting_6 : decode cX12_sitting 6 = .ok (.getfield 13, 3) := by decide +kernel
theorem dX12_sitting_9 : decode cX12_sitting 9 = .ok (.iconst 0, 1) := by decide +kernel
theorem dX12_sitting_10 : decode cX12_sitting 10 = .ok (.iaload, 1) := by decide +kernel
theorem dX12_sitting_11 : decode cX12_sitting 11 = .ok (.if_icmp .ge 27, 3) := by decide +kernel
theorem dX12_sitting_14 : decode cX12_sitting 14 = .ok (.iload_n 1, 1) := by decide +kernel
theorem dX12_sitting_15 : decode cX12_sitting 15 = .ok (.aload_n 0, 1) := by decide +kernel
theorem dX12_sitting_16 : decode cX12_sitting 16 = .ok (.iload_n 2, 1) := by decide +kernel
theorem dX12_sitting_17 : decode cX12_sitting 17 = .ok (.invokevirtual 395, 3) := by decide +kernel
theorem dX12_sitting_20 : decode cX12_sitting 20 = .ok (.ifCond .eq 7, 3) := by decide +kernel
theorem dX12_sitting_23 : decode cX12_sitting 23 = .ok (.iconst 0, 1) := by decide +kernel
theorem dX12_sitting_24 : decode cX12_sitting 24 = .ok (.goto 6, 3) := by decide +kernel
theorem dX12_sitting_27 : decode cX12_sitting 27 = .ok (.iconst 1, 1) := by decide +kernel
theorem dX12_sitting_28 : decode cX12_sitting 28 = .ok (.iload_n 2, 1) := by decide +kernel
theorem dX12_sitting_29 : decode cX12_sitting 29 = .ok (.ishl, 1) := by decide +kernel
theorem dX12_sitting_30 : decode cX12_sitting 30 = .ok (.ior, 1) := by decide +kernel
theorem dX12_sitting_31 : decode cX12_sitting 31 = .ok (.istore_n 1, 1) := by decide +kernel
theorem dX12_sitting_32 : decode cX12_sitting 32 = .ok (.iinc 2 1, 3) := by decide +kernel
theorem dX12_sitting_35 : decode cX12_sitting 35 = .ok (.goto (-31), 3) := by decide +kernel
theorem dX12_sitting_38 : decode cX12_sitting 38 = .ok (.iload_n 1, 1) := by decide +kernel
theorem dX12_sitting_39 : decode cX12_sitting 39 = .ok (.ireturn, 1) := by decide +kernel
theorem dX12_costOf_0 : decode cX12_costOf 0 = .ok (.aload_n 0, 1) := by decide +kernel
theorem dX12_costOf_1 : decode cX12_costOf 1 = .ok (.getfield 23, 3) := by decide +kernel
theorem dX12_costOf_4 : decode cX12_costOf 4 = .ok (.iload_n 1, 1) := by decide +kernel
theorem dX12_costOf_5 : decode cX12_costOf 5 = .ok (.iaload, 1) := by decide +kernel
theorem dX12_costOf_6 : decode cX12_costOf 6 = .ok (.iconst 1, 1) := by decide +kernel
theorem dX12_costOf_7 : decode cX12_costOf 7 = .ok (.if_icmp .ne 14, 3) := by decide +kernel
theorem dX12_costOf_10 : decode cX12_costOf 10 = .ok (.iconst 2, 1) := by decide +kernel
theorem dX12_costOf_11 : decode cX12_costOf 11 = .ok (.aload_n 0, 1) := by decide +kernel
theorem dX12_costOf_12 : decode cX12_costOf 12 = .ok (.getfield 47, 3) := by decide +kernel
theorem dX12_costOf_15 : decode cX12_costOf 15 = .ok (.iload_n 2, 1) := by decide +kernel
theorem dX12_costOf_16 : decode cX12_costOf 16 = .ok (.iaload, 1) := by decide +kernel
theorem dX12_costOf_17 : decode cX12_costOf 17 = .ok (.imul, 1) := by decide +kernel
theorem dX12_costOf_18 : decode cX12_costOf 18 = .ok (.goto 9, 3) := by decide +kernel
theorem dX12_costOf_21 : decode cX12_costOf 21 = .ok (.aload_n 0, 1) := by decide +kernel
theorem dX12_costOf_22 : decode cX12_costOf 22 = .ok (.getfield 47, 3) := by decide +kernel
theorem dX12_costOf_25 : decode cX12_costOf 25 = .ok (.iload_n 2, 1) := by decide +kernel
theorem dX12_costOf_26 : decode cX12_costOf 26 = .ok (.iaload, 1) := by decide +kernel
theorem dX12_costOf_27 : decode cX12_costOf 27 = .ok (.ireturn, 1) := by decide +kernel
theorem dX12_canEat_0 : decode cX12_canEat 0 = .ok (.aload_n 0, 1) := by decide +kernel
theorem dX12_canEat_1 : decode cX12_canEat 1 = .ok (.iload_n 1, 1) := by decide +kernel
theorem dX12_canEat_2 : decode cX12_canEat 2 = .ok (.invokevirtual 395, 3) := by decide +kernel
theorem dX12_canEat_5 : decode cX12_canEat 5 = .ok (.ifCond .ne 22, 3) := by decide +kernel
theorem dX12_canEat_8 : decode cX12_canEat 8 = .ok (.aload_n 0, 1) := by decide +kernel
theorem dX12_canEat_9 : decode cX12_canEat 9 = .ok (.getfield 117, 3) := by decide +kernel
theorem dX12_canEat_12 : decode cX12_canEat 12 = .ok (.iconst 1, 1) := by decide +kernel
theorem dX12_canEat_13 : decode cX12_canEat 13 = .ok (.iaload, 1) := by decide +kernel
theorem dX12_canEat_14 : decode cX12_canEat 14 = .ok (.aload_n 0, 1) := by decide +kernel
theorem dX12_canEat_15 : decode cX12_canEat 15 = .ok (.iload_n 1, 1) := by decide +kernel
theorem dX12_canEat_16 : decode cX12_canEat 16 = .ok (.iload_n 2, 1) := by decide +kernel
theorem dX12_canEat_17 : decode cX12_canEat 17 = .ok (.invokevirtual 398, 3) := by decide +kernel
theorem dX12_canEat_20 : decode cX12_canEat 20 = .ok (.if_icmp .lt 7, 3) := by decide +kernel
theorem dX12_canEat_23 : decode cX12_canEat 23 = .ok (.iconst 1, 1) := by decide +kernel
theorem dX12_canEat_24 : decode cX12_canEat 24 = .ok (.goto 4, 3) := by decide +kernel
theorem dX12_canEat_27 : decode cX12_canEat 27 = .ok (.iconst 0, 1) := by decide +kernel
theorem dX12_canEat_28 : decode cX12_canEat 28 = .ok (.ireturn, 1) := by decide +kernel
theorem dX12_wouldBeIll_0 : decode cX12_wouldBeIll 0 = .ok (.aload_n 0, 1) := by decide +kernel
theorem dX12_wouldBeIll_1 : decode cX12_wouldBeIll 1 = .ok (.getfield 117, 3) := by decide +kernel
theorem dX12_wouldBeIll_4 : decode cX12_wouldBeIll 4 = .ok (.bipush 9, 2) := by decide +kernel
theorem dX12_wouldBeIll_6 : decode cX12_wouldBeIll 6 = .ok (.iload_n 1, 1) := by decide +kernel
theorem dX12_wouldBeIll_7 : decode cX12_wouldBeIll 7 = .ok (.iadd, 1) := by decide +kernel
theorem dX12_wouldBeIll_8 : decode cX12_wouldBeIll 8 = .ok (.iaload, 1) := by decide +kernel
theorem dX12_wouldBeIll_9 : decode cX12_wouldBeIll 9 = .ok (.ifCond .lt 32, 3) := by decide +kernel
theorem dX12_wouldBeIll_12 : decode cX12_wouldBeIll 12 = .ok (.aload_n 0, 1) := by decide +kernel
theorem dX12_wouldBeIll_13 : decode cX12_wouldBeIll 13 = .ok (.getfield 117, 3) := by decide +kernel
theorem dX12_wouldBeIll_16 : decode cX12_wouldBeIll 16 = .ok (.iconst 0, 1) := by decide +kernel
theorem dX12_wouldBeIll_17 : decode cX12_wouldBeIll 17 = .ok (.iaload, 1) := by decide +kernel
theorem dX12_wouldBeIll_18 : decode cX12_wouldBeIll 18 = .ok (.aload_n 0, 1) := by decide +kernel
theorem dX12_wouldBeIll_19 : decode cX12_wouldBeIll 19 = .ok (.getfield 117, 3) := by decide +kernel
theorem dX12_wouldBeIll_22 : decode cX12_wouldBeIll 22 = .ok (.bipush 9, 2) := by decide +kernel
theorem dX12_wouldBeIll_24 : decode cX12_wouldBeIll 24 = .ok (.iload_n 1, 1) := by decide +kernel
theorem dX12_wouldBeIll_25 : decode cX12_wouldBeIll 25 = .ok (.iadd, 1) := by decide +kernel
theorem dX12_wouldBeIll_26 : decode cX12_wouldBeIll 26 = .ok (.iaload, 1) := by decide +kernel
theorem dX12_wouldBeIll_27 : decode cX12_wouldBeIll 27 = .ok (.isub, 1) := by decide +kernel
theorem dX12_wouldBeIll_28 : decode cX12_wouldBeIll 28 = .ok (.aload_n 0, 1) := by decide +kernel
theorem dX12_wouldBeIll_29 : decode cX12_wouldBeIll 29 = .ok (.getfield 13, 3) := by decide +kernel
theorem dX12_wouldBeIll_32 : decode cX12_wouldBeIll 32 = .ok (.iconst 4, 1) := by decide +kernel
theorem dX12_wouldBeIll_33 : decode cX12_wouldBeIll 33 = .ok (.iaload, 1) := by decide +kernel
theorem dX12_wouldBeIll_34 : decode cX12_wouldBeIll 34 = .ok (.if_icmp .gt 7, 3) := by decide +kernel
theorem dX12_wouldBeIll_37 : decode cX12_wouldBeIll 37 = .ok (.iconst 1, 1) := by decide +kernel
theorem dX12_wouldBeIll_38 : decode cX12_wouldBeIll 38 = .ok (.goto 4, 3) := by decide +kernel
theorem dX12_wouldBeIll_41 : decode cX12_wouldBeIll 41 = .ok (.iconst 0, 1) := by decide +kernel
theorem dX12_wouldBeIll_42 : decode cX12_wouldBeIll 42 = .ok (.ireturn, 1) := by decide +kernel
theorem dX12_lawOf_0 : decode cX12_lawOf 0 = .ok (.aload_n 0, 1) := by decide +kernel
theorem dX12_lawOf_1 : decode cX12_lawOf 1 = .ok (.getfield 44, 3) := by decide +kernel
theorem dX12_lawOf_4 : decode cX12_lawOf 4 = .ok (.iload_n 1, 1) := by decide +kernel
theorem dX12_lawOf_5 : decode cX12_lawOf 5 = .ok (.iaload, 1) := by decide +kernel
theorem dX12_lawOf_6 : decode cX12_lawOf 6 = .ok (.aload_n 0, 1) := by decide +kernel
theorem dX12_lawOf_7 : decode cX12_lawOf 7 = .ok (.getfield 29, 3) := by decide +kernel
theorem dX12_lawOf_10 : decode cX12_lawOf 10 = .ok (.iload_n 2, 1) := by decide +kernel
theorem dX12_lawOf_11 : decode cX12_lawOf 11 = .ok (.iaload, 1) := by decide +kernel
theorem dX12_lawOf_12 : decode cX12_lawOf 12 = .ok (.invokestatic 402, 3) := by decide +kernel
theorem dX12_lawOf_15 : decode cX12_lawOf 15 = .ok (.istore 6, 2) := by decide +kernel
theorem dX12_lawOf_17 : decode cX12_lawOf 17 = .ok (.aload_n 0, 1) := by decide +kernel
theorem dX12_lawOf_18 : decode cX12_lawOf 18 = .ok (.getfield 41, 3) := by decide +kernel
theorem dX12_lawOf_21 : decode cX12_lawOf 21 = .ok (.iload_n 1, 1) := by decide +kernel
theorem dX12_lawOf_22 : decode cX12_lawOf 22 = .ok (.iaload, 1) := by decide +kernel
theorem dX12_lawOf_23 : decode cX12_lawOf 23 = .ok (.iload 6, 2) := by decide +kernel
theorem dX12_lawOf_25 : decode cX12_lawOf 25 = .ok (.isub, 1) := by decide +kernel
theorem dX12_lawOf_26 : decode cX12_lawOf 26 = .ok (.iload_n 3, 1) := by decide +kernel
theorem dX12_lawOf_27 : decode cX12_lawOf 27 = .ok (.isub, 1) := by decide +kernel
theorem dX12_lawOf_28 : decode cX12_lawOf 28 = .ok (.istore 7, 2) := by decide +kernel
theorem dX12_lawOf_30 : decode cX12_lawOf 30 = .ok (.aload_n 0, 1) := by decide +kernel
theorem dX12_lawOf_31 : decode cX12_lawOf 31 = .ok (.getfield 56, 3) := by decide +kernel
theorem dX12_lawOf_34 : decode cX12_lawOf 34 = .ok (.iconst 0, 1) := by decide +kernel
theorem dX12_lawOf_35 : decode cX12_lawOf 35 = .ok (.iaload, 1) := by decide +kernel
theorem dX12_lawOf_36 : decode cX12_lawOf 36 = .ok (.aload_n 0, 1) := by decide +kernel
theorem dX12_lawOf_37 : decode cX12_lawOf 37 = .ok (.getfield 53, 3) := by decide +kernel
theorem dX12_lawOf_40 : decode cX12_lawOf 40 = .ok (.iconst 0, 1) := by decide +kernel
theorem dX12_lawOf_41 : decode cX12_lawOf 41 = .ok (.iaload, 1) := by decide +kernel
theorem dX12_lawOf_42 : decode cX12_lawOf 42 = .ok (.if_icmp .le 69, 3) := by decide +kernel
theorem dX12_lawOf_45 : decode cX12_lawOf 45 = .ok (.aload_n 0, 1) := by decide +kernel
theorem dX12_lawOf_46 : decode cX12_lawOf 46 = .ok (.getfield 96, 3) := by decide +kernel
theorem dX12_lawOf_49 : decode cX12_lawOf 49 = .ok (.iconst 1, 1) := by decide +kernel
theorem dX12_lawOf_50 : decode cX12_lawOf 50 = .ok (.aload_n 0, 1) := by decide +kernel
theorem dX12_lawOf_51 : decode cX12_lawOf 51 = .ok (.getfield 41, 3) := by decide +kernel
theorem dX12_lawOf_54 : decode cX12_lawOf 54 = .ok (.iload_n 1, 1) := by decide +kernel
theorem dX12_lawOf_55 : decode cX12_lawOf 55 = .ok (.iaload, 1) := by decide +kernel
theorem dX12_lawOf_56 : decode cX12_lawOf 56 = .ok (.iastore, 1) := by decide +kernel
theorem dX12_lawOf_57 : decode cX12_lawOf 57 = .ok (.aload_n 0, 1) := by decide +kernel
theorem dX12_lawOf_58 : decode cX12_lawOf 58 = .ok (.getfield 96, 3) := by decide +kernel
theorem dX12_lawOf_61 : decode cX12_lawOf 61 = .ok (.iconst 2, 1) := by decide +kernel
theorem dX12_lawOf_62 : decode cX12_lawOf 62 = .ok (.iload 6, 2) := by decide +kernel
theorem dX12_lawOf_64 : decode cX12_lawOf 64 = .ok (.iastore, 1) := by decide +kernel
theorem dX12_lawOf_65 : decode cX12_lawOf 65 = .ok (.aload_n 0, 1) := by decide +kernel
theorem dX12_lawOf_66 : decode cX12_lawOf 66 = .ok (.getfield 96, 3) := by decide +kernel
theorem dX12_lawOf_69 : decode cX12_lawOf 69 = .ok (.iconst 3, 1) := by decide +kernel
theorem dX12_lawOf_70 : decode cX12_lawOf 70 = .ok (.iload_n 3, 1) := by decide +kernel
theorem dX12_lawOf_71 : decode cX12_lawOf 71 = .ok (.iastore, 1) := by decide +kernel
theorem dX12_lawOf_72 : decode cX12_lawOf 72 = .ok (.aload_n 0, 1) := by decide +kernel
theorem dX12_lawOf_73 : decode cX12_lawOf 73 = .ok (.getfield 96, 3) := by decide +kernel
theorem dX12_lawOf_76 : decode cX12_lawOf 76 = .ok (.iconst 4, 1) := by decide +kernel
theorem dX12_lawOf_77 : decode cX12_lawOf 77 = .ok (.iload 4, 2) := by decide +kernel
theorem dX12_lawOf_79 : decode cX12_lawOf 79 = .ok (.ifCond .eq 7, 3) := by decide +kernel
theorem dX12_lawOf_82 : decode cX12_lawOf 82 = .ok (.iconst 1, 1) := by decide +kernel
theorem dX12_lawOf_83 : decode cX12_lawOf 83 = .ok (.goto 4, 3) := by decide +kernel
theorem dX12_lawOf_86 : decode cX12_lawOf 86 = .ok (.iconst 0, 1) := by decide +kernel
theorem dX12_lawOf_87 : decode cX12_lawOf 87 = .ok (.iastore, 1) := by decide +kernel
theorem dX12_lawOf_88 : decode cX12_lawOf 88 = .ok (.aload_n 0, 1) := by decide +kernel
theorem dX12_lawOf_89 : decode cX12_lawOf 89 = .ok (.getfield 96, 3) := by decide +kernel
theorem dX12_lawOf_92 : decode cX12_lawOf 92 = .ok (.iconst 5, 1) := by decide +kernel
theorem dX12_lawOf_93 : decode cX12_lawOf 93 = .ok (.iload 5, 2) := by decide +kernel
theorem dX12_lawOf_95 : decode cX12_lawOf 95 = .ok (.ifCond .eq 7, 3) := by decide +kernel
theorem dX12_lawOf_98 : decode cX12_lawOf 98 = .ok (.iconst 1, 1) := by decide +kernel
theorem dX12_lawOf_99 : decode cX12_lawOf 99 = .ok (.goto 4, 3) := by decide +kernel
theorem dX12_lawOf_102 : decode cX12_lawOf 102 = .ok (.iconst 0, 1) := by decide +kernel
theorem dX12_lawOf_103 : decode cX12_lawOf 103 = .ok (.iastore, 1) := by decide +kernel
theorem dX12_lawOf_104 : decode cX12_lawOf 104 = .ok (.aload_n 0, 1) := by decide +kernel
theorem dX12_lawOf_105 : decode cX12_lawOf 105 = .ok (.iconst 0, 1) := by decide +kernel
theorem dX12_lawOf_106 : decode cX12_lawOf 106 = .ok (.invokevirtual 405, 3) := by decide +kernel
theorem dX12_lawOf_109 : decode cX12_lawOf 109 = .ok (.istore 7, 2) := by decide +kernel
theorem dX12_lawOf_111 : decode cX12_lawOf 111 = .ok (.iload 7, 2) := by decide +kernel
theorem dX12_lawOf_113 : decode cX12_lawOf 113 = .ok (.iconst 0, 1) := by decide +kernel
theorem dX12_lawOf_114 : decode cX12_lawOf 114 = .ok (.bipush 99, 2) := by decide +kernel
theorem dX12_lawOf_116 : decode cX12_lawOf 116 = .ok (.invokestatic 408, 3) := by decide +kernel
theorem dX12_lawOf_119 : decode cX12_lawOf 119 = .ok (.ireturn, 1) := by decide +kernel
theorem dX12_shareOf_0 : decode cX12_shareOf 0 = .ok (.aload_n 0, 1) := by decide +kernel
theorem dX12_shareOf_1 : decode cX12_shareOf 1 = .ok (.iload_n 2, 1) := by decide +kernel
theorem dX12_shareOf_2 : decode cX12_shareOf 2 = .ok (.iload_n 1, 1) := by decide +kernel
theorem dX12_shareOf_3 : decode cX12_shareOf 3 = .ok (.iload_n 1, 1) := by decide +kernel
theorem dX12_shareOf_4 : decode cX12_shareOf 4 = .ok (.iload 4, 2) := by decide +kernel
theorem dX12_shareOf_6 : decode cX12_shareOf 6 = .ok (.invokestatic 402, 3) := by decide +kernel
theorem dX12_shareOf_9 : decode cX12_shareOf 9 = .ok (.iload_n 3, 1) := by decide +kernel
theorem dX12_shareOf_10 : decode cX12_shareOf 10 = .ok (.iload_n 1, 1) := by decide +kernel
theorem dX12_shareOf_11 : decode cX12_shareOf 11 = .ok (.iload 4, 2) := by decide +kernel
theorem dX12_shareOf_13 : decode cX12_shareOf 13 = .ok (.if_icmp .ne 7, 3) := by decide +kernel
theorem dX12_shareOf_16 : decode cX12_shareOf 16 = .ok (.iconst 1, 1) := by decide +kernel
theorem dX12_shareOf_17 : decode cX12_shareOf 17 = .ok (.goto 4, 3) := by decide +kernel
theorem dX12_shareOf_20 : decode cX12_shareOf 20 = .ok (.iconst 0, 1) := by decide +kernel
theorem dX12_shareOf_21 : decode cX12_shareOf 21 = .ok (.invokevirtual 412, 3) := by decide +kernel
theorem dX12_shareOf_24 : decode cX12_shareOf 24 = .ok (.istore 5, 2) := by decide +kernel
theorem dX12_shareOf_26 : decode cX12_shareOf 26 = .ok (.iload_n 1, 1) := by decide +kernel
theorem dX12_shareOf_27 : decode cX12_shareOf 27 = .ok (.iload 4, 2) := by decide +kernel
theorem dX12_shareOf_29 : decode cX12_shareOf 29 = .ok (.if_icmp .ne 23, 3) := by decide +kernel
theorem dX12_shareOf_32 : decode cX12_shareOf 32 = .ok (.aload_n 0, 1) := by decide +kernel
theorem dX12_shareOf_33 : decode cX12_shareOf 33 = .ok (.getfield 23, 3) := by decide +kernel
theorem dX12_shareOf_36 : decode cX12_shareOf 36 = .ok (.iload_n 1, 1) := by decide +kernel
theorem dX12_shareOf_37 : decode cX12_shareOf 37 = .ok (.iaload, 1) := by decide +kernel
theorem dX12_shareOf_38 : decode cX12_shareOf 38 = .ok (.iconst 1, 1) := by decide +kernel
theorem dX12_shareOf_39 : decode cX12_shareOf 39 = .ok (.if_icmp .ne 10, 3) := by decide +kernel
theorem dX12_shareOf_42 : decode cX12_shareOf 42 = .ok (.iconst 2, 1) := by decide +kernel
theorem dX12_shareOf_43 : decode cX12_shareOf 43 = .ok (.iload 5, 2) := by decide +kernel
theorem dX12_shareOf_45 : decode cX12_shareOf 45 = .ok (.imul, 1) := by decide +kernel
theorem dX12_shareOf_46 : decode cX12_shareOf 46 = .ok (.goto 5, 3) := by decide +kernel
theorem dX12_shareOf_49 : decode cX12_shareOf 49 = .ok (.iload 5, 2) := by decide +kernel
theorem dX12_shareOf_51 : decode cX12_shareOf 51 = .ok (.ireturn, 1) := by decide +kernel
theorem dX12_shareOf_52 : decode cX12_shareOf 52 = .ok (.aload_n 0, 1) := by decide +kernel
theorem dX12_shareOf_53 : decode cX12_shareOf 53 = .ok (.getfield 23, 3) := by decide +kernel
theorem dX12_shareOf_56 : decode cX12_shareOf 56 = .ok (.iload_n 1, 1) := by decide +kernel
theorem dX12_shareOf_57 : decode cX12_shareOf 57 = .ok (.iaload, 1) := by decide +kernel
theorem dX12_shareOf_58 : decode cX12_shareOf 58 = .ok (.iconst 2, 1) := by decide +kernel
theorem dX12_shareOf_59 : decode cX12_shareOf 59 = .ok (.if_icmp .ne 10, 3) := by decide +kernel
theorem dX12_shareOf_62 : decode cX12_shareOf 62 = .ok (.iload 5, 2) := by decide +kernel
theorem dX12_shareOf_64 : decode cX12_shareOf 64 = .ok (.iconst 1, 1) := by decide +kernel
theorem dX12_shareOf_65 : decode cX12_shareOf 65 = .ok (.iadd, 1) := by decide +kernel
theorem dX12_shareOf_66 : decode cX12_shareOf 66 = .ok (.goto 26, 3) := by decide +kernel
theorem dX12_shareOf_69 : decode cX12_shareOf 69 = .ok (.aload_n 0, 1) := by decide +kernel
theorem dX12_shareOf_70 : decode cX12_shareOf 70 = .ok (.getfield 23, 3) := by decide +kernel
theorem dX12_shareOf_73 : decode cX12_shareOf 73 = .ok (.iload_n 1, 1) := by decide +kernel
theorem dX12_shareOf_74 : decode cX12_shareOf 74 = .ok (.iaload, 1) := by decide +kernel
theorem dX12_shareOf_75 : decode cX12_shareOf 75 = .ok (.iconst 3, 1) := by decide +kernel
theorem dX12_shareOf_76 : decode cX12_shareOf 76 = .ok (.if_icmp .ne 14, 3) := by decide +kernel
theorem dX12_shareOf_79 : decode cX12_shareOf 79 = .ok (.iconst 0, 1) := by decide +kernel
theorem dX12_shareOf_80 : decode cX12_shareOf 80 = .ok (.iload 5, 2) := by decide +kernel
theorem dX12_shareOf_82 : decode cX12_shareOf 82 = .ok (.iconst 1, 1) := by decide +kernel
theorem dX12_shareOf_83 : decode cX12_shareOf 83 = .ok (.isub, 1) := by decide +kernel
theorem dX12_shareOf_84 : decode cX12_shareOf 84 = .ok (.invokestatic 416, 3) := by decide +kernel
theorem dX12_shareOf_87 : decode cX12_shareOf 87 = .ok (.goto 5, 3) := by decide +kernel
theorem dX12_shareOf_90 : decode cX12_shareOf 90 = .ok (.iload 5, 2) := by decide +kernel
theorem dX12_shareOf_92 : decode cX12_shareOf 92 = .ok (.ireturn, 1) := by decide +kernel
theorem dX12_fills_0 : decode cX12_fills 0 = .ok (.aload_n 0, 1) := by decide +kernel
theorem dX12_fills_1 : decode cX12_fills 1 = .ok (.getfield 117, 3) := by decide +kernel
theorem dX12_fills_4 : decode cX12_fills 4 = .ok (.iconst 3, 1) := by decide +kernel
theorem dX12_fills_5 : decode cX12_fills 5 = .ok (.iload_n 1, 1) := by decide +kernel
theorem dX12_fills_6 : decode cX12_fills 6 = .ok (.iadd, 1) := by decide +kernel
theorem dX12_fills_7 : decode cX12_fills 7 = .ok (.bipush 99, 2) := by decide +kernel
theorem dX12_fills_9 : decode cX12_fills 9 = .ok (.aload_n 0, 1) := by decide +kernel
theorem dX12_fills_10 : decode cX12_fills 10 = .ok (.getfield 117, 3) := by decide +kernel
theorem dX12_fills_13 : decode cX12_fills 13 = .ok (.iconst 3, 1) := by decide +kernel
theorem dX12_fills_14 : decode cX12_fills 14 = .ok (.iload_n 1, 1) := by decide +kernel
theorem dX12_fills_15 : decode cX12_fills 15 = .ok (.iadd, 1) := by decide +kernel
theorem dX12_fills_16 : decode cX12_fills 16 = .ok (.iaload, 1) := by decide +kernel
theorem dX12_fills_17 : decode cX12_fills 17 = .ok (.iload_n 2, 1) := by decide +kernel
theorem dX12_fills_18 : decode cX12_fills 18 = .ok (.iadd, 1) := by decide +kernel
theorem dX12_fills_19 : decode cX12_fills 19 = .ok (.invokestatic 421, 3) := by decide +kernel
theorem dX12_fills_22 : decode cX12_fills 22 = .ok (.iastore, 1) := by decide +kernel
theorem dX12_fills_23 : decode cX12_fills 23 = .ok (.return_, 1) := by decide +kernel
theorem dX12_ends_0 : decode cX12_ends 0 = .ok (.aload_n 0, 1) := by decide +kernel
theorem dX12_ends_1 : decode cX12_ends 1 = .ok (.iconst 0, 1) := by decide +kernel
theorem dX12_ends_2 : decode cX12_ends 2 = .ok (.putfield 424, 3) := by decide +kernel
theorem dX12_ends_5 : decode cX12_ends 5 = .ok (.iconst 0, 1) := by decide +kernel
theorem dX12_ends_6 : decode cX12_ends 6 = .ok (.istore_n 1, 1) := by decide +kernel
theorem dX12_ends_7 : decode cX12_ends 7 = .ok (.iload_n 1, 1) := by decide +kernel
theorem dX12_ends_8 : decode cX12_ends 8 = .ok (.aload_n 0, 1) := by decide +kernel
theorem dX12_ends_9 : decode cX12_ends 9 = .ok (.getfield 13, 3) := by decide +kernel
theorem dX12_ends_12 : decode cX12_ends 12 = .ok (.iconst 0, 1) := by decide +kernel
theorem dX12_ends_13 : decode cX12_ends 13 = .ok (.iaload, 1) := by decide +kernel
theorem dX12_ends_14 : decode cX12_ends 14 = .ok (.if_icmp .ge 104, 3) := by decide +kernel
theorem dX12_ends_17 : decode cX12_ends 17 = .ok (.aload_n 0, 1) := by decide +kernel
theorem dX12_ends_18 : decode cX12_ends 18 = .ok (.getfield 117, 3) := by decide +kernel
theorem dX12_ends_21 : decode cX12_ends 21 = .ok (.iconst 3, 1) := by decide +kernel
theorem dX12_ends_22 : decode cX12_ends 22 = .ok (.iload_n 1, 1) := by decide +kernel
theorem dX12_ends_23 : decode cX12_ends 23 = .ok (.iadd, 1) := by decide +kernel
theorem dX12_ends_24 : decode cX12_ends 24 = .ok (.iaload, 1) := by decide +kernel
theorem dX12_ends_25 : decode cX12_ends 25 = .ok (.aload_n 0, 1) := by decide +kernel
theorem dX12_ends_26 : decode cX12_ends 26 = .ok (.getfield 26, 3) := by decide +kernel
theorem dX12_ends_29 : decode cX12_ends 29 = .ok (.iload_n 1, 1) := by decide +kernel
theorem dX12_ends_30 : decode cX12_ends 30 = .ok (.iaload, 1) := by decide +kernel
theorem dX12_ends_31 : decode cX12_ends 31 = .ok (.if_icmp .ge 7, 3) := by decide +kernel
theorem dX12_ends_34 : decode cX12_ends 34 = .ok (.iconst 1, 1) := by decide +kernel
theorem dX12_ends_35 : decode cX12_ends 35 = .ok (.goto 4, 3) := by decide +kernel
theorem dX12_ends_38 : decode cX12_ends 38 = .ok (.iconst 0, 1) := by decide +kernel
theorem dX12_ends_39 : decode cX12_ends 39 = .ok (.istore_n 2, 1) := by decide +kernel
theorem dX12_ends_40 : decode cX12_ends 40 = .ok (.aload_n 0, 1) := by decide +kernel
theorem dX12_ends_41 : decode cX12_ends 41 = .ok (.getfield 117, 3) := by decide +kernel
theorem dX12_ends_44 : decode cX12_ends 44 = .ok (.iconst 3, 1) := by decide +kernel
theorem dX12_ends_45 : decode cX12_ends 45 = .ok (.iload_n 1, 1) := by decide +kernel
theorem dX12_ends_46 : decode cX12_ends 46 = .ok (.iadd, 1) := by decide +kernel
theorem dX12_ends_47 : decode cX12_ends 47 = .ok (.iload_n 2, 1) := by decide +kernel
theorem dX12_ends_48 : decode cX12_ends 48 = .ok (.ifCond .eq 7, 3) := by decide +kernel
theorem dX12_ends_51 : decode cX12_ends 51 = .ok (.iconst 0, 1) := by decide +kernel
theorem dX12_ends_52 : decode cX12_ends 52 = .ok (.goto 18, 3) := by decide +kernel
theorem dX12_ends_55 : decode cX12_ends 55 = .ok (.aload_n 0, 1) := by decide +kernel
theorem dX12_ends_56 : decode cX12_ends 56 = .ok (.getfield 117, 3) := by decide +kernel
theorem dX12_ends_59 : decode cX12_ends 59 = .ok (.iconst 3, 1) := by decide +kernel
theorem dX12_ends_60 : decode cX12_ends 60 = .ok (.iload_n 1, 1) := by decide +kernel
theorem dX12_ends_61 : decode cX12_ends 61 = .ok (.iadd, 1) := by decide +kernel
theorem dX12_ends_62 : decode cX12_ends 62 = .ok (.iaload, 1) := by decide +kernel
theorem dX12_ends_63 : decode cX12_ends 63 = .ok (.aload_n 0, 1) := by decide +kernel
theorem dX12_ends_64 : decode cX12_ends 64 = .ok (.getfield 26, 3) := by decide +kernel
theorem dX12_ends_67 : decode cX12_ends 67 = .ok (.iload_n 1, 1) := by decide +kernel
theorem dX12_ends_68 : decode cX12_ends 68 = .ok (.iaload, 1) := by decide +kernel
theorem dX12_ends_69 : decode cX12_ends 69 = .ok (.isub, 1) := by decide +kernel
theorem dX12_ends_70 : decode cX12_ends 70 = .ok (.iastore, 1) := by decide +kernel
theorem dX12_ends_71 : decode cX12_ends 71 = .ok (.aload_n 0, 1) := by decide +kernel
theorem dX12_ends_72 : decode cX12_ends 72 = .ok (.getfield 117, 3) := by decide +kernel
theorem dX12_ends_75 : decode cX12_ends 75 = .ok (.bipush 15, 2) := by decide +kernel
theorem dX12_ends_77 : decode cX12_ends 77 = .ok (.iload_n 1, 1) := by decide +kernel
theorem dX12_ends_78 : decode cX12_ends 78 = .ok (.iadd, 1) := by decide +kernel
theorem dX12_ends_79 : decode cX12_ends 79 = .ok (.dup2, 1) := by decide +kernel
theorem dX12_ends_80 : decode cX12_ends 80 = .ok (.iaload, 1) := by decide +kernel
theorem dX12_ends_81 : decode cX12_ends 81 = .ok (.iload_n 2, 1) := by decide +kernel
theorem dX12_ends_82 : decode cX12_ends 82 = .ok (.ifCond .eq 7, 3) := by decide +kernel
theorem dX12_ends_85 : decode cX12_ends 85 = .ok (.iconst 1, 1) := by decide +kernel
theorem dX12_ends_86 : decode cX12_ends 86 = .ok (.goto 4, 3) := by decide +kernel
theorem dX12_ends_89 : decode cX12_ends 89 = .ok (.iconst 0, 1) := by decide +kernel
theorem dX12_ends_90 : decode cX12_ends 90 = .ok (.iadd, 1) := by decide +kernel
theorem dX12_ends_91 : decode cX12_ends 91 = .ok (.iastore, 1) := by decide +kernel
theorem dX12_ends_92 : decode cX12_ends 92 = .ok (.aload_n 0, 1) := by decide +kernel
theorem dX12_ends_93 : decode cX12_ends 93 = .ok (.aload_n 0, 1) := by decide +kernel
theorem dX12_ends_94 : decode cX12_ends 94 = .ok (.getfield 424, 3) := by decide +kernel
theorem dX12_ends_97 : decode cX12_ends 97 = .ok (.ifCond .ne 7, 3) := by decide +kernel
theorem dX12_ends_100 : decode cX12_ends 100 = .ok (.iload_n 2, 1) := by decide +kernel
theorem dX12_ends_101 : decode cX12_ends 101 = .ok (.ifCond .eq 7, 3) := by decide +kernel
theorem dX12_ends_104 : decode cX12_ends 104 = .ok (.iconst 1, 1) := by decide +kernel
theorem dX12_ends_105 : decode cX12_ends 105 = .ok (.goto 4, 3) := by decide +kernel
theorem dX12_ends_108 : decode cX12_ends 108 = .ok (.iconst 0, 1) := by decide +kernel
theorem dX12_ends_109 : decode cX12_ends 109 = .ok (.putfield 424, 3) := by decide +kernel
theorem dX12_ends_112 : decode cX12_ends 112 = .ok (.iinc 1 1, 3) := by decide +kernel
theorem dX12_ends_115 : decode cX12_ends 115 = .ok (.goto (-108), 3) := by decide +kernel
theorem dX12_ends_118 : decode cX12_ends 118 = .ok (.aload_n 0, 1) := by decide +kernel
theorem dX12_ends_119 : decode cX12_ends 119 = .ok (.getfield 117, 3) := by decide +kernel
theorem dX12_ends_122 : decode cX12_ends 122 = .ok (.iconst 0, 1) := by decide +kernel
theorem dX12_ends_123 : decode cX12_ends 123 = .ok (.dup2, 1) := by decide +kernel
theorem dX12_ends_124 : decode cX12_ends 124 = .ok (.iaload, 1) := by decide +kernel
theorem dX12_ends_125 : decode cX12_ends 125 = .ok (.iconst 1, 1) := by decide +kernel
theorem dX12_ends_126 : decode cX12_ends 126 = .ok (.iadd, 1) := by decide +kernel
theorem dX12_ends_127 : decode cX12_ends 127 = .ok (.iastore, 1) := by decide +kernel
theorem dX12_ends_128 : decode cX12_ends 128 = .ok (.return_, 1) := by decide +kernel
theorem dX12_eats_0 : decode cX12_eats 0 = .ok (.aload_n 0, 1) := by decide +kernel
theorem dX12_eats_1 : decode cX12_eats 1 = .ok (.iload_n 1, 1) := by decide +kernel
theorem dX12_eats_2 : decode cX12_eats 2 = .ok (.invokevirtual 428, 3) := by decide +kernel
theorem dX12_eats_5 : decode cX12_eats 5 = .ok (.ifCond .ne 7, 3) := by decide +kernel
theorem dX12_eats_8 : decode cX12_eats 8 = .ok (.iconst 1, 1) := by decide +kernel
theorem dX12_eats_9 : decode cX12_eats 9 = .ok (.goto 4, 3) := by decide +kernel
theorem dX12_eats_12 : decode cX12_eats 12 = .ok (.iconst 0, 1) := by decide +kernel
theorem dX12_eats_13 : decode cX12_eats 13 = .ok (.istore 4, 2) := by decide +kernel
theorem dX12_eats_15 : decode cX12_eats 15 = .ok (.aload_n 0, 1) := by decide +kernel
theorem dX12_eats_16 : decode cX12_eats 16 = .ok (.invokevirtual 431, 3) := by decide +kernel
theorem dX12_eats_19 : decode cX12_eats 19 = .ok (.istore 5, 2) := by decide +kernel
theorem dX12_eats_21 : decode cX12_eats 21 = .ok (.aload_n 0, 1) := by decide +kernel
theorem dX12_eats_22 : decode cX12_eats 22 = .ok (.getfield 117, 3) := by decide +kernel
theorem dX12_eats_25 : decode cX12_eats 25 = .ok (.iconst 1, 1) := by decide +kernel
theorem dX12_eats_26 : decode cX12_eats 26 = .ok (.dup2, 1) := by decide +kernel
theorem dX12_eats_27 : decode cX12_eats 27 = .ok (.iaload, 1) := by decide +kernel
theorem dX12_eats_28 : decode cX12_eats 28 = .ok (.aload_n 0, 1) := by decide +kernel
theorem dX12_eats_29 : decode cX12_eats 29 = .ok (.iload_n 1, 1) := by decide +kernel
theorem dX12_eats_30 : decode cX12_eats 30 = .ok (.iload_n 2, 1) := by decide +kernel
theorem dX12_eats_31 : decode cX12_eats 31 = .ok (.invokevirtual 398, 3) := by decide +kernel
theorem dX12_eats_34 : decode cX12_eats 34 = .ok (.isub, 1) := by decide +kernel
theorem dX12_eats_35 : decode cX12_eats 35 = .ok (.iastore, 1) := by decide +kernel
theorem dX12_eats_36 : decode cX12_eats 36 = .ok (.iconst 0, 1) := by decide +kernel
theorem dX12_eats_37 : decode cX12_eats 37 = .ok (.istore 6, 2) := by decide +kernel
theorem dX12_eats_39 : decode cX12_eats 39 = .ok (.iload 6, 2) := by decide +kernel
theorem dX12_eats_41 : decode cX12_eats 41 = .ok (.aload_n 0, 1) := by decide +kernel
theorem dX12_eats_42 : decode cX12_eats 42 = .ok (.getfield 13, 3) := by decide +kernel
theorem dX12_eats_45 : decode cX12_eats 45 = .ok (.iconst 0, 1) := by decide +kernel
theorem dX12_eats_46 : decode cX12_eats 46 = .ok (.iaload, 1) := by decide +kernel
theorem dX12_eats_47 : decode cX12_eats 47 = .ok (.if_icmp .ge 40, 3) := by decide +kernel
theorem dX12_eats_50 : decode cX12_eats 50 = .ok (.iload 4, 2) := by decide +kernel
theorem dX12_eats_52 : decode cX12_eats 52 = .ok (.ifCond .eq 29, 3) := by decide +kernel
theorem dX12_eats_55 : decode cX12_eats 55 = .ok (.iload 5, 2) := by decide +kernel
theorem dX12_eats_57 : decode cX12_eats 57 = .ok (.iload 6, 2) := by decide +kernel
theorem dX12_eats_59 : decode cX12_eats 59 = .ok (.ishr, 1) := by decide +kernel
theorem dX12_eats_60 : decode cX12_eats 60 = .ok (.iconst 1, 1) := by decide +kernel
theorem dX12_eats_61 : decode cX12_eats 61 = .ok (.iand, 1) := by decide +kernel
theorem dX12_eats_62 : decode cX12_eats 62 = .ok (.iconst 1, 1) := by decide +kernel
theorem dX12_eats_63 : decode cX12_eats 63 = .ok (.if_icmp .ne 18, 3) := by decide +kernel
theorem dX12_eats_66 : decode cX12_eats 66 = .ok (.aload_n 0, 1) := by decide +kernel
theorem dX12_eats_67 : decode cX12_eats 67 = .ok (.iload 6, 2) := by decide +kernel
theorem dX12_eats_69 : decode cX12_eats 69 = .ok (.aload_n 0, 1) := by decide +kernel
theorem dX12_eats_70 : decode cX12_eats 70 = .ok (.iload_n 1, 1) := by decide +kernel
theorem dX12_eats_71 : decode cX12_eats 71 = .ok (.iload_n 2, 1) := by decide +kernel
theorem dX12_eats_72 : decode cX12_eats 72 = .ok (.iload_n 3, 1) := by decide +kernel
theorem dX12_eats_73 : decode cX12_eats 73 = .ok (.iload 6, 2) := by decide +kernel
theorem dX12_eats_75 : decode cX12_eats 75 = .ok (.invokevirtual 434, 3) := by decide +kernel
theorem dX12_eats_78 : decode cX12_eats 78 = .ok (.invokevirtual 438, 3) := by decide +kernel
theorem dX12_eats_81 : decode cX12_eats 81 = .ok (.iinc 6 1, 3) := by decide +kernel
theorem dX12_eats_84 : decode cX12_eats 84 = .ok (.goto (-45), 3) := by decide +kernel
theorem dX12_eats_87 : decode cX12_eats 87 = .ok (.aload_n 0, 1) := by decide +kernel
theorem dX12_eats_88 : decode cX12_eats 88 = .ok (.getfield 117, 3) := by decide +kernel
theorem dX12_eats_91 : decode cX12_eats 91 = .ok (.iconst 2, 1) := by decide +kernel
theorem dX12_eats_92 : decode cX12_eats 92 = .ok (.dup2, 1) := by decide +kernel
theorem dX12_eats_93 : decode cX12_eats 93 = .ok (.iaload, 1) := by decide +kernel
theorem dX12_eats_94 : decode cX12_eats 94 = .ok (.iload 4, 2) := by decide +kernel
theorem dX12_eats_96 : decode cX12_eats 96 = .ok (.ifCond .eq 7, 3) := by decide +kernel
theorem dX12_eats_99 : decode cX12_eats 99 = .ok (.iconst 0, 1) := by decide +kernel
theorem dX12_eats_100 : decode cX12_eats 100 = .ok (.goto 4, 3) := by decide +kernel
theorem dX12_eats_103 : decode cX12_eats 103 = .ok (.iconst 1, 1) := by decide +kernel
theorem dX12_eats_104 : decode cX12_eats 104 = .ok (.iadd, 1) := by decide +kernel
theorem dX12_eats_105 : decode cX12_eats 105 = .ok (.iastore, 1) := by decide +kernel
theorem dX12_eats_106 : decode cX12_eats 106 = .ok (.aload_n 0, 1) := by decide +kernel
theorem dX12_eats_107 : decode cX12_eats 107 = .ok (.getfield 117, 3) := by decide +kernel
theorem dX12_eats_110 : decode cX12_eats 110 = .ok (.bipush 9, 2) := by decide +kernel
theorem dX12_eats_112 : decode cX12_eats 112 = .ok (.iload_n 1, 1) := by decide +kernel
theorem dX12_eats_113 : decode cX12_eats 113 = .ok (.iadd, 1) := by decide +kernel
theorem dX12_eats_114 : decode cX12_eats 114 = .ok (.aload_n 0, 1) := by decide +kernel
theorem dX12_eats_115 : decode cX12_eats 115 = .ok (.getfield 117, 3) := by decide +kernel
theorem dX12_eats_118 : decode cX12_eats 118 = .ok (.iconst 0, 1) := by decide +kernel
theorem dX12_eats_119 : decode cX12_eats 119 = .ok (.iaload, 1) := by decide +kernel
theorem dX12_eats_120 : decode cX12_eats 120 = .ok (.iastore, 1) := by decide +kernel
theorem dX12_eats_121 : decode cX12_eats 121 = .ok (.aload_n 0, 1) := by decide +kernel
theorem dX12_eats_122 : decode cX12_eats 122 = .ok (.invokevirtual 441, 3) := by decide +kernel
theorem dX12_eats_125 : decode cX12_eats 125 = .ok (.iload 4, 2) := by decide +kernel
theorem dX12_eats_127 : decode cX12_eats 127 = .ok (.ireturn, 1) := by decide +kernel
theorem dX12_aloneOf_0 : decode cX12_aloneOf 0 = .ok (.aload_n 0, 1) := by decide +kernel
theorem dX12_aloneOf_1 : decode cX12_aloneOf 1 = .ok (.iload_n 2, 1) := by decide +kernel
theorem dX12_aloneOf_2 : decode cX12_aloneOf 2 = .ok (.iload_n 1, 1) := by decide +kernel
theorem dX12_aloneOf_3 : decode cX12_aloneOf 3 = .ok (.iconst 0, 1) := by decide +kernel
theorem dX12_aloneOf_4 : decode cX12_aloneOf 4 = .ok (.iconst 0, 1) := by decide +kernel
theorem dX12_aloneOf_5 : decode cX12_aloneOf 5 = .ok (.iconst 1, 1) := by decide +kernel
theorem dX12_aloneOf_6 : decode cX12_aloneOf 6 = .ok (.invokevirtual 412, 3) := by decide +kernel
theorem dX12_aloneOf_9 : decode cX12_aloneOf 9 = .ok (.ireturn, 1) := by decide +kernel
theorem dX12_person_0 : decode cX12_person 0 = .ok (.aload_n 0, 1) := by decide +kernel
theorem dX12_person_1 : decode cX12_person 1 = .ok (.iconst 0, 1) := by decide +kernel
theorem dX12_person_2 : decode cX12_person 2 = .ok (.putfield 156, 3) := by decide +kernel
theorem dX12_person_5 : decode cX12_person 5 = .ok (.aload_n 0, 1) := by decide +kernel
theorem dX12_person_6 : decode cX12_person 6 = .ok (.iload_n 1, 1) := by decide +kernel
theorem dX12_person_7 : decode cX12_person 7 = .ok (.invokevirtual 444, 3) := by decide +kernel
theorem dX12_person_10 : decode cX12_person 10 = .ok (.ifCond .eq 13, 3) := by decide +kernel
theorem dX12_person_13 : decode cX12_person 13 = .ok (.iload_n 2, 1) := by decide +kernel
theorem dX12_person_14 : decode cX12_person 14 = .ok (.iconst 0, 1) := by decide +kernel
theorem dX12_person_15 : decode cX12_person 15 = .ok (.bipush 7, 2) := by decide +kernel
theorem dX12_person_17 : decode cX12_person 17 = .ok (.invokestatic 293, 3) := by decide +kernel
theorem dX12_person_20 : decode cX12_person 20 = .ok (.ifCond .ne 5, 3) := by decide +kernel
theorem dX12_person_23 : decode cX12_person 23 = .ok (.iconst (-1), 1) := by decide +kernel
theorem dX12_person_24 : decode cX12_person 24 = .ok (.ireturn, 1) := by decide +kernel
theorem dX12_person_25 : decode cX12_person 25 = .ok (.iload_n 2, 1) := by decide +kernel
theorem dX12_person_26 : decode cX12_person 26 = .ok (.iconst 4, 1) := by decide +kernel
theorem dX12_person_27 : decode cX12_person 27 = .ok (.if_icmp .ge 51, 3) := by decide +kernel
theorem dX12_person_30 : decode cX12_person 30 = .ok (.iload_n 2, 1) := by decide +kernel
theorem dX12_person_31 : decode cX12_person 31 = .ok (.ifCond .ne 12, 3) := by decide +kernel
theorem dX12_person_34 : decode cX12_person 34 = .ok (.aload_n 0, 1) := by decide +kernel
theorem dX12_person_35 : decode cX12_person 35 = .ok (.getfield 23, 3) := by decide +kernel
theorem dX12_person_38 : decode cX12_person 38 = .ok (.iload_n 1, 1) := by decide +kernel
theorem dX12_person_39 : decode cX12_person 39 = .ok (.iaload, 1) := by decide +kernel
theorem dX12_person_40 : decode cX12_person 40 = .ok (.goto 37, 3) := by decide +kernel
theorem dX12_person_43 : decode cX12_person 43 = .ok (.iload_n 2, 1) := by decide +kernel
theorem dX12_person_44 : decode cX12_person 44 = .ok (.iconst 1, 1) := by decide +kernel
theorem dX12_person_45 : decode cX12_person 45 = .ok (.if_icmp .ne 12, 3) := by decide +kernel
theorem dX12_person_48 : decode cX12_person 48 = .ok (.aload_n 0, 1) := by decide +kernel
theorem dX12_person_49 : decode cX12_person 49 = .ok (.getfield 26, 3) := by decide +kernel
theorem dX12_person_52 : decode cX12_person 52 = .ok (.iload_n 1, 1) := by decide +kernel
theorem dX12_person_53 : decode cX12_person 53 = .ok (.iaload, 1) := by decide +kernel
theorem dX12_person_54 : decode cX12_person 54 = .ok (.goto 23, 3) := by decide +kernel
theorem dX12_person_57 : decode cX12_person 57 = .ok (.iload_n 2, 1) := by decide +kernel
theorem dX12_person_58 : decode cX12_person 58 = .ok (.iconst 2, 1) := by decide +kernel
theorem dX12_person_59 : decode cX12_person 59 = .ok (.if_icmp .ne 12, 3) := by decide +kernel
theorem dX12_person_62 : decode cX12_person 62 = .ok (.aload_n 0, 1) := by decide +kernel
theorem dX12_person_63 : decode cX12_person 63 = .ok (.getfield 29, 3) := by decide +kernel
theorem dX12_person_66 : decode cX12_person 66 = .ok (.iload_n 1, 1) := by decide +kernel
theorem dX12_person_67 : decode cX12_person 67 = .ok (.iaload, 1) := by decide +kernel
theorem dX12_person_68 : decode cX12_person 68 = .ok (.goto 9, 3) := by decide +kernel
theorem dX12_person_71 : decode cX12_person 71 = .ok (.aload_n 0, 1) := by decide +kernel
theorem dX12_person_72 : decode cX12_person 72 = .ok (.getfield 32, 3) := by decide +kernel
theorem dX12_person_75 : decode cX12_person 75 = .ok (.iload_n 1, 1) := by decide +kernel
theorem dX12_person_76 : decode cX12_person 76 = .ok (.iaload, 1) := by decide +kernel
theorem dX12_person_77 : decode cX12_person 77 = .ok (.ireturn, 1) := by decide +kernel
theorem dX12_person_78 : decode cX12_person 78 = .ok (.iload_n 2, 1) := by decide +kernel
theorem dX12_person_79 : decode cX12_person 79 = .ok (.iconst 5, 1) := by decide +kernel
theorem dX12_person_80 : decode cX12_person 80 = .ok (.if_icmp .ne 17, 3) := by decide +kernel
theorem dX12_person_83 : decode cX12_person 83 = .ok (.aload_n 0, 1) := by decide +kernel
theorem dX12_person_84 : decode cX12_person 84 = .ok (.iload_n 1, 1) := by decide +kernel
theorem dX12_person_85 : decode cX12_person 85 = .ok (.invokevirtual 395, 3) := by decide +kernel
theorem dX12_person_88 : decode cX12_person 88 = .ok (.ifCond .eq 7, 3) := by decide +kernel
theorem dX12_person_91 : decode cX12_person 91 = .ok (.iconst 0, 1) := by decide +kernel
theorem dX12_person_92 : decode cX12_person 92 = .ok (.goto 4, 3) := by decide +kernel
theorem dX12_person_95 : decode cX12_person 95 = .ok (.iconst 1, 1) := by decide +kernel
theorem dX12_person_96 : decode cX12_person 96 = .ok (.ireturn, 1) := by decide +kernel
theorem dX12_person_97 : decode cX12_person 97 = .ok (.aload_n 0, 1) := by decide +kernel
theorem dX12_person_98 : decode cX12_person 98 = .ok (.getfield 117, 3) := by decide +kernel
theorem dX12_person_101 : decode cX12_person 101 = .ok (.iload_n 2, 1) := by decide +kernel
theorem dX12_person_102 : decode cX12_person 102 = .ok (.iconst 4, 1) := by decide +kernel
theorem dX12_person_103 : decode cX12_person 103 = .ok (.if_icmp .ne 7, 3) := by decide +kernel
theorem dX12_person_106 : decode cX12_person 106 = .ok (.iconst 3, 1) := by decide +kernel
theorem dX12_person_107 : decode cX12_person 107 = .ok (.goto 16, 3) := by decide +kernel
theorem dX12_person_110 : decode cX12_person 110 = .ok (.iload_n 2, 1) := by decide +kernel
theorem dX12_person_111 : decode cX12_person 111 = .ok (.bipush 6, 2) := by decide +kernel
theorem dX12_person_113 : decode cX12_person 113 = .ok (.if_icmp .ne 8, 3) := by decide +kernel
theorem dX12_person_116 : decode cX12_person 116 = .ok (.bipush 9, 2) := by decide +kernel
theorem dX12_person_118 : decode cX12_person 118 = .ok (.goto 5, 3) := by decide +kernel
theorem dX12_person_121 : decode cX12_person 121 = .ok (.bipush 15, 2) := by decide +kernel
theorem dX12_person_123 : decode cX12_person 123 = .ok (.iload_n 1, 1) := by decide +kernel
theorem dX12_person_124 : decode cX12_person 124 = .ok (.iadd, 1) := by decide +kernel
theorem dX12_person_125 : decode cX12_person 125 = .ok (.iaload, 1) := by decide +kernel
theorem dX12_person_126 : decode cX12_person 126 = .ok (.ireturn, 1) := by decide +kernel
theorem dX12_dish_0 : decode cX12_dish 0 = .ok (.aload_n 0, 1) := by decide +kernel
theorem dX12_dish_1 : decode cX12_dish 1 = .ok (.iconst 0, 1) := by decide +kernel
theorem dX12_dish_2 : decode cX12_dish 2 = .ok (.putfield 156, 3) := by decide +kernel
theorem dX12_dish_5 : decode cX12_dish 5 = .ok (.aload_n 0, 1) := by decide +kernel
theorem dX12_dish_6 : decode cX12_dish 6 = .ok (.iload_n 1, 1) := by decide +kernel
theorem dX12_dish_7 : decode cX12_dish 7 = .ok (.invokevirtual 447, 3) := by decide +kernel
theorem dX12_dish_10 : decode cX12_dish 10 = .ok (.ifCond .eq 12, 3) := by decide +kernel
theorem dX12_dish_13 : decode cX12_dish 13 = .ok (.iload_n 2, 1) := by decide +kernel
theorem dX12_dish_14 : decode cX12_dish 14 = .ok (.iconst 0, 1) := by decide +kernel
theorem dX12_dish_15 : decode cX12_dish 15 = .ok (.iconst 2, 1) := by decide +kernel
theorem dX12_dish_16 : decode cX12_dish 16 = .ok (.invokestatic 293, 3) := by decide +kernel
theorem dX12_dish_19 : decode cX12_dish 19 = .ok (.ifCond .ne 5, 3) := by decide +kernel
theorem dX12_dish_22 : decode cX12_dish 22 = .ok (.iconst (-1), 1) := by decide +kernel
theorem dX12_dish_23 : decode cX12_dish 23 = .ok (.ireturn, 1) := by decide +kernel
theorem dX12_dish_24 : decode cX12_dish 24 = .ok (.iload_n 2, 1) := by decide +kernel
theorem dX12_dish_25 : decode cX12_dish 25 = .ok (.ifCond .ne 12, 3) := by decide +kernel
theorem dX12_dish_28 : decode cX12_dish 28 = .ok (.aload_n 0, 1) := by decide +kernel
theorem dX12_dish_29 : decode cX12_dish 29 = .ok (.getfield 41, 3) := by decide +kernel
theorem dX12_dish_32 : decode cX12_dish 32 = .ok (.iload_n 1, 1) := by decide +kernel
theorem dX12_dish_33 : decode cX12_dish 33 = .ok (.iaload, 1) := by decide +kernel
theorem dX12_dish_34 : decode cX12_dish 34 = .ok (.goto 23, 3) := by decide +kernel
theorem dX12_dish_37 : decode cX12_dish 37 = .ok (.iload_n 2, 1) := by decide +kernel
theorem dX12_dish_38 : decode cX12_dish 38 = .ok (.iconst 1, 1) := by decide +kernel
theorem dX12_dish_39 : decode cX12_dish 39 = .ok (.if_icmp .ne 12, 3) := by decide +kernel
theorem dX12_dish_42 : decode cX12_dish 42 = .ok (.aload_n 0, 1) := by decide +kernel
theorem dX12_dish_43 : decode cX12_dish 43 = .ok (.getfield 44, 3) := by decide +kernel
theorem dX12_dish_46 : decode cX12_dish 46 = .ok (.iload_n 1, 1) := by decide +kernel
theorem dX12_dish_47 : decode cX12_dish 47 = .ok (.iaload, 1) := by decide +kernel
theorem dX12_dish_48 : decode cX12_dish 48 = .ok (.goto 9, 3) := by decide +kernel
theorem dX12_dish_51 : decode cX12_dish 51 = .ok (.aload_n 0, 1) := by decide +kernel
theorem dX12_dish_52 : decode cX12_dish 52 = .ok (.getfield 47, 3) := by decide +kernel
theorem dX12_dish_55 : decode cX12_dish 55 = .ok (.iload_n 1, 1) := by decide +kernel
theorem dX12_dish_56 : decode cX12_dish 56 = .ok (.iaload, 1) := by decide +kernel
theorem dX12_dish_57 : decode cX12_dish 57 = .ok (.ireturn, 1) := by decide +kernel
theorem dX12_would_0 : decode cX12_would 0 = .ok (.aload_n 0, 1) := by decide +kernel
theorem dX12_would_1 : decode cX12_would 1 = .ok (.iconst 0, 1) := by decide +kernel
theorem dX12_would_2 : decode cX12_would 2 = .ok (.putfield 156, 3) := by decide +kernel
theorem dX12_would_5 : decode cX12_would 5 = .ok (.aload_n 0, 1) := by decide +kernel
theorem dX12_would_6 : decode cX12_would 6 = .ok (.iload_n 1, 1) := by decide +kernel
theorem dX12_would_7 : decode cX12_would 7 = .ok (.invokevirtual 444, 3) := by decide +kernel
theorem dX12_would_10 : decode cX12_would 10 = .ok (.ifCond .eq 29, 3) := by decide +kernel
theorem dX12_would_13 : decode cX12_would 13 = .ok (.aload_n 0, 1) := by decide +kernel
theorem dX12_would_14 : decode cX12_would 14 = .ok (.iload_n 2, 1) := by decide +kernel
theorem dX12_would_15 : decode cX12_would 15 = .ok (.invokevirtual 447, 3) := by decide +kernel
theorem dX12_would_18 : decode cX12_would 18 = .ok (.ifCond .eq 21, 3) := by decide +kernel
theorem dX12_would_21 : decode cX12_would 21 = .ok (.aload_n 0, 1) := by decide +kernel
theorem dX12_would_22 : decode cX12_would 22 = .ok (.iload 4, 2) := by decide +kernel
theorem dX12_would_24 : decode cX12_would 24 = .ok (.invokevirtual 444, 3) := by decide +kernel
theorem dX12_would_27 : decode cX12_would 27 = .ok (.ifCond .eq 12, 3) := by decide +kernel
theorem dX12_would_30 : decode cX12_would 30 = .ok (.aload_n 0, 1) := by decide +kernel
theorem dX12_would_31 : decode cX12_would 31 = .ok (.iload_n 1, 1) := by decide +kernel
theorem dX12_would_32 : decode cX12_would 32 = .ok (.iload_n 2, 1) := by decide +kernel
theorem dX12_would_33 : decode cX12_would 33 = .ok (.invokevirtual 450, 3) := by decide +kernel
theorem dX12_would_36 : decode cX12_would 36 = .ok (.ifCond .ne 5, 3) := by decide +kernel
theorem dX12_would_39 : decode cX12_would 39 = .ok (.iconst (-1), 1) := by decide +kernel
theorem dX12_would_40 : decode cX12_would 40 = .ok (.ireturn, 1) := by decide +kernel
theorem dX12_would_41 : decode cX12_would 41 = .ok (.aload_n 0, 1) := by decide +kernel
theorem dX12_would_42 : decode cX12_would 42 = .ok (.iload_n 1, 1) := by decide +kernel
theorem dX12_would_43 : decode cX12_would 43 = .ok (.invokevirtual 428, 3) := by decide +kernel
theorem dX12_would_46 : decode cX12_would 46 = .ok (.ifCond .ne 12, 3) := by decide +kernel
theorem dX12_would_49 : decode cX12_would 49 = .ok (.aload_n 0, 1) := by decide +kernel
theorem dX12_would_50 : decode cX12_would 50 = .ok (.iload 4, 2) := by decide +kernel
theorem dX12_would_52 : decode cX12_would 52 = .ok (.invokevirtual 395, 3) := by decide +kernel
theorem dX12_would_55 : decode cX12_would 55 = .ok (.ifCond .eq 7, 3) := by decide +kernel
theorem dX12_would_58 : decode cX12_would 58 = .ok (.iconst 0, 1) := by decide +kernel
theorem dX12_would_59 : decode cX12_would 59 = .ok (.goto 12, 3) := by decide +kernel
theorem dX12_would_62 : decode cX12_would 62 = .ok (.aload_n 0, 1) := by decide +kernel
theorem dX12_would_63 : decode cX12_would 63 = .ok (.iload_n 1, 1) := by decide +kernel
theorem dX12_would_64 : decode cX12_would 64 = .ok (.iload_n 2, 1) := by decide +kernel
theorem dX12_would_65 : decode cX12_would 65 = .ok (.iload_n 3, 1) := by decide +kernel
theorem dX12_would_66 : decode cX12_would 66 = .ok (.iload 4, 2) := by decide +kernel
theorem dX12_would_68 : decode cX12_would 68 = .ok (.invokevirtual 434, 3) := by decide +kernel
theorem dX12_would_71 : decode cX12_would 71 = .ok (.ireturn, 1) := by decide +kernel
theorem dX12_keeps_0 : decode cX12_keeps 0 = .ok (.aload_n 0, 1) := by decide +kernel
theorem dX12_keeps_1 : decode cX12_keeps 1 = .ok (.getfield 385, 3) := by decide +kernel
theorem dX12_keeps_4 : decode cX12_keeps 4 = .ok (.bipush 16, 2) := by decide +kernel
theorem dX12_keeps_6 : decode cX12_keeps 6 = .ok (.if_icmp .ne 43, 3) := by decide +kernel
theorem dX12_keeps_9 : decode cX12_keeps 9 = .ok (.iconst 0, 1) := by decide +kernel
theorem dX12_keeps_10 : decode cX12_keeps 10 = .ok (.istore_n 1, 1) := by decide +kernel
theorem dX12_keeps_11 : decode cX12_keeps 11 = .ok (.iload_n 1, 1) := by decide +kernel
theorem dX12_keeps_12 : decode cX12_keeps 12 = .ok (.sipush 315, 3) := by decide +kernel
theorem dX12_keeps_15 : decode cX12_keeps 15 = .ok (.if_icmp .ge 24, 3) := by decide +kernel
theorem dX12_keeps_18 : decode cX12_keeps 18 = .ok (.aload_n 0, 1) := by decide +kernel
theorem dX12_keeps_19 : decode cX12_keeps 19 = .ok (.getfield 129, 3) := by decide +kernel
theorem dX12_keeps_22 : decode cX12_keeps 22 = .ok (.iload_n 1, 1) := by decide +kernel
theorem dX12_keeps_23 : decode cX12_keeps 23 = .ok (.aload_n 0, 1) := by decide +kernel
theorem dX12_keeps_24 : decode cX12_keeps 24 = .ok (.getfield 129, 3) := by decide +kernel
theorem dX12_keeps_27 : decode cX12_keeps 27 = .ok (.iload_n 1, 1) := by decide +kernel
theorem dX12_keeps_28 : decode cX12_keeps 28 = .ok (.bipush 21, 2) := by decide +kernel
theorem dX12_keeps_30 : decode cX12_keeps 30 = .ok (.iadd, 1) := by decide +kernel
theorem dX12_keeps_31 : decode cX12_keeps 31 = .ok (.iaload, 1) := by decide +kernel
theorem dX12_keeps_32 : decode cX12_keeps 32 = .ok (.iastore, 1) := by decide +kernel
theorem dX12_keeps_33 : decode cX12_keeps 33 = .ok (.iinc 1 1, 3) := by decide +kernel
theorem dX12_keeps_36 : decode cX12_keeps 36 = .ok (.goto (-25), 3) := by decide +kernel
theorem dX12_keeps_39 : decode cX12_keeps 39 = .ok (.aload_n 0, 1) := by decide +kernel
theorem dX12_keeps_40 : decode cX12_keeps 40 = .ok (.dup, 1) := by decide +kernel
theorem dX12_keeps_41 : decode cX12_keeps 41 = .ok (.getfield 385, 3) := by decide +kernel
theorem dX12_keeps_44 : decode cX12_keeps 44 = .ok (.iconst 1, 1) := by decide +kernel
theorem dX12_keeps_45 : decode cX12_keeps 45 = .ok (.isub, 1) := by decide +kernel
theorem dX12_keeps_46 : decode cX12_keeps 46 = .ok (.putfield 385, 3) := by decide +kernel
theorem dX12_keeps_49 : decode cX12_keeps 49 = .ok (.aload_n 0, 1) := by decide +kernel
theorem dX12_keeps_50 : decode cX12_keeps 50 = .ok (.getfield 117, 3) := by decide +kernel
theorem dX12_keeps_53 : decode cX12_keeps 53 = .ok (.iconst 0, 1) := by decide +kernel
theorem dX12_keeps_54 : decode cX12_keeps 54 = .ok (.aload_n 0, 1) := by decide +kernel
theorem dX12_keeps_55 : decode cX12_keeps 55 = .ok (.getfield 129, 3) := by decide +kernel
theorem dX12_keeps_58 : decode cX12_keeps 58 = .ok (.bipush 21, 2) := by decide +kernel
theorem dX12_keeps_60 : decode cX12_keeps 60 = .ok (.aload_n 0, 1) := by decide +kernel
theorem dX12_keeps_61 : decode cX12_keeps 61 = .ok (.getfield 385, 3) := by decide +kernel
theorem dX12_keeps_64 : decode cX12_keeps 64 = .ok (.imul, 1) := by decide +kernel
theorem dX12_keeps_65 : decode cX12_keeps 65 = .ok (.invokestatic 453, 3) := by decide +kernel
theorem dX12_keeps_68 : decode cX12_keeps 68 = .ok (.aload_n 0, 1) := by decide +kernel
theorem dX12_keeps_69 : decode cX12_keeps 69 = .ok (.dup, 1) := by decide +kernel
theorem dX12_keeps_70 : decode cX12_keeps 70 = .ok (.getfield 385, 3) := by decide +kernel
theorem dX12_keeps_73 : decode cX12_keeps 73 = .ok (.iconst 1, 1) := by decide +kernel
theorem dX12_keeps_74 : decode cX12_keeps 74 = .ok (.iadd, 1) := by decide +kernel
theorem dX12_keeps_75 : decode cX12_keeps 75 = .ok (.putfield 385, 3) := by decide +kernel
theorem dX12_keeps_78 : decode cX12_keeps 78 = .ok (.return_, 1) := by decide +kernel
theorem dX12_eat_0 : decode cX12_eat 0 = .ok (.aload_n 0, 1) := by decide +kernel
theorem dX12_eat_1 : decode cX12_eat 1 = .ok (.iconst 0, 1) := by decide +kernel
theorem dX12_eat_2 : decode cX12_eat 2 = .ok (.putfield 156, 3) := by decide +kernel
theorem dX12_eat_5 : decode cX12_eat 5 = .ok (.aload_n 0, 1) := by decide +kernel
theorem dX12_eat_6 : decode cX12_eat 6 = .ok (.iload_n 1, 1) := by decide +kernel
theorem dX12_eat_7 : decode cX12_eat 7 = .ok (.invokevirtual 444, 3) := by decide +kernel
theorem dX12_eat_10 : decode cX12_eat 10 = .ok (.ifCond .eq 20, 3) := by decide +kernel
theorem dX12_eat_13 : decode cX12_eat 13 = .ok (.aload_n 0, 1) := by decide +kernel
theorem dX12_eat_14 : decode cX12_eat 14 = .ok (.iload_n 2, 1) := by decide +kernel
theorem dX12_eat_15 : decode cX12_eat 15 = .ok (.invokevirtual 447, 3) := by decide +kernel
theorem dX12_eat_18 : decode cX12_eat 18 = .ok (.ifCond .eq 12, 3) := by decide +kernel
theorem dX12_eat_21 : decode cX12_eat 21 = .ok (.aload_n 0, 1) := by decide +kernel
theorem dX12_eat_22 : decode cX12_eat 22 = .ok (.iload_n 1, 1) := by decide +kernel
theorem dX12_eat_23 : decode cX12_eat 23 = .ok (.iload_n 2, 1) := by decide +kernel
theorem dX12_eat_24 : decode cX12_eat 24 = .ok (.invokevirtual 450, 3) := by decide +kernel
theorem dX12_eat_27 : decode cX12_eat 27 = .ok (.ifCond .ne 5, 3) := by decide +kernel
theorem dX12_eat_30 : decode cX12_eat 30 = .ok (.iconst (-1), 1) := by decide +kernel
theorem dX12_eat_31 : decode cX12_eat 31 = .ok (.ireturn, 1) := by decide +kernel
theorem dX12_eat_32 : decode cX12_eat 32 = .ok (.aload_n 0, 1) := by decide +kernel
theorem dX12_eat_33 : decode cX12_eat 33 = .ok (.invokevirtual 457, 3) := by decide +kernel
theorem dX12_eat_36 : decode cX12_eat 36 = .ok (.aload_n 0, 1) := by decide +kernel
theorem dX12_eat_37 : decode cX12_eat 37 = .ok (.iload_n 1, 1) := by decide +kernel
theorem dX12_eat_38 : decode cX12_eat 38 = .ok (.iload_n 2, 1) := by decide +kernel
theorem dX12_eat_39 : decode cX12_eat 39 = .ok (.iload_n 3, 1) := by decide +kernel
theorem dX12_eat_40 : decode cX12_eat 40 = .ok (.invokevirtual 460, 3) := by decide +kernel
theorem dX12_eat_43 : decode cX12_eat 43 = .ok (.ifCond .eq 7, 3) := by decide +kernel
theorem dX12_eat_46 : decode cX12_eat 46 = .ok (.iconst 1, 1) := by decide +kernel
theorem dX12_eat_47 : decode cX12_eat 47 = .ok (.goto 4, 3) := by decide +kernel
theorem dX12_eat_50 : decode cX12_eat 50 = .ok (.iconst 0, 1) := by decide +kernel
theorem dX12_eat_51 : decode cX12_eat 51 = .ok (.ireturn, 1) := by decide +kernel
theorem dX12_abroad_0 : decode cX12_abroad 0 = .ok (.aload_n 0, 1) := by decide +kernel
theorem dX12_abroad_1 : decode cX12_abroad 1 = .ok (.iconst 0, 1) := by decide +kernel
theorem dX12_abroad_2 : decode cX12_abroad 2 = .ok (.putfield 156, 3) := by decide +kernel
theorem dX12_abroad_5 : decode cX12_abroad 5 = .ok (.aload_n 0, 1) := by decide +kernel
theorem dX12_abroad_6 : decode cX12_abroad 6 = .ok (.iload_n 1, 1) := by decide +kernel
theorem dX12_abroad_7 : decode cX12_abroad 7 = .ok (.invokevirtual 444, 3) := by decide +kernel
theorem dX12_abroad_10 : decode cX12_abroad 10 = .ok (.ifCond .eq 11, 3) := by decide +kernel
theorem dX12_abroad_13 : decode cX12_abroad 13 = .ok (.aload_n 0, 1) := by decide +kernel
theorem dX12_abroad_14 : decode cX12_abroad 14 = .ok (.iload_n 2, 1) := by decide +kernel
theorem dX12_abroad_15 : decode cX12_abroad 15 = .ok (.invokevirtual 447, 3) := by decide +kernel
theorem dX12_abroad_18 : decode cX12_abroad 18 = .ok (.ifCond .ne 5, 3) := by decide +kernel
theorem dX12_abroad_21 : decode cX12_abroad 21 = .ok (.iconst (-1), 1) := by decide +kernel
theorem dX12_abroad_22 : decode cX12_abroad 22 = .ok (.ireturn, 1) := by decide +kernel
theorem dX12_abroad_23 : decode cX12_abroad 23 = .ok (.aload_n 0, 1) := by decide +kernel
theorem dX12_abroad_24 : decode cX12_abroad 24 = .ok (.invokevirtual 457, 3) := by decide +kernel
theorem dX12_abroad_27 : decode cX12_abroad 27 = .ok (.aload_n 0, 1) := by decide +kernel
theorem dX12_abroad_28 : decode cX12_abroad 28 = .ok (.iload_n 1, 1) := by decide +kernel
theorem dX12_abroad_29 : decode cX12_abroad 29 = .ok (.aload_n 0, 1) := by decide +kernel
theorem dX12_abroad_30 : decode cX12_abroad 30 = .ok (.iload_n 1, 1) := by decide +kernel
theorem dX12_abroad_31 : decode cX12_abroad 31 = .ok (.iload_n 2, 1) := by decide +kernel
theorem dX12_abroad_32 : decode cX12_abroad 32 = .ok (.invokevirtual 464, 3) := by decide +kernel
theorem dX12_abroad_35 : decode cX12_abroad 35 = .ok (.invokevirtual 438, 3) := by decide +kernel
theorem dX12_abroad_38 : decode cX12_abroad 38 = .ok (.aload_n 0, 1) := by decide +kernel
theorem dX12_abroad_39 : decode cX12_abroad 39 = .ok (.getfield 117, 3) := by decide +kernel
theorem dX12_abroad_42 : decode cX12_abroad 42 = .ok (.iconst 3, 1) := by decide +kernel
theorem dX12_abroad_43 : decode cX12_abroad 43 = .ok (.iload_n 1, 1) := by decide +kernel
theorem dX12_abroad_44 : decode cX12_abroad 44 = .ok (.iadd, 1) := by decide +kernel
theorem dX12_abroad_45 : decode cX12_abroad 45 = .ok (.iaload, 1) := by decide +kernel
theorem dX12_abroad_46 : decode cX12_abroad 46 = .ok (.ireturn, 1) := by decide +kernel
theorem dX12_fast_0 : decode cX12_fast 0 = .ok (.aload_n 0, 1) := by decide +kernel
theorem dX12_fast_1 : decode cX12_fast 1 = .ok (.iconst 0, 1) := by decide +kernel
theorem dX12_fast_2 : decode cX12_fast 2 = .ok (.putfield 156, 3) := by decide +kernel
theorem dX12_fast_5 : decode cX12_fast 5 = .ok (.aload_n 0, 1) := by decide +kernel
theorem dX12_fast_6 : decode cX12_fast 6 = .ok (.invokevirtual 457, 3) := by decide +kernel
theorem dX12_fast_9 : decode cX12_fast 9 = .ok (.aload_n 0, 1) := by decide +kernel
theorem dX12_fast_10 : decode cX12_fast 10 = .ok (.invokevirtual 441, 3) := by decide +kernel
theorem dX12_fast_13 : decode cX12_fast 13 = .ok (.aload_n 0, 1) := by decide +kernel
theorem dX12_fast_14 : decode cX12_fast 14 = .ok (.getfield 117, 3) := by decide +kernel
theorem dX12_fast_17 : decode cX12_fast 17 = .ok (.iconst 0, 1) := by decide +kernel
theorem dX12_fast_18 : decode cX12_fast 18 = .ok (.iaload, 1) := by decide +kernel
theorem dX12_fast_19 : decode cX12_fast 19 = .ok (.ireturn, 1) := by decide +kernel
theorem dX12_undo_0 : decode cX12_undo 0 = .ok (.aload_n 0, 1) := by decide +kernel
theorem dX12_undo_1 : decode cX12_undo 1 = .ok (.iconst 0, 1) := by decide +kernel
theorem dX12_undo_2 : decode cX12_undo 2 = .ok (.putfield 156, 3) := by decide +kernel
theorem dX12_undo_5 : decode cX12_undo 5 = .ok (.aload_n 0, 1) := by decide +kernel
theorem dX12_undo_6 : decode cX12_undo 6 = .ok (.getfield 385, 3) := by decide +kernel
theorem dX12_undo_9 : decode cX12_undo 9 = .ok (.ifCond .ne 5, 3) := by decide +kernel
theorem dX12_undo_12 : decode cX12_undo 12 = .ok (.iconst 0, 1) := by decide +kernel
theorem dX12_undo_13 : decode cX12_undo 13 = .ok (.ireturn, 1) := by decide +kernel
theorem dX12_undo_14 : decode cX12_undo 14 = .ok (.aload_n 0, 1) := by decide +kernel
theorem dX12_undo_15 : decode cX12_undo 15 = .ok (.dup, 1) := by decide +kernel
theorem dX12_undo_16 : decode cX12_undo 16 = .ok (.getfield 385, 3) := by decide +kernel
theorem dX12_undo_19 : decode cX12_undo 19 = .ok (.iconst 1, 1) := by decide +kernel
theorem dX12_undo_20 : decode cX12_undo 20 = .ok (.isub, 1) := by decide +kernel
theorem dX12_undo_21 : decode cX12_undo 21 = .ok (.putfield 385, 3) := by decide +kernel
theorem dX12_undo_24 : decode cX12_undo 24 = .ok (.aload_n 0, 1) := by decide +kernel
theorem dX12_undo_25 : decode cX12_undo 25 = .ok (.getfield 129, 3) := by decide +kernel
theorem dX12_undo_28 : decode cX12_undo 28 = .ok (.bipush 21, 2) := by decide +kernel
theorem dX12_undo_30 : decode cX12_undo 30 = .ok (.aload_n 0, 1) := by decide +kernel
theorem dX12_undo_31 : decode cX12_undo 31 = .ok (.getfield 385, 3) := by decide +kernel
theorem dX12_undo_34 : decode cX12_undo 34 = .ok (.imul, 1) := by decide +kernel
theorem dX12_undo_35 : decode cX12_undo 35 = .ok (.aload_n 0, 1) := by decide +kernel
theorem dX12_undo_36 : decode cX12_undo 36 = .ok (.getfield 117, 3) := by decide +kernel
theorem dX12_undo_39 : decode cX12_undo 39 = .ok (.iconst 0, 1) := by decide +kernel
theorem dX12_undo_40 : decode cX12_undo 40 = .ok (.invokestatic 453, 3) := by decide +kernel
theorem dX12_undo_43 : decode cX12_undo 43 = .ok (.iconst 1, 1) := by decide +kernel
theorem dX12_undo_44 : decode cX12_undo 44 = .ok (.ireturn, 1) := by decide +kernel
theorem dX12_goes_0 : decode cX12_goes 0 = .ok (.aload_n 0, 1) := by decide +kernel
theorem dX12_goes_1 : decode cX12_goes 1 = .ok (.iconst 0, 1) := by decide +kernel
theorem dX12_goes_2 : decode cX12_goes 2 = .ok (.putfield 424, 3) := by decide +kernel
theorem dX12_goes_5 : decode cX12_goes 5 = .ok (.aload_n 0, 1) := by decide +kernel
theorem dX12_goes_6 : decode cX12_goes 6 = .ok (.iconst 0, 1) := by decide +kernel
theorem dX12_goes_7 : decode cX12_goes 7 = .ok (.putfield 467, 3) := by decide +kernel
theorem dX12_goes_10 : decode cX12_goes 10 = .ok (.aload_n 0, 1) := by decide +kernel
theorem dX12_goes_11 : decode cX12_goes 11 = .ok (.getfield 102, 3) := by decide +kernel
theorem dX12_goes_14 : decode cX12_goes 14 = .ok (.iload_n 1, 1) := by decide +kernel
theorem dX12_goes_15 : decode cX12_goes 15 = .ok (.iaload, 1) := by decide +kernel
theorem dX12_goes_16 : decode cX12_goes 16 = .ok (.iconst 2, 1) := by decide +kernel
theorem dX12_goes_17 : decode cX12_goes 17 = .ok (.if_icmp .ne 9, 3) := by decide +kernel
theorem dX12_goes_20 : decode cX12_goes 20 = .ok (.aload_n 0, 1) := by decide +kernel
theorem dX12_goes_21 : decode cX12_goes 21 = .ok (.invokevirtual 441, 3) := by decide +kernel
theorem dX12_goes_24 : decode cX12_goes 24 = .ok (.iconst 1, 1) := by decide +kernel
theorem dX12_goes_25 : decode cX12_goes 25 = .ok (.ireturn, 1) := by decide +kernel
theorem dX12_goes_26 : decode cX12_goes 26 = .ok (.aload_n 0, 1) := by decide +kernel
theorem dX12_goes_27 : decode cX12_goes 27 = .ok (.getfield 102, 3) := by decide +kernel
theorem dX12_goes_30 : decode cX12_goes 30 = .ok (.iload_n 1, 1) := by decide +kernel
theorem dX12_goes_31 : decode cX12_goes 31 = .ok (.iaload, 1) := by decide +kernel
theorem dX12_goes_32 : decode cX12_goes 32 = .ok (.iconst 1, 1) := by decide +kernel
theorem dX12_goes_33 : decode cX12_goes 33 = .ok (.if_icmp .ne 31, 3) := by decide +kernel
theorem dX12_goes_36 : decode cX12_goes 36 = .ok (.aload_n 0, 1) := by decide +kernel
theorem dX12_goes_37 : decode cX12_goes 37 = .ok (.aload_n 0, 1) := by decide +kernel
theorem dX12_goes_38 : decode cX12_goes 38 = .ok (.getfield 105, 3) := by decide +kernel
theorem dX12_goes_41 : decode cX12_goes 41 = .ok (.iload_n 1, 1) := by decide +kernel
theorem dX12_goes_42 : decode cX12_goes 42 = .ok (.iaload, 1) := by decide +kernel
theorem dX12_goes_43 : decode cX12_goes 43 = .ok (.aload_n 0, 1) := by decide +kernel
theorem dX12_goes_44 : decode cX12_goes 44 = .ok (.aload_n 0, 1) := by decide +kernel
theorem dX12_goes_45 : decode cX12_goes 45 = .ok (.getfield 105, 3) := by decide +kernel
theorem dX12_goes_48 : decode cX12_goes 48 = .ok (.iload_n 1, 1) := by decide +kernel
theorem dX12_goes_49 : decode cX12_goes 49 = .ok (.iaload, 1) := by decide +kernel
theorem dX12_goes_50 : decode cX12_goes 50 = .ok (.aload_n 0, 1) := by decide +kernel
theorem dX12_goes_51 : decode cX12_goes 51 = .ok (.getfield 108, 3) := by decide +kernel
theorem dX12_goes_54 : decode cX12_goes 54 = .ok (.iload_n 1, 1) := by decide +kernel
theorem dX12_goes_55 : decode cX12_goes 55 = .ok (.iaload, 1) := by decide +kernel
theorem dX12_goes_56 : decode cX12_goes 56 = .ok (.invokevirtual 464, 3) := by decide +kernel
theorem dX12_goes_59 : decode cX12_goes 59 = .ok (.invokevirtual 438, 3) := by decide +kernel
theorem dX12_goes_62 : decode cX12_goes 62 = .ok (.iconst 1, 1) := by decide +kernel
theorem dX12_goes_63 : decode cX12_goes 63 = .ok (.ireturn, 1) := by decide +kernel
theorem dX12_goes_64 : decode cX12_goes 64 = .ok (.aload_n 0, 1) := by decide +kernel
theorem dX12_goes_65 : decode cX12_goes 65 = .ok (.aload_n 0, 1) := by decide +kernel
theorem dX12_goes_66 : decode cX12_goes 66 = .ok (.getfield 105, 3) := by decide +kernel
theorem dX12_goes_69 : decode cX12_goes 69 = .ok (.iload_n 1, 1) := by decide +kernel
theorem dX12_goes_70 : decode cX12_goes 70 = .ok (.iaload, 1) := by decide +kernel
theorem dX12_goes_71 : decode cX12_goes 71 = .ok (.aload_n 0, 1) := by decide +kernel
theorem dX12_goes_72 : decode cX12_goes 72 = .ok (.getfield 108, 3) := by decide +kernel
theorem dX12_goes_75 : decode cX12_goes 75 = .ok (.iload_n 1, 1) := by decide +kernel
theorem dX12_goes_76 : decode cX12_goes 76 = .ok (.iaload, 1) := by decide +kernel
theorem dX12_goes_77 : decode cX12_goes 77 = .ok (.invokevirtual 450, 3) := by decide +kernel
theorem dX12_goes_80 : decode cX12_goes 80 = .ok (.ifCond .ne 5, 3) := by decide +kernel
theorem dX12_goes_83 : decode cX12_goes 83 = .ok (.iconst 0, 1) := by decide +kernel
theorem dX12_goes_84 : decode cX12_goes 84 = .ok (.ireturn, 1) := by decide +kernel
theorem dX12_goes_85 : decode cX12_goes 85 = .ok (.aload_n 0, 1) := by decide +kernel
theorem dX12_goes_86 : decode cX12_goes 86 = .ok (.aload_n 0, 1) := by decide +kernel
theorem dX12_goes_87 : decode cX12_goes 87 = .ok (.aload_n 0, 1) := by decide +kernel
theorem dX12_goes_88 : decode cX12_goes 88 = .ok (.getfield 105, 3) := by decide +kernel
theorem dX12_goes_91 : decode cX12_goes 91 = .ok (.iload_n 1, 1) := by decide +kernel
theorem dX12_goes_92 : decode cX12_goes 92 = .ok (.iaload, 1) := by decide +kernel
theorem dX12_goes_93 : decode cX12_goes 93 = .ok (.aload_n 0, 1) := by decide +kernel
theorem dX12_goes_94 : decode cX12_goes 94 = .ok (.getfield 108, 3) := by decide +kernel
theorem dX12_goes_97 : decode cX12_goes 97 = .ok (.iload_n 1, 1) := by decide +kernel
theorem dX12_goes_98 : decode cX12_goes 98 = .ok (.iaload, 1) := by decide +kernel
theorem dX12_goes_99 : decode cX12_goes 99 = .ok (.aload_n 0, 1) := by decide +kernel
theorem dX12_goes_100 : decode cX12_goes 100 = .ok (.getfield 111, 3) := by decide +kernel
theorem dX12_goes_103 : decode cX12_goes 103 = .ok (.iload_n 1, 1) := by decide +kernel
theorem dX12_goes_104 : decode cX12_goes 104 = .ok (.baload, 1) := by decide +kernel
theorem dX12_goes_105 : decode cX12_goes 105 = .ok (.invokevirtual 460, 3) := by decide +kernel
theorem dX12_goes_108 : decode cX12_goes 108 = .ok (.ifCond .ne 7, 3) := by decide +kernel
theorem dX12_goes_111 : decode cX12_goes 111 = .ok (.iconst 1, 1) := by decide +kernel
theorem dX12_goes_112 : decode cX12_goes 112 = .ok (.goto 4, 3) := by decide +kernel
theorem dX12_goes_115 : decode cX12_goes 115 = .ok (.iconst 0, 1) := by decide +kernel
theorem dX12_goes_116 : decode cX12_goes 116 = .ok (.putfield 467, 3) := by decide +kernel
theorem dX12_goes_119 : decode cX12_goes 119 = .ok (.iconst 1, 1) := by decide +kernel
theorem dX12_goes_120 : decode cX12_goes 120 = .ok (.ireturn, 1) := by decide +kernel
theorem dX12_judged_0 : decode cX12_judged 0 = .ok (.aload_n 0, 1) := by decide +kernel
theorem dX12_judged_1 : decode cX12_judged 1 = .ok (.iconst 0, 1) := by decide +kernel
theorem dX12_judged_2 : decode cX12_judged 2 = .ok (.putfield 156, 3) := by decide +kernel
theorem dX12_judged_5 : decode cX12_judged 5 = .ok (.iload_n 1, 1) := by decide +kernel
theorem dX12_judged_6 : decode cX12_judged 6 = .ok (.iconst 0, 1) := by decide +kernel
theorem dX12_judged_7 : decode cX12_judged 7 = .ok (.iconst 3, 1) := by decide +kernel
theorem dX12_judged_8 : decode cX12_judged 8 = .ok (.invokestatic 293, 3) := by decide +kernel
theorem dX12_judged_11 : decode cX12_judged 11 = .ok (.ifCond .ne 6, 3) := by decide +kernel
theorem dX12_judged_14 : decode cX12_judged 14 = .ok (.bipush (-2), 2) := by decide +kernel
theorem dX12_judged_16 : decode cX12_judged 16 = .ok (.ireturn, 1) := by decide +kernel
theorem dX12_judged_17 : decode cX12_judged 17 = .ok (.aload_n 0, 1) := by decide +kernel
theorem dX12_judged_18 : decode cX12_judged 18 = .ok (.getfield 117, 3) := by decide +kernel
theorem dX12_judged_21 : decode cX12_judged 21 = .ok (.iconst 0, 1) := by decide +kernel
theorem dX12_judged_22 : decode cX12_judged 22 = .ok (.aload_n 0, 1) := by decide +kernel
theorem dX12_judged_23 : decode cX12_judged 23 = .ok (.getfield 120, 3) := by decide +kernel
theorem dX12_judged_26 : decode cX12_judged 26 = .ok (.iconst 0, 1) := by decide +kernel
theorem dX12_judged_27 : decode cX12_judged 27 = .ok (.invokestatic 453, 3) := by decide +kernel
theorem dX12_judged_30 : decode cX12_judged 30 = .ok (.aload_n 0, 1) := by decide +kernel
theorem dX12_judged_31 : decode cX12_judged 31 = .ok (.invokevirtual 153, 3) := by decide +kernel
theorem dX12_judged_34 : decode cX12_judged 34 = .ok (.iconst (-1), 1) := by decide +kernel
theorem dX12_judged_35 : decode cX12_judged 35 = .ok (.istore_n 2, 1) := by decide +kernel
theorem dX12_judged_36 : decode cX12_judged 36 = .ok (.iconst (-1), 1) := by decide +kernel
theorem dX12_judged_37 : decode cX12_judged 37 = .ok (.istore_n 3, 1) := by decide +kernel
theorem dX12_judged_38 : decode cX12_judged 38 = .ok (.iconst (-1), 1) := by decide +kernel
theorem dX12_judged_39 : decode cX12_judged 39 = .ok (.istore 4, 2) := by decide +kernel
theorem dX12_judged_41 : decode cX12_judged 41 = .ok (.iconst 0, 1) := by decide +kernel
theorem dX12_judged_42 : decode cX12_judged 42 = .ok (.istore 5, 2) := by decide +kernel
theorem dX12_judged_44 : decode cX12_judged 44 = .ok (.iload 5, 2) := by decide +kernel
theorem dX12_judged_46 : decode cX12_judged 46 = .ok (.aload_n 0, 1) := by decide +kernel
theorem dX12_judged_47 : decode cX12_judged 47 = .ok (.getfield 99, 3) := by decide +kernel
theorem dX12_judged_50 : decode cX12_judged 50 = .ok (.iconst 0, 1) := by decide +kernel
theorem dX12_judged_51 : decode cX12_judged 51 = .ok (.iaload, 1) := by decide +kernel
theorem dX12_judged_52 : decode cX12_judged 52 = .ok (.if_icmp .ge 55, 3) := by decide +kernel
theorem dX12_judged_55 : decode cX12_judged 55 = .ok (.aload_n 0, 1) := by decide +kernel
theorem dX12_judged_56 : decode cX12_judged 56 = .ok (.iload 5, 2) := by decide +kernel
theorem dX12_judged_58 : decode cX12_judged 58 = .ok (.invokevirtual 470, 3) := by decide +kernel
theorem dX12_judged_61 : decode cX12_judged 61 = .ok (.ifCond .ne 10, 3) := by decide +kernel
theorem dX12_judged_64 : decode cX12_judged 64 = .ok (.iload_n 2, 1) := by decide +kernel
theorem dX12_judged_65 : decode cX12_judged 65 = .ok (.ifCond .ge 6, 3) := by decide +kernel
theorem dX12_judged_68 : decode cX12_judged 68 = .ok (.iload 5, 2) := by decide +kernel
theorem dX12_judged_70 : decode cX12_judged 70 = .ok (.istore_n 2, 1) := by decide +kernel
theorem dX12_judged_71 : decode cX12_judged 71 = .ok (.aload_n 0, 1) := by decide +kernel
theorem dX12_judged_72 : decode cX12_judged 72 = .ok (.getfield 424, 3) := by decide +kernel
theorem dX12_judged_75 : decode cX12_judged 75 = .ok (.ifCond .eq 10, 3) := by decide +kernel
theorem dX12_judged_78 : decode cX12_judged 78 = .ok (.iload_n 3, 1) := by decide +kernel
theorem dX12_judged_79 : decode cX12_judged 79 = .ok (.ifCond .ge 6, 3) := by decide +kernel
theorem dX12_judged_82 : decode cX12_judged 82 = .ok (.iload 5, 2) := by decide +kernel
theorem dX12_judged_84 : decode cX12_judged 84 = .ok (.istore_n 3, 1) := by decide +kernel
theorem dX12_judged_85 : decode cX12_judged 85 = .ok (.aload_n 0, 1) := by decide +kernel
theorem dX12_judged_86 : decode cX12_judged 86 = .ok (.getfield 467, 3) := by decide +kernel
theorem dX12_judged_89 : decode cX12_judged 89 = .ok (.ifCond .eq 12, 3) := by decide +kernel
theorem dX12_judged_92 : decode cX12_judged 92 = .ok (.iload 4, 2) := by decide +kernel
theorem dX12_judged_94 : decode cX12_judged 94 = .ok (.ifCond .ge 7, 3) := by decide +kernel
theorem dX12_judged_97 : decode cX12_judged 97 = .ok (.iload 5, 2) := by decide +kernel
theorem dX12_judged_99 : decode cX12_judged 99 = .ok (.istore 4, 2) := by decide +kernel
theorem dX12_judged_101 : decode cX12_judged 101 = .ok (.iinc 5 1, 3) := by decide +kernel
theorem dX12_judged_104 : decode cX12_judged 104 = .ok (.goto (-60), 3) := by decide +kernel
theorem dX12_judged_107 : decode cX12_judged 107 = .ok (.aload_n 0, 1) := by decide +kernel
theorem dX12_judged_108 : decode cX12_judged 108 = .ok (.getfield 117, 3) := by decide +kernel
theorem dX12_judged_111 : decode cX12_judged 111 = .ok (.iconst 1, 1) := by decide +kernel
theorem dX12_judged_112 : decode cX12_judged 112 = .ok (.iaload, 1) := by decide +kernel
theorem dX12_judged_113 : decode cX12_judged 113 = .ok (.istore 5, 2) := by decide +kernel
theorem dX12_judged_115 : decode cX12_judged 115 = .ok (.aload_n 0, 1) := by decide +kernel
theorem dX12_judged_116 : decode cX12_judged 116 = .ok (.getfield 120, 3) := by decide +kernel
theorem dX12_judged_119 : decode cX12_judged 119 = .ok (.iconst 0, 1) := by decide +kernel
theorem dX12_judged_120 : decode cX12_judged 120 = .ok (.aload_n 0, 1) := by decide +kernel
theorem dX12_judged_121 : decode cX12_judged 121 = .ok (.getfield 117, 3) := by decide +kernel
theorem dX12_judged_124 : decode cX12_judged 124 = .ok (.iconst 0, 1) := by decide +kernel
theorem dX12_judged_125 : decode cX12_judged 125 = .ok (.invokestatic 453, 3) := by decide +kernel
theorem dX12_judged_128 : decode cX12_judged 128 = .ok (.iload_n 1, 1) := by decide +kernel
theorem dX12_judged_129 : decode cX12_judged 129 = .ok (.iconst 2, 1) := by decide +kernel
theorem dX12_judged_130 : decode cX12_judged 130 = .ok (.if_icmp .ge 13, 3) := by decide +kernel
theorem dX12_judged_133 : decode cX12_judged 133 = .ok (.iload_n 1, 1) := by decide +kernel
theorem dX12_judged_134 : decode cX12_judged 134 = .ok (.ifCond .ne 7, 3) := by decide +kernel
theorem dX12_judged_137 : decode cX12_judged 137 = .ok (.iload_n 2, 1) := by decide +kernel
theorem dX12_judged_138 : decode cX12_judged 138 = .ok (.goto 4, 3) := by decide +kernel
theorem dX12_judged_141 : decode cX12_judged 141 = .ok (.iload_n 3, 1) := by decide +kernel
theorem dX12_judged_142 : decode cX12_judged 142 = .ok (.ireturn, 1) := by decide +kernel
theorem dX12_judged_143 : decode cX12_judged 143 = .ok (.iload_n 1, 1) := by decide +kernel
theorem dX12_judged_144 : decode cX12_judged 144 = .ok (.iconst 2, 1) := by decide +kernel
theorem dX12_judged_145 : decode cX12_judged 145 = .ok (.if_icmp .ne 8, 3) := by decide +kernel
theorem dX12_judged_148 : decode cX12_judged 148 = .ok (.iload 4, 2) := by decide +kernel
theorem dX12_judged_150 : decode cX12_judged 150 = .ok (.goto 5, 3) := by decide +kernel
theorem dX12_judged_153 : decode cX12_judged 153 = .ok (.iload 5, 2) := by decide +kernel
theorem dX12_judged_155 : decode cX12_judged 155 = .ok (.ireturn, 1) := by decide +kernel
theorem dX12_planOf_0 : decode cX12_planOf 0 = .ok (.iload_n 1, 1) := by decide +kernel
theorem dX12_planOf_1 : decode cX12_planOf 1 = .ok (.ifCond .ne 5, 3) := by decide +kernel
theorem dX12_planOf_4 : decode cX12_planOf 4 = .ok (.iconst 0, 1) := by decide +kernel
theorem dX12_planOf_5 : decode cX12_planOf 5 = .ok (.ireturn, 1) := by decide +kernel
theorem dX12_planOf_6 : decode cX12_planOf 6 = .ok (.iconst (-1), 1) := by decide +kernel
theorem dX12_planOf_7 : decode cX12_planOf 7 = .ok (.istore_n 3, 1) := by decide +kernel
theorem dX12_planOf_8 : decode cX12_planOf 8 = .ok (.iconst (-1), 1) := by decide +kernel
theorem dX12_planOf_9 : decode cX12_planOf 9 = .ok (.istore 4, 2) := by decide +kernel
theorem dX12_planOf_11 : decode cX12_planOf 11 = .ok (.aload_n 0, 1) := by decide +kernel
theorem dX12_planOf_12 : decode cX12_planOf 12 = .ok (.getfield 117, 3) := by decide +kernel
theorem dX12_planOf_15 : decode cX12_planOf 15 = .ok (.iconst 0, 1) := by decide +kernel
theorem dX12_planOf_16 : decode cX12_planOf 16 = .ok (.aload_n 0, 1) := by decide +kernel
theorem dX12_planOf_17 : decode cX12_planOf 17 = .ok (.getfield 123, 3) := by decide +kernel
theorem dX12_planOf_20 : decode cX12_planOf 20 = .ok (.bipush 21, 2) := by decide +kernel
theorem dX12_planOf_22 : decode cX12_planOf 22 = .ok (.iload_n 2, 1) := by decide +kernel
theorem dX12_planOf_23 : decode cX12_planOf 23 = .ok (.imul, 1) := by decide +kernel
theorem dX12_planOf_24 : decode cX12_planOf 24 = .ok (.invokestatic 453, 3) := by decide +kernel
theorem dX12_planOf_27 : decode cX12_planOf 27 = .ok (.iconst 0, 1) := by decide +kernel
theorem dX12_planOf_28 : decode cX12_planOf 28 = .ok (.istore 5, 2) := by decide +kernel
theorem dX12_planOf_30 : decode cX12_planOf 30 = .ok (.iload 5, 2) := by decide +kernel
theorem dX12_planOf_32 : decode cX12_planOf 32 = .ok (.bipush 60, 2) := by decide +kernel
theorem dX12_planOf_34 : decode cX12_planOf 34 = .ok (.if_icmp .gt 201, 3) := by decide +kernel
theorem dX12_planOf_37 : decode cX12_planOf 37 = .ok (.iload 5, 2) := by decide +kernel
theorem dX12_planOf_39 : decode cX12_planOf 39 = .ok (.bipush 10, 2) := by decide +kernel
theorem dX12_planOf_41 : decode cX12_planOf 41 = .ok (.idiv, 1) := by decide +kernel
theorem dX12_planOf_42 : decode cX12_planOf 42 = .ok (.istore 6, 2) := by decide +kernel
theorem dX12_planOf_44 : decode cX12_planOf 44 = .ok (.iload 5, 2) := by decide +kernel
theorem dX12_planOf_46 : decode cX12_planOf 46 = .ok (.iconst 2, 1) := by decide +kernel
theorem dX12_planOf_47 : decode cX12_planOf 47 = .ok (.idiv, 1) := by decide +kernel
theorem dX12_planOf_48 : decode cX12_planOf 48 = .ok (.iconst 5, 1) := by decide +kernel
theorem dX12_planOf_49 : decode cX12_planOf 49 = .ok (.irem, 1) := by decide +kernel
theorem dX12_planOf_50 : decode cX12_planOf 50 = .ok (.istore 7, 2) := by decide +kernel
theorem dX12_planOf_52 : decode cX12_planOf 52 = .ok (.iload 5, 2) := by decide +kernel
theorem dX12_planOf_54 : decode cX12_planOf 54 = .ok (.bipush 60, 2) := by decide +kernel
theorem dX12_planOf_56 : decode cX12_planOf 56 = .ok (.if_icmp .eq 32, 3) := by decide +kernel
theorem dX12_planOf_59 : decode cX12_planOf 59 = .ok (.aload_n 0, 1) := by decide +kernel
theorem dX12_planOf_60 : decode cX12_planOf 60 = .ok (.iload 6, 2) := by decide +kernel
theorem dX12_planOf_62 : decode cX12_planOf 62 = .ok (.invokevirtual 444, 3) := by decide +kernel
theorem dX12_planOf_65 : decode cX12_planOf 65 = .ok (.ifCond .eq 27, 3) := by decide +kernel
theorem dX12_planOf_68 : decode cX12_planOf 68 = .ok (.aload_n 0, 1) := by decide +kernel
theorem dX12_planOf_69 : decode cX12_planOf 69 = .ok (.iload 7, 2) := by decide +kernel
theorem dX12_planOf_71 : decode cX12_planOf 71 = .ok (.invokevirtual 447, 3) := by decide +kernel
theorem dX12_planOf_74 : decode cX12_planOf 74 = .ok (.ifCond .eq 18, 3) := by decide +kernel
theorem dX12_planOf_77 : decode cX12_planOf 77 = .ok (.aload_n 0, 1) := by decide +kernel
theorem dX12_planOf_78 : decode cX12_planOf 78 = .ok (.iload 6, 2) := by decide +kernel
theorem dX12_planOf_80 : decode cX12_planOf 80 = .ok (.iload 7, 2) := by decide +kernel
theorem dX12_planOf_82 : decode cX12_planOf 82 = .ok (.invokevirtual 450, 3) := by decide +kernel
theorem dX12_planOf_85 : decode cX12_planOf 85 = .ok (.ifCond .eq 7, 3) := by decide +kernel
theorem dX12_planOf_88 : decode cX12_planOf 88 = .ok (.iconst 1, 1) := by decide +kernel
theorem dX12_planOf_89 : decode cX12_planOf 89 = .ok (.goto 4, 3) := by decide +kernel
theorem dX12_planOf_92 : decode cX12_planOf 92 = .ok (.iconst 0, 1) := by decide +kernel
theorem dX12_planOf_93 : decode cX12_planOf 93 = .ok (.istore 8, 2) := by decide +kernel
theorem dX12_planOf_95 : decode cX12_planOf 95 = .ok (.iload 8, 2) := by decide +kernel
theorem dX12_planOf_97 : decode cX12_planOf 97 = .ok (.ifCond .ne 6, 3) := by decide +kernel
theorem dX12_planOf_100 : decode cX12_planOf 100 = .ok (.goto 129, 3) := by decide +kernel
theorem dX12_planOf_103 : decode cX12_planOf 103 = .ok (.iload 5, 2) := by decide +kernel
theorem dX12_planOf_105 : decode cX12_planOf 105 = .ok (.bipush 60, 2) := by decide +kernel
theorem dX12_planOf_107 : decode cX12_planOf 107 = .ok (.if_icmp .ne 7, 3) := by decide +kernel
theorem dX12_planOf_110 : decode cX12_planOf 110 = .ok (.iconst 0, 1) := by decide +kernel
theorem dX12_planOf_111 : decode cX12_planOf 111 = .ok (.goto 11, 3) := by decide +kernel
theorem dX12_planOf_114 : decode cX12_planOf 114 = .ok (.aload_n 0, 1) := by decide +kernel
theorem dX12_planOf_115 : decode cX12_planOf 115 = .ok (.iload 6, 2) := by decide +kernel
theorem dX12_planOf_117 : decode cX12_planOf 117 = .ok (.iload 7, 2) := by decide +kernel
theorem dX12_planOf_119 : decode cX12_planOf 119 = .ok (.invokevirtual 398, 3) := by decide +kernel
theorem dX12_planOf_122 : decode cX12_planOf 122 = .ok (.istore 9, 2) := by decide +kernel
theorem dX12_planOf_124 : decode cX12_planOf 124 = .ok (.iload 5, 2) := by decide +kernel
theorem dX12_planOf_126 : decode cX12_planOf 126 = .ok (.bipush 60, 2) := by decide +kernel
theorem dX12_planOf_128 : decode cX12_planOf 128 = .ok (.if_icmp .ne 10, 3) := by decide +kernel
theorem dX12_planOf_131 : decode cX12_planOf 131 = .ok (.aload_n 0, 1) := by decide +kernel
theorem dX12_planOf_132 : decode cX12_planOf 132 = .ok (.invokevirtual 441, 3) := by decide +kernel
theorem dX12_planOf_135 : decode cX12_planOf 135 = .ok (.goto 24, 3) := by decide +kernel
theorem dX12_planOf_138 : decode cX12_planOf 138 = .ok (.aload_n 0, 1) := by decide +kernel
theorem dX12_planOf_139 : decode cX12_planOf 139 = .ok (.iload 6, 2) := by decide +kernel
theorem dX12_planOf_141 : decode cX12_planOf 141 = .ok (.iload 7, 2) := by decide +kernel
theorem dX12_planOf_143 : decode cX12_planOf 143 = .ok (.iload 5, 2) := by decide +kernel
theorem dX12_planOf_145 : decode cX12_planOf 145 = .ok (.iconst 2, 1) := by decide +kernel
theorem dX12_planOf_146 : decode cX12_planOf 146 = .ok (.irem, 1) := by decide +kernel
theorem dX12_planOf_147 : decode cX12_planOf 147 = .ok (.ifCond .ne 7, 3) := by decide +kernel
theorem dX12_planOf_150 : decode cX12_planOf 150 = .ok (.iconst 1, 1) := by decide +kernel
theorem dX12_planOf_151 : decode cX12_planOf 151 = .ok (.goto 4, 3) := by decide +kernel
theorem dX12_planOf_154 : decode cX12_planOf 154 = .ok (.iconst 0, 1) := by decide +kernel
theorem dX12_planOf_155 : decode cX12_planOf 155 = .ok (.invokevirtual 460, 3) := by decide +kernel
theorem dX12_planOf_158 : decode cX12_planOf 158 = .ok (.pop, 1) := by decide +kernel
theorem dX12_planOf_159 : decode cX12_planOf 159 = .ok (.aload_n 0, 1) := by decide +kernel
theorem dX12_planOf_160 : decode cX12_planOf 160 = .ok (.getfield 424, 3) := by decide +kernel
theorem dX12_planOf_163 : decode cX12_planOf 163 = .ok (.ifCond .eq 7, 3) := by decide +kernel
theorem dX12_planOf_166 : decode cX12_planOf 166 = .ok (.iconst (-1), 1) := by decide +kernel
theorem dX12_planOf_167 : decode cX12_planOf 167 = .ok (.goto 13, 3) := by decide +kernel
theorem dX12_planOf_170 : decode cX12_planOf 170 = .ok (.aload_n 0, 1) := by decide +kernel
theorem dX12_planOf_171 : decode cX12_planOf 171 = .ok (.iload_n 1, 1) := by decide +kernel
theorem dX12_planOf_172 : decode cX12_planOf 172 = .ok (.iconst 1, 1) := by decide +kernel
theorem dX12_planOf_173 : decode cX12_planOf 173 = .ok (.isub, 1) := by decide +kernel
theorem dX12_planOf_174 : decode cX12_planOf 174 = .ok (.iload_n 2, 1) := by decide +kernel
theorem dX12_planOf_175 : decode cX12_planOf 175 = .ok (.iconst 1, 1) := by decide +kernel
theorem dX12_planOf_176 : decode cX12_planOf 176 = .ok (.iadd, 1) := by decide +kernel
theorem dX12_planOf_177 : decode cX12_planOf 177 = .ok (.invokevirtual 473, 3) := by decide +kernel
theorem dX12_planOf_180 : decode cX12_planOf 180 = .ok (.istore 10, 2) := by decide +kernel
theorem dX12_planOf_182 : decode cX12_planOf 182 = .ok (.aload_n 0, 1) := by decide +kernel
theorem dX12_planOf_183 : decode cX12_planOf 183 = .ok (.getfield 123, 3) := by decide +kernel
theorem dX12_planOf_186 : decode cX12_planOf 186 = .ok (.bipush 21, 2) := by decide +kernel
theorem dX12_planOf_188 : decode cX12_planOf 188 = .ok (.iload_n 2, 1) := by decide +kernel
theorem dX12_planOf_189 : decode cX12_planOf 189 = .ok (.imul, 1) := by decide +kernel
theorem dX12_planOf_190 : decode cX12_planOf 190 = .ok (.aload_n 0, 1) := by decide +kernel
theorem dX12_planOf_191 : decode cX12_planOf 191 = .ok (.getfield 117, 3) := by decide +kernel
theorem dX12_planOf_194 : decode cX12_planOf 194 = .ok (.iconst 0, 1) := by decide +kernel
theorem dX12_planOf_195 : decode cX12_planOf 195 = .ok (.invokestatic 453, 3) := by decide +kernel
theorem dX12_planOf_198 : decode cX12_planOf 198 = .ok (.iload 10, 2) := by decide +kernel
theorem dX12_planOf_200 : decode cX12_planOf 200 = .ok (.ifCond .lt 29, 3) := by decide +kernel
theorem dX12_planOf_203 : decode cX12_planOf 203 = .ok (.iload_n 3, 1) := by decide +kernel
theorem dX12_planOf_204 : decode cX12_planOf 204 = .ok (.ifCond .lt 15, 3) := by decide +kernel
theorem dX12_planOf_207 : decode cX12_planOf 207 = .ok (.iload 9, 2) := by decide +kernel
theorem dX12_planOf_209 : decode cX12_planOf 209 = .ok (.iload 10, 2) := by decide +kernel
theorem dX12_planOf_211 : decode cX12_planOf 211 = .ok (.iadd, 1) := by decide +kernel
theorem dX12_planOf_212 : decode cX12_planOf 212 = .ok (.iload_n 3, 1) := by decide +kernel
theorem dX12_planOf_213 : decode cX12_planOf 213 = .ok (.if_icmp .lt 6, 3) := by decide +kernel
theorem dX12_planOf_216 : decode cX12_planOf 216 = .ok (.goto 13, 3) := by decide +kernel
theorem dX12_planOf_219 : decode cX12_planOf 219 = .ok (.iload 9, 2) := by decide +kernel
theorem dX12_planOf_221 : decode cX12_planOf 221 = .ok (.iload 10, 2) := by decide +kernel
theorem dX12_planOf_223 : decode cX12_planOf 223 = .ok (.iadd, 1) := by decide +kernel
theorem dX12_planOf_224 : decode cX12_planOf 224 = .ok (.istore_n 3, 1) := by decide +kernel
theorem dX12_planOf_225 : decode cX12_planOf 225 = .ok (.iload 5, 2) := by decide +kernel
theorem dX12_planOf_227 : decode cX12_planOf 227 = .ok (.istore 4, 2) := by decide +kernel
theorem dX12_planOf_229 : decode cX12_planOf 229 = .ok (.iinc 5 1, 3) := by decide +kernel
theorem dX12_planOf_232 : decode cX12_planOf 232 = .ok (.goto (-202), 3) := by decide +kernel
theorem dX12_planOf_235 : decode cX12_planOf 235 = .ok (.iload_n 2, 1) := by decide +kernel
theorem dX12_planOf_236 : decode cX12_planOf 236 = .ok (.ifCond .ne 9, 3) := by decide +kernel
theorem dX12_planOf_239 : decode cX12_planOf 239 = .ok (.aload_n 0, 1) := by decide +kernel
theorem dX12_planOf_240 : decode cX12_planOf 240 = .ok (.iload 4, 2) := by decide +kernel
theorem dX12_planOf_242 : decode cX12_planOf 242 = .ok (.putfield 476, 3) := by decide +kernel
theorem dX12_planOf_245 : decode cX12_planOf 245 = .ok (.iload_n 3, 1) := by decide +kernel
theorem dX12_planOf_246 : decode cX12_planOf 246 = .ok (.ireturn, 1) := by decide +kernel
theorem dX12_plan_0 : decode cX12_plan 0 = .ok (.aload_n 0, 1) := by decide +kernel
theorem dX12_plan_1 : decode cX12_plan 1 = .ok (.iconst 0, 1) := by decide +kernel
theorem dX12_plan_2 : decode cX12_plan 2 = .ok (.putfield 156, 3) := by decide +kernel
theorem dX12_plan_5 : decode cX12_plan 5 = .ok (.iload_n 1, 1) := by decide +kernel
theorem dX12_plan_6 : decode cX12_plan 6 = .ok (.iconst 0, 1) := by decide +kernel
theorem dX12_plan_7 : decode cX12_plan 7 = .ok (.iconst 3, 1) := by decide +kernel
theorem dX12_plan_8 : decode cX12_plan 8 = .ok (.invokestatic 293, 3) := by decide +kernel
theorem dX12_plan_11 : decode cX12_plan 11 = .ok (.ifCond .eq 12, 3) := by decide +kernel
theorem dX12_plan_14 : decode cX12_plan 14 = .ok (.iload_n 2, 1) := by decide +kernel
theorem dX12_plan_15 : decode cX12_plan 15 = .ok (.iconst 0, 1) := by decide +kernel
theorem dX12_plan_16 : decode cX12_plan 16 = .ok (.iconst 1, 1) := by decide +kernel
theorem dX12_plan_17 : decode cX12_plan 17 = .ok (.invokestatic 293, 3) := by decide +kernel
theorem dX12_plan_20 : decode cX12_plan 20 = .ok (.ifCond .ne 6, 3) := by decide +kernel
theorem dX12_plan_23 : decode cX12_plan 23 = .ok (.bipush (-2), 2) := by decide +kernel
theorem dX12_plan_25 : decode cX12_plan 25 = .ok (.ireturn, 1) := by decide +kernel
theorem dX12_plan_26 : decode cX12_plan 26 = .ok (.aload_n 0, 1) := by decide +kernel
theorem dX12_plan_27 : decode cX12_plan 27 = .ok (.iconst (-1), 1) := by decide +kernel
theorem dX12_plan_28 : decode cX12_plan 28 = .ok (.putfield 476, 3) := by decide +kernel
theorem dX12_plan_31 : decode cX12_plan 31 = .ok (.aload_n 0, 1) := by decide +kernel
theorem dX12_plan_32 : decode cX12_plan 32 = .ok (.iload_n 1, 1) := by decide +kernel
theorem dX12_plan_33 : decode cX12_plan 33 = .ok (.iconst 0, 1) := by decide +kernel
theorem dX12_plan_34 : decode cX12_plan 34 = .ok (.invokevirtual 473, 3) := by decide +kernel
theorem dX12_plan_37 : decode cX12_plan 37 = .ok (.istore_n 3, 1) := by decide +kernel
theorem dX12_plan_38 : decode cX12_plan 38 = .ok (.iload_n 3, 1) := by decide +kernel
theorem dX12_plan_39 : decode cX12_plan 39 = .ok (.ifCond .ge 8, 3) := by decide +kernel
theorem dX12_plan_42 : decode cX12_plan 42 = .ok (.bipush (-2), 2) := by decide +kernel
theorem dX12_plan_44 : decode cX12_plan 44 = .ok (.goto 15, 3) := by decide +kernel
theorem dX12_plan_47 : decode cX12_plan 47 = .ok (.iload_n 2, 1) := by decide +kernel
theorem dX12_plan_48 : decode cX12_plan 48 = .ok (.ifCond .ne 7, 3) := by decide +kernel
theorem dX12_plan_51 : decode cX12_plan 51 = .ok (.iload_n 3, 1) := by decide +kernel
theorem dX12_plan_52 : decode cX12_plan 52 = .ok (.goto 7, 3) := by decide +kernel
theorem dX12_plan_55 : decode cX12_plan 55 = .ok (.aload_n 0, 1) := by decide +kernel
theorem dX12_plan_56 : decode cX12_plan 56 = .ok (.getfield 476, 3) := by decide +kernel
theorem dX12_plan_59 : decode cX12_plan 59 = .ok (.ireturn, 1) := by decide +kernel
theorem dX12_laysShares_0 : decode cX12_laysShares 0 = .ok (.iconst 0, 1) := by decide +kernel
theorem dX12_laysShares_1 : decode cX12_laysShares 1 = .ok (.istore_n 2, 1) := by decide +kernel
theorem dX12_laysShares_2 : decode cX12_laysShares 2 = .ok (.iload_n 2, 1) := by decide +kernel
theorem dX12_laysShares_3 : decode cX12_laysShares 3 = .ok (.iconst 1, 1) := by decide +kernel
theorem dX12_laysShares_4 : decode cX12_laysShares 4 = .ok (.aload_n 0, 1) := by decide +kernel
theorem dX12_laysShares_5 : decode cX12_laysShares 5 = .ok (.getfield 13, 3) := by decide +kernel
theorem dX12_laysShares_8 : decode cX12_laysShares 8 = .ok (.iconst 0, 1) := by decide +kernel
theorem dX12_laysShares_9 : decode cX12_laysShares 9 = .ok (.iaload, 1) := by decide +kernel
theorem dX12_laysShares_10 : decode cX12_laysShares 10 = .ok (.ishl, 1) := by decide +kernel
theorem dX12_laysShares_11 : decode cX12_laysShares 11 = .ok (.if_icmp .ge 113, 3) := by decide +kernel
theorem dX12_laysShares_14 : decode cX12_laysShares 14 = .ok (.aload_n 0, 1) := by decide +kernel
theorem dX12_laysShares_15 : decode cX12_laysShares 15 = .ok (.getfield 144, 3) := by decide +kernel
theorem dX12_laysShares_18 : decode cX12_laysShares 18 = .ok (.iload_n 2, 1) := by decide +kernel
theorem dX12_laysShares_19 : decode cX12_laysShares 19 = .ok (.iconst 0, 1) := by decide +kernel
theorem dX12_laysShares_20 : decode cX12_laysShares 20 = .ok (.iastore, 1) := by decide +kernel
theorem dX12_laysShares_21 : decode cX12_laysShares 21 = .ok (.iconst 0, 1) := by decide +kernel
theorem dX12_laysShares_22 : decode cX12_laysShares 22 = .ok (.istore_n 3, 1) := by decide +kernel
theorem dX12_laysShares_23 : decode cX12_laysShares 23 = .ok (.iload_n 3, 1) := by decide +kernel
theorem dX12_laysShares_24 : decode cX12_laysShares 24 = .ok (.aload_n 0, 1) := by decide +kernel
theorem dX12_laysShares_25 : decode cX12_laysShares 25 = .ok (.getfield 13, 3) := by decide +kernel
theorem dX12_laysShares_28 : decode cX12_laysShares 28 = .ok (.iconst 0, 1) := by decide +kernel
theorem dX12_laysShares_29 : decode cX12_laysShares 29 = .ok (.iaload, 1) := by decide +kernel
theorem dX12_laysShares_30 : decode cX12_laysShares 30 = .ok (.if_icmp .ge 88, 3) := by decide +kernel
theorem dX12_laysShares_33 : decode cX12_laysShares 33 = .ok (.iload_n 2, 1) := by decide +kernel
theorem dX12_laysShares_34 : decode cX12_laysShares 34 = .ok (.iload_n 3, 1) := by decide +kernel
theorem dX12_laysShares_35 : decode cX12_laysShares 35 = .ok (.ishr, 1) := by decide +kernel
theorem dX12_laysShares_36 : decode cX12_laysShares 36 = .ok (.iconst 1, 1) := by decide +kernel
theorem dX12_laysShares_37 : decode cX12_laysShares 37 = .ok (.iand, 1) := by decide +kernel
theorem dX12_laysShares_38 : decode cX12_laysShares 38 = .ok (.ifCond .ne 6, 3) := by decide +kernel
theorem dX12_laysShares_41 : decode cX12_laysShares 41 = .ok (.goto 71, 3) := by decide +kernel
theorem dX12_laysShares_44 : decode cX12_laysShares 44 = .ok (.iconst 0, 1) := by decide +kernel
theorem dX12_laysShares_45 : decode cX12_laysShares 45 = .ok (.istore 4, 2) := by decide +kernel
theorem dX12_laysShares_47 : decode cX12_laysShares 47 = .ok (.iconst 0, 1) := by decide +kernel
theorem dX12_laysShares_48 : decode cX12_laysShares 48 = .ok (.istore 5, 2) := by decide +kernel
theorem dX12_laysShares_50 : decode cX12_laysShares 50 = .ok (.iload 5, 2) := by decide +kernel
theorem dX12_laysShares_52 : decode cX12_laysShares 52 = .ok (.aload_n 0, 1) := by decide +kernel
theorem dX12_laysShares_53 : decode cX12_laysShares 53 = .ok (.getfield 13, 3) := by decide +kernel
theorem dX12_laysShares_56 : decode cX12_laysShares 56 = .ok (.iconst 0, 1) := by decide +kernel
theorem dX12_laysShares_57 : decode cX12_laysShares 57 = .ok (.iaload, 1) := by decide +kernel
theorem dX12_laysShares_58 : decode cX12_laysShares 58 = .ok (.if_icmp .ge 37, 3) := by decide +kernel
theorem dX12_laysShares_61 : decode cX12_laysShares 61 = .ok (.iload 4, 2) := by decide +kernel
theorem dX12_laysShares_63 : decode cX12_laysShares 63 = .ok (.iload_n 2, 1) := by decide +kernel
theorem dX12_laysShares_64 : decode cX12_laysShares 64 = .ok (.iload 5, 2) := by decide +kernel
theorem dX12_laysShares_66 : decode cX12_laysShares 66 = .ok (.ishr, 1) := by decide +kernel
theorem dX12_laysShares_67 : decode cX12_laysShares 67 = .ok (.iconst 1, 1) := by decide +kernel
theorem dX12_laysShares_68 : decode cX12_laysShares 68 = .ok (.iand, 1) := by decide +kernel
theorem dX12_laysShares_69 : decode cX12_laysShares 69 = .ok (.iconst 1, 1) := by decide +kernel
theorem dX12_laysShares_70 : decode cX12_laysShares 70 = .ok (.if_icmp .ne 15, 3) := by decide +kernel
theorem dX12_laysShares_73 : decode cX12_laysShares 73 = .ok (.aload_n 0, 1) := by decide +kernel
theorem dX12_laysShares_74 : decode cX12_laysShares 74 = .ok (.iload_n 3, 1) := by decide +kernel
theorem dX12_laysShares_75 : decode cX12_laysShares 75 = .ok (.iload_n 1, 1) := by decide +kernel
theorem dX12_laysShares_76 : decode cX12_laysShares 76 = .ok (.iconst 1, 1) := by decide +kernel
theorem dX12_laysShares_77 : decode cX12_laysShares 77 = .ok (.iload 5, 2) := by decide +kernel
theorem dX12_laysShares_79 : decode cX12_laysShares 79 = .ok (.invokevirtual 434, 3) := by decide +kernel
theorem dX12_laysShares_82 : decode cX12_laysShares 82 = .ok (.goto 4, 3) := by decide +kernel
theorem dX12_laysShares_85 : decode cX12_laysShares 85 = .ok (.iconst 0, 1) := by decide +kernel
theorem dX12_laysShares_86 : decode cX12_laysShares 86 = .ok (.iadd, 1) := by decide +kernel
theorem dX12_laysShares_87 : decode cX12_laysShares 87 = .ok (.istore 4, 2) := by decide +kernel
theorem dX12_laysShares_89 : decode cX12_laysShares 89 = .ok (.iinc 5 1, 3) := by decide +kernel
theorem dX12_laysShares_92 : decode cX12_laysShares 92 = .ok (.goto (-42), 3) := by decide +kernel
theorem dX12_laysShares_95 : decode cX12_laysShares 95 = .ok (.aload_n 0, 1) := by decide +kernel
theorem dX12_laysShares_96 : decode cX12_laysShares 96 = .ok (.getfield 144, 3) := by decide +kernel
theorem dX12_laysShares_99 : decode cX12_laysShares 99 = .ok (.iload_n 2, 1) := by decide +kernel
theorem dX12_laysShares_100 : decode cX12_laysShares 100 = .ok (.aload_n 0, 1) := by decide +kernel
theorem dX12_laysShares_101 : decode cX12_laysShares 101 = .ok (.getfield 144, 3) := by decide +kernel
theorem dX12_laysShares_104 : decode cX12_laysShares 104 = .ok (.iload_n 2, 1) := by decide +kernel
theorem dX12_laysShares_105 : decode cX12_laysShares 105 = .ok (.iaload, 1) := by decide +kernel
theorem dX12_laysShares_106 : decode cX12_laysShares 106 = .ok (.iload 4, 2) := by decide +kernel
theorem dX12_laysShares_108 : decode cX12_laysShares 108 = .ok (.invokestatic 416, 3) := by decide +kernel
theorem dX12_laysShares_111 : decode cX12_laysShares 111 = .ok (.iastore, 1) := by decide +kernel
theorem dX12_laysShares_112 : decode cX12_laysShares 112 = .ok (.iinc 3 1, 3) := by decide +kernel
theorem dX12_laysShares_115 : decode cX12_laysShares 115 = .ok (.goto (-92), 3) := by decide +kernel
theorem dX12_laysShares_118 : decode cX12_laysShares 118 = .ok (.iinc 2 1, 3) := by decide +kernel
theorem dX12_laysShares_121 : decode cX12_laysShares 121 = .ok (.goto (-119), 3) := by decide +kernel
theorem dX12_laysShares_124 : decode cX12_laysShares 124 = .ok (.return_, 1) := by decide +kernel
theorem dX12_seats_0 : decode cX12_seats 0 = .ok (.iload_n 1, 1) := by decide +kernel
theorem dX12_seats_1 : decode cX12_seats 1 = .ok (.aload_n 0, 1) := by decide +kernel
theorem dX12_seats_2 : decode cX12_seats 2 = .ok (.getfield 13, 3) := by decide +kernel
theorem dX12_seats_5 : decode cX12_seats 5 = .ok (.iconst 0, 1) := by decide +kernel
theorem dX12_seats_6 : decode cX12_seats 6 = .ok (.iaload, 1) := by decide +kernel
theorem dX12_seats_7 : decode cX12_seats 7 = .ok (.if_icmp .ne 80, 3) := by decide +kernel
theorem dX12_seats_10 : decode cX12_seats 10 = .ok (.iconst 0, 1) := by decide +kernel
theorem dX12_seats_11 : decode cX12_seats 11 = .ok (.istore_n 3, 1) := by decide +kernel
theorem dX12_seats_12 : decode cX12_seats 12 = .ok (.iconst 0, 1) := by decide +kernel
theorem dX12_seats_13 : decode cX12_seats 13 = .ok (.istore 4, 2) := by decide +kernel
theorem dX12_seats_15 : decode cX12_seats 15 = .ok (.iload 4, 2) := by decide +kernel
theorem dX12_seats_17 : decode cX12_seats 17 = .ok (.iload_n 2, 1) := by decide +kernel
theorem dX12_seats_18 : decode cX12_seats 18 = .ok (.if_icmp .ge 24, 3) := by decide +kernel
theorem dX12_seats_21 : decode cX12_seats 21 = .ok (.iload_n 3, 1) := by decide +kernel
theorem dX12_seats_22 : decode cX12_seats 22 = .ok (.aload_n 0, 1) := by decide +kernel
theorem dX12_seats_23 : decode cX12_seats 23 = .ok (.getfield 144, 3) := by decide +kernel
theorem dX12_seats_26 : decode cX12_seats 26 = .ok (.aload_n 0, 1) := by decide +kernel
theorem dX12_seats_27 : decode cX12_seats 27 = .ok (.getfield 141, 3) := by decide +kernel
theorem dX12_seats_30 : decode cX12_seats 30 = .ok (.iload 4, 2) := by decide +kernel
theorem dX12_seats_32 : decode cX12_seats 32 = .ok (.iaload, 1) := by decide +kernel
theorem dX12_seats_33 : decode cX12_seats 33 = .ok (.iaload, 1) := by decide +kernel
theorem dX12_seats_34 : decode cX12_seats 34 = .ok (.iadd, 1) := by decide +kernel
theorem dX12_seats_35 : decode cX12_seats 35 = .ok (.istore_n 3, 1) := by decide +kernel
theorem dX12_seats_36 : decode cX12_seats 36 = .ok (.iinc 4 1, 3) := by decide +kernel
theorem dX12_seats_39 : decode cX12_seats 39 = .ok (.goto (-24), 3) := by decide +kernel
theorem dX12_seats_42 : decode cX12_seats 42 = .ok (.iload_n 3, 1) := by decide +kernel
theorem dX12_seats_43 : decode cX12_seats 43 = .ok (.aload_n 0, 1) := by decide +kernel
theorem dX12_seats_44 : decode cX12_seats 44 = .ok (.getfield 479, 3) := by decide +kernel
theorem dX12_seats_47 : decode cX12_seats 47 = .ok (.if_icmp .gt 4, 3) := by decide +kernel
theorem dX12_seats_50 : decode cX12_seats 50 = .ok (.return_, 1) := by decide +kernel
theorem dX12_seats_51 : decode cX12_seats 51 = .ok (.aload_n 0, 1) := by decide +kernel
theorem dX12_seats_52 : decode cX12_seats 52 = .ok (.iload_n 3, 1) := by decide +kernel
theorem dX12_seats_53 : decode cX12_seats 53 = .ok (.putfield 479, 3) := by decide +kernel
theorem dX12_seats_56 : decode cX12_seats 56 = .ok (.iconst 0, 1) := by decide +kernel
theorem dX12_seats_57 : decode cX12_seats 57 = .ok (.istore 4, 2) := by decide +kernel
theorem dX12_seats_59 : decode cX12_seats 59 = .ok (.iload 4, 2) := by decide +kernel
theorem dX12_seats_61 : decode cX12_seats 61 = .ok (.bipush 6, 2) := by decide +kernel
theorem dX12_seats_63 : decode cX12_seats 63 = .ok (.if_icmp .ge 23, 3) := by decide +kernel
theorem dX12_seats_66 : decode cX12_seats 66 = .ok (.aload_n 0, 1) := by decide +kernel
theorem dX12_seats_67 : decode cX12_seats 67 = .ok (.getfield 138, 3) := by decide +kernel
theorem dX12_seats_70 : decode cX12_seats 70 = .ok (.iload 4, 2) := by decide +kernel
theorem dX12_seats_72 : decode cX12_seats 72 = .ok (.aload_n 0, 1) := by decide +kernel
theorem dX12_seats_73 : decode cX12_seats 73 = .ok (.getfield 135, 3) := by decide +kernel
theorem dX12_seats_76 : decode cX12_seats 76 = .ok (.iload 4, 2) := by decide +kernel
theorem dX12_seats_78 : decode cX12_seats 78 = .ok (.iaload, 1) := by decide +kernel
theorem dX12_seats_79 : decode cX12_seats 79 = .ok (.iastore, 1) := by decide +kernel
theorem dX12_seats_80 : decode cX12_seats 80 = .ok (.iinc 4 1, 3) := by decide +kernel
theorem dX12_seats_83 : decode cX12_seats 83 = .ok (.goto (-24), 3) := by decide +kernel
theorem dX12_seats_86 : decode cX12_seats 86 = .ok (.return_, 1) := by decide +kernel
theorem dX12_seats_87 : decode cX12_seats 87 = .ok (.aload_n 0, 1) := by decide +kernel
theorem dX12_seats_88 : decode cX12_seats 88 = .ok (.iload_n 1, 1) := by decide +kernel
theorem dX12_seats_89 : decode cX12_seats 89 = .ok (.invokevirtual 395, 3) := by decide +kernel
theorem dX12_seats_92 : decode cX12_seats 92 = .ok (.ifCond .eq 19, 3) := by decide +kernel
theorem dX12_seats_95 : decode cX12_seats 95 = .ok (.aload_n 0, 1) := by decide +kernel
theorem dX12_seats_96 : decode cX12_seats 96 = .ok (.getfield 135, 3) := by decide +kernel
theorem dX12_seats_99 : decode cX12_seats 99 = .ok (.iload_n 1, 1) := by decide +kernel
theorem dX12_seats_100 : decode cX12_seats 100 = .ok (.iconst (-1), 1) := by decide +kernel
theorem dX12_seats_101 : decode cX12_seats 101 = .ok (.iastore, 1) := by decide +kernel
theorem dX12_seats_102 : decode cX12_seats 102 = .ok (.aload_n 0, 1) := by decide +kernel
theorem dX12_seats_103 : decode cX12_seats 103 = .ok (.iload_n 1, 1) := by decide +kernel
theorem dX12_seats_104 : decode cX12_seats 104 = .ok (.iconst 1, 1) := by decide +kernel
theorem dX12_seats_105 : decode cX12_seats 105 = .ok (.iadd, 1) := by decide +kernel
theorem dX12_seats_106 : decode cX12_seats 106 = .ok (.iload_n 2, 1) := by decide +kernel
theorem dX12_seats_107 : decode cX12_seats 107 = .ok (.invokevirtual 482, 3) := by decide +kernel
theorem dX12_seats_110 : decode cX12_seats 110 = .ok (.return_, 1) := by decide +kernel
theorem dX12_seats_111 : decode cX12_seats 111 = .ok (.iconst 0, 1) := by decide +kernel
theorem dX12_seats_112 : decode cX12_seats 112 = .ok (.istore_n 3, 1) := by decide +kernel
theorem dX12_seats_113 : decode cX12_seats 113 = .ok (.iload_n 3, 1) := by decide +kernel
theorem dX12_seats_114 : decode cX12_seats 114 = .ok (.iload_n 2, 1) := by decide +kernel
theorem dX12_seats_115 : decode cX12_seats 115 = .ok (.if_icmp .gt 72, 3) := by decide +kernel
theorem dX12_seats_118 : decode cX12_seats 118 = .ok (.iload_n 3, 1) := by decide +kernel
theorem dX12_seats_119 : decode cX12_seats 119 = .ok (.iload_n 2, 1) := by decide +kernel
theorem dX12_seats_120 : decode cX12_seats 120 = .ok (.if_icmp .ne 7, 3) := by decide +kernel
theorem dX12_seats_123 : decode cX12_seats 123 = .ok (.iconst 0, 1) := by decide +kernel
theorem dX12_seats_124 : decode cX12_seats 124 = .ok (.goto 9, 3) := by decide +kernel
theorem dX12_seats_127 : decode cX12_seats 127 = .ok (.aload_n 0, 1) := by decide +kernel
theorem dX12_seats_128 : decode cX12_seats 128 = .ok (.getfield 141, 3) := by decide +kernel
theorem dX12_seats_131 : decode cX12_seats 131 = .ok (.iload_n 3, 1) := by decide +kernel
theorem dX12_seats_132 : decode cX12_seats 132 = .ok (.iaload, 1) := by decide +kernel
theorem dX12_seats_133 : decode cX12_seats 133 = .ok (.istore 4, 2) := by decide +kernel
theorem dX12_seats_135 : decode cX12_seats 135 = .ok (.aload_n 0, 1) := by decide +kernel
theorem dX12_seats_136 : decode cX12_seats 136 = .ok (.getfield 141, 3) := by decide +kernel
theorem dX12_seats_139 : decode cX12_seats 139 = .ok (.iload_n 3, 1) := by decide +kernel
theorem dX12_seats_140 : decode cX12_seats 140 = .ok (.iload 4, 2) := by decide +kernel
theorem dX12_seats_142 : decode cX12_seats 142 = .ok (.iconst 1, 1) := by decide +kernel
theorem dX12_seats_143 : decode cX12_seats 143 = .ok (.iload_n 1, 1) := by decide +kernel
theorem dX12_seats_144 : decode cX12_seats 144 = .ok (.ishl, 1) := by decide +kernel
theorem dX12_seats_145 : decode cX12_seats 145 = .ok (.ior, 1) := by decide +kernel
theorem dX12_seats_146 : decode cX12_seats 146 = .ok (.iastore, 1) := by decide +kernel
theorem dX12_seats_147 : decode cX12_seats 147 = .ok (.aload_n 0, 1) := by decide +kernel
theorem dX12_seats_148 : decode cX12_seats 148 = .ok (.getfield 135, 3) := by decide +kernel
theorem dX12_seats_151 : decode cX12_seats 151 = .ok (.iload_n 1, 1) := by decide +kernel
theorem dX12_seats_152 : decode cX12_seats 152 = .ok (.iload_n 3, 1) := by decide +kernel
theorem dX12_seats_153 : decode cX12_seats 153 = .ok (.iastore, 1) := by decide +kernel
theorem dX12_seats_154 : decode cX12_seats 154 = .ok (.aload_n 0, 1) := by decide +kernel
theorem dX12_seats_155 : decode cX12_seats 155 = .ok (.iload_n 1, 1) := by decide +kernel
theorem dX12_seats_156 : decode cX12_seats 156 = .ok (.iconst 1, 1) := by decide +kernel
theorem dX12_seats_157 : decode cX12_seats 157 = .ok (.iadd, 1) := by decide +kernel
theorem dX12_seats_158 : decode cX12_seats 158 = .ok (.iload_n 3, 1) := by decide +kernel
theorem dX12_seats_159 : decode cX12_seats 159 = .ok (.iload_n 2, 1) := by decide +kernel
theorem dX12_seats_160 : decode cX12_seats 160 = .ok (.if_icmp .ne 9, 3) := by decide +kernel
theorem dX12_seats_163 : decode cX12_seats 163 = .ok (.iload_n 2, 1) := by decide +kernel
theorem dX12_seats_164 : decode cX12_seats 164 = .ok (.iconst 1, 1) := by decide +kernel
theorem dX12_seats_165 : decode cX12_seats 165 = .ok (.iadd, 1) := by decide +kernel
theorem dX12_seats_166 : decode cX12_seats 166 = .ok (.goto 4, 3) := by decide +kernel
theorem dX12_seats_169 : decode cX12_seats 169 = .ok (.iload_n 2, 1) := by decide +kernel
theorem dX12_seats_170 : decode cX12_seats 170 = .ok (.invokevirtual 482, 3) := by decide +kernel
theorem dX12_seats_173 : decode cX12_seats 173 = .ok (.aload_n 0, 1) := by decide +kernel
theorem dX12_seats_174 : decode cX12_seats 174 = .ok (.getfield 141, 3) := by decide +kernel
theorem dX12_seats_177 : decode cX12_seats 177 = .ok (.iload_n 3, 1) := by decide +kernel
theorem dX12_seats_178 : decode cX12_seats 178 = .ok (.iload 4, 2) := by decide +kernel
theorem dX12_seats_180 : decode cX12_seats 180 = .ok (.iastore, 1) := by decide +kernel
theorem dX12_seats_181 : decode cX12_seats 181 = .ok (.iinc 3 1, 3) := by decide +kernel
theorem dX12_seats_184 : decode cX12_seats 184 = .ok (.goto (-71), 3) := by decide +kernel
theorem dX12_seats_187 : decode cX12_seats 187 = .ok (.return_, 1) := by decide +kernel
theorem dX12_tables_0 : decode cX12_tables 0 = .ok (.aload_n 0, 1) := by decide +kernel
theorem dX12_tables_1 : decode cX12_tables 1 = .ok (.iconst 0, 1) := by decide +kernel
theorem dX12_tables_2 : decode cX12_tables 2 = .ok (.putfield 156, 3) := by decide +kernel
theorem dX12_tables_5 : decode cX12_tables 5 = .ok (.aload_n 0, 1) := by decide +kernel
theorem dX12_tables_6 : decode cX12_tables 6 = .ok (.iload_n 1, 1) := by decide +kernel
theorem dX12_tables_7 : decode cX12_tables 7 = .ok (.invokevirtual 447, 3) := by decide +kernel
theorem dX12_tables_10 : decode cX12_tables 10 = .ok (.ifCond .eq 16, 3) := by decide +kernel
theorem dX12_tables_13 : decode cX12_tables 13 = .ok (.iload_n 2, 1) := by decide +kernel
theorem dX12_tables_14 : decode cX12_tables 14 = .ok (.iconst (-1), 1) := by decide +kernel
theorem dX12_tables_15 : decode cX12_tables 15 = .ok (.if_icmp .eq 14, 3) := by decide +kernel
theorem dX12_tables_18 : decode cX12_tables 18 = .ok (.aload_n 0, 1) := by decide +kernel
theorem dX12_tables_19 : decode cX12_tables 19 = .ok (.iload_n 2, 1) := by decide +kernel
theorem dX12_tables_20 : decode cX12_tables 20 = .ok (.invokevirtual 444, 3) := by decide +kernel
theorem dX12_tables_23 : decode cX12_tables 23 = .ok (.ifCond .ne 6, 3) := by decide +kernel
theorem dX12_tables_26 : decode cX12_tables 26 = .ok (.bipush (-2), 2) := by decide +kernel
theorem dX12_tables_28 : decode cX12_tables 28 = .ok (.ireturn, 1) := by decide +kernel
theorem dX12_tables_29 : decode cX12_tables 29 = .ok (.aload_n 0, 1) := by decide +kernel
theorem dX12_tables_30 : decode cX12_tables 30 = .ok (.iload_n 1, 1) := by decide +kernel
theorem dX12_tables_31 : decode cX12_tables 31 = .ok (.invokevirtual 485, 3) := by decide +kernel
theorem dX12_tables_34 : decode cX12_tables 34 = .ok (.aload_n 0, 1) := by decide +kernel
theorem dX12_tables_35 : decode cX12_tables 35 = .ok (.iconst (-1), 1) := by decide +kernel
theorem dX12_tables_36 : decode cX12_tables 36 = .ok (.putfield 479, 3) := by decide +kernel
theorem dX12_tables_39 : decode cX12_tables 39 = .ok (.aload_n 0, 1) := by decide +kernel
theorem dX12_tables_40 : decode cX12_tables 40 = .ok (.iconst 0, 1) := by decide +kernel
theorem dX12_tables_41 : decode cX12_tables 41 = .ok (.iconst 0, 1) := by decide +kernel
theorem dX12_tables_42 : decode cX12_tables 42 = .ok (.invokevirtual 482, 3) := by decide +kernel
theorem dX12_tables_45 : decode cX12_tables 45 = .ok (.iload_n 2, 1) := by decide +kernel
theorem dX12_tables_46 : decode cX12_tables 46 = .ok (.iconst (-1), 1) := by decide +kernel
theorem dX12_tables_47 : decode cX12_tables 47 = .ok (.if_icmp .ne 10, 3) := by decide +kernel
theorem dX12_tables_50 : decode cX12_tables 50 = .ok (.aload_n 0, 1) := by decide +kernel
theorem dX12_tables_51 : decode cX12_tables 51 = .ok (.getfield 479, 3) := by decide +kernel
theorem dX12_tables_54 : decode cX12_tables 54 = .ok (.goto 9, 3) := by decide +kernel
theorem dX12_tables_57 : decode cX12_tables 57 = .ok (.aload_n 0, 1) := by decide +kernel
theorem dX12_tables_58 : decode cX12_tables 58 = .ok (.getfield 138, 3) := by decide +kernel
theorem dX12_tables_61 : decode cX12_tables 61 = .ok (.iload_n 2, 1) := by decide +kernel
theorem dX12_tables_62 : decode cX12_tables 62 = .ok (.iaload, 1) := by decide +kernel
theorem dX12_tables_63 : decode cX12_tables 63 = .ok (.ireturn, 1) := by decide +kernel
theorem dX12_nextEater_0 : decode cX12_nextEater 0 = .ok (.iconst 0, 1) := by decide +kernel
theorem dX12_nextEater_1 : decode cX12_nextEater 1 = .ok (.istore_n 3, 1) := by decide +kernel
theorem dX12_nextEater_2 : decode cX12_nextEater 2 = .ok (.iload_n 3, 1) := by decide +kernel
theorem dX12_nextEater_3 : decode cX12_nextEater 3 = .ok (.aload_n 0, 1) := by decide +kernel
theorem dX12_nextEater_4 : decode cX12_nextEater 4 = .ok (.getfield 13, 3) := by decide +kernel
theorem dX12_nextEater_7 : decode cX12_nextEater 7 = .ok (.iconst 0, 1) := by decide +kernel
theorem dX12_nextEater_8 : decode cX12_nextEater 8 = .ok (.iaload, 1) := by decide +kernel
theorem dX12_nextEater_9 : decode cX12_nextEater 9 = .ok (.if_icmp .ge 43, 3) := by decide +kernel
theorem dX12_nextEater_12 : decode cX12_nextEater 12 = .ok (.iload_n 1, 1) := by decide +kernel
theorem dX12_nextEater_13 : decode cX12_nextEater 13 = .ok (.iload_n 3, 1) := by decide +kernel
theorem dX12_nextEater_14 : decode cX12_nextEater 14 = .ok (.iadd, 1) := by decide +kernel
theorem dX12_nextEater_15 : decode cX12_nextEater 15 = .ok (.aload_n 0, 1) := by decide +kernel
theorem dX12_nextEater_16 : decode cX12_nextEater 16 = .ok (.getfield 13, 3) := by decide +kernel
theorem dX12_nextEater_19 : decode cX12_nextEater 19 = .ok (.iconst 0, 1) := by decide +kernel
theorem dX12_nextEater_20 : decode cX12_nextEater 20 = .ok (.iaload, 1) := by decide +kernel
theorem dX12_nextEater_21 : decode cX12_nextEater 21 = .ok (.irem, 1) := by decide +kernel
theorem dX12_nextEater_22 : decode cX12_nextEater 22 = .ok (.istore 4, 2) := by decide +kernel
theorem dX12_nextEater_24 : decode cX12_nextEater 24 = .ok (.aload_n 0, 1) := by decide +kernel
theorem dX12_nextEater_25 : decode cX12_nextEater 25 = .ok (.iload 4, 2) := by decide +kernel
theorem dX12_nextEater_27 : decode cX12_nextEater 27 = .ok (.iload_n 2, 1) := by decide +kernel
theorem dX12_nextEater_28 : decode cX12_nextEater 28 = .ok (.invokevirtual 450, 3) := by decide +kernel
theorem dX12_nextEater_31 : decode cX12_nextEater 31 = .ok (.ifCond .eq 15, 3) := by decide +kernel
theorem dX12_nextEater_34 : decode cX12_nextEater 34 = .ok (.aload_n 0, 1) := by decide +kernel
theorem dX12_nextEater_35 : decode cX12_nextEater 35 = .ok (.iload 4, 2) := by decide +kernel
theorem dX12_nextEater_37 : decode cX12_nextEater 37 = .ok (.invokevirtual 428, 3) := by decide +kernel
theorem dX12_nextEater_40 : decode cX12_nextEater 40 = .ok (.ifCond .ne 6, 3) := by decide +kernel
theorem dX12_nextEater_43 : decode cX12_nextEater 43 = .ok (.iload 4, 2) := by decide +kernel
theorem dX12_nextEater_45 : decode cX12_nextEater 45 = .ok (.ireturn, 1) := by decide +kernel
theorem dX12_nextEater_46 : decode cX12_nextEater 46 = .ok (.iinc 3 1, 3) := by decide +kernel
theorem dX12_nextEater_49 : decode cX12_nextEater 49 = .ok (.goto (-47), 3) := by decide +kernel
theorem dX12_nextEater_52 : decode cX12_nextEater 52 = .ok (.iconst (-1), 1) := by decide +kernel
theorem dX12_nextEater_53 : decode cX12_nextEater 53 = .ok (.ireturn, 1) := by decide +kernel
theorem dX12_last_0 : decode cX12_last 0 = .ok (.aload_n 0, 1) := by decide +kernel
theorem dX12_last_1 : decode cX12_last 1 = .ok (.iconst 0, 1) := by decide +kernel
theorem dX12_last_2 : decode cX12_last 2 = .ok (.putfield 156, 3) := by decide +kernel
theorem dX12_last_5 : decode cX12_last 5 = .ok (.aload_n 0, 1) := by decide +kernel
theorem dX12_last_6 : decode cX12_last 6 = .ok (.iload_n 1, 1) := by decide +kernel
theorem dX12_last_7 : decode cX12_last 7 = .ok (.invokevirtual 447, 3) := by decide +kernel
theorem dX12_last_10 : decode cX12_last 10 = .ok (.ifCond .ne 5, 3) := by decide +kernel
theorem dX12_last_13 : decode cX12_last 13 = .ok (.iconst (-1), 1) := by decide +kernel
theorem dX12_last_14 : decode cX12_last 14 = .ok (.ireturn, 1) := by decide +kernel
theorem dX12_last_15 : decode cX12_last 15 = .ok (.aload_n 0, 1) := by decide +kernel
theorem dX12_last_16 : decode cX12_last 16 = .ok (.getfield 117, 3) := by decide +kernel
theorem dX12_last_19 : decode cX12_last 19 = .ok (.iconst 0, 1) := by decide +kernel
theorem dX12_last_20 : decode cX12_last 20 = .ok (.aload_n 0, 1) := by decide +kernel
theorem dX12_last_21 : decode cX12_last 21 = .ok (.getfield 120, 3) := by decide +kernel
theorem dX12_last_24 : decode cX12_last 24 = .ok (.iconst 0, 1) := by decide +kernel
theorem dX12_last_25 : decode cX12_last 25 = .ok (.invokestatic 453, 3) := by decide +kernel
theorem dX12_last_28 : decode cX12_last 28 = .ok (.iconst 0, 1) := by decide +kernel
theorem dX12_last_29 : decode cX12_last 29 = .ok (.istore_n 2, 1) := by decide +kernel
theorem dX12_last_30 : decode cX12_last 30 = .ok (.iconst 0, 1) := by decide +kernel
theorem dX12_last_31 : decode cX12_last 31 = .ok (.istore_n 3, 1) := by decide +kernel
theorem dX12_last_32 : decode cX12_last 32 = .ok (.iconst 1, 1) := by decide +kernel
theorem dX12_last_33 : decode cX12_last 33 = .ok (.istore 4, 2) := by decide +kernel
theorem dX12_last_35 : decode cX12_last 35 = .ok (.iload 4, 2) := by decide +kernel
theorem dX12_last_37 : decode cX12_last 37 = .ok (.ifCond .eq 71, 3) := by decide +kernel
theorem dX12_last_40 : decode cX12_last 40 = .ok (.iload_n 2, 1) := by decide +kernel
theorem dX12_last_41 : decode cX12_last 41 = .ok (.bipush 60, 2) := by decide +kernel
theorem dX12_last_43 : decode cX12_last 43 = .ok (.if_icmp .ge 65, 3) := by decide +kernel
theorem dX12_last_46 : decode cX12_last 46 = .ok (.aload_n 0, 1) := by decide +kernel
theorem dX12_last_47 : decode cX12_last 47 = .ok (.iload_n 3, 1) := by decide +kernel
theorem dX12_last_48 : decode cX12_last 48 = .ok (.iload_n 1, 1) := by decide +kernel
theorem dX12_last_49 : decode cX12_last 49 = .ok (.invokevirtual 488, 3) := by decide +kernel
theorem dX12_last_52 : decode cX12_last 52 = .ok (.istore 5, 2) := by decide +kernel
theorem dX12_last_54 : decode cX12_last 54 = .ok (.iload 5, 2) := by decide +kernel
theorem dX12_last_56 : decode cX12_last 56 = .ok (.ifCond .lt 12, 3) := by decide +kernel
theorem dX12_last_59 : decode cX12_last 59 = .ok (.aload_n 0, 1) := by decide +kernel
theorem dX12_last_60 : decode cX12_last 60 = .ok (.iload 5, 2) := by decide +kernel
theorem dX12_last_62 : decode cX12_last 62 = .ok (.iload_n 1, 1) := by decide +kernel
theorem dX12_last_63 : decode cX12_last 63 = .ok (.iconst 1, 1) := by decide +kernel
theorem dX12_last_64 : decode cX12_last 64 = .ok (.invokevirtual 460, 3) := by decide +kernel
theorem dX12_last_67 : decode cX12_last 67 = .ok (.pop, 1) := by decide +kernel
theorem dX12_last_68 : decode cX12_last 68 = .ok (.iload 5, 2) := by decide +kernel
theorem dX12_last_70 : decode cX12_last 70 = .ok (.ifCond .lt 14, 3) := by decide +kernel
theorem dX12_last_73 : decode cX12_last 73 = .ok (.aload_n 0, 1) := by decide +kernel
theorem dX12_last_74 : decode cX12_last 74 = .ok (.getfield 424, 3) := by decide +kernel
theorem dX12_last_77 : decode cX12_last 77 = .ok (.ifCond .ne 7, 3) := by decide +kernel
theorem dX12_last_80 : decode cX12_last 80 = .ok (.iconst 1, 1) := by decide +kernel
theorem dX12_last_81 : decode cX12_last 81 = .ok (.goto 4, 3) := by decide +kernel
theorem dX12_last_84 : decode cX12_last 84 = .ok (.iconst 0, 1) := by decide +kernel
theorem dX12_last_85 : decode cX12_last 85 = .ok (.istore 4, 2) := by decide +kernel
theorem dX12_last_87 : decode cX12_last 87 = .ok (.iload_n 2, 1) := by decide +kernel
theorem dX12_last_88 : decode cX12_last 88 = .ok (.iload 4, 2) := by decide +kernel
theorem dX12_last_90 : decode cX12_last 90 = .ok (.ifCond .eq 7, 3) := by decide +kernel
theorem dX12_last_93 : decode cX12_last 93 = .ok (.iconst 1, 1) := by decide +kernel
theorem dX12_last_94 : decode cX12_last 94 = .ok (.goto 4, 3) := by decide +kernel
theorem dX12_last_97 : decode cX12_last 97 = .ok (.iconst 0, 1) := by decide +kernel
theorem dX12_last_98 : decode cX12_last 98 = .ok (.iadd, 1) := by decide +kernel
theorem dX12_last_99 : decode cX12_last 99 = .ok (.istore_n 2, 1) := by decide +kernel
theorem dX12_last_100 : decode cX12_last 100 = .ok (.iload 5, 2) := by decide +kernel
theorem dX12_last_102 : decode cX12_last 102 = .ok (.iconst 1, 1) := by decide +kernel
theorem dX12_last_103 : decode cX12_last 103 = .ok (.iadd, 1) := by decide +kernel
theorem dX12_last_104 : decode cX12_last 104 = .ok (.istore_n 3, 1) := by decide +kernel
theorem dX12_last_105 : decode cX12_last 105 = .ok (.goto (-70), 3) := by decide +kernel
theorem dX12_last_108 : decode cX12_last 108 = .ok (.aload_n 0, 1) := by decide +kernel
theorem dX12_last_109 : decode cX12_last 109 = .ok (.getfield 120, 3) := by decide +kernel
theorem dX12_last_112 : decode cX12_last 112 = .ok (.iconst 0, 1) := by decide +kernel
theorem dX12_last_113 : decode cX12_last 113 = .ok (.aload_n 0, 1) := by decide +kernel
theorem dX12_last_114 : decode cX12_last 114 = .ok (.getfield 117, 3) := by decide +kernel
theorem dX12_last_117 : decode cX12_last 117 = .ok (.iconst 0, 1) := by decide +kernel
theorem dX12_last_118 : decode cX12_last 118 = .ok (.invokestatic 453, 3) := by decide +kernel
theorem dX12_last_121 : decode cX12_last 121 = .ok (.iload_n 2, 1) := by decide +kernel
theorem dX12_last_122 : decode cX12_last 122 = .ok (.ireturn, 1) := by decide +kernel
theorem dX12_tell_0 : decode cX12_tell 0 = .ok (.aload_n 0, 1) := by decide +kernel
theorem dX12_tell_1 : decode cX12_tell 1 = .ok (.iconst 0, 1) := by decide +kernel
theorem dX12_tell_2 : decode cX12_tell 2 = .ok (.putfield 156, 3) := by decide +kernel
theorem dX12_tell_5 : decode cX12_tell 5 = .ok (.aload_n 0, 1) := by decide +kernel
theorem dX12_tell_6 : decode cX12_tell 6 = .ok (.iload_n 1, 1) := by decide +kernel
theorem dX12_tell_7 : decode cX12_tell 7 = .ok (.invokevirtual 444, 3) := by decide +kernel
theorem dX12_tell_10 : decode cX12_tell 10 = .ok (.ifCond .eq 13, 3) := by decide +kernel
theorem dX12_tell_13 : decode cX12_tell 13 = .ok (.iload_n 2, 1) := by decide +kernel
theorem dX12_tell_14 : decode cX12_tell 14 = .ok (.iconst 0, 1) := by decide +kernel
theorem dX12_tell_15 : decode cX12_tell 15 = .ok (.bipush 99, 2) := by decide +kernel
theorem dX12_tell_17 : decode cX12_tell 17 = .ok (.invokestatic 293, 3) := by decide +kernel
theorem dX12_tell_20 : decode cX12_tell 20 = .ok (.ifCond .ne 5, 3) := by decide +kernel
theorem dX12_tell_23 : decode cX12_tell 23 = .ok (.iconst 0, 1) := by decide +kernel
theorem dX12_tell_24 : decode cX12_tell 24 = .ok (.ireturn, 1) := by decide +kernel
theorem dX12_tell_25 : decode cX12_tell 25 = .ok (.aload_n 0, 1) := by decide +kernel
theorem dX12_tell_26 : decode cX12_tell 26 = .ok (.getfield 114, 3) := by decide +kernel
theorem dX12_tell_29 : decode cX12_tell 29 = .ok (.iload_n 1, 1) := by decide +kernel
theorem dX12_tell_30 : decode cX12_tell 30 = .ok (.iload_n 2, 1) := by decide +kernel
theorem dX12_tell_31 : decode cX12_tell 31 = .ok (.iastore, 1) := by decide +kernel
theorem dX12_tell_32 : decode cX12_tell 32 = .ok (.iconst 1, 1) := by decide +kernel
theorem dX12_tell_33 : decode cX12_tell 33 = .ok (.ireturn, 1) := by decide +kernel
theorem dX12_fullBy_0 : decode cX12_fullBy 0 = .ok (.iload_n 1, 1) := by decide +kernel
theorem dX12_fullBy_1 : decode cX12_fullBy 1 = .ok (.iload_n 2, 1) := by decide +kernel
theorem dX12_fullBy_2 : decode cX12_fullBy 2 = .ok (.ishr, 1) := by decide +kernel
theorem dX12_fullBy_3 : decode cX12_fullBy 3 = .ok (.iconst 1, 1) := by decide +kernel
theorem dX12_fullBy_4 : decode cX12_fullBy 4 = .ok (.iand, 1) := by decide +kernel
theorem dX12_fullBy_5 : decode cX12_fullBy 5 = .ok (.ifCond .ne 14, 3) := by decide +kernel
theorem dX12_fullBy_8 : decode cX12_fullBy 8 = .ok (.aload_n 0, 1) := by decide +kernel
theorem dX12_fullBy_9 : decode cX12_fullBy 9 = .ok (.getfield 117, 3) := by decide +kernel
theorem dX12_fullBy_12 : decode cX12_fullBy 12 = .ok (.iconst 3, 1) := by decide +kernel
theorem dX12_fullBy_13 : decode cX12_fullBy 13 = .ok (.iload_n 2, 1) := by decide +kernel
theorem dX12_fullBy_14 : decode cX12_fullBy 14 = .ok (.iadd, 1) := by decide +kernel
theorem dX12_fullBy_15 : decode cX12_fullBy 15 = .ok (.iaload, 1) := by decide +kernel
theorem dX12_fullBy_16 : decode cX12_fullBy 16 = .ok (.goto 23, 3) := by decide +kernel
theorem dX12_fullBy_19 : decode cX12_fullBy 19 = .ok (.bipush 99, 2) := by decide +kernel
theorem dX12_fullBy_21 : decode cX12_fullBy 21 = .ok (.aload_n 0, 1) := by decide +kernel
theorem dX12_fullBy_22 : decode cX12_fullBy 22 = .ok (.getfield 117, 3) := by decide +kernel
theorem dX12_fullBy_25 : decode cX12_fullBy 25 = .ok (.iconst 3, 1) := by decide +kernel
theorem dX12_fullBy_26 : decode cX12_fullBy 26 = .ok (.iload_n 2, 1) := by decide +kernel
theorem dX12_fullBy_27 : decode cX12_fullBy 27 = .ok (.iadd, 1) := by decide +kernel
theorem dX12_fullBy_28 : decode cX12_fullBy 28 = .ok (.iaload, 1) := by decide +kernel
theorem dX12_fullBy_29 : decode cX12_fullBy 29 = .ok (.aload_n 0, 1) := by decide +kernel
theorem dX12_fullBy_30 : decode cX12_fullBy 30 = .ok (.iload_n 2, 1) := by decide +kernel
theorem dX12_fullBy_31 : decode cX12_fullBy 31 = .ok (.iload_n 3, 1) := by decide +kernel
theorem dX12_fullBy_32 : decode cX12_fullBy 32 = .ok (.invokevirtual 464, 3) := by decide +kernel
theorem dX12_fullBy_35 : decode cX12_fullBy 35 = .ok (.iadd, 1) := by decide +kernel
theorem dX12_fullBy_36 : decode cX12_fullBy 36 = .ok (.invokestatic 421, 3) := by decide +kernel
theorem dX12_fullBy_39 : decode cX12_fullBy 39 = .ok (.ireturn, 1) := by decide +kernel
theorem dX12_isAsTold_0 : decode cX12_isAsTold 0 = .ok (.iconst 0, 1) := by decide +kernel
theorem dX12_isAsTold_1 : decode cX12_isAsTold 1 = .ok (.istore_n 3, 1) := by decide +kernel
theorem dX12_isAsTold_2 : decode cX12_isAsTold 2 = .ok (.iload_n 3, 1) := by decide +kernel
theorem dX12_isAsTold_3 : decode cX12_isAsTold 3 = .ok (.aload_n 0, 1) := by decide +kernel
theorem dX12_isAsTold_4 : decode cX12_isAsTold 4 = .ok (.getfield 13, 3) := by decide +kernel
theorem dX12_isAsTold_7 : decode cX12_isAsTold 7 = .ok (.iconst 0, 1) := by decide +kernel
theorem dX12_isAsTold_8 : decode cX12_isAsTold 8 = .ok (.iaload, 1) := by decide +kernel
theorem dX12_isAsTold_9 : decode cX12_isAsTold 9 = .ok (.if_icmp .ge 36, 3) := by decide +kernel
theorem dX12_isAsTold_12 : decode cX12_isAsTold 12 = .ok (.aload_n 0, 1) := by decide +kernel
theorem dX12_isAsTold_13 : decode cX12_isAsTold 13 = .ok (.getfield 114, 3) := by decide +kernel
theorem dX12_isAsTold_16 : decode cX12_isAsTold 16 = .ok (.iload_n 3, 1) := by decide +kernel
theorem dX12_isAsTold_17 : decode cX12_isAsTold 17 = .ok (.iaload, 1) := by decide +kernel
theorem dX12_isAsTold_18 : decode cX12_isAsTold 18 = .ok (.ifCond .lt 21, 3) := by decide +kernel
theorem dX12_isAsTold_21 : decode cX12_isAsTold 21 = .ok (.aload_n 0, 1) := by decide +kernel
theorem dX12_isAsTold_22 : decode cX12_isAsTold 22 = .ok (.iload_n 1, 1) := by decide +kernel
theorem dX12_isAsTold_23 : decode cX12_isAsTold 23 = .ok (.iload_n 3, 1) := by decide +kernel
theorem dX12_isAsTold_24 : decode cX12_isAsTold 24 = .ok (.iload_n 2, 1) := by decide +kernel
theorem dX12_isAsTold_25 : decode cX12_isAsTold 25 = .ok (.invokevirtual 491, 3) := by decide +kernel
theorem dX12_isAsTold_28 : decode cX12_isAsTold 28 = .ok (.aload_n 0, 1) := by decide +kernel
theorem dX12_isAsTold_29 : decode cX12_isAsTold 29 = .ok (.getfield 114, 3) := by decide +kernel
theorem dX12_isAsTold_32 : decode cX12_isAsTold 32 = .ok (.iload_n 3, 1) := by decide +kernel
theorem dX12_isAsTold_33 : decode cX12_isAsTold 33 = .ok (.iaload, 1) := by decide +kernel
theorem dX12_isAsTold_34 : decode cX12_isAsTold 34 = .ok (.if_icmp .eq 5, 3) := by decide +kernel
theorem dX12_isAsTold_37 : decode cX12_isAsTold 37 = .ok (.iconst 0, 1) := by decide +kernel
theorem dX12_isAsTold_38 : decode cX12_isAsTold 38 = .ok (.ireturn, 1) := by decide +kernel
theorem dX12_isAsTold_39 : decode cX12_isAsTold 39 = .ok (.iinc 3 1, 3) := by decide +kernel
theorem dX12_isAsTold_42 : decode cX12_isAsTold 42 = .ok (.goto (-40), 3) := by decide +kernel
theorem dX12_isAsTold_45 : decode cX12_isAsTold 45 = .ok (.iconst 1, 1) := by decide +kernel
theorem dX12_isAsTold_46 : decode cX12_isAsTold 46 = .ok (.ireturn, 1) := by decide +kernel
theorem dX12_mostAlike_0 : decode cX12_mostAlike 0 = .ok (.iconst 0, 1) := by decide +kernel
theorem dX12_mostAlike_1 : decode cX12_mostAlike 1 = .ok (.istore_n 3, 1) := by decide +kernel
theorem dX12_mostAlike_2 : decode cX12_mostAlike 2 = .ok (.iconst 0, 1) := by decide +kernel
theorem dX12_mostAlike_3 : decode cX12_mostAlike 3 = .ok (.istore 4, 2) := by decide +kernel
theorem dX12_mostAlike_5 : decode cX12_mostAlike 5 = .ok (.iconst 0, 1) := by decide +kernel
theorem dX12_mostAlike_6 : decode cX12_mostAlike 6 = .ok (.istore 5, 2) := by decide +kernel
theorem dX12_mostAlike_8 : decode cX12_mostAlike 8 = .ok (.iload 5, 2) := by decide +kernel
theorem dX12_mostAlike_10 : decode cX12_mostAlike 10 = .ok (.iconst 1, 1) := by decide +kernel
theorem dX12_mostAlike_11 : decode cX12_mostAlike 11 = .ok (.aload_n 0, 1) := by decide +kernel
theorem dX12_mostAlike_12 : decode cX12_mostAlike 12 = .ok (.getfield 13, 3) := by decide +kernel
theorem dX12_mostAlike_15 : decode cX12_mostAlike 15 = .ok (.iconst 0, 1) := by decide +kernel
theorem dX12_mostAlike_16 : decode cX12_mostAlike 16 = .ok (.iaload, 1) := by decide +kernel
theorem dX12_mostAlike_17 : decode cX12_mostAlike 17 = .ok (.ishl, 1) := by decide +kernel
theorem dX12_mostAlike_18 : decode cX12_mostAlike 18 = .ok (.if_icmp .ge 50, 3) := by decide +kernel
theorem dX12_mostAlike_21 : decode cX12_mostAlike 21 = .ok (.aload_n 0, 1) := by decide +kernel
theorem dX12_mostAlike_22 : decode cX12_mostAlike 22 = .ok (.iload 5, 2) := by decide +kernel
theorem dX12_mostAlike_24 : decode cX12_mostAlike 24 = .ok (.iload_n 2, 1) := by decide +kernel
theorem dX12_mostAlike_25 : decode cX12_mostAlike 25 = .ok (.invokevirtual 494, 3) := by decide +kernel
theorem dX12_mostAlike_28 : decode cX12_mostAlike 28 = .ok (.ifCond .ne 6, 3) := by decide +kernel
theorem dX12_mostAlike_31 : decode cX12_mostAlike 31 = .ok (.goto 31, 3) := by decide +kernel
theorem dX12_mostAlike_34 : decode cX12_mostAlike 34 = .ok (.aload_n 0, 1) := by decide +kernel
theorem dX12_mostAlike_35 : decode cX12_mostAlike 35 = .ok (.iload 5, 2) := by decide +kernel
theorem dX12_mostAlike_37 : decode cX12_mostAlike 37 = .ok (.iload_n 1, 1) := by decide +kernel
theorem dX12_mostAlike_38 : decode cX12_mostAlike 38 = .ok (.iload_n 2, 1) := by decide +kernel
theorem dX12_mostAlike_39 : decode cX12_mostAlike 39 = .ok (.invokevirtual 491, 3) := by decide +kernel
theorem dX12_mostAlike_42 : decode cX12_mostAlike 42 = .ok (.aload_n 0, 1) := by decide +kernel
theorem dX12_mostAlike_43 : decode cX12_mostAlike 43 = .ok (.getfield 117, 3) := by decide +kernel
theorem dX12_mostAlike_46 : decode cX12_mostAlike 46 = .ok (.iconst 3, 1) := by decide +kernel
theorem dX12_mostAlike_47 : decode cX12_mostAlike 47 = .ok (.iload_n 1, 1) := by decide +kernel
theorem dX12_mostAlike_48 : decode cX12_mostAlike 48 = .ok (.iadd, 1) := by decide +kernel
theorem dX12_mostAlike_49 : decode cX12_mostAlike 49 = .ok (.iaload, 1) := by decide +kernel
theorem dX12_mostAlike_50 : decode cX12_mostAlike 50 = .ok (.if_icmp .ne 9, 3) := by decide +kernel
theorem dX12_mostAlike_53 : decode cX12_mostAlike 53 = .ok (.iinc 4 1, 3) := by decide +kernel
theorem dX12_mostAlike_56 : decode cX12_mostAlike 56 = .ok (.goto 6, 3) := by decide +kernel
theorem dX12_mostAlike_59 : decode cX12_mostAlike 59 = .ok (.iinc 3 1, 3) := by decide +kernel
theorem dX12_mostAlike_62 : decode cX12_mostAlike 62 = .ok (.iinc 5 1, 3) := by decide +kernel
theorem dX12_mostAlike_65 : decode cX12_mostAlike 65 = .ok (.goto (-57), 3) := by decide +kernel
theorem dX12_mostAlike_68 : decode cX12_mostAlike 68 = .ok (.iload_n 3, 1) := by decide +kernel
theorem dX12_mostAlike_69 : decode cX12_mostAlike 69 = .ok (.iload 4, 2) := by decide +kernel
theorem dX12_mostAlike_71 : decode cX12_mostAlike 71 = .ok (.invokestatic 416, 3) := by decide +kernel
theorem dX12_mostAlike_74 : decode cX12_mostAlike 74 = .ok (.ireturn, 1) := by decide +kernel
theorem dX12_askFor_0 : decode cX12_askFor 0 = .ok (.iconst (-1), 1) := by decide +kernel
theorem dX12_askFor_1 : decode cX12_askFor 1 = .ok (.istore_n 3, 1) := by decide +kernel
theorem dX12_askFor_2 : decode cX12_askFor 2 = .ok (.iload_n 2, 1) := by decide +kernel
theorem dX12_askFor_3 : decode cX12_askFor 3 = .ok (.istore 4, 2) := by decide +kernel
theorem dX12_askFor_5 : decode cX12_askFor 5 = .ok (.iconst 0, 1) := by decide +kernel
theorem dX12_askFor_6 : decode cX12_askFor 6 = .ok (.istore 5, 2) := by decide +kernel
theorem dX12_askFor_8 : decode cX12_askFor 8 = .ok (.iload 5, 2) := by decide +kernel
theorem dX12_askFor_10 : decode cX12_askFor 10 = .ok (.aload_n 0, 1) := by decide +kernel
theorem dX12_askFor_11 : decode cX12_askFor 11 = .ok (.getfield 13, 3) := by decide +kernel
theorem dX12_askFor_14 : decode cX12_askFor 14 = .ok (.iconst 0, 1) := by decide +kernel
theorem dX12_askFor_15 : decode cX12_askFor 15 = .ok (.iaload, 1) := by decide +kernel
theorem dX12_askFor_16 : decode cX12_askFor 16 = .ok (.if_icmp .ge 49, 3) := by decide +kernel
theorem dX12_askFor_19 : decode cX12_askFor 19 = .ok (.aload_n 0, 1) := by decide +kernel
theorem dX12_askFor_20 : decode cX12_askFor 20 = .ok (.getfield 114, 3) := by decide +kernel
theorem dX12_askFor_23 : decode cX12_askFor 23 = .ok (.iload 5, 2) := by decide +kernel
theorem dX12_askFor_25 : decode cX12_askFor 25 = .ok (.iaload, 1) := by decide +kernel
theorem dX12_askFor_26 : decode cX12_askFor 26 = .ok (.ifCond .lt 7, 3) := by decide +kernel
theorem dX12_askFor_29 : decode cX12_askFor 29 = .ok (.iload_n 2, 1) := by decide +kernel
theorem dX12_askFor_30 : decode cX12_askFor 30 = .ok (.goto 10, 3) := by decide +kernel
theorem dX12_askFor_33 : decode cX12_askFor 33 = .ok (.aload_n 0, 1) := by decide +kernel
theorem dX12_askFor_34 : decode cX12_askFor 34 = .ok (.iload 5, 2) := by decide +kernel
theorem dX12_askFor_36 : decode cX12_askFor 36 = .ok (.iload_n 1, 1) := by decide +kernel
theorem dX12_askFor_37 : decode cX12_askFor 37 = .ok (.invokevirtual 497, 3) := by decide +kernel
theorem dX12_askFor_40 : decode cX12_askFor 40 = .ok (.istore 6, 2) := by decide +kernel
theorem dX12_askFor_42 : decode cX12_askFor 42 = .ok (.iload 6, 2) := by decide +kernel
theorem dX12_askFor_44 : decode cX12_askFor 44 = .ok (.iload 4, 2) := by decide +kernel
theorem dX12_askFor_46 : decode cX12_askFor 46 = .ok (.if_icmp .lt 6, 3) := by decide +kernel
theorem dX12_askFor_49 : decode cX12_askFor 49 = .ok (.goto 10, 3) := by decide +kernel
theorem dX12_askFor_52 : decode cX12_askFor 52 = .ok (.iload 6, 2) := by decide +kernel
theorem dX12_askFor_54 : decode cX12_askFor 54 = .ok (.istore 4, 2) := by decide +kernel
theorem dX12_askFor_56 : decode cX12_askFor 56 = .ok (.iload 5, 2) := by decide +kernel
theorem dX12_askFor_58 : decode cX12_askFor 58 = .ok (.istore_n 3, 1) := by decide +kernel
theorem dX12_askFor_59 : decode cX12_askFor 59 = .ok (.iinc 5 1, 3) := by decide +kernel
theorem dX12_askFor_62 : decode cX12_askFor 62 = .ok (.goto (-54), 3) := by decide +kernel
theorem dX12_askFor_65 : decode cX12_askFor 65 = .ok (.iload_n 3, 1) := by decide +kernel
theorem dX12_askFor_66 : decode cX12_askFor 66 = .ok (.ireturn, 1) := by decide +kernel
theorem dX12_sets_0 : decode cX12_sets 0 = .ok (.aload_n 0, 1) := by decide +kernel
theorem dX12_sets_1 : decode cX12_sets 1 = .ok (.iconst 0, 1) := by decide +kernel
theorem dX12_sets_2 : decode cX12_sets 2 = .ok (.putfield 156, 3) := by decide +kernel
theorem dX12_sets_5 : decode cX12_sets 5 = .ok (.aload_n 0, 1) := by decide +kernel
theorem dX12_sets_6 : decode cX12_sets 6 = .ok (.iload_n 1, 1) := by decide +kernel
theorem dX12_sets_7 : decode cX12_sets 7 = .ok (.invokevirtual 447, 3) := by decide +kernel
theorem dX12_sets_10 : decode cX12_sets 10 = .ok (.ifCond .eq 12, 3) := by decide +kernel
theorem dX12_sets_13 : decode cX12_sets 13 = .ok (.iload_n 2, 1) := by decide +kernel
theorem dX12_sets_14 : decode cX12_sets 14 = .ok (.iconst 0, 1) := by decide +kernel
theorem dX12_sets_15 : decode cX12_sets 15 = .ok (.iconst 3, 1) := by decide +kernel
theorem dX12_sets_16 : decode cX12_sets 16 = .ok (.invokestatic 293, 3) := by decide +kernel
theorem dX12_sets_19 : decode cX12_sets 19 = .ok (.ifCond .ne 5, 3) := by decide +kernel
theorem dX12_sets_22 : decode cX12_sets 22 = .ok (.iconst (-1), 1) := by decide +kernel
theorem dX12_sets_23 : decode cX12_sets 23 = .ok (.ireturn, 1) := by decide +kernel
theorem dX12_sets_24 : decode cX12_sets 24 = .ok (.iconst 0, 1) := by decide +kernel
theorem dX12_sets_25 : decode cX12_sets 25 = .ok (.istore_n 3, 1) := by decide +kernel
theorem dX12_sets_26 : decode cX12_sets 26 = .ok (.iconst 1, 1) := by decide +kernel
theorem dX12_sets_27 : decode cX12_sets 27 = .ok (.aload_n 0, 1) := by decide +kernel
theorem dX12_sets_28 : decode cX12_sets 28 = .ok (.getfield 13, 3) := by decide +kernel
theorem dX12_sets_31 : decode cX12_sets 31 = .ok (.iconst 0, 1) := by decide +kernel
theorem dX12_sets_32 : decode cX12_sets 32 = .ok (.iaload, 1) := by decide +kernel
theorem dX12_sets_33 : decode cX12_sets 33 = .ok (.ishl, 1) := by decide +kernel
theorem dX12_sets_34 : decode cX12_sets 34 = .ok (.iconst 1, 1) := by decide +kernel
theorem dX12_sets_35 : decode cX12_sets 35 = .ok (.isub, 1) := by decide +kernel
theorem dX12_sets_36 : decode cX12_sets 36 = .ok (.istore 4, 2) := by decide +kernel
theorem dX12_sets_38 : decode cX12_sets 38 = .ok (.iconst 0, 1) := by decide +kernel
theorem dX12_sets_39 : decode cX12_sets 39 = .ok (.istore 5, 2) := by decide +kernel
theorem dX12_sets_41 : decode cX12_sets 41 = .ok (.iconst 0, 1) := by decide +kernel
theorem dX12_sets_42 : decode cX12_sets 42 = .ok (.istore 6, 2) := by decide +kernel
theorem dX12_sets_44 : decode cX12_sets 44 = .ok (.iload 6, 2) := by decide +kernel
theorem dX12_sets_46 : decode cX12_sets 46 = .ok (.iconst 1, 1) := by decide +kernel
theorem dX12_sets_47 : decode cX12_sets 47 = .ok (.aload_n 0, 1) := by decide +kernel
theorem dX12_sets_48 : decode cX12_sets 48 = .ok (.getfield 13, 3) := by decide +kernel
theorem dX12_sets_51 : decode cX12_sets 51 = .ok (.iconst 0, 1) := by decide +kernel
theorem dX12_sets_52 : decode cX12_sets 52 = .ok (.iaload, 1) := by decide +kernel
theorem dX12_sets_53 : decode cX12_sets 53 = .ok (.ishl, 1) := by decide +kernel
theorem dX12_sets_54 : decode cX12_sets 54 = .ok (.if_icmp .ge 39, 3) := by decide +kernel
theorem dX12_sets_57 : decode cX12_sets 57 = .ok (.aload_n 0, 1) := by decide +kernel
theorem dX12_sets_58 : decode cX12_sets 58 = .ok (.iload 6, 2) := by decide +kernel
theorem dX12_sets_60 : decode cX12_sets 60 = .ok (.iload_n 1, 1) := by decide +kernel
theorem dX12_sets_61 : decode cX12_sets 61 = .ok (.invokevirtual 494, 3) := by decide +kernel
theorem dX12_sets_64 : decode cX12_sets 64 = .ok (.ifCond .ne 6, 3) := by decide +kernel
theorem dX12_sets_67 : decode cX12_sets 67 = .ok (.goto 20, 3) := by decide +kernel
theorem dX12_sets_70 : decode cX12_sets 70 = .ok (.iinc 3 1, 3) := by decide +kernel
theorem dX12_sets_73 : decode cX12_sets 73 = .ok (.iload 4, 2) := by decide +kernel
theorem dX12_sets_75 : decode cX12_sets 75 = .ok (.iload 6, 2) := by decide +kernel
theorem dX12_sets_77 : decode cX12_sets 77 = .ok (.iand, 1) := by decide +kernel
theorem dX12_sets_78 : decode cX12_sets 78 = .ok (.istore 4, 2) := by decide +kernel
theorem dX12_sets_80 : decode cX12_sets 80 = .ok (.iload 5, 2) := by decide +kernel
theorem dX12_sets_82 : decode cX12_sets 82 = .ok (.iload 6, 2) := by decide +kernel
theorem dX12_sets_84 : decode cX12_sets 84 = .ok (.ior, 1) := by decide +kernel
theorem dX12_sets_85 : decode cX12_sets 85 = .ok (.istore 5, 2) := by decide +kernel
theorem dX12_sets_87 : decode cX12_sets 87 = .ok (.iinc 6 1, 3) := by decide +kernel
theorem dX12_sets_90 : decode cX12_sets 90 = .ok (.goto (-46), 3) := by decide +kernel
theorem dX12_sets_93 : decode cX12_sets 93 = .ok (.iload_n 3, 1) := by decide +kernel
theorem dX12_sets_94 : decode cX12_sets 94 = .ok (.ifCond .eq 7, 3) := by decide +kernel
theorem dX12_sets_97 : decode cX12_sets 97 = .ok (.iload_n 2, 1) := by decide +kernel
theorem dX12_sets_98 : decode cX12_sets 98 = .ok (.ifCond .ne 13, 3) := by decide +kernel
theorem dX12_sets_101 : decode cX12_sets 101 = .ok (.iload_n 2, 1) := by decide +kernel
theorem dX12_sets_102 : decode cX12_sets 102 = .ok (.ifCond .ne 7, 3) := by decide +kernel
theorem dX12_sets_105 : decode cX12_sets 105 = .ok (.iload_n 3, 1) := by decide +kernel
theorem dX12_sets_106 : decode cX12_sets 106 = .ok (.goto 4, 3) := by decide +kernel
theorem dX12_sets_109 : decode cX12_sets 109 = .ok (.iconst (-1), 1) := by decide +kernel
theorem dX12_sets_110 : decode cX12_sets 110 = .ok (.ireturn, 1) := by decide +kernel
theorem dX12_sets_111 : decode cX12_sets 111 = .ok (.iload_n 2, 1) := by decide +kernel
theorem dX12_sets_112 : decode cX12_sets 112 = .ok (.iconst 1, 1) := by decide +kernel
theorem dX12_sets_113 : decode cX12_sets 113 = .ok (.if_icmp .ne 8, 3) := by decide +kernel
theorem dX12_sets_116 : decode cX12_sets 116 = .ok (.iload 4, 2) := by decide +kernel
theorem dX12_sets_118 : decode cX12_sets 118 = .ok (.goto 19, 3) := by decide +kernel
theorem dX12_sets_121 : decode cX12_sets 121 = .ok (.iload_n 2, 1) := by decide +kernel
theorem dX12_sets_122 : decode cX12_sets 122 = .ok (.iconst 2, 1) := by decide +kernel
theorem dX12_sets_123 : decode cX12_sets 123 = .ok (.if_icmp .ne 8, 3) := by decide +kernel
theorem dX12_sets_126 : decode cX12_sets 126 = .ok (.iload 5, 2) := by decide +kernel
theorem dX12_sets_128 : decode cX12_sets 128 = .ok (.goto 9, 3) := by decide +kernel
theorem dX12_sets_131 : decode cX12_sets 131 = .ok (.aload_n 0, 1) := by decide +kernel
theorem dX12_sets_132 : decode cX12_sets 132 = .ok (.iload_n 1, 1) := by decide +kernel
theorem dX12_sets_133 : decode cX12_sets 133 = .ok (.iload_n 3, 1) := by decide +kernel
theorem dX12_sets_134 : decode cX12_sets 134 = .ok (.invokevirtual 500, 3) := by decide +kernel
theorem dX12_sets_137 : decode cX12_sets 137 = .ok (.ireturn, 1) := by decide +kernel
theorem dX12_spreads_0 : decode cX12_spreads 0 = .ok (.iconst 1, 1) := by decide +kernel
theorem dX12_spreads_1 : decode cX12_spreads 1 = .ok (.aload_n 0, 1) := by decide +kernel
theorem dX12_spreads_2 : decode cX12_spreads 2 = .ok (.getfield 13, 3) := by decide +kernel
theorem dX12_spreads_5 : decode cX12_spreads 5 = .ok (.iconst 0, 1) := by decide +kernel
theorem dX12_spreads_6 : decode cX12_spreads 6 = .ok (.iaload, 1) := by decide +kernel
theorem dX12_spreads_7 : decode cX12_spreads 7 = .ok (.ishl, 1) := by decide +kernel
theorem dX12_spreads_8 : decode cX12_spreads 8 = .ok (.iconst 1, 1) := by decide +kernel
theorem dX12_spreads_9 : decode cX12_spreads 9 = .ok (.isub, 1) := by decide +kernel
theorem dX12_spreads_10 : decode cX12_spreads 10 = .ok (.aload_n 0, 1) := by decide +kernel
theorem dX12_spreads_11 : decode cX12_spreads 11 = .ok (.invokevirtual 431, 3) := by decide +kernel
theorem dX12_spreads_14 : decode cX12_spreads 14 = .ok (.iconst (-1), 1) := by decide +kernel
theorem dX12_spreads_15 : decode cX12_spreads 15 = .ok (.ixor, 1) := by decide +kernel
theorem dX12_spreads_16 : decode cX12_spreads 16 = .ok (.iand, 1) := by decide +kernel
theorem dX12_spreads_17 : decode cX12_spreads 17 = .ok (.istore_n 2, 1) := by decide +kernel
theorem dX12_spreads_18 : decode cX12_spreads 18 = .ok (.iconst (-1), 1) := by decide +kernel
theorem dX12_spreads_19 : decode cX12_spreads 19 = .ok (.istore_n 3, 1) := by decide +kernel
theorem dX12_spreads_20 : decode cX12_spreads 20 = .ok (.iload_n 2, 1) := by decide +kernel
theorem dX12_spreads_21 : decode cX12_spreads 21 = .ok (.iload_n 3, 1) := by decide +kernel
theorem dX12_spreads_22 : decode cX12_spreads 22 = .ok (.if_icmp .eq 52, 3) := by decide +kernel
theorem dX12_spreads_25 : decode cX12_spreads 25 = .ok (.iload_n 2, 1) := by decide +kernel
theorem dX12_spreads_26 : decode cX12_spreads 26 = .ok (.istore_n 3, 1) := by decide +kernel
theorem dX12_spreads_27 : decode cX12_spreads 27 = .ok (.iconst 0, 1) := by decide +kernel
theorem dX12_spreads_28 : decode cX12_spreads 28 = .ok (.istore 4, 2) := by decide +kernel
theorem dX12_spreads_30 : decode cX12_spreads 30 = .ok (.iload 4, 2) := by decide +kernel
theorem dX12_spreads_32 : decode cX12_spreads 32 = .ok (.aload_n 0, 1) := by decide +kernel
theorem dX12_spreads_33 : decode cX12_spreads 33 = .ok (.getfield 13, 3) := by decide +kernel
theorem dX12_spreads_36 : decode cX12_spreads 36 = .ok (.iconst 0, 1) := by decide +kernel
theorem dX12_spreads_37 : decode cX12_spreads 37 = .ok (.iaload, 1) := by decide +kernel
theorem dX12_spreads_38 : decode cX12_spreads 38 = .ok (.if_icmp .ge 33, 3) := by decide +kernel
theorem dX12_spreads_41 : decode cX12_spreads 41 = .ok (.iload_n 3, 1) := by decide +kernel
theorem dX12_spreads_42 : decode cX12_spreads 42 = .ok (.iload 4, 2) := by decide +kernel
theorem dX12_spreads_44 : decode cX12_spreads 44 = .ok (.ishr, 1) := by decide +kernel
theorem dX12_spreads_45 : decode cX12_spreads 45 = .ok (.iconst 1, 1) := by decide +kernel
theorem dX12_spreads_46 : decode cX12_spreads 46 = .ok (.iand, 1) := by decide +kernel
theorem dX12_spreads_47 : decode cX12_spreads 47 = .ok (.iconst 1, 1) := by decide +kernel
theorem dX12_spreads_48 : decode cX12_spreads 48 = .ok (.if_icmp .ne 17, 3) := by decide +kernel
theorem dX12_spreads_51 : decode cX12_spreads 51 = .ok (.iload_n 2, 1) := by decide +kernel
theorem dX12_spreads_52 : decode cX12_spreads 52 = .ok (.aload_n 0, 1) := by decide +kernel
theorem dX12_spreads_53 : decode cX12_spreads 53 = .ok (.getfield 50, 3) := by decide +kernel
theorem dX12_spreads_56 : decode cX12_spreads 56 = .ok (.iload 4, 2) := by decide +kernel
theorem dX12_spreads_58 : decode cX12_spreads 58 = .ok (.iaload, 1) := by decide +kernel
theorem dX12_spreads_59 : decode cX12_spreads 59 = .ok (.iload_n 1, 1) := by decide +kernel
theorem dX12_spreads_60 : decode cX12_spreads 60 = .ok (.iconst (-1), 1) := by decide +kernel
theorem dX12_spreads_61 : decode cX12_spreads 61 = .ok (.ixor, 1) := by decide +kernel
theorem dX12_spreads_62 : decode cX12_spreads 62 = .ok (.iand, 1) := by decide +kernel
theorem dX12_spreads_63 : decode cX12_spreads 63 = .ok (.ior, 1) := by decide +kernel
theorem dX12_spreads_64 : decode cX12_spreads 64 = .ok (.istore_n 2, 1) := by decide +kernel
theorem dX12_spreads_65 : decode cX12_spreads 65 = .ok (.iinc 4 1, 3) := by decide +kernel
theorem dX12_spreads_68 : decode cX12_spreads 68 = .ok (.goto (-38), 3) := by decide +kernel
theorem dX12_spreads_71 : decode cX12_spreads 71 = .ok (.goto (-51), 3) := by decide +kernel
theorem dX12_spreads_74 : decode cX12_spreads 74 = .ok (.iload_n 2, 1) := by decide +kernel
theorem dX12_spreads_75 : decode cX12_spreads 75 = .ok (.ireturn, 1) := by decide +kernel
theorem dX12_stop_0 : decode cX12_stop 0 = .ok (.aload_n 0, 1) := by decide +kernel
theorem dX12_stop_1 : decode cX12_stop 1 = .ok (.iconst 0, 1) := by decide +kernel
theorem dX12_stop_2 : decode cX12_stop 2 = .ok (.putfield 156, 3) := by decide +kernel
theorem dX12_stop_5 : decode cX12_stop 5 = .ok (.aload_n 0, 1) := by decide +kernel
theorem dX12_stop_6 : decode cX12_stop 6 = .ok (.iload_n 1, 1) := by decide +kernel
theorem dX12_stop_7 : decode cX12_stop 7 = .ok (.invokevirtual 444, 3) := by decide +kernel
theorem dX12_stop_10 : decode cX12_stop 10 = .ok (.ifCond .eq 11, 3) := by decide +kernel
theorem dX12_stop_13 : decode cX12_stop 13 = .ok (.aload_n 0, 1) := by decide +kernel
theorem dX12_stop_14 : decode cX12_stop 14 = .ok (.iload_n 1, 1) := by decide +kernel
theorem dX12_stop_15 : decode cX12_stop 15 = .ok (.invokevirtual 395, 3) := by decide +kernel
theorem dX12_stop_18 : decode cX12_stop 18 = .ok (.ifCond .eq 5, 3) := by decide +kernel
theorem dX12_stop_21 : decode cX12_stop 21 = .ok (.iconst (-1), 1) := by decide +kernel
theorem dX12_stop_22 : decode cX12_stop 22 = .ok (.ireturn, 1) := by decide +kernel
theorem dX12_stop_23 : decode cX12_stop 23 = .ok (.aload_n 0, 1) := by decide +kernel
theorem dX12_stop_24 : decode cX12_stop 24 = .ok (.invokevirtual 431, 3) := by decide +kernel
theorem dX12_stop_27 : decode cX12_stop 27 = .ok (.iconst 1, 1) := by decide +kernel
theorem dX12_stop_28 : decode cX12_stop 28 = .ok (.iload_n 1, 1) := by decide +kernel
theorem dX12_stop_29 : decode cX12_stop 29 = .ok (.ishl, 1) := by decide +kernel
theorem dX12_stop_30 : decode cX12_stop 30 = .ok (.iconst (-1), 1) := by decide +kernel
theorem dX12_stop_31 : decode cX12_stop 31 = .ok (.ixor, 1) := by decide +kernel
theorem dX12_stop_32 : decode cX12_stop 32 = .ok (.iand, 1) := by decide +kernel
theorem dX12_stop_33 : decode cX12_stop 33 = .ok (.istore_n 2, 1) := by decide +kernel
theorem dX12_stop_34 : decode cX12_stop 34 = .ok (.iconst (-1), 1) := by decide +kernel
theorem dX12_stop_35 : decode cX12_stop 35 = .ok (.istore_n 3, 1) := by decide +kernel
theorem dX12_stop_36 : decode cX12_stop 36 = .ok (.iconst 0, 1) := by decide +kernel
theorem dX12_stop_37 : decode cX12_stop 37 = .ok (.istore 4, 2) := by decide +kernel
theorem dX12_stop_39 : decode cX12_stop 39 = .ok (.iload 4, 2) := by decide +kernel
theorem dX12_stop_41 : decode cX12_stop 41 = .ok (.iconst 1, 1) := by decide +kernel
theorem dX12_stop_42 : decode cX12_stop 42 = .ok (.aload_n 0, 1) := by decide +kernel
theorem dX12_stop_43 : decode cX12_stop 43 = .ok (.getfield 13, 3) := by decide +kernel
theorem dX12_stop_46 : decode cX12_stop 46 = .ok (.iconst 0, 1) := by decide +kernel
theorem dX12_stop_47 : decode cX12_stop 47 = .ok (.iaload, 1) := by decide +kernel
theorem dX12_stop_48 : decode cX12_stop 48 = .ok (.ishl, 1) := by decide +kernel
theorem dX12_stop_49 : decode cX12_stop 49 = .ok (.if_icmp .ge 53, 3) := by decide +kernel
theorem dX12_stop_52 : decode cX12_stop 52 = .ok (.iload 4, 2) := by decide +kernel
theorem dX12_stop_54 : decode cX12_stop 54 = .ok (.iload_n 2, 1) := by decide +kernel
theorem dX12_stop_55 : decode cX12_stop 55 = .ok (.iconst (-1), 1) := by decide +kernel
theorem dX12_stop_56 : decode cX12_stop 56 = .ok (.ixor, 1) := by decide +kernel
theorem dX12_stop_57 : decode cX12_stop 57 = .ok (.iand, 1) := by decide +kernel
theorem dX12_stop_58 : decode cX12_stop 58 = .ok (.ifCond .ne 38, 3) := by decide +kernel
theorem dX12_stop_61 : decode cX12_stop 61 = .ok (.iload_n 3, 1) := by decide +kernel
theorem dX12_stop_62 : decode cX12_stop 62 = .ok (.ifCond .lt 18, 3) := by decide +kernel
theorem dX12_stop_65 : decode cX12_stop 65 = .ok (.iload 4, 2) := by decide +kernel
theorem dX12_stop_67 : decode cX12_stop 67 = .ok (.invokestatic 503, 3) := by decide +kernel
theorem dX12_stop_70 : decode cX12_stop 70 = .ok (.iload_n 3, 1) := by decide +kernel
theorem dX12_stop_71 : decode cX12_stop 71 = .ok (.invokestatic 503, 3) := by decide +kernel
theorem dX12_stop_74 : decode cX12_stop 74 = .ok (.if_icmp .lt 6, 3) := by decide +kernel
theorem dX12_stop_77 : decode cX12_stop 77 = .ok (.goto 19, 3) := by decide +kernel
theorem dX12_stop_80 : decode cX12_stop 80 = .ok (.aload_n 0, 1) := by decide +kernel
theorem dX12_stop_81 : decode cX12_stop 81 = .ok (.iload 4, 2) := by decide +kernel
theorem dX12_stop_83 : decode cX12_stop 83 = .ok (.invokevirtual 506, 3) := by decide +kernel
theorem dX12_stop_86 : decode cX12_stop 86 = .ok (.iload_n 1, 1) := by decide +kernel
theorem dX12_stop_87 : decode cX12_stop 87 = .ok (.ishr, 1) := by decide +kernel
theorem dX12_stop_88 : decode cX12_stop 88 = .ok (.iconst 1, 1) := by decide +kernel
theorem dX12_stop_89 : decode cX12_stop 89 = .ok (.iand, 1) := by decide +kernel
theorem dX12_stop_90 : decode cX12_stop 90 = .ok (.ifCond .ne 6, 3) := by decide +kernel
theorem dX12_stop_93 : decode cX12_stop 93 = .ok (.iload 4, 2) := by decide +kernel
theorem dX12_stop_95 : decode cX12_stop 95 = .ok (.istore_n 3, 1) := by decide +kernel
theorem dX12_stop_96 : decode cX12_stop 96 = .ok (.iinc 4 1, 3) := by decide +kernel
theorem dX12_stop_99 : decode cX12_stop 99 = .ok (.goto (-60), 3) := by decide +kernel
theorem dX12_stop_102 : decode cX12_stop 102 = .ok (.iload_n 3, 1) := by decide +kernel
theorem dX12_stop_103 : decode cX12_stop 103 = .ok (.ireturn, 1) := by decide +kernel
theorem dX12_power_0 : decode cX12_power 0 = .ok (.aload_n 0, 1) := by decide +kernel
theorem dX12_power_1 : decode cX12_power 1 = .ok (.iconst 0, 1) := by decide +kernel
theorem dX12_power_2 : decode cX12_power 2 = .ok (.putfield 156, 3) := by decide +kernel
theorem dX12_power_5 : decode cX12_power 5 = .ok (.aload_n 0, 1) := by decide +kernel
theorem dX12_power_6 : decode cX12_power 6 = .ok (.iload_n 1, 1) := by decide +kernel
theorem dX12_power_7 : decode cX12_power 7 = .ok (.invokevirtual 444, 3) := by decide +kernel
theorem dX12_power_10 : decode cX12_power 10 = .ok (.ifCond .eq 14, 3) := by decide +kernel
theorem dX12_power_13 : decode cX12_power 13 = .ok (.iload_n 2, 1) := by decide +kernel
theorem dX12_power_14 : decode cX12_power 14 = .ok (.iconst 0, 1) := by decide +kernel
theorem dX12_power_15 : decode cX12_power 15 = .ok (.sipush 999, 3) := by decide +kernel
theorem dX12_power_18 : decode cX12_power 18 = .ok (.invokestatic 293, 3) := by decide +kernel
theorem dX12_power_21 : decode cX12_power 21 = .ok (.ifCond .ne 5, 3) := by decide +kernel
theorem dX12_power_24 : decode cX12_power 24 = .ok (.iconst (-1), 1) := by decide +kernel
theorem dX12_power_25 : decode cX12_power 25 = .ok (.ireturn, 1) := by decide +kernel
theorem dX12_power_26 : decode cX12_power 26 = .ok (.iconst 0, 1) := by decide +kernel
theorem dX12_power_27 : decode cX12_power 27 = .ok (.istore_n 3, 1) := by decide +kernel
theorem dX12_power_28 : decode cX12_power 28 = .ok (.iconst 0, 1) := by decide +kernel
theorem dX12_power_29 : decode cX12_power 29 = .ok (.istore 4, 2) := by decide +kernel
theorem dX12_power_31 : decode cX12_power 31 = .ok (.iload 4, 2) := by decide +kernel
theorem dX12_power_33 : decode cX12_power 33 = .ok (.iconst 1, 1) := by decide +kernel
theorem dX12_power_34 : decode cX12_power 34 = .ok (.aload_n 0, 1) := by decide +kernel
theorem dX12_power_35 : decode cX12_power 35 = .ok (.getfield 13, 3) := by decide +kernel
theorem dX12_power_38 : decode cX12_power 38 = .ok (.iconst 0, 1) := by decide +kernel
theorem dX12_power_39 : decode cX12_power 39 = .ok (.iaload, 1) := by decide +kernel
theorem dX12_power_40 : decode cX12_power 40 = .ok (.ishl, 1) := by decide +kernel
theorem dX12_power_41 : decode cX12_power 41 = .ok (.if_icmp .ge 99, 3) := by decide +kernel
theorem dX12_power_44 : decode cX12_power 44 = .ok (.iload 4, 2) := by decide +kernel
theorem dX12_power_46 : decode cX12_power 46 = .ok (.iload_n 1, 1) := by decide +kernel
theorem dX12_power_47 : decode cX12_power 47 = .ok (.ishr, 1) := by decide +kernel
theorem dX12_power_48 : decode cX12_power 48 = .ok (.iconst 1, 1) := by decide +kernel
theorem dX12_power_49 : decode cX12_power 49 = .ok (.iand, 1) := by decide +kernel
theorem dX12_power_50 : decode cX12_power 50 = .ok (.iconst 1, 1) := by decide +kernel
theorem dX12_power_51 : decode cX12_power 51 = .ok (.if_icmp .ne 6, 3) := by decide +kernel
theorem dX12_power_54 : decode cX12_power 54 = .ok (.goto 80, 3) := by decide +kernel
theorem dX12_power_57 : decode cX12_power 57 = .ok (.iconst 0, 1) := by decide +kernel
theorem dX12_power_58 : decode cX12_power 58 = .ok (.istore 5, 2) := by decide +kernel
theorem dX12_power_60 : decode cX12_power 60 = .ok (.iconst 0, 1) := by decide +kernel
theorem dX12_power_61 : decode cX12_power 61 = .ok (.istore 6, 2) := by decide +kernel
theorem dX12_power_63 : decode cX12_power 63 = .ok (.iload 6, 2) := by decide +kernel
theorem dX12_power_65 : decode cX12_power 65 = .ok (.aload_n 0, 1) := by decide +kernel
theorem dX12_power_66 : decode cX12_power 66 = .ok (.getfield 13, 3) := by decide +kernel
theorem dX12_power_69 : decode cX12_power 69 = .ok (.iconst 0, 1) := by decide +kernel
theorem dX12_power_70 : decode cX12_power 70 = .ok (.iaload, 1) := by decide +kernel
theorem dX12_power_71 : decode cX12_power 71 = .ok (.if_icmp .ge 36, 3) := by decide +kernel
theorem dX12_power_74 : decode cX12_power 74 = .ok (.iload 5, 2) := by decide +kernel
theorem dX12_power_76 : decode cX12_power 76 = .ok (.iload 4, 2) := by decide +kernel
theorem dX12_power_78 : decode cX12_power 78 = .ok (.iload 6, 2) := by decide +kernel
theorem dX12_power_80 : decode cX12_power 80 = .ok (.ishr, 1) := by decide +kernel
theorem dX12_power_81 : decode cX12_power 81 = .ok (.iconst 1, 1) := by decide +kernel
theorem dX12_power_82 : decode cX12_power 82 = .ok (.iand, 1) := by decide +kernel
theorem dX12_power_83 : decode cX12_power 83 = .ok (.iconst 1, 1) := by decide +kernel
theorem dX12_power_84 : decode cX12_power 84 = .ok (.if_icmp .ne 13, 3) := by decide +kernel
theorem dX12_power_87 : decode cX12_power 87 = .ok (.aload_n 0, 1) := by decide +kernel
theorem dX12_power_88 : decode cX12_power 88 = .ok (.getfield 32, 3) := by decide +kernel
theorem dX12_power_91 : decode cX12_power 91 = .ok (.iload 6, 2) := by decide +kernel
theorem dX12_power_93 : decode cX12_power 93 = .ok (.iaload, 1) := by decide +kernel
theorem dX12_power_94 : decode cX12_power 94 = .ok (.goto 4, 3) := by decide +kernel
theorem dX12_power_97 : decode cX12_power 97 = .ok (.iconst 0, 1) := by decide +kernel
theorem dX12_power_98 : decode cX12_power 98 = .ok (.iadd, 1) := by decide +kernel
theorem dX12_power_99 : decode cX12_power 99 = .ok (.istore 5, 2) := by decide +kernel
theorem dX12_power_101 : decode cX12_power 101 = .ok (.iinc 6 1, 3) := by decide +kernel
theorem dX12_power_104 : decode cX12_power 104 = .ok (.goto (-41), 3) := by decide +kernel
theorem dX12_power_107 : decode cX12_power 107 = .ok (.iload_n 3, 1) := by decide +kernel
theorem dX12_power_108 : decode cX12_power 108 = .ok (.iload 5, 2) := by decide +kernel
theorem dX12_power_110 : decode cX12_power 110 = .ok (.iload_n 2, 1) := by decide +kernel
theorem dX12_power_111 : decode cX12_power 111 = .ok (.if_icmp .ge 20, 3) := by decide +kernel
theorem dX12_power_114 : decode cX12_power 114 = .ok (.iload 5, 2) := by decide +kernel
theorem dX12_power_116 : decode cX12_power 116 = .ok (.aload_n 0, 1) := by decide +kernel
theorem dX12_power_117 : decode cX12_power 117 = .ok (.getfield 32, 3) := by decide +kernel
theorem dX12_power_120 : decode cX12_power 120 = .ok (.iload_n 1, 1) := by decide +kernel
theorem dX12_power_121 : decode cX12_power 121 = .ok (.iaload, 1) := by decide +kernel
theorem dX12_power_122 : decode cX12_power 122 = .ok (.iadd, 1) := by decide +kernel
theorem dX12_power_123 : decode cX12_power 123 = .ok (.iload_n 2, 1) := by decide +kernel
theorem dX12_power_124 : decode cX12_power 124 = .ok (.if_icmp .lt 7, 3) := by decide +kernel
theorem dX12_power_127 : decode cX12_power 127 = .ok (.iconst 1, 1) := by decide +kernel
theorem dX12_power_128 : decode cX12_power 128 = .ok (.goto 4, 3) := by decide +kernel
theorem dX12_power_131 : decode cX12_power 131 = .ok (.iconst 0, 1) := by decide +kernel
theorem dX12_power_132 : decode cX12_power 132 = .ok (.iadd, 1) := by decide +kernel
theorem dX12_power_133 : decode cX12_power 133 = .ok (.istore_n 3, 1) := by decide +kernel
theorem dX12_power_134 : decode cX12_power 134 = .ok (.iinc 4 1, 3) := by decide +kernel
theorem dX12_power_137 : decode cX12_power 137 = .ok (.goto (-106), 3) := by decide +kernel
theorem dX12_power_140 : decode cX12_power 140 = .ok (.iload_n 3, 1) := by decide +kernel
theorem dX12_power_141 : decode cX12_power 141 = .ok (.ireturn, 1) := by decide +kernel
theorem dX12_pairs_0 : decode cX12_pairs 0 = .ok (.iload_n 1, 1) := by decide +kernel
theorem dX12_pairs_1 : decode cX12_pairs 1 = .ok (.ifCond .ne 55, 3) := by decide +kernel
theorem dX12_pairs_4 : decode cX12_pairs 4 = .ok (.aload_n 0, 1) := by decide +kernel
theorem dX12_pairs_5 : decode cX12_pairs 5 = .ok (.getfield 509, 3) := by decide +kernel
theorem dX12_pairs_8 : decode cX12_pairs 8 = .ok (.ifCond .lt 12, 3) := by decide +kernel
theorem dX12_pairs_11 : decode cX12_pairs 11 = .ok (.iload_n 3, 1) := by decide +kernel
theorem dX12_pairs_12 : decode cX12_pairs 12 = .ok (.aload_n 0, 1) := by decide +kernel
theorem dX12_pairs_13 : decode cX12_pairs 13 = .ok (.getfield 509, 3) := by decide +kernel
theorem dX12_pairs_16 : decode cX12_pairs 16 = .ok (.if_icmp .lt 4, 3) := by decide +kernel
theorem dX12_pairs_19 : decode cX12_pairs 19 = .ok (.return_, 1) := by decide +kernel
theorem dX12_pairs_20 : decode cX12_pairs 20 = .ok (.aload_n 0, 1) := by decide +kernel
theorem dX12_pairs_21 : decode cX12_pairs 21 = .ok (.iload_n 3, 1) := by decide +kernel
theorem dX12_pairs_22 : decode cX12_pairs 22 = .ok (.putfield 509, 3) := by decide +kernel
theorem dX12_pairs_25 : decode cX12_pairs 25 = .ok (.iconst 0, 1) := by decide +kernel
theorem dX12_pairs_26 : decode cX12_pairs 26 = .ok (.istore 4, 2) := by decide +kernel
theorem dX12_pairs_28 : decode cX12_pairs 28 = .ok (.iload 4, 2) := by decide +kernel
theorem dX12_pairs_30 : decode cX12_pairs 30 = .ok (.bipush 6, 2) := by decide +kernel
theorem dX12_pairs_32 : decode cX12_pairs 32 = .ok (.if_icmp .ge 23, 3) := by decide +kernel
theorem dX12_pairs_35 : decode cX12_pairs 35 = .ok (.aload_n 0, 1) := by decide +kernel
theorem dX12_pairs_36 : decode cX12_pairs 36 = .ok (.getfield 150, 3) := by decide +kernel
theorem dX12_pairs_39 : decode cX12_pairs 39 = .ok (.iload 4, 2) := by decide +kernel
theorem dX12_pairs_41 : decode cX12_pairs 41 = .ok (.aload_n 0, 1) := by decide +kernel
theorem dX12_pairs_42 : decode cX12_pairs 42 = .ok (.getfield 147, 3) := by decide +kernel
theorem dX12_pairs_45 : decode cX12_pairs 45 = .ok (.iload 4, 2) := by decide +kernel
theorem dX12_pairs_47 : decode cX12_pairs 47 = .ok (.iaload, 1) := by decide +kernel
theorem dX12_pairs_48 : decode cX12_pairs 48 = .ok (.iastore, 1) := by decide +kernel
theorem dX12_pairs_49 : decode cX12_pairs 49 = .ok (.iinc 4 1, 3) := by decide +kernel
theorem dX12_pairs_52 : decode cX12_pairs 52 = .ok (.goto (-24), 3) := by decide +kernel
theorem dX12_pairs_55 : decode cX12_pairs 55 = .ok (.return_, 1) := by decide +kernel
theorem dX12_pairs_56 : decode cX12_pairs 56 = .ok (.iconst 0, 1) := by decide +kernel
theorem dX12_pairs_57 : decode cX12_pairs 57 = .ok (.istore 4, 2) := by decide +kernel
theorem dX12_pairs_59 : decode cX12_pairs 59 = .ok (.iload_n 1, 1) := by decide +kernel
theorem dX12_pairs_60 : decode cX12_pairs 60 = .ok (.iload 4, 2) := by decide +kernel
theorem dX12_pairs_62 : decode cX12_pairs 62 = .ok (.ishr, 1) := by decide +kernel
theorem dX12_pairs_63 : decode cX12_pairs 63 = .ok (.iconst 1, 1) := by decide +kernel
theorem dX12_pairs_64 : decode cX12_pairs 64 = .ok (.iand, 1) := by decide +kernel
theorem dX12_pairs_65 : decode cX12_pairs 65 = .ok (.ifCond .ne 9, 3) := by decide +kernel
theorem dX12_pairs_68 : decode cX12_pairs 68 = .ok (.iinc 4 1, 3) := by decide +kernel
theorem dX12_pairs_71 : decode cX12_pairs 71 = .ok (.goto (-12), 3) := by decide +kernel
theorem dX12_pairs_74 : decode cX12_pairs 74 = .ok (.iload 4, 2) := by decide +kernel
theorem dX12_pairs_76 : decode cX12_pairs 76 = .ok (.iconst 1, 1) := by decide +kernel
theorem dX12_pairs_77 : decode cX12_pairs 77 = .ok (.iadd, 1) := by decide +kernel
theorem dX12_pairs_78 : decode cX12_pairs 78 = .ok (.istore 5, 2) := by decide +kernel
theorem dX12_pairs_80 : decode cX12_pairs 80 = .ok (.iload 5, 2) := by decide +kernel
theorem dX12_pairs_82 : decode cX12_pairs 82 = .ok (.aload_n 0, 1) := by decide +kernel
theorem dX12_pairs_83 : decode cX12_pairs 83 = .ok (.getfield 13, 3) := by decide +kernel
theorem dX12_pairs_86 : decode cX12_pairs 86 = .ok (.iconst 0, 1) := by decide +kernel
theorem dX12_pairs_87 : decode cX12_pairs 87 = .ok (.iaload, 1) := by decide +kernel
theorem dX12_pairs_88 : decode cX12_pairs 88 = .ok (.if_icmp .ge 78, 3) := by decide +kernel
theorem dX12_pairs_91 : decode cX12_pairs 91 = .ok (.iload_n 1, 1) := by decide +kernel
theorem dX12_pairs_92 : decode cX12_pairs 92 = .ok (.iload 5, 2) := by decide +kernel
theorem dX12_pairs_94 : decode cX12_pairs 94 = .ok (.ishr, 1) := by decide +kernel
theorem dX12_pairs_95 : decode cX12_pairs 95 = .ok (.iconst 1, 1) := by decide +kernel
theorem dX12_pairs_96 : decode cX12_pairs 96 = .ok (.iand, 1) := by decide +kernel
theorem dX12_pairs_97 : decode cX12_pairs 97 = .ok (.ifCond .ne 6, 3) := by decide +kernel
theorem dX12_pairs_100 : decode cX12_pairs 100 = .ok (.goto 60, 3) := by decide +kernel
theorem dX12_pairs_103 : decode cX12_pairs 103 = .ok (.aload_n 0, 1) := by decide +kernel
theorem dX12_pairs_104 : decode cX12_pairs 104 = .ok (.getfield 147, 3) := by decide +kernel
theorem dX12_pairs_107 : decode cX12_pairs 107 = .ok (.iload 4, 2) := by decide +kernel
theorem dX12_pairs_109 : decode cX12_pairs 109 = .ok (.iload 5, 2) := by decide +kernel
theorem dX12_pairs_111 : decode cX12_pairs 111 = .ok (.iastore, 1) := by decide +kernel
theorem dX12_pairs_112 : decode cX12_pairs 112 = .ok (.aload_n 0, 1) := by decide +kernel
theorem dX12_pairs_113 : decode cX12_pairs 113 = .ok (.getfield 147, 3) := by decide +kernel
theorem dX12_pairs_116 : decode cX12_pairs 116 = .ok (.iload 5, 2) := by decide +kernel
theorem dX12_pairs_118 : decode cX12_pairs 118 = .ok (.iload 4, 2) := by decide +kernel
theorem dX12_pairs_120 : decode cX12_pairs 120 = .ok (.iastore, 1) := by decide +kernel
theorem dX12_pairs_121 : decode cX12_pairs 121 = .ok (.aload_n 0, 1) := by decide +kernel
theorem dX12_pairs_122 : decode cX12_pairs 122 = .ok (.iload_n 1, 1) := by decide +kernel
theorem dX12_pairs_123 : decode cX12_pairs 123 = .ok (.iconst 1, 1) := by decide +kernel
theorem dX12_pairs_124 : decode cX12_pairs 124 = .ok (.iload 4, 2) := by decide +kernel
theorem dX12_pairs_126 : decode cX12_pairs 126 = .ok (.ishl, 1) := by decide +kernel
theorem dX12_pairs_127 : decode cX12_pairs 127 = .ok (.iconst (-1), 1) := by decide +kernel
theorem dX12_pairs_128 : decode cX12_pairs 128 = .ok (.ixor, 1) := by decide +kernel
theorem dX12_pairs_129 : decode cX12_pairs 129 = .ok (.iand, 1) := by decide +kernel
theorem dX12_pairs_130 : decode cX12_pairs 130 = .ok (.iconst 1, 1) := by decide +kernel
theorem dX12_pairs_131 : decode cX12_pairs 131 = .ok (.iload 5, 2) := by decide +kernel
theorem dX12_pairs_133 : decode cX12_pairs 133 = .ok (.ishl, 1) := by decide +kernel
theorem dX12_pairs_134 : decode cX12_pairs 134 = .ok (.iconst (-1), 1) := by decide +kernel
theorem dX12_pairs_135 : decode cX12_pairs 135 = .ok (.ixor, 1) := by decide +kernel
theorem dX12_pairs_136 : decode cX12_pairs 136 = .ok (.iand, 1) := by decide +kernel
theorem dX12_pairs_137 : decode cX12_pairs 137 = .ok (.iload_n 2, 1) := by decide +kernel
theorem dX12_pairs_138 : decode cX12_pairs 138 = .ok (.iload_n 3, 1) := by decide +kernel
theorem dX12_pairs_139 : decode cX12_pairs 139 = .ok (.aload_n 0, 1) := by decide +kernel
theorem dX12_pairs_140 : decode cX12_pairs 140 = .ok (.getfield 29, 3) := by decide +kernel
theorem dX12_pairs_143 : decode cX12_pairs 143 = .ok (.iload 4, 2) := by decide +kernel
theorem dX12_pairs_145 : decode cX12_pairs 145 = .ok (.iaload, 1) := by decide +kernel
theorem dX12_pairs_146 : decode cX12_pairs 146 = .ok (.aload_n 0, 1) := by decide +kernel
theorem dX12_pairs_147 : decode cX12_pairs 147 = .ok (.getfield 29, 3) := by decide +kernel
theorem dX12_pairs_150 : decode cX12_pairs 150 = .ok (.iload 5, 2) := by decide +kernel
theorem dX12_pairs_152 : decode cX12_pairs 152 = .ok (.iaload, 1) := by decide +kernel
theorem dX12_pairs_153 : decode cX12_pairs 153 = .ok (.invokestatic 402, 3) := by decide +kernel
theorem dX12_pairs_156 : decode cX12_pairs 156 = .ok (.iadd, 1) := by decide +kernel
theorem dX12_pairs_157 : decode cX12_pairs 157 = .ok (.invokevirtual 512, 3) := by decide +kernel
theorem dX12_pairs_160 : decode cX12_pairs 160 = .ok (.iinc 5 1, 3) := by decide +kernel
theorem dX12_pairs_163 : decode cX12_pairs 163 = .ok (.goto (-83), 3) := by decide +kernel
theorem dX12_pairs_166 : decode cX12_pairs 166 = .ok (.aload_n 0, 1) := by decide +kernel
theorem dX12_pairs_167 : decode cX12_pairs 167 = .ok (.getfield 147, 3) := by decide +kernel
theorem dX12_pairs_170 : decode cX12_pairs 170 = .ok (.iload 4, 2) := by decide +kernel
theorem dX12_pairs_172 : decode cX12_pairs 172 = .ok (.iconst (-1), 1) := by decide +kernel
theorem dX12_pairs_173 : decode cX12_pairs 173 = .ok (.iastore, 1) := by decide +kernel
theorem dX12_pairs_174 : decode cX12_pairs 174 = .ok (.iload_n 2, 1) := by decide +kernel
theorem dX12_pairs_175 : decode cX12_pairs 175 = .ok (.ifCond .eq 17, 3) := by decide +kernel
theorem dX12_pairs_178 : decode cX12_pairs 178 = .ok (.aload_n 0, 1) := by decide +kernel
theorem dX12_pairs_179 : decode cX12_pairs 179 = .ok (.iload_n 1, 1) := by decide +kernel
theorem dX12_pairs_180 : decode cX12_pairs 180 = .ok (.iconst 1, 1) := by decide +kernel
theorem dX12_pairs_181 : decode cX12_pairs 181 = .ok (.iload 4, 2) := by decide +kernel
theorem dX12_pairs_183 : decode cX12_pairs 183 = .ok (.ishl, 1) := by decide +kernel
theorem dX12_pairs_184 : decode cX12_pairs 184 = .ok (.iconst (-1), 1) := by decide +kernel
theorem dX12_pairs_185 : decode cX12_pairs 185 = .ok (.ixor, 1) := by decide +kernel
theorem dX12_pairs_186 : decode cX12_pairs 186 = .ok (.iand, 1) := by decide +kernel
theorem dX12_pairs_187 : decode cX12_pairs 187 = .ok (.iconst 0, 1) := by decide +kernel
theorem dX12_pairs_188 : decode cX12_pairs 188 = .ok (.iload_n 3, 1) := by decide +kernel
theorem dX12_pairs_189 : decode cX12_pairs 189 = .ok (.invokevirtual 512, 3) := by decide +kernel
theorem dX12_pairs_192 : decode cX12_pairs 192 = .ok (.return_, 1) := by decide +kernel
theorem dX12_couples_0 : decode cX12_couples 0 = .ok (.aload_n 0, 1) := by decide +kernel
theorem dX12_couples_1 : decode cX12_couples 1 = .ok (.iconst 0, 1) := by decide +kernel
theorem dX12_couples_2 : decode cX12_couples 2 = .ok (.putfield 156, 3) := by decide +kernel
theorem dX12_couples_5 : decode cX12_couples 5 = .ok (.iload_n 1, 1) := by decide +kernel
theorem dX12_couples_6 : decode cX12_couples 6 = .ok (.iconst (-1), 1) := by decide +kernel
theorem dX12_couples_7 : decode cX12_couples 7 = .ok (.if_icmp .eq 14, 3) := by decide +kernel
theorem dX12_couples_10 : decode cX12_couples 10 = .ok (.aload_n 0, 1) := by decide +kernel
theorem dX12_couples_11 : decode cX12_couples 11 = .ok (.iload_n 1, 1) := by decide +kernel
theorem dX12_couples_12 : decode cX12_couples 12 = .ok (.invokevirtual 444, 3) := by decide +kernel
theorem dX12_couples_15 : decode cX12_couples 15 = .ok (.ifCond .ne 6, 3) := by decide +kernel
theorem dX12_couples_18 : decode cX12_couples 18 = .ok (.bipush (-2), 2) := by decide +kernel
theorem dX12_couples_20 : decode cX12_couples 20 = .ok (.ireturn, 1) := by decide +kernel
theorem dX12_couples_21 : decode cX12_couples 21 = .ok (.aload_n 0, 1) := by decide +kernel
theorem dX12_couples_22 : decode cX12_couples 22 = .ok (.invokevirtual 431, 3) := by decide +kernel
theorem dX12_couples_25 : decode cX12_couples 25 = .ok (.istore_n 2, 1) := by decide +kernel
theorem dX12_couples_26 : decode cX12_couples 26 = .ok (.iconst 0, 1) := by decide +kernel
theorem dX12_couples_27 : decode cX12_couples 27 = .ok (.istore_n 3, 1) := by decide +kernel
theorem dX12_couples_28 : decode cX12_couples 28 = .ok (.iload_n 3, 1) := by decide +kernel
theorem dX12_couples_29 : decode cX12_couples 29 = .ok (.bipush 6, 2) := by decide +kernel
theorem dX12_couples_31 : decode cX12_couples 31 = .ok (.if_icmp .ge 16, 3) := by decide +kernel
theorem dX12_couples_34 : decode cX12_couples 34 = .ok (.aload_n 0, 1) := by decide +kernel
theorem dX12_couples_35 : decode cX12_couples 35 = .ok (.getfield 147, 3) := by decide +kernel
theorem dX12_couples_38 : decode cX12_couples 38 = .ok (.iload_n 3, 1) := by decide +kernel
theorem dX12_couples_39 : decode cX12_couples 39 = .ok (.iconst (-1), 1) := by decide +kernel
theorem dX12_couples_40 : decode cX12_couples 40 = .ok (.iastore, 1) := by decide +kernel
theorem dX12_couples_41 : decode cX12_couples 41 = .ok (.iinc 3 1, 3) := by decide +kernel
theorem dX12_couples_44 : decode cX12_couples 44 = .ok (.goto (-16), 3) := by decide +kernel
theorem dX12_couples_47 : decode cX12_couples 47 = .ok (.aload_n 0, 1) := by decide +kernel
theorem dX12_couples_48 : decode cX12_couples 48 = .ok (.iconst (-1), 1) := by decide +kernel
theorem dX12_couples_49 : decode cX12_couples 49 = .ok (.putfield 509, 3) := by decide +kernel
theorem dX12_couples_52 : decode cX12_couples 52 = .ok (.aload_n 0, 1) := by decide +kernel
theorem dX12_couples_53 : decode cX12_couples 53 = .ok (.iload_n 2, 1) := by decide +kernel
theorem dX12_couples_54 : decode cX12_couples 54 = .ok (.iload_n 2, 1) := by decide +kernel
theorem dX12_couples_55 : decode cX12_couples 55 = .ok (.invokestatic 503, 3) := by decide +kernel
theorem dX12_couples_58 : decode cX12_couples 58 = .ok (.iconst 2, 1) := by decide +kernel
theorem dX12_couples_59 : decode cX12_couples 59 = .ok (.irem, 1) := by decide +kernel
theorem dX12_couples_60 : decode cX12_couples 60 = .ok (.iconst 1, 1) := by decide +kernel
theorem dX12_couples_61 : decode cX12_couples 61 = .ok (.if_icmp .ne 7, 3) := by decide +kernel
theorem dX12_couples_64 : decode cX12_couples 64 = .ok (.iconst 1, 1) := by decide +kernel
theorem dX12_couples_65 : decode cX12_couples 65 = .ok (.goto 4, 3) := by decide +kernel
theorem dX12_couples_68 : decode cX12_couples 68 = .ok (.iconst 0, 1) := by decide +kernel
theorem dX12_couples_69 : decode cX12_couples 69 = .ok (.iconst 0, 1) := by decide +kernel
theorem dX12_couples_70 : decode cX12_couples 70 = .ok (.invokevirtual 512, 3) := by decide +kernel
theorem dX12_couples_73 : decode cX12_couples 73 = .ok (.iload_n 1, 1) := by decide +kernel
theorem dX12_couples_74 : decode cX12_couples 74 = .ok (.iconst (-1), 1) := by decide +kernel
theorem dX12_couples_75 : decode cX12_couples 75 = .ok (.if_icmp .ne 10, 3) := by decide +kernel
theorem dX12_couples_78 : decode cX12_couples 78 = .ok (.aload_n 0, 1) := by decide +kernel
theorem dX12_couples_79 : decode cX12_couples 79 = .ok (.getfield 509, 3) := by decide +kernel
theorem dX12_couples_82 : decode cX12_couples 82 = .ok (.goto 22, 3) := by decide +kernel
theorem dX12_couples_85 : decode cX12_couples 85 = .ok (.iload_n 2, 1) := by decide +kernel
theorem dX12_couples_86 : decode cX12_couples 86 = .ok (.iload_n 1, 1) := by decide +kernel
theorem dX12_couples_87 : decode cX12_couples 87 = .ok (.ishr, 1) := by decide +kernel
theorem dX12_couples_88 : decode cX12_couples 88 = .ok (.iconst 1, 1) := by decide +kernel
theorem dX12_couples_89 : decode cX12_couples 89 = .ok (.iand, 1) := by decide +kernel
theorem dX12_couples_90 : decode cX12_couples 90 = .ok (.iconst 1, 1) := by decide +kernel
theorem dX12_couples_91 : decode cX12_couples 91 = .ok (.if_icmp .ne 12, 3) := by decide +kernel
theorem dX12_couples_94 : decode cX12_couples 94 = .ok (.aload_n 0, 1) := by decide +kernel
theorem dX12_couples_95 : decode cX12_couples 95 = .ok (.getfield 150, 3) := by decide +kernel
theorem dX12_couples_98 : decode cX12_couples 98 = .ok (.iload_n 1, 1) := by decide +kernel
theorem dX12_couples_99 : decode cX12_couples 99 = .ok (.iaload, 1) := by decide +kernel
theorem dX12_couples_100 : decode cX12_couples 100 = .ok (.goto 4, 3) := by decide +kernel
theorem dX12_couples_103 : decode cX12_couples 103 = .ok (.iconst (-1), 1) := by decide +kernel
theorem dX12_couples_104 : decode cX12_couples 104 = .ok (.ireturn, 1) := by decide +kernel
theorem dX12_gets_0 : decode cX12_gets 0 = .ok (.iconst 3, 1) := by decide +kernel
theorem dX12_gets_1 : decode cX12_gets 1 = .ok (.iload_n 2, 1) := by decide +kernel
theorem dX12_gets_2 : decode cX12_gets 2 = .ok (.imul, 1) := by decide +kernel
theorem dX12_gets_3 : decode cX12_gets 3 = .ok (.iload_n 1, 1) := by decide +kernel
theorem dX12_gets_4 : decode cX12_gets 4 = .ok (.iconst 0, 1) := by decide +kernel
theorem dX12_gets_5 : decode cX12_gets 5 = .ok (.iload_n 2, 1) := by decide +kernel
theorem dX12_gets_6 : decode cX12_gets 6 = .ok (.iload_n 3, 1) := by decide +kernel
theorem dX12_gets_7 : decode cX12_gets 7 = .ok (.iadd, 1) := by decide +kernel
theorem dX12_gets_8 : decode cX12_gets 8 = .ok (.iload_n 0, 1) := by decide +kernel
theorem dX12_gets_9 : decode cX12_gets 9 = .ok (.isub, 1) := by decide +kernel
theorem dX12_gets_10 : decode cX12_gets 10 = .ok (.invokestatic 416, 3) := by decide +kernel
theorem dX12_gets_13 : decode cX12_gets 13 = .ok (.imul, 1) := by decide +kernel
theorem dX12_gets_14 : decode cX12_gets 14 = .ok (.isub, 1) := by decide +kernel
theorem dX12_gets_15 : decode cX12_gets 15 = .ok (.ireturn, 1) := by decide +kernel
theorem dX12_isRest_0 : decode cX12_isRest 0 = .ok (.iconst 1, 1) := by decide +kernel
theorem dX12_isRest_1 : decode cX12_isRest 1 = .ok (.istore 4, 2) := by decide +kernel
theorem dX12_isRest_3 : decode cX12_isRest 3 = .ok (.iload 4, 2) := by decide +kernel
theorem dX12_isRest_5 : decode cX12_isRest 5 = .ok (.bipush 6, 2) := by decide +kernel
theorem dX12_isRest_7 : decode cX12_isRest 7 = .ok (.if_icmp .ge 47, 3) := by decide +kernel
theorem dX12_isRest_10 : decode cX12_isRest 10 = .ok (.iload_n 0, 1) := by decide +kernel
theorem dX12_isRest_11 : decode cX12_isRest 11 = .ok (.iload_n 1, 1) := by decide +kernel
theorem dX12_isRest_12 : decode cX12_isRest 12 = .ok (.iload 4, 2) := by decide +kernel
theorem dX12_isRest_14 : decode cX12_isRest 14 = .ok (.iload_n 3, 1) := by decide +kernel
theorem dX12_isRest_15 : decode cX12_isRest 15 = .ok (.invokestatic 516, 3) := by decide +kernel
theorem dX12_isRest_18 : decode cX12_isRest 18 = .ok (.iload_n 0, 1) := by decide +kernel
theorem dX12_isRest_19 : decode cX12_isRest 19 = .ok (.iload_n 1, 1) := by decide +kernel
theorem dX12_isRest_20 : decode cX12_isRest 20 = .ok (.iload_n 2, 1) := by decide +kernel
theorem dX12_isRest_21 : decode cX12_isRest 21 = .ok (.iload_n 3, 1) := by decide +kernel
theorem dX12_isRest_22 : decode cX12_isRest 22 = .ok (.invokestatic 516, 3) := by decide +kernel
theorem dX12_isRest_25 : decode cX12_isRest 25 = .ok (.if_icmp .gt 21, 3) := by decide +kernel
theorem dX12_isRest_28 : decode cX12_isRest 28 = .ok (.iload_n 0, 1) := by decide +kernel
theorem dX12_isRest_29 : decode cX12_isRest 29 = .ok (.iload_n 1, 1) := by decide +kernel
theorem dX12_isRest_30 : decode cX12_isRest 30 = .ok (.iload 4, 2) := by decide +kernel
theorem dX12_isRest_32 : decode cX12_isRest 32 = .ok (.iload_n 2, 1) := by decide +kernel
theorem dX12_isRest_33 : decode cX12_isRest 33 = .ok (.invokestatic 516, 3) := by decide +kernel
theorem dX12_isRest_36 : decode cX12_isRest 36 = .ok (.iload_n 0, 1) := by decide +kernel
theorem dX12_isRest_37 : decode cX12_isRest 37 = .ok (.iload_n 1, 1) := by decide +kernel
theorem dX12_isRest_38 : decode cX12_isRest 38 = .ok (.iload_n 3, 1) := by decide +kernel
theorem dX12_isRest_39 : decode cX12_isRest 39 = .ok (.iload_n 2, 1) := by decide +kernel
theorem dX12_isRest_40 : decode cX12_isRest 40 = .ok (.invokestatic 516, 3) := by decide +kernel
theorem dX12_isRest_43 : decode cX12_isRest 43 = .ok (.if_icmp .le 5, 3) := by decide +kernel
theorem dX12_isRest_46 : decode cX12_isRest 46 = .ok (.iconst 0, 1) := by decide +kernel
theorem dX12_isRest_47 : decode cX12_isRest 47 = .ok (.ireturn, 1) := by decide +kernel
theorem dX12_isRest_48 : decode cX12_isRest 48 = .ok (.iinc 4 1, 3) := by decide +kernel
theorem dX12_isRest_51 : decode cX12_isRest 51 = .ok (.goto (-48), 3) := by decide +kernel
theorem dX12_isRest_54 : decode cX12_isRest 54 = .ok (.iconst 1, 1) := by decide +kernel
theorem dX12_isRest_55 : decode cX12_isRest 55 = .ok (.ireturn, 1) := by decide +kernel
theorem dX12_rests_0 : decode cX12_rests 0 = .ok (.aload_n 0, 1) := by decide +kernel
theorem dX12_rests_1 : decode cX12_rests 1 = .ok (.iload_n 1, 1) := by decide +kernel
theorem dX12_rests_2 : decode cX12_rests 2 = .ok (.iconst 0, 1) := by decide +kernel
theorem dX12_rests_3 : decode cX12_rests 3 = .ok (.bipush 20, 2) := by decide +kernel
theorem dX12_rests_5 : decode cX12_rests 5 = .ok (.invokestatic 293, 3) := by decide +kernel
theorem dX12_rests_8 : decode cX12_rests 8 = .ok (.ifCond .eq 22, 3) := by decide +kernel
theorem dX12_rests_11 : decode cX12_rests 11 = .ok (.iload_n 2, 1) := by decide +kernel
theorem dX12_rests_12 : decode cX12_rests 12 = .ok (.iconst 0, 1) := by decide +kernel
theorem dX12_rests_13 : decode cX12_rests 13 = .ok (.bipush 9, 2) := by decide +kernel
theorem dX12_rests_15 : decode cX12_rests 15 = .ok (.invokestatic 293, 3) := by decide +kernel
theorem dX12_rests_18 : decode cX12_rests 18 = .ok (.ifCond .eq 12, 3) := by decide +kernel
theorem dX12_rests_21 : decode cX12_rests 21 = .ok (.iload_n 3, 1) := by decide +kernel
theorem dX12_rests_22 : decode cX12_rests 22 = .ok (.iconst (-1), 1) := by decide +kernel
theorem dX12_rests_23 : decode cX12_rests 23 = .ok (.if_icmp .lt 7, 3) := by decide +kernel
theorem dX12_rests_26 : decode cX12_rests 26 = .ok (.iconst 0, 1) := by decide +kernel
theorem dX12_rests_27 : decode cX12_rests 27 = .ok (.goto 4, 3) := by decide +kernel
theorem dX12_rests_30 : decode cX12_rests 30 = .ok (.iconst 1, 1) := by decide +kernel
theorem dX12_rests_31 : decode cX12_rests 31 = .ok (.putfield 156, 3) := by decide +kernel
theorem dX12_rests_34 : decode cX12_rests 34 = .ok (.aload_n 0, 1) := by decide +kernel
theorem dX12_rests_35 : decode cX12_rests 35 = .ok (.getfield 156, 3) := by decide +kernel
theorem dX12_rests_38 : decode cX12_rests 38 = .ok (.iconst 1, 1) := by decide +kernel
theorem dX12_rests_39 : decode cX12_rests 39 = .ok (.if_icmp .ne 5, 3) := by decide +kernel
theorem dX12_rests_42 : decode cX12_rests 42 = .ok (.iconst 0, 1) := by decide +kernel
theorem dX12_rests_43 : decode cX12_rests 43 = .ok (.ireturn, 1) := by decide +kernel
theorem dX12_rests_44 : decode cX12_rests 44 = .ok (.iconst 0, 1) := by decide +kernel
theorem dX12_rests_45 : decode cX12_rests 45 = .ok (.istore 4, 2) := by decide +kernel
theorem dX12_rests_47 : decode cX12_rests 47 = .ok (.iconst 1, 1) := by decide +kernel
theorem dX12_rests_48 : decode cX12_rests 48 = .ok (.istore 5, 2) := by decide +kernel
theorem dX12_rests_50 : decode cX12_rests 50 = .ok (.iload 5, 2) := by decide +kernel
theorem dX12_rests_52 : decode cX12_rests 52 = .ok (.bipush 6, 2) := by decide +kernel
theorem dX12_rests_54 : decode cX12_rests 54 = .ok (.if_icmp .ge 58, 3) := by decide +kernel
theorem dX12_rests_57 : decode cX12_rests 57 = .ok (.iconst 1, 1) := by decide +kernel
theorem dX12_rests_58 : decode cX12_rests 58 = .ok (.istore 6, 2) := by decide +kernel
theorem dX12_rests_60 : decode cX12_rests 60 = .ok (.iload 6, 2) := by decide +kernel
theorem dX12_rests_62 : decode cX12_rests 62 = .ok (.bipush 6, 2) := by decide +kernel
theorem dX12_rests_64 : decode cX12_rests 64 = .ok (.if_icmp .ge 42, 3) := by decide +kernel
theorem dX12_rests_67 : decode cX12_rests 67 = .ok (.iload_n 1, 1) := by decide +kernel
theorem dX12_rests_68 : decode cX12_rests 68 = .ok (.iload_n 2, 1) := by decide +kernel
theorem dX12_rests_69 : decode cX12_rests 69 = .ok (.iload 5, 2) := by decide +kernel
theorem dX12_rests_71 : decode cX12_rests 71 = .ok (.iload 6, 2) := by decide +kernel
theorem dX12_rests_73 : decode cX12_rests 73 = .ok (.invokestatic 520, 3) := by decide +kernel
theorem dX12_rests_76 : decode cX12_rests 76 = .ok (.ifCond .ne 6, 3) := by decide +kernel
theorem dX12_rests_79 : decode cX12_rests 79 = .ok (.goto 21, 3) := by decide +kernel
theorem dX12_rests_82 : decode cX12_rests 82 = .ok (.iload 4, 2) := by decide +kernel
theorem dX12_rests_84 : decode cX12_rests 84 = .ok (.iload_n 3, 1) := by decide +kernel
theorem dX12_rests_85 : decode cX12_rests 85 = .ok (.if_icmp .ne 12, 3) := by decide +kernel
theorem dX12_rests_88 : decode cX12_rests 88 = .ok (.bipush 10, 2) := by decide +kernel
theorem dX12_rests_90 : decode cX12_rests 90 = .ok (.iload 5, 2) := by decide +kernel
theorem dX12_rests_92 : decode cX12_rests 92 = .ok (.imul, 1) := by decide +kernel
theorem dX12_rests_93 : decode cX12_rests 93 = .ok (.iload 6, 2) := by decide +kernel
theorem dX12_rests_95 : decode cX12_rests 95 = .ok (.iadd, 1) := by decide +kernel
theorem dX12_rests_96 : decode cX12_rests 96 = .ok (.ireturn, 1) := by decide +kernel
theorem dX12_rests_97 : decode cX12_rests 97 = .ok (.iinc 4 1, 3) := by decide +kernel
theorem dX12_rests_100 : decode cX12_rests 100 = .ok (.iinc 6 1, 3) := by decide +kernel
theorem dX12_rests_103 : decode cX12_rests 103 = .ok (.goto (-43), 3) := by decide +kernel
theorem dX12_rests_106 : decode cX12_rests 106 = .ok (.iinc 5 1, 3) := by decide +kernel
theorem dX12_rests_109 : decode cX12_rests 109 = .ok (.goto (-59), 3) := by decide +kernel
theorem dX12_rests_112 : decode cX12_rests 112 = .ok (.aload_n 0, 1) := by decide +kernel
theorem dX12_rests_113 : decode cX12_rests 113 = .ok (.iload_n 3, 1) := by decide +kernel
theorem dX12_rests_114 : decode cX12_rests 114 = .ok (.iconst (-1), 1) := by decide +kernel
theorem dX12_rests_115 : decode cX12_rests 115 = .ok (.if_icmp .ne 7, 3) := by decide +kernel
theorem dX12_rests_118 : decode cX12_rests 118 = .ok (.iconst 0, 1) := by decide +kernel
theorem dX12_rests_119 : decode cX12_rests 119 = .ok (.goto 4, 3) := by decide +kernel
theorem dX12_rests_122 : decode cX12_rests 122 = .ok (.iconst 1, 1) := by decide +kernel
theorem dX12_rests_123 : decode cX12_rests 123 = .ok (.putfield 156, 3) := by decide +kernel
theorem dX12_rests_126 : decode cX12_rests 126 = .ok (.iload_n 3, 1) := by decide +kernel
theorem dX12_rests_127 : decode cX12_rests 127 = .ok (.iconst (-1), 1) := by decide +kernel
theorem dX12_rests_128 : decode cX12_rests 128 = .ok (.if_icmp .ne 8, 3) := by decide +kernel
theorem dX12_rests_131 : decode cX12_rests 131 = .ok (.iload 4, 2) := by decide +kernel
theorem dX12_rests_133 : decode cX12_rests 133 = .ok (.goto 4, 3) := by decide +kernel
theorem dX12_rests_136 : decode cX12_rests 136 = .ok (.iconst 0, 1) := by decide +kernel
theorem dX12_rests_137 : decode cX12_rests 137 = .ok (.ireturn, 1) := by decide +kernel
theorem dX12_draws_0 : decode cX12_draws 0 = .ok (.aload_n 0, 1) := by decide +kernel
theorem dX12_draws_1 : decode cX12_draws 1 = .ok (.aload_n 0, 1) := by decide +kernel
theorem dX12_draws_2 : decode cX12_draws 2 = .ok (.getfield 524, 3) := by decide +kernel
theorem dX12_draws_5 : decode cX12_draws 5 = .ok (.ldc2_w 527, 3) := by decide +kernel
theorem dX12_draws_8 : decode cX12_draws 8 = .ok (.lmul, 1) := by decide +kernel
theorem dX12_draws_9 : decode cX12_draws 9 = .ok (.ldc2_w 529, 3) := by decide +kernel
theorem dX12_draws_12 : decode cX12_draws 12 = .ok (.ladd, 1) := by decide +kernel
theorem dX12_draws_13 : decode cX12_draws 13 = .ok (.ldc2_w 531, 3) := by decide +kernel
theorem dX12_draws_16 : decode cX12_draws 16 = .ok (.lrem, 1) := by decide +kernel
theorem dX12_draws_17 : decode cX12_draws 17 = .ok (.putfield 524, 3) := by decide +kernel
theorem dX12_draws_20 : decode cX12_draws 20 = .ok (.aload_n 0, 1) := by decide +kernel
theorem dX12_draws_21 : decode cX12_draws 21 = .ok (.getfield 524, 3) := by decide +kernel
theorem dX12_draws_24 : decode cX12_draws 24 = .ok (.ldc2_w 533, 3) := by decide +kernel
theorem dX12_draws_27 : decode cX12_draws 27 = .ok (.ldiv, 1) := by decide +kernel
theorem dX12_draws_28 : decode cX12_draws 28 = .ok (.iload_n 1, 1) := by decide +kernel
theorem dX12_draws_29 : decode cX12_draws 29 = .ok (.i2l, 1) := by decide +kernel
theorem dX12_draws_30 : decode cX12_draws 30 = .ok (.lrem, 1) := by decide +kernel
theorem dX12_draws_31 : decode cX12_draws 31 = .ok (.l2i, 1) := by decide +kernel
theorem dX12_draws_32 : decode cX12_draws 32 = .ok (.ireturn, 1) := by decide +kernel
theorem dX12_livesDay_0 : decode cX12_livesDay 0 = .ok (.aload_n 0, 1) := by decide +kernel
theorem dX12_livesDay_1 : decode cX12_livesDay 1 = .ok (.bipush 10, 2) := by decide +kernel
theorem dX12_livesDay_3 : decode cX12_livesDay 3 = .ok (.invokevirtual 535, 3) := by decide +kernel
theorem dX12_livesDay_6 : decode cX12_livesDay 6 = .ok (.ifCond .ne 20, 3) := by decide +kernel
theorem dX12_livesDay_9 : decode cX12_livesDay 9 = .ok (.aload_n 0, 1) := by decide +kernel
theorem dX12_livesDay_10 : decode cX12_livesDay 10 = .ok (.getfield 117, 3) := by decide +kernel
theorem dX12_livesDay_13 : decode cX12_livesDay 13 = .ok (.iconst 1, 1) := by decide +kernel
theorem dX12_livesDay_14 : decode cX12_livesDay 14 = .ok (.dup2, 1) := by decide +kernel
theorem dX12_livesDay_15 : decode cX12_livesDay 15 = .ok (.iaload, 1) := by decide +kernel
theorem dX12_livesDay_16 : decode cX12_livesDay 16 = .ok (.aload_n 0, 1) := by decide +kernel
theorem dX12_livesDay_17 : decode cX12_livesDay 17 = .ok (.getfield 117, 3) := by decide +kernel
theorem dX12_livesDay_20 : decode cX12_livesDay 20 = .ok (.iconst 1, 1) := by decide +kernel
theorem dX12_livesDay_21 : decode cX12_livesDay 21 = .ok (.iaload, 1) := by decide +kernel
theorem dX12_livesDay_22 : decode cX12_livesDay 22 = .ok (.iconst 2, 1) := by decide +kernel
theorem dX12_livesDay_23 : decode cX12_livesDay 23 = .ok (.idiv, 1) := by decide +kernel
theorem dX12_livesDay_24 : decode cX12_livesDay 24 = .ok (.isub, 1) := by decide +kernel
theorem dX12_livesDay_25 : decode cX12_livesDay 25 = .ok (.iastore, 1) := by decide +kernel
theorem dX12_livesDay_26 : decode cX12_livesDay 26 = .ok (.iconst 0, 1) := by decide +kernel
theorem dX12_livesDay_27 : decode cX12_livesDay 27 = .ok (.istore_n 1, 1) := by decide +kernel
theorem dX12_livesDay_28 : decode cX12_livesDay 28 = .ok (.aload_n 0, 1) := by decide +kernel
theorem dX12_livesDay_29 : decode cX12_livesDay 29 = .ok (.getfield 13, 3) := by decide +kernel
theorem dX12_livesDay_32 : decode cX12_livesDay 32 = .ok (.iconst 0, 1) := by decide +kernel
theorem dX12_livesDay_33 : decode cX12_livesDay 33 = .ok (.iaload, 1) := by decide +kernel
theorem dX12_livesDay_34 : decode cX12_livesDay 34 = .ok (.ifCond .le 69, 3) := by decide +kernel
theorem dX12_livesDay_37 : decode cX12_livesDay 37 = .ok (.aload_n 0, 1) := by decide +kernel
theorem dX12_livesDay_38 : decode cX12_livesDay 38 = .ok (.getfield 13, 3) := by decide +kernel
theorem dX12_livesDay_41 : decode cX12_livesDay 41 = .ok (.iconst 1, 1) := by decide +kernel
theorem dX12_livesDay_42 : decode cX12_livesDay 42 = .ok (.iaload, 1) := by decide +kernel
theorem dX12_livesDay_43 : decode cX12_livesDay 43 = .ok (.ifCond .le 60, 3) := by decide +kernel
theorem dX12_livesDay_46 : decode cX12_livesDay 46 = .ok (.aload_n 0, 1) := by decide +kernel
theorem dX12_livesDay_47 : decode cX12_livesDay 47 = .ok (.aload_n 0, 1) := by decide +kernel
theorem dX12_livesDay_48 : decode cX12_livesDay 48 = .ok (.getfield 13, 3) := by decide +kernel
theorem dX12_livesDay_51 : decode cX12_livesDay 51 = .ok (.iconst 0, 1) := by decide +kernel
theorem dX12_livesDay_52 : decode cX12_livesDay 52 = .ok (.iaload, 1) := by decide +kernel
theorem dX12_livesDay_53 : decode cX12_livesDay 53 = .ok (.invokevirtual 535, 3) := by decide +kernel
theorem dX12_livesDay_56 : decode cX12_livesDay 56 = .ok (.istore_n 2, 1) := by decide +kernel
theorem dX12_livesDay_57 : decode cX12_livesDay 57 = .ok (.aload_n 0, 1) := by decide +kernel
theorem dX12_livesDay_58 : decode cX12_livesDay 58 = .ok (.aload_n 0, 1) := by decide +kernel
theorem dX12_livesDay_59 : decode cX12_livesDay 59 = .ok (.getfield 13, 3) := by decide +kernel
theorem dX12_livesDay_62 : decode cX12_livesDay 62 = .ok (.iconst 1, 1) := by decide +kernel
theorem dX12_livesDay_63 : decode cX12_livesDay 63 = .ok (.iaload, 1) := by decide +kernel
theorem dX12_livesDay_64 : decode cX12_livesDay 64 = .ok (.invokevirtual 535, 3) := by decide +kernel
theorem dX12_livesDay_67 : decode cX12_livesDay 67 = .ok (.istore_n 3, 1) := by decide +kernel
theorem dX12_livesDay_68 : decode cX12_livesDay 68 = .ok (.aload_n 0, 1) := by decide +kernel
theorem dX12_livesDay_69 : decode cX12_livesDay 69 = .ok (.iconst 2, 1) := by decide +kernel
theorem dX12_livesDay_70 : decode cX12_livesDay 70 = .ok (.invokevirtual 535, 3) := by decide +kernel
theorem dX12_livesDay_73 : decode cX12_livesDay 73 = .ok (.ifCond .ne 7, 3) := by decide +kernel
theorem dX12_livesDay_76 : decode cX12_livesDay 76 = .ok (.iconst 1, 1) := by decide +kernel
theorem dX12_livesDay_77 : decode cX12_livesDay 77 = .ok (.goto 4, 3) := by decide +kernel
theorem dX12_livesDay_80 : decode cX12_livesDay 80 = .ok (.iconst 0, 1) := by decide +kernel
theorem dX12_livesDay_81 : decode cX12_livesDay 81 = .ok (.istore 4, 2) := by decide +kernel
theorem dX12_livesDay_83 : decode cX12_livesDay 83 = .ok (.aload_n 0, 1) := by decide +kernel
theorem dX12_livesDay_84 : decode cX12_livesDay 84 = .ok (.iload_n 2, 1) := by decide +kernel
theorem dX12_livesDay_85 : decode cX12_livesDay 85 = .ok (.iload_n 3, 1) := by decide +kernel
theorem dX12_livesDay_86 : decode cX12_livesDay 86 = .ok (.invokevirtual 450, 3) := by decide +kernel
theorem dX12_livesDay_89 : decode cX12_livesDay 89 = .ok (.istore_n 1, 1) := by decide +kernel
theorem dX12_livesDay_90 : decode cX12_livesDay 90 = .ok (.iload_n 1, 1) := by decide +kernel
theorem dX12_livesDay_91 : decode cX12_livesDay 91 = .ok (.ifCond .eq 12, 3) := by decide +kernel
theorem dX12_livesDay_94 : decode cX12_livesDay 94 = .ok (.aload_n 0, 1) := by decide +kernel
theorem dX12_livesDay_95 : decode cX12_livesDay 95 = .ok (.iload_n 2, 1) := by decide +kernel
theorem dX12_livesDay_96 : decode cX12_livesDay 96 = .ok (.iload_n 3, 1) := by decide +kernel
theorem dX12_livesDay_97 : decode cX12_livesDay 97 = .ok (.iload 4, 2) := by decide +kernel
theorem dX12_livesDay_99 : decode cX12_livesDay 99 = .ok (.invokevirtual 460, 3) := by decide +kernel
theorem dX12_livesDay_102 : decode cX12_livesDay 102 = .ok (.pop, 1) := by decide +kernel
theorem dX12_livesDay_103 : decode cX12_livesDay 103 = .ok (.iload_n 1, 1) := by decide +kernel
theorem dX12_livesDay_104 : decode cX12_livesDay 104 = .ok (.ifCond .ne 7, 3) := by decide +kernel
theorem dX12_livesDay_107 : decode cX12_livesDay 107 = .ok (.aload_n 0, 1) := by decide +kernel
theorem dX12_livesDay_108 : decode cX12_livesDay 108 = .ok (.invokevirtual 441, 3) := by decide +kernel
theorem dX12_livesDay_111 : decode cX12_livesDay 111 = .ok (.return_, 1) := by decide +kernel
theorem dX12_sum_0 : decode cX12_sum 0 = .ok (.iconst 0, 1) := by decide +kernel
theorem dX12_sum_1 : decode cX12_sum 1 = .ok (.istore_n 2, 1) := by decide +kernel
theorem dX12_sum_2 : decode cX12_sum 2 = .ok (.iload_n 1, 1) := by decide +kernel
theorem dX12_sum_3 : decode cX12_sum 3 = .ok (.istore_n 3, 1) := by decide +kernel
theorem dX12_sum_4 : decode cX12_sum 4 = .ok (.iload_n 3, 1) := by decide +kernel
theorem dX12_sum_5 : decode cX12_sum 5 = .ok (.iload_n 1, 1) := by decide +kernel
theorem dX12_sum_6 : decode cX12_sum 6 = .ok (.bipush 6, 2) := by decide +kernel
theorem dX12_sum_8 : decode cX12_sum 8 = .ok (.iadd, 1) := by decide +kernel
theorem dX12_sum_9 : decode cX12_sum 9 = .ok (.if_icmp .ge 15, 3) := by decide +kernel
theorem dX12_sum_12 : decode cX12_sum 12 = .ok (.iload_n 2, 1) := by decide +kernel
theorem dX12_sum_13 : decode cX12_sum 13 = .ok (.aload_n 0, 1) := by decide +kernel
theorem dX12_sum_14 : decode cX12_sum 14 = .ok (.iload_n 3, 1) := by decide +kernel
theorem dX12_sum_15 : decode cX12_sum 15 = .ok (.iaload, 1) := by decide +kernel
theorem dX12_sum_16 : decode cX12_sum 16 = .ok (.iadd, 1) := by decide +kernel
theorem dX12_sum_17 : decode cX12_sum 17 = .ok (.istore_n 2, 1) := by decide +kernel
theorem dX12_sum_18 : decode cX12_sum 18 = .ok (.iinc 3 1, 3) := by decide +kernel
theorem dX12_sum_21 : decode cX12_sum 21 = .ok (.goto (-17), 3) := by decide +kernel
theorem dX12_sum_24 : decode cX12_sum 24 = .ok (.iload_n 2, 1) := by decide +kernel
theorem dX12_sum_25 : decode cX12_sum 25 = .ok (.ireturn, 1) := by decide +kernel
theorem dX12_years_0 : decode cX12_years 0 = .ok (.aload_n 0, 1) := by decide +kernel
theorem dX12_years_1 : decode cX12_years 1 = .ok (.iconst 0, 1) := by decide +kernel
theorem dX12_years_2 : decode cX12_years 2 = .ok (.putfield 156, 3) := by decide +kernel
theorem dX12_years_5 : decode cX12_years 5 = .ok (.iload_n 1, 1) := by decide +kernel
theorem dX12_years_6 : decode cX12_years 6 = .ok (.iconst 0, 1) := by decide +kernel
theorem dX12_years_7 : decode cX12_years 7 = .ok (.sipush 9999, 3) := by decide +kernel
theorem dX12_years_10 : decode cX12_years 10 = .ok (.invokestatic 293, 3) := by decide +kernel
theorem dX12_years_13 : decode cX12_years 13 = .ok (.ifCond .eq 22, 3) := by decide +kernel
theorem dX12_years_16 : decode cX12_years 16 = .ok (.iload_n 2, 1) := by decide +kernel
theorem dX12_years_17 : decode cX12_years 17 = .ok (.iconst 1, 1) := by decide +kernel
theorem dX12_years_18 : decode cX12_years 18 = .ok (.bipush 100, 2) := by decide +kernel
theorem dX12_years_20 : decode cX12_years 20 = .ok (.invokestatic 293, 3) := by decide +kernel
theorem dX12_years_23 : decode cX12_years 23 = .ok (.ifCond .eq 12, 3) := by decide +kernel
theorem dX12_years_26 : decode cX12_years 26 = .ok (.iload_n 3, 1) := by decide +kernel
theorem dX12_years_27 : decode cX12_years 27 = .ok (.iconst 0, 1) := by decide +kernel
theorem dX12_years_28 : decode cX12_years 28 = .ok (.iconst 2, 1) := by decide +kernel
theorem dX12_years_29 : decode cX12_years 29 = .ok (.invokestatic 293, 3) := by decide +kernel
theorem dX12_years_32 : decode cX12_years 32 = .ok (.ifCond .ne 5, 3) := by decide +kernel
theorem dX12_years_35 : decode cX12_years 35 = .ok (.iconst (-1), 1) := by decide +kernel
theorem dX12_years_36 : decode cX12_years 36 = .ok (.ireturn, 1) := by decide +kernel
theorem dX12_years_37 : decode cX12_years 37 = .ok (.aload_n 0, 1) := by decide +kernel
theorem dX12_years_38 : decode cX12_years 38 = .ok (.iload_n 1, 1) := by decide +kernel
theorem dX12_years_39 : decode cX12_years 39 = .ok (.i2l, 1) := by decide +kernel
theorem dX12_years_40 : decode cX12_years 40 = .ok (.putfield 524, 3) := by decide +kernel
theorem dX12_years_43 : decode cX12_years 43 = .ok (.aload_n 0, 1) := by decide +kernel
theorem dX12_years_44 : decode cX12_years 44 = .ok (.getfield 117, 3) := by decide +kernel
theorem dX12_years_47 : decode cX12_years 47 = .ok (.iconst 0, 1) := by decide +kernel
theorem dX12_years_48 : decode cX12_years 48 = .ok (.aload_n 0, 1) := by decide +kernel
theorem dX12_years_49 : decode cX12_years 49 = .ok (.getfield 120, 3) := by decide +kernel
theorem dX12_years_52 : decode cX12_years 52 = .ok (.iconst 0, 1) := by decide +kernel
theorem dX12_years_53 : decode cX12_years 53 = .ok (.invokestatic 453, 3) := by decide +kernel
theorem dX12_years_56 : decode cX12_years 56 = .ok (.iconst 0, 1) := by decide +kernel
theorem dX12_years_57 : decode cX12_years 57 = .ok (.istore 4, 2) := by decide +kernel
theorem dX12_years_59 : decode cX12_years 59 = .ok (.iload 4, 2) := by decide +kernel
theorem dX12_years_61 : decode cX12_years 61 = .ok (.iload_n 2, 1) := by decide +kernel
theorem dX12_years_62 : decode cX12_years 62 = .ok (.if_icmp .ge 13, 3) := by decide +kernel
theorem dX12_years_65 : decode cX12_years 65 = .ok (.aload_n 0, 1) := by decide +kernel
theorem dX12_years_66 : decode cX12_years 66 = .ok (.invokevirtual 538, 3) := by decide +kernel
theorem dX12_years_69 : decode cX12_years 69 = .ok (.iinc 4 1, 3) := by decide +kernel
theorem dX12_years_72 : decode cX12_years 72 = .ok (.goto (-13), 3) := by decide +kernel
theorem dX12_years_75 : decode cX12_years 75 = .ok (.iload_n 3, 1) := by decide +kernel
theorem dX12_years_76 : decode cX12_years 76 = .ok (.ifCond .ne 25, 3) := by decide +kernel
theorem dX12_years_79 : decode cX12_years 79 = .ok (.aload_n 0, 1) := by decide +kernel
theorem dX12_years_80 : decode cX12_years 80 = .ok (.getfield 117, 3) := by decide +kernel
theorem dX12_years_83 : decode cX12_years 83 = .ok (.bipush 15, 2) := by decide +kernel
theorem dX12_years_85 : decode cX12_years 85 = .ok (.invokestatic 541, 3) := by decide +kernel
theorem dX12_years_88 : decode cX12_years 88 = .ok (.aload_n 0, 1) := by decide +kernel
theorem dX12_years_89 : decode cX12_years 89 = .ok (.getfield 120, 3) := by decide +kernel
theorem dX12_years_92 : decode cX12_years 92 = .ok (.bipush 15, 2) := by decide +kernel
theorem dX12_years_94 : decode cX12_years 94 = .ok (.invokestatic 541, 3) := by decide +kernel
theorem dX12_years_97 : decode cX12_years 97 = .ok (.isub, 1) := by decide +kernel
theorem dX12_years_98 : decode cX12_years 98 = .ok (.goto 30, 3) := by decide +kernel
theorem dX12_years_101 : decode cX12_years 101 = .ok (.iload_n 3, 1) := by decide +kernel
theorem dX12_years_102 : decode cX12_years 102 = .ok (.iconst 1, 1) := by decide +kernel
theorem dX12_years_103 : decode cX12_years 103 = .ok (.if_icmp .ne 19, 3) := by decide +kernel
theorem dX12_years_106 : decode cX12_years 106 = .ok (.aload_n 0, 1) := by decide +kernel
theorem dX12_years_107 : decode cX12_years 107 = .ok (.getfield 117, 3) := by decide +kernel
theorem dX12_years_110 : decode cX12_years 110 = .ok (.iconst 2, 1) := by decide +kernel
theorem dX12_years_111 : decode cX12_years 111 = .ok (.iaload, 1) := by decide +kernel
theorem dX12_years_112 : decode cX12_years 112 = .ok (.aload_n 0, 1) := by decide +kernel
theorem dX12_years_113 : decode cX12_years 113 = .ok (.getfield 120, 3) := by decide +kernel
theorem dX12_years_116 : decode cX12_years 116 = .ok (.iconst 2, 1) := by decide +kernel
theorem dX12_years_117 : decode cX12_years 117 = .ok (.iaload, 1) := by decide +kernel
theorem dX12_years_118 : decode cX12_years 118 = .ok (.isub, 1) := by decide +kernel
theorem dX12_years_119 : decode cX12_years 119 = .ok (.goto 9, 3) := by decide +kernel
theorem dX12_years_122 : decode cX12_years 122 = .ok (.aload_n 0, 1) := by decide +kernel
theorem dX12_years_123 : decode cX12_years 123 = .ok (.getfield 117, 3) := by decide +kernel
theorem dX12_years_126 : decode cX12_years 126 = .ok (.iconst 1, 1) := by decide +kernel
theorem dX12_years_127 : decode cX12_years 127 = .ok (.iaload, 1) := by decide +kernel
theorem dX12_years_128 : decode cX12_years 128 = .ok (.istore 4, 2) := by decide +kernel
theorem dX12_years_130 : decode cX12_years 130 = .ok (.aload_n 0, 1) := by decide +kernel
theorem dX12_years_131 : decode cX12_years 131 = .ok (.getfield 120, 3) := by decide +kernel
theorem dX12_years_134 : decode cX12_years 134 = .ok (.iconst 0, 1) := by decide +kernel
theorem dX12_years_135 : decode cX12_years 135 = .ok (.aload_n 0, 1) := by decide +kernel
theorem dX12_years_136 : decode cX12_years 136 = .ok (.getfield 117, 3) := by decide +kernel
theorem dX12_years_139 : decode cX12_years 139 = .ok (.iconst 0, 1) := by decide +kernel
theorem dX12_years_140 : decode cX12_years 140 = .ok (.invokestatic 453, 3) := by decide +kernel
theorem dX12_years_143 : decode cX12_years 143 = .ok (.iload 4, 2) := by decide +kernel
theorem dX12_years_145 : decode cX12_years 145 = .ok (.ireturn, 1) := by decide +kernel
theorem dX12_mark_0 : decode cX12_mark 0 = .ok (.aload_n 0, 1) := by decide +kernel
theorem dX12_mark_1 : decode cX12_mark 1 = .ok (.iconst 0, 1) := by decide +kernel
theorem dX12_mark_2 : decode cX12_mark 2 = .ok (.putfield 156, 3) := by decide +kernel
theorem dX12_mark_5 : decode cX12_mark 5 = .ok (.iload_n 1, 1) := by decide +kernel
theorem dX12_mark_6 : decode cX12_mark 6 = .ok (.iconst 0, 1) := by decide +kernel
theorem dX12_mark_7 : decode cX12_mark 7 = .ok (.iconst 3, 1) := by decide +kernel
theorem dX12_mark_8 : decode cX12_mark 8 = .ok (.invokestatic 293, 3) := by decide +kernel
theorem dX12_mark_11 : decode cX12_mark 11 = .ok (.ifCond .eq 16, 3) := by decide +kernel
theorem dX12_mark_14 : decode cX12_mark 14 = .ok (.iload_n 2, 1) := by decide +kernel
theorem dX12_mark_15 : decode cX12_mark 15 = .ok (.ifCond .eq 14, 3) := by decide +kernel
theorem dX12_mark_18 : decode cX12_mark 18 = .ok (.aload_n 0, 1) := by decide +kernel
theorem dX12_mark_19 : decode cX12_mark 19 = .ok (.getfield 132, 3) := by decide +kernel
theorem dX12_mark_22 : decode cX12_mark 22 = .ok (.iload_n 1, 1) := by decide +kernel
theorem dX12_mark_23 : decode cX12_mark 23 = .ok (.baload, 1) := by decide +kernel
theorem dX12_mark_24 : decode cX12_mark 24 = .ok (.ifCond .ne 5, 3) := by decide +kernel
theorem dX12_mark_27 : decode cX12_mark 27 = .ok (.iconst 0, 1) := by decide +kernel
theorem dX12_mark_28 : decode cX12_mark 28 = .ok (.ireturn, 1) := by decide +kernel
theorem dX12_mark_29 : decode cX12_mark 29 = .ok (.aload_n 0, 1) := by decide +kernel
theorem dX12_mark_30 : decode cX12_mark 30 = .ok (.getfield 132, 3) := by decide +kernel
theorem dX12_mark_33 : decode cX12_mark 33 = .ok (.iload_n 1, 1) := by decide +kernel
theorem dX12_mark_34 : decode cX12_mark 34 = .ok (.iconst 1, 1) := by decide +kernel
theorem dX12_mark_35 : decode cX12_mark 35 = .ok (.bastore, 1) := by decide +kernel
theorem dX12_mark_36 : decode cX12_mark 36 = .ok (.iload_n 2, 1) := by decide +kernel
theorem dX12_mark_37 : decode cX12_mark 37 = .ok (.ifCond .eq 9, 3) := by decide +kernel
theorem dX12_mark_40 : decode cX12_mark 40 = .ok (.iconst 1, 1) := by decide +kernel
theorem dX12_mark_41 : decode cX12_mark 41 = .ok (.iload_n 1, 1) := by decide +kernel
theorem dX12_mark_42 : decode cX12_mark 42 = .ok (.iadd, 1) := by decide +kernel
theorem dX12_mark_43 : decode cX12_mark 43 = .ok (.goto 4, 3) := by decide +kernel
theorem dX12_mark_46 : decode cX12_mark 46 = .ok (.iconst 0, 1) := by decide +kernel
theorem dX12_mark_47 : decode cX12_mark 47 = .ok (.istore_n 3, 1) := by decide +kernel
theorem dX12_mark_48 : decode cX12_mark 48 = .ok (.iload_n 2, 1) := by decide +kernel
theorem dX12_mark_49 : decode cX12_mark 49 = .ok (.ifCond .eq 7, 3) := by decide +kernel
theorem dX12_mark_52 : decode cX12_mark 52 = .ok (.iconst 0, 1) := by decide +kernel
theorem dX12_mark_53 : decode cX12_mark 53 = .ok (.goto 6, 3) := by decide +kernel
theorem dX12_mark_56 : decode cX12_mark 56 = .ok (.iconst 1, 1) := by decide +kernel
theorem dX12_mark_57 : decode cX12_mark 57 = .ok (.iload_n 1, 1) := by decide +kernel
theorem dX12_mark_58 : decode cX12_mark 58 = .ok (.iadd, 1) := by decide +kernel
theorem dX12_mark_59 : decode cX12_mark 59 = .ok (.istore 4, 2) := by decide +kernel
theorem dX12_mark_61 : decode cX12_mark 61 = .ok (.aload_n 0, 1) := by decide +kernel
theorem dX12_mark_62 : decode cX12_mark 62 = .ok (.iload_n 3, 1) := by decide +kernel
theorem dX12_mark_63 : decode cX12_mark 63 = .ok (.iload 4, 2) := by decide +kernel
theorem dX12_mark_65 : decode cX12_mark 65 = .ok (.invokevirtual 391, 3) := by decide +kernel
theorem dX12_mark_68 : decode cX12_mark 68 = .ok (.aload_n 0, 1) := by decide +kernel
theorem dX12_mark_69 : decode cX12_mark 69 = .ok (.iload_n 3, 1) := by decide +kernel
theorem dX12_mark_70 : decode cX12_mark 70 = .ok (.iload 4, 2) := by decide +kernel
theorem dX12_mark_72 : decode cX12_mark 72 = .ok (.invokevirtual 544, 3) := by decide +kernel
theorem dX12_mark_75 : decode cX12_mark 75 = .ok (.iload_n 2, 1) := by decide +kernel
theorem dX12_mark_76 : decode cX12_mark 76 = .ok (.ifCond .eq 27, 3) := by decide +kernel
theorem dX12_mark_79 : decode cX12_mark 79 = .ok (.aload_n 0, 1) := by decide +kernel
theorem dX12_mark_80 : decode cX12_mark 80 = .ok (.getfield 126, 3) := by decide +kernel
theorem dX12_mark_83 : decode cX12_mark 83 = .ok (.bipush 21, 2) := by decide +kernel
theorem dX12_mark_85 : decode cX12_mark 85 = .ok (.iload_n 1, 1) := by decide +kernel
theorem dX12_mark_86 : decode cX12_mark 86 = .ok (.imul, 1) := by decide +kernel
theorem dX12_mark_87 : decode cX12_mark 87 = .ok (.aload_n 0, 1) := by decide +kernel
theorem dX12_mark_88 : decode cX12_mark 88 = .ok (.getfield 117, 3) := by decide +kernel
theorem dX12_mark_91 : decode cX12_mark 91 = .ok (.iconst 0, 1) := by decide +kernel
theorem dX12_mark_92 : decode cX12_mark 92 = .ok (.invokestatic 453, 3) := by decide +kernel
theorem dX12_mark_95 : decode cX12_mark 95 = .ok (.aload_n 0, 1) := by decide +kernel
theorem dX12_mark_96 : decode cX12_mark 96 = .ok (.iconst 0, 1) := by decide +kernel
theorem dX12_mark_97 : decode cX12_mark 97 = .ok (.putfield 385, 3) := by decide +kernel
theorem dX12_mark_100 : decode cX12_mark 100 = .ok (.goto 19, 3) := by decide +kernel
theorem dX12_mark_103 : decode cX12_mark 103 = .ok (.aload_n 0, 1) := by decide +kernel
theorem dX12_mark_104 : decode cX12_mark 104 = .ok (.getfield 117, 3) := by decide +kernel
theorem dX12_mark_107 : decode cX12_mark 107 = .ok (.iconst 0, 1) := by decide +kernel
theorem dX12_mark_108 : decode cX12_mark 108 = .ok (.aload_n 0, 1) := by decide +kernel
