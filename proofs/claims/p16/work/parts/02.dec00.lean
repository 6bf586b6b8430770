theorem dX0_init_0 : decode cX0_init 0 = .ok (.aload_n 0, 1) := by decide +kernel
theorem dX0_init_1 : decode cX0_init 1 = .ok (.invokespecial 5, 3) := by decide +kernel
theorem dX0_init_4 : decode cX0_init 4 = .ok (.aload_n 0, 1) := by decide +kernel
theorem dX0_init_5 : decode cX0_init 5 = .ok (.bipush 6, 2) := by decide +kernel
theorem dX0_init_7 : decode cX0_init 7 = .ok (.newarray .long, 2) := by decide +kernel
theorem dX0_init_9 : decode cX0_init 9 = .ok (.putfield 11, 3) := by decide +kernel
theorem dX0_init_12 : decode cX0_init 12 = .ok (.aload_n 0, 1) := by decide +kernel
theorem dX0_init_13 : decode cX0_init 13 = .ok (.bipush 6, 2) := by decide +kernel
theorem dX0_init_15 : decode cX0_init 15 = .ok (.newarray .int, 2) := by decide +kernel
theorem dX0_init_17 : decode cX0_init 17 = .ok (.putfield 15, 3) := by decide +kernel
theorem dX0_init_20 : decode cX0_init 20 = .ok (.aload_n 0, 1) := by decide +kernel
theorem dX0_init_21 : decode cX0_init 21 = .ok (.bipush 6, 2) := by decide +kernel
theorem dX0_init_23 : decode cX0_init 23 = .ok (.newarray .int, 2) := by decide +kernel
theorem dX0_init_25 : decode cX0_init 25 = .ok (.putfield 19, 3) := by decide +kernel
theorem dX0_init_28 : decode cX0_init 28 = .ok (.aload_n 0, 1) := by decide +kernel
theorem dX0_init_29 : decode cX0_init 29 = .ok (.bipush 6, 2) := by decide +kernel
theorem dX0_init_31 : decode cX0_init 31 = .ok (.newarray .int, 2) := by decide +kernel
theorem dX0_init_33 : decode cX0_init 33 = .ok (.putfield 22, 3) := by decide +kernel
theorem dX0_init_36 : decode cX0_init 36 = .ok (.aload_n 0, 1) := by decide +kernel
theorem dX0_init_37 : decode cX0_init 37 = .ok (.bipush 6, 2) := by decide +kernel
theorem dX0_init_39 : decode cX0_init 39 = .ok (.newarray .int, 2) := by decide +kernel
theorem dX0_init_41 : decode cX0_init 41 = .ok (.putfield 25, 3) := by decide +kernel
theorem dX0_init_44 : decode cX0_init 44 = .ok (.aload_n 0, 1) := by decide +kernel
theorem dX0_init_45 : decode cX0_init 45 = .ok (.bipush 6, 2) := by decide +kernel
theorem dX0_init_47 : decode cX0_init 47 = .ok (.newarray .int, 2) := by decide +kernel
theorem dX0_init_49 : decode cX0_init 49 = .ok (.putfield 28, 3) := by decide +kernel
theorem dX0_init_52 : decode cX0_init 52 = .ok (.aload_n 0, 1) := by decide +kernel
theorem dX0_init_53 : decode cX0_init 53 = .ok (.bipush 6, 2) := by decide +kernel
theorem dX0_init_55 : decode cX0_init 55 = .ok (.newarray .int, 2) := by decide +kernel
theorem dX0_init_57 : decode cX0_init 57 = .ok (.putfield 31, 3) := by decide +kernel
theorem dX0_init_60 : decode cX0_init 60 = .ok (.aload_n 0, 1) := by decide +kernel
theorem dX0_init_61 : decode cX0_init 61 = .ok (.bipush 6, 2) := by decide +kernel
theorem dX0_init_63 : decode cX0_init 63 = .ok (.newarray .int, 2) := by decide +kernel
theorem dX0_init_65 : decode cX0_init 65 = .ok (.putfield 34, 3) := by decide +kernel
theorem dX0_init_68 : decode cX0_init 68 = .ok (.aload_n 0, 1) := by decide +kernel
theorem dX0_init_69 : decode cX0_init 69 = .ok (.iconst 5, 1) := by decide +kernel
theorem dX0_init_70 : decode cX0_init 70 = .ok (.newarray .long, 2) := by decide +kernel
theorem dX0_init_72 : decode cX0_init 72 = .ok (.putfield 37, 3) := by decide +kernel
theorem dX0_init_75 : decode cX0_init 75 = .ok (.aload_n 0, 1) := by decide +kernel
theorem dX0_init_76 : decode cX0_init 76 = .ok (.iconst 5, 1) := by decide +kernel
theorem dX0_init_77 : decode cX0_init 77 = .ok (.newarray .int, 2) := by decide +kernel
theorem dX0_init_79 : decode cX0_init 79 = .ok (.putfield 40, 3) := by decide +kernel
theorem dX0_init_82 : decode cX0_init 82 = .ok (.aload_n 0, 1) := by decide +kernel
theorem dX0_init_83 : decode cX0_init 83 = .ok (.iconst 5, 1) := by decide +kernel
theorem dX0_init_84 : decode cX0_init 84 = .ok (.newarray .int, 2) := by decide +kernel
theorem dX0_init_86 : decode cX0_init 86 = .ok (.putfield 43, 3) := by decide +kernel
theorem dX0_init_89 : decode cX0_init 89 = .ok (.aload_n 0, 1) := by decide +kernel
theorem dX0_init_90 : decode cX0_init 90 = .ok (.iconst 5, 1) := by decide +kernel
theorem dX0_init_91 : decode cX0_init 91 = .ok (.newarray .int, 2) := by decide +kernel
theorem dX0_init_93 : decode cX0_init 93 = .ok (.putfield 46, 3) := by decide +kernel
theorem dX0_init_96 : decode cX0_init 96 = .ok (.aload_n 0, 1) := by decide +kernel
theorem dX0_init_97 : decode cX0_init 97 = .ok (.new 49, 3) := by decide +kernel
theorem dX0_init_100 : decode cX0_init 100 = .ok (.dup, 1) := by decide +kernel
theorem dX0_init_101 : decode cX0_init 101 = .ok (.invokespecial 51, 3) := by decide +kernel
theorem dX0_init_104 : decode cX0_init 104 = .ok (.putfield 52, 3) := by decide +kernel
theorem dX0_init_107 : decode cX0_init 107 = .ok (.aload_n 0, 1) := by decide +kernel
theorem dX0_init_108 : decode cX0_init 108 = .ok (.iconst 0, 1) := by decide +kernel
theorem dX0_init_109 : decode cX0_init 109 = .ok (.putfield 56, 3) := by decide +kernel
theorem dX0_init_112 : decode cX0_init 112 = .ok (.aload_n 0, 1) := by decide +kernel
theorem dX0_init_113 : decode cX0_init 113 = .ok (.iconst 0, 1) := by decide +kernel
theorem dX0_init_114 : decode cX0_init 114 = .ok (.putfield 60, 3) := by decide +kernel
theorem dX0_init_117 : decode cX0_init 117 = .ok (.aload_n 0, 1) := by decide +kernel
theorem dX0_init_118 : decode cX0_init 118 = .ok (.iconst 0, 1) := by decide +kernel
theorem dX0_init_119 : decode cX0_init 119 = .ok (.putfield 63, 3) := by decide +kernel
theorem dX0_init_122 : decode cX0_init 122 = .ok (.aload_n 0, 1) := by decide +kernel
theorem dX0_init_123 : decode cX0_init 123 = .ok (.iconst 2, 1) := by decide +kernel
theorem dX0_init_124 : decode cX0_init 124 = .ok (.putfield 66, 3) := by decide +kernel
theorem dX0_init_127 : decode cX0_init 127 = .ok (.aload_n 0, 1) := by decide +kernel
theorem dX0_init_128 : decode cX0_init 128 = .ok (.sipush 360, 3) := by decide +kernel
theorem dX0_init_131 : decode cX0_init 131 = .ok (.newarray .int, 2) := by decide +kernel
theorem dX0_init_133 : decode cX0_init 133 = .ok (.putfield 69, 3) := by decide +kernel
theorem dX0_init_136 : decode cX0_init 136 = .ok (.aload_n 0, 1) := by decide +kernel
theorem dX0_init_137 : decode cX0_init 137 = .ok (.bipush 30, 2) := by decide +kernel
theorem dX0_init_139 : decode cX0_init 139 = .ok (.newarray .int, 2) := by decide +kernel
theorem dX0_init_141 : decode cX0_init 141 = .ok (.putfield 72, 3) := by decide +kernel
theorem dX0_init_144 : decode cX0_init 144 = .ok (.aload_n 0, 1) := by decide +kernel
theorem dX0_init_145 : decode cX0_init 145 = .ok (.bipush 60, 2) := by decide +kernel
theorem dX0_init_147 : decode cX0_init 147 = .ok (.newarray .boolean, 2) := by decide +kernel
theorem dX0_init_149 : decode cX0_init 149 = .ok (.putfield 75, 3) := by decide +kernel
theorem dX0_init_152 : decode cX0_init 152 = .ok (.return_, 1) := by decide +kernel
theorem dX0_forgets_0 : decode cX0_forgets 0 = .ok (.aload_n 0, 1) := by decide +kernel
theorem dX0_forgets_1 : decode cX0_forgets 1 = .ok (.iconst 0, 1) := by decide +kernel
theorem dX0_forgets_2 : decode cX0_forgets 2 = .ok (.putfield 56, 3) := by decide +kernel
theorem dX0_forgets_5 : decode cX0_forgets 5 = .ok (.aload_n 0, 1) := by decide +kernel
theorem dX0_forgets_6 : decode cX0_forgets 6 = .ok (.iconst 0, 1) := by decide +kernel
theorem dX0_forgets_7 : decode cX0_forgets 7 = .ok (.putfield 60, 3) := by decide +kernel
theorem dX0_forgets_10 : decode cX0_forgets 10 = .ok (.aload_n 0, 1) := by decide +kernel
theorem dX0_forgets_11 : decode cX0_forgets 11 = .ok (.iconst 0, 1) := by decide +kernel
theorem dX0_forgets_12 : decode cX0_forgets 12 = .ok (.putfield 63, 3) := by decide +kernel
theorem dX0_forgets_15 : decode cX0_forgets 15 = .ok (.aload_n 0, 1) := by decide +kernel
theorem dX0_forgets_16 : decode cX0_forgets 16 = .ok (.iconst 2, 1) := by decide +kernel
theorem dX0_forgets_17 : decode cX0_forgets 17 = .ok (.putfield 66, 3) := by decide +kernel
theorem dX0_forgets_20 : decode cX0_forgets 20 = .ok (.aload_n 0, 1) := by decide +kernel
theorem dX0_forgets_21 : decode cX0_forgets 21 = .ok (.getfield 28, 3) := by decide +kernel
theorem dX0_forgets_24 : decode cX0_forgets 24 = .ok (.iconst (-1), 1) := by decide +kernel
theorem dX0_forgets_25 : decode cX0_forgets 25 = .ok (.invokestatic 79, 3) := by decide +kernel
theorem dX0_forgets_28 : decode cX0_forgets 28 = .ok (.aload_n 0, 1) := by decide +kernel
theorem dX0_forgets_29 : decode cX0_forgets 29 = .ok (.getfield 31, 3) := by decide +kernel
theorem dX0_forgets_32 : decode cX0_forgets 32 = .ok (.iconst (-1), 1) := by decide +kernel
theorem dX0_forgets_33 : decode cX0_forgets 33 = .ok (.invokestatic 79, 3) := by decide +kernel
theorem dX0_forgets_36 : decode cX0_forgets 36 = .ok (.aload_n 0, 1) := by decide +kernel
theorem dX0_forgets_37 : decode cX0_forgets 37 = .ok (.getfield 34, 3) := by decide +kernel
theorem dX0_forgets_40 : decode cX0_forgets 40 = .ok (.iconst 0, 1) := by decide +kernel
theorem dX0_forgets_41 : decode cX0_forgets 41 = .ok (.invokestatic 79, 3) := by decide +kernel
theorem dX0_forgets_44 : decode cX0_forgets 44 = .ok (.aload_n 0, 1) := by decide +kernel
theorem dX0_forgets_45 : decode cX0_forgets 45 = .ok (.getfield 52, 3) := by decide +kernel
theorem dX0_forgets_48 : decode cX0_forgets 48 = .ok (.invokevirtual 85, 3) := by decide +kernel
theorem dX0_forgets_51 : decode cX0_forgets 51 = .ok (.return_, 1) := by decide +kernel
theorem dX0_personNamed_0 : decode cX0_personNamed 0 = .ok (.iconst 0, 1) := by decide +kernel
theorem dX0_personNamed_1 : decode cX0_personNamed 1 = .ok (.istore_n 3, 1) := by decide +kernel
theorem dX0_personNamed_2 : decode cX0_personNamed 2 = .ok (.iload_n 3, 1) := by decide +kernel
theorem dX0_personNamed_3 : decode cX0_personNamed 3 = .ok (.aload_n 0, 1) := by decide +kernel
theorem dX0_personNamed_4 : decode cX0_personNamed 4 = .ok (.getfield 56, 3) := by decide +kernel
theorem dX0_personNamed_7 : decode cX0_personNamed 7 = .ok (.if_icmp .ge 22, 3) := by decide +kernel
theorem dX0_personNamed_10 : decode cX0_personNamed 10 = .ok (.aload_n 0, 1) := by decide +kernel
theorem dX0_personNamed_11 : decode cX0_personNamed 11 = .ok (.getfield 11, 3) := by decide +kernel
theorem dX0_personNamed_14 : decode cX0_personNamed 14 = .ok (.iload_n 3, 1) := by decide +kernel
theorem dX0_personNamed_15 : decode cX0_personNamed 15 = .ok (.laload, 1) := by decide +kernel
theorem dX0_personNamed_16 : decode cX0_personNamed 16 = .ok (.lload_n 1, 1) := by decide +kernel
theorem dX0_personNamed_17 : decode cX0_personNamed 17 = .ok (.lcmp, 1) := by decide +kernel
theorem dX0_personNamed_18 : decode cX0_personNamed 18 = .ok (.ifCond .ne 5, 3) := by decide +kernel
theorem dX0_personNamed_21 : decode cX0_personNamed 21 = .ok (.iload_n 3, 1) := by decide +kernel
theorem dX0_personNamed_22 : decode cX0_personNamed 22 = .ok (.ireturn, 1) := by decide +kernel
theorem dX0_personNamed_23 : decode cX0_personNamed 23 = .ok (.iinc 3 1, 3) := by decide +kernel
theorem dX0_personNamed_26 : decode cX0_personNamed 26 = .ok (.goto (-24), 3) := by decide +kernel
theorem dX0_personNamed_29 : decode cX0_personNamed 29 = .ok (.iconst (-1), 1) := by decide +kernel
theorem dX0_personNamed_30 : decode cX0_personNamed 30 = .ok (.ireturn, 1) := by decide +kernel
theorem dX0_dishNamed_0 : decode cX0_dishNamed 0 = .ok (.iconst 0, 1) := by decide +kernel
theorem dX0_dishNamed_1 : decode cX0_dishNamed 1 = .ok (.istore_n 3, 1) := by decide +kernel
theorem dX0_dishNamed_2 : decode cX0_dishNamed 2 = .ok (.iload_n 3, 1) := by decide +kernel
theorem dX0_dishNamed_3 : decode cX0_dishNamed 3 = .ok (.aload_n 0, 1) := by decide +kernel
theorem dX0_dishNamed_4 : decode cX0_dishNamed 4 = .ok (.getfield 60, 3) := by decide +kernel
theorem dX0_dishNamed_7 : decode cX0_dishNamed 7 = .ok (.if_icmp .ge 22, 3) := by decide +kernel
theorem dX0_dishNamed_10 : decode cX0_dishNamed 10 = .ok (.aload_n 0, 1) := by decide +kernel
theorem dX0_dishNamed_11 : decode cX0_dishNamed 11 = .ok (.getfield 37, 3) := by decide +kernel
theorem dX0_dishNamed_14 : decode cX0_dishNamed 14 = .ok (.iload_n 3, 1) := by decide +kernel
theorem dX0_dishNamed_15 : decode cX0_dishNamed 15 = .ok (.laload, 1) := by decide +kernel
theorem dX0_dishNamed_16 : decode cX0_dishNamed 16 = .ok (.lload_n 1, 1) := by decide +kernel
theorem dX0_dishNamed_17 : decode cX0_dishNamed 17 = .ok (.lcmp, 1) := by decide +kernel
theorem dX0_dishNamed_18 : decode cX0_dishNamed 18 = .ok (.ifCond .ne 5, 3) := by decide +kernel
theorem dX0_dishNamed_21 : decode cX0_dishNamed 21 = .ok (.iload_n 3, 1) := by decide +kernel
theorem dX0_dishNamed_22 : decode cX0_dishNamed 22 = .ok (.ireturn, 1) := by decide +kernel
theorem dX0_dishNamed_23 : decode cX0_dishNamed 23 = .ok (.iinc 3 1, 3) := by decide +kernel
theorem dX0_dishNamed_26 : decode cX0_dishNamed 26 = .ok (.goto (-24), 3) := by decide +kernel
theorem dX0_dishNamed_29 : decode cX0_dishNamed 29 = .ok (.iconst (-1), 1) := by decide +kernel
theorem dX0_dishNamed_30 : decode cX0_dishNamed 30 = .ok (.ireturn, 1) := by decide +kernel
theorem dX0_isSick_0 : decode cX0_isSick 0 = .ok (.aload_n 0, 1) := by decide +kernel
theorem dX0_isSick_1 : decode cX0_isSick 1 = .ok (.getfield 28, 3) := by decide +kernel
theorem dX0_isSick_4 : decode cX0_isSick 4 = .ok (.iload_n 1, 1) := by decide +kernel
theorem dX0_isSick_5 : decode cX0_isSick 5 = .ok (.iaload, 1) := by decide +kernel
theorem dX0_isSick_6 : decode cX0_isSick 6 = .ok (.iconst (-1), 1) := by decide +kernel
theorem dX0_isSick_7 : decode cX0_isSick 7 = .ok (.if_icmp .eq 27, 3) := by decide +kernel
theorem dX0_isSick_10 : decode cX0_isSick 10 = .ok (.aload_n 0, 1) := by decide +kernel
theorem dX0_isSick_11 : decode cX0_isSick 11 = .ok (.getfield 28, 3) := by decide +kernel
theorem dX0_isSick_14 : decode cX0_isSick 14 = .ok (.iload_n 1, 1) := by decide +kernel
theorem dX0_isSick_15 : decode cX0_isSick 15 = .ok (.iaload, 1) := by decide +kernel
theorem dX0_isSick_16 : decode cX0_isSick 16 = .ok (.iload_n 2, 1) := by decide +kernel
theorem dX0_isSick_17 : decode cX0_isSick 17 = .ok (.if_icmp .gt 17, 3) := by decide +kernel
theorem dX0_isSick_20 : decode cX0_isSick 20 = .ok (.iload_n 2, 1) := by decide +kernel
theorem dX0_isSick_21 : decode cX0_isSick 21 = .ok (.aload_n 0, 1) := by decide +kernel
theorem dX0_isSick_22 : decode cX0_isSick 22 = .ok (.getfield 31, 3) := by decide +kernel
theorem dX0_isSick_25 : decode cX0_isSick 25 = .ok (.iload_n 1, 1) := by decide +kernel
theorem dX0_isSick_26 : decode cX0_isSick 26 = .ok (.iaload, 1) := by decide +kernel
theorem dX0_isSick_27 : decode cX0_isSick 27 = .ok (.if_icmp .gt 7, 3) := by decide +kernel
theorem dX0_isSick_30 : decode cX0_isSick 30 = .ok (.iconst 1, 1) := by decide +kernel
theorem dX0_isSick_31 : decode cX0_isSick 31 = .ok (.goto 4, 3) := by decide +kernel
theorem dX0_isSick_34 : decode cX0_isSick 34 = .ok (.iconst 0, 1) := by decide +kernel
theorem dX0_isSick_35 : decode cX0_isSick 35 = .ok (.ireturn, 1) := by decide +kernel
theorem dX0_everybody_0 : decode cX0_everybody 0 = .ok (.iconst 1, 1) := by decide +kernel
theorem dX0_everybody_1 : decode cX0_everybody 1 = .ok (.aload_n 0, 1) := by decide +kernel
theorem dX0_everybody_2 : decode cX0_everybody 2 = .ok (.getfield 56, 3) := by decide +kernel
theorem dX0_everybody_5 : decode cX0_everybody 5 = .ok (.ishl, 1) := by decide +kernel
theorem dX0_everybody_6 : decode cX0_everybody 6 = .ok (.iconst 1, 1) := by decide +kernel
theorem dX0_everybody_7 : decode cX0_everybody 7 = .ok (.isub, 1) := by decide +kernel
theorem dX0_everybody_8 : decode cX0_everybody 8 = .ok (.ireturn, 1) := by decide +kernel
theorem dX0_costBy_0 : decode cX0_costBy 0 = .ok (.aload_n 0, 1) := by decide +kernel
theorem dX0_costBy_1 : decode cX0_costBy 1 = .ok (.getfield 15, 3) := by decide +kernel
theorem dX0_costBy_4 : decode cX0_costBy 4 = .ok (.iload_n 1, 1) := by decide +kernel
theorem dX0_costBy_5 : decode cX0_costBy 5 = .ok (.iaload, 1) := by decide +kernel
theorem dX0_costBy_6 : decode cX0_costBy 6 = .ok (.iconst 1, 1) := by decide +kernel
theorem dX0_costBy_7 : decode cX0_costBy 7 = .ok (.if_icmp .ne 14, 3) := by decide +kernel
theorem dX0_costBy_10 : decode cX0_costBy 10 = .ok (.iconst 2, 1) := by decide +kernel
theorem dX0_costBy_11 : decode cX0_costBy 11 = .ok (.aload_n 0, 1) := by decide +kernel
theorem dX0_costBy_12 : decode cX0_costBy 12 = .ok (.getfield 46, 3) := by decide +kernel
theorem dX0_costBy_15 : decode cX0_costBy 15 = .ok (.iload_n 2, 1) := by decide +kernel
theorem dX0_costBy_16 : decode cX0_costBy 16 = .ok (.iaload, 1) := by decide +kernel
theorem dX0_costBy_17 : decode cX0_costBy 17 = .ok (.imul, 1) := by decide +kernel
theorem dX0_costBy_18 : decode cX0_costBy 18 = .ok (.goto 9, 3) := by decide +kernel
theorem dX0_costBy_21 : decode cX0_costBy 21 = .ok (.aload_n 0, 1) := by decide +kernel
theorem dX0_costBy_22 : decode cX0_costBy 22 = .ok (.getfield 46, 3) := by decide +kernel
theorem dX0_costBy_25 : decode cX0_costBy 25 = .ok (.iload_n 2, 1) := by decide +kernel
theorem dX0_costBy_26 : decode cX0_costBy 26 = .ok (.iaload, 1) := by decide +kernel
theorem dX0_costBy_27 : decode cX0_costBy 27 = .ok (.ireturn, 1) := by decide +kernel
theorem dX0_gift_0 : decode cX0_gift 0 = .ok (.aload_n 0, 1) := by decide +kernel
theorem dX0_gift_1 : decode cX0_gift 1 = .ok (.getfield 69, 3) := by decide +kernel
theorem dX0_gift_4 : decode cX0_gift 4 = .ok (.iload_n 1, 1) := by decide +kernel
theorem dX0_gift_5 : decode cX0_gift 5 = .ok (.iload_n 2, 1) := by decide +kernel
theorem dX0_gift_6 : decode cX0_gift 6 = .ok (.iload_n 3, 1) := by decide +kernel
theorem dX0_gift_7 : decode cX0_gift 7 = .ok (.invokestatic 88, 3) := by decide +kernel
theorem dX0_gift_10 : decode cX0_gift 10 = .ok (.iload 4, 2) := by decide +kernel
theorem dX0_gift_12 : decode cX0_gift 12 = .ok (.iadd, 1) := by decide +kernel
theorem dX0_gift_13 : decode cX0_gift 13 = .ok (.iaload, 1) := by decide +kernel
theorem dX0_gift_14 : decode cX0_gift 14 = .ok (.ireturn, 1) := by decide +kernel
theorem dX0_giftAbroad_0 : decode cX0_giftAbroad 0 = .ok (.aload_n 0, 1) := by decide +kernel
theorem dX0_giftAbroad_1 : decode cX0_giftAbroad 1 = .ok (.getfield 72, 3) := by decide +kernel
theorem dX0_giftAbroad_4 : decode cX0_giftAbroad 4 = .ok (.iload_n 1, 1) := by decide +kernel
theorem dX0_giftAbroad_5 : decode cX0_giftAbroad 5 = .ok (.iconst 5, 1) := by decide +kernel
theorem dX0_giftAbroad_6 : decode cX0_giftAbroad 6 = .ok (.imul, 1) := by decide +kernel
theorem dX0_giftAbroad_7 : decode cX0_giftAbroad 7 = .ok (.iload_n 2, 1) := by decide +kernel
theorem dX0_giftAbroad_8 : decode cX0_giftAbroad 8 = .ok (.iadd, 1) := by decide +kernel
theorem dX0_giftAbroad_9 : decode cX0_giftAbroad 9 = .ok (.iaload, 1) := by decide +kernel
theorem dX0_giftAbroad_10 : decode cX0_giftAbroad 10 = .ok (.ireturn, 1) := by decide +kernel
theorem dX0_giftAt_0 : decode cX0_giftAt 0 = .ok (.iload_n 0, 1) := by decide +kernel
theorem dX0_giftAt_1 : decode cX0_giftAt 1 = .ok (.iconst 5, 1) := by decide +kernel
theorem dX0_giftAt_2 : decode cX0_giftAt 2 = .ok (.imul, 1) := by decide +kernel
theorem dX0_giftAt_3 : decode cX0_giftAt 3 = .ok (.iload_n 1, 1) := by decide +kernel
theorem dX0_giftAt_4 : decode cX0_giftAt 4 = .ok (.iadd, 1) := by decide +kernel
theorem dX0_giftAt_5 : decode cX0_giftAt 5 = .ok (.iconst 2, 1) := by decide +kernel
theorem dX0_giftAt_6 : decode cX0_giftAt 6 = .ok (.imul, 1) := by decide +kernel
theorem dX0_giftAt_7 : decode cX0_giftAt 7 = .ok (.iload_n 2, 1) := by decide +kernel
theorem dX0_giftAt_8 : decode cX0_giftAt 8 = .ok (.ifCond .eq 7, 3) := by decide +kernel
theorem dX0_giftAt_11 : decode cX0_giftAt 11 = .ok (.iconst 0, 1) := by decide +kernel
theorem dX0_giftAt_12 : decode cX0_giftAt 12 = .ok (.goto 4, 3) := by decide +kernel
theorem dX0_giftAt_15 : decode cX0_giftAt 15 = .ok (.iconst 1, 1) := by decide +kernel
theorem dX0_giftAt_16 : decode cX0_giftAt 16 = .ok (.iadd, 1) := by decide +kernel
theorem dX0_giftAt_17 : decode cX0_giftAt 17 = .ok (.bipush 6, 2) := by decide +kernel
theorem dX0_giftAt_19 : decode cX0_giftAt 19 = .ok (.imul, 1) := by decide +kernel
theorem dX0_giftAt_20 : decode cX0_giftAt 20 = .ok (.ireturn, 1) := by decide +kernel
theorem dX0_settleGifts_0 : decode cX0_settleGifts 0 = .ok (.iconst 0, 1) := by decide +kernel
theorem dX0_settleGifts_1 : decode cX0_settleGifts 1 = .ok (.istore_n 1, 1) := by decide +kernel
theorem dX0_settleGifts_2 : decode cX0_settleGifts 2 = .ok (.iload_n 1, 1) := by decide +kernel
theorem dX0_settleGifts_3 : decode cX0_settleGifts 3 = .ok (.aload_n 0, 1) := by decide +kernel
theorem dX0_settleGifts_4 : decode cX0_settleGifts 4 = .ok (.getfield 56, 3) := by decide +kernel
theorem dX0_settleGifts_7 : decode cX0_settleGifts 7 = .ok (.if_icmp .ge 93, 3) := by decide +kernel
theorem dX0_settleGifts_10 : decode cX0_settleGifts 10 = .ok (.iconst 0, 1) := by decide +kernel
theorem dX0_settleGifts_11 : decode cX0_settleGifts 11 = .ok (.istore_n 2, 1) := by decide +kernel
theorem dX0_settleGifts_12 : decode cX0_settleGifts 12 = .ok (.iload_n 2, 1) := by decide +kernel
theorem dX0_settleGifts_13 : decode cX0_settleGifts 13 = .ok (.aload_n 0, 1) := by decide +kernel
theorem dX0_settleGifts_14 : decode cX0_settleGifts 14 = .ok (.getfield 60, 3) := by decide +kernel
theorem dX0_settleGifts_17 : decode cX0_settleGifts 17 = .ok (.if_icmp .ge 72, 3) := by decide +kernel
theorem dX0_settleGifts_20 : decode cX0_settleGifts 20 = .ok (.aload_n 0, 1) := by decide +kernel
theorem dX0_settleGifts_21 : decode cX0_settleGifts 21 = .ok (.getfield 52, 3) := by decide +kernel
theorem dX0_settleGifts_24 : decode cX0_settleGifts 24 = .ok (.aload_n 0, 1) := by decide +kernel
theorem dX0_settleGifts_25 : decode cX0_settleGifts 25 = .ok (.getfield 40, 3) := by decide +kernel
theorem dX0_settleGifts_28 : decode cX0_settleGifts 28 = .ok (.iload_n 2, 1) := by decide +kernel
theorem dX0_settleGifts_29 : decode cX0_settleGifts 29 = .ok (.iaload, 1) := by decide +kernel
theorem dX0_settleGifts_30 : decode cX0_settleGifts 30 = .ok (.aload_n 0, 1) := by decide +kernel
theorem dX0_settleGifts_31 : decode cX0_settleGifts 31 = .ok (.getfield 43, 3) := by decide +kernel
theorem dX0_settleGifts_34 : decode cX0_settleGifts 34 = .ok (.iload_n 2, 1) := by decide +kernel
theorem dX0_settleGifts_35 : decode cX0_settleGifts 35 = .ok (.iaload, 1) := by decide +kernel
theorem dX0_settleGifts_36 : decode cX0_settleGifts 36 = .ok (.aload_n 0, 1) := by decide +kernel
theorem dX0_settleGifts_37 : decode cX0_settleGifts 37 = .ok (.getfield 22, 3) := by decide +kernel
theorem dX0_settleGifts_40 : decode cX0_settleGifts 40 = .ok (.iload_n 1, 1) := by decide +kernel
theorem dX0_settleGifts_41 : decode cX0_settleGifts 41 = .ok (.iaload, 1) := by decide +kernel
theorem dX0_settleGifts_42 : decode cX0_settleGifts 42 = .ok (.isub, 1) := by decide +kernel
theorem dX0_settleGifts_43 : decode cX0_settleGifts 43 = .ok (.invokestatic 92, 3) := by decide +kernel
theorem dX0_settleGifts_46 : decode cX0_settleGifts 46 = .ok (.invokevirtual 98, 3) := by decide +kernel
theorem dX0_settleGifts_49 : decode cX0_settleGifts 49 = .ok (.aload_n 0, 1) := by decide +kernel
theorem dX0_settleGifts_50 : decode cX0_settleGifts 50 = .ok (.getfield 72, 3) := by decide +kernel
theorem dX0_settleGifts_53 : decode cX0_settleGifts 53 = .ok (.iload_n 1, 1) := by decide +kernel
theorem dX0_settleGifts_54 : decode cX0_settleGifts 54 = .ok (.iconst 5, 1) := by decide +kernel
theorem dX0_settleGifts_55 : decode cX0_settleGifts 55 = .ok (.imul, 1) := by decide +kernel
theorem dX0_settleGifts_56 : decode cX0_settleGifts 56 = .ok (.iload_n 2, 1) := by decide +kernel
theorem dX0_settleGifts_57 : decode cX0_settleGifts 57 = .ok (.iadd, 1) := by decide +kernel
theorem dX0_settleGifts_58 : decode cX0_settleGifts 58 = .ok (.aload_n 0, 1) := by decide +kernel
theorem dX0_settleGifts_59 : decode cX0_settleGifts 59 = .ok (.getfield 52, 3) := by decide +kernel
theorem dX0_settleGifts_62 : decode cX0_settleGifts 62 = .ok (.iconst 0, 1) := by decide +kernel
theorem dX0_settleGifts_63 : decode cX0_settleGifts 63 = .ok (.iconst 0, 1) := by decide +kernel
theorem dX0_settleGifts_64 : decode cX0_settleGifts 64 = .ok (.iconst 1, 1) := by decide +kernel
theorem dX0_settleGifts_65 : decode cX0_settleGifts 65 = .ok (.invokevirtual 102, 3) := by decide +kernel
theorem dX0_settleGifts_68 : decode cX0_settleGifts 68 = .ok (.iastore, 1) := by decide +kernel
theorem dX0_settleGifts_69 : decode cX0_settleGifts 69 = .ok (.aload_n 0, 1) := by decide +kernel
theorem dX0_settleGifts_70 : decode cX0_settleGifts 70 = .ok (.iload_n 1, 1) := by decide +kernel
theorem dX0_settleGifts_71 : decode cX0_settleGifts 71 = .ok (.iload_n 2, 1) := by decide +kernel
theorem dX0_settleGifts_72 : decode cX0_settleGifts 72 = .ok (.iconst 1, 1) := by decide +kernel
theorem dX0_settleGifts_73 : decode cX0_settleGifts 73 = .ok (.invokevirtual 106, 3) := by decide +kernel
theorem dX0_settleGifts_76 : decode cX0_settleGifts 76 = .ok (.aload_n 0, 1) := by decide +kernel
theorem dX0_settleGifts_77 : decode cX0_settleGifts 77 = .ok (.iload_n 1, 1) := by decide +kernel
theorem dX0_settleGifts_78 : decode cX0_settleGifts 78 = .ok (.iload_n 2, 1) := by decide +kernel
theorem dX0_settleGifts_79 : decode cX0_settleGifts 79 = .ok (.iconst 0, 1) := by decide +kernel
theorem dX0_settleGifts_80 : decode cX0_settleGifts 80 = .ok (.invokevirtual 106, 3) := by decide +kernel
theorem dX0_settleGifts_83 : decode cX0_settleGifts 83 = .ok (.iinc 2 1, 3) := by decide +kernel
theorem dX0_settleGifts_86 : decode cX0_settleGifts 86 = .ok (.goto (-74), 3) := by decide +kernel
theorem dX0_settleGifts_89 : decode cX0_settleGifts 89 = .ok (.aload_n 0, 1) := by decide +kernel
theorem dX0_settleGifts_90 : decode cX0_settleGifts 90 = .ok (.iload_n 1, 1) := by decide +kernel
theorem dX0_settleGifts_91 : decode cX0_settleGifts 91 = .ok (.invokevirtual 110, 3) := by decide +kernel
theorem dX0_settleGifts_94 : decode cX0_settleGifts 94 = .ok (.iinc 1 1, 3) := by decide +kernel
theorem dX0_settleGifts_97 : decode cX0_settleGifts 97 = .ok (.goto (-95), 3) := by decide +kernel
theorem dX0_settleGifts_100 : decode cX0_settleGifts 100 = .ok (.return_, 1) := by decide +kernel
theorem dX0_settleBeaten_0 : decode cX0_settleBeaten 0 = .ok (.iload_n 1, 1) := by decide +kernel
theorem dX0_settleBeaten_1 : decode cX0_settleBeaten 1 = .ok (.bipush 10, 2) := by decide +kernel
theorem dX0_settleBeaten_3 : decode cX0_settleBeaten 3 = .ok (.imul, 1) := by decide +kernel
theorem dX0_settleBeaten_4 : decode cX0_settleBeaten 4 = .ok (.istore_n 2, 1) := by decide +kernel
theorem dX0_settleBeaten_5 : decode cX0_settleBeaten 5 = .ok (.iload_n 2, 1) := by decide +kernel
theorem dX0_settleBeaten_6 : decode cX0_settleBeaten 6 = .ok (.istore_n 3, 1) := by decide +kernel
theorem dX0_settleBeaten_7 : decode cX0_settleBeaten 7 = .ok (.iload_n 3, 1) := by decide +kernel
theorem dX0_settleBeaten_8 : decode cX0_settleBeaten 8 = .ok (.iload_n 2, 1) := by decide +kernel
theorem dX0_settleBeaten_9 : decode cX0_settleBeaten 9 = .ok (.iconst 2, 1) := by decide +kernel
theorem dX0_settleBeaten_10 : decode cX0_settleBeaten 10 = .ok (.aload_n 0, 1) := by decide +kernel
theorem dX0_settleBeaten_11 : decode cX0_settleBeaten 11 = .ok (.getfield 60, 3) := by decide +kernel
theorem dX0_settleBeaten_14 : decode cX0_settleBeaten 14 = .ok (.imul, 1) := by decide +kernel
theorem dX0_settleBeaten_15 : decode cX0_settleBeaten 15 = .ok (.iadd, 1) := by decide +kernel
theorem dX0_settleBeaten_16 : decode cX0_settleBeaten 16 = .ok (.if_icmp .ge 53, 3) := by decide +kernel
theorem dX0_settleBeaten_19 : decode cX0_settleBeaten 19 = .ok (.aload_n 0, 1) := by decide +kernel
theorem dX0_settleBeaten_20 : decode cX0_settleBeaten 20 = .ok (.getfield 75, 3) := by decide +kernel
theorem dX0_settleBeaten_23 : decode cX0_settleBeaten 23 = .ok (.iload_n 3, 1) := by decide +kernel
theorem dX0_settleBeaten_24 : decode cX0_settleBeaten 24 = .ok (.iconst 0, 1) := by decide +kernel
theorem dX0_settleBeaten_25 : decode cX0_settleBeaten 25 = .ok (.bastore, 1) := by decide +kernel
theorem dX0_settleBeaten_26 : decode cX0_settleBeaten 26 = .ok (.iload_n 2, 1) := by decide +kernel
theorem dX0_settleBeaten_27 : decode cX0_settleBeaten 27 = .ok (.istore 4, 2) := by decide +kernel
theorem dX0_settleBeaten_29 : decode cX0_settleBeaten 29 = .ok (.iload 4, 2) := by decide +kernel
theorem dX0_settleBeaten_31 : decode cX0_settleBeaten 31 = .ok (.iload_n 3, 1) := by decide +kernel
theorem dX0_settleBeaten_32 : decode cX0_settleBeaten 32 = .ok (.if_icmp .ge 31, 3) := by decide +kernel
theorem dX0_settleBeaten_35 : decode cX0_settleBeaten 35 = .ok (.aload_n 0, 1) := by decide +kernel
theorem dX0_settleBeaten_36 : decode cX0_settleBeaten 36 = .ok (.getfield 75, 3) := by decide +kernel
theorem dX0_settleBeaten_39 : decode cX0_settleBeaten 39 = .ok (.iload_n 3, 1) := by decide +kernel
theorem dX0_settleBeaten_40 : decode cX0_settleBeaten 40 = .ok (.baload, 1) := by decide +kernel
theorem dX0_settleBeaten_41 : decode cX0_settleBeaten 41 = .ok (.ifCond .ne 22, 3) := by decide +kernel
theorem dX0_settleBeaten_44 : decode cX0_settleBeaten 44 = .ok (.aload_n 0, 1) := by decide +kernel
theorem dX0_settleBeaten_45 : decode cX0_settleBeaten 45 = .ok (.getfield 75, 3) := by decide +kernel
theorem dX0_settleBeaten_48 : decode cX0_settleBeaten 48 = .ok (.iload_n 3, 1) := by decide +kernel
theorem dX0_settleBeaten_49 : decode cX0_settleBeaten 49 = .ok (.aload_n 0, 1) := by decide +kernel
theorem dX0_settleBeaten_50 : decode cX0_settleBeaten 50 = .ok (.iload 4, 2) := by decide +kernel
theorem dX0_settleBeaten_52 : decode cX0_settleBeaten 52 = .ok (.iload_n 3, 1) := by decide +kernel
theorem dX0_settleBeaten_53 : decode cX0_settleBeaten 53 = .ok (.invokevirtual 114, 3) := by decide +kernel
theorem dX0_settleBeaten_56 : decode cX0_settleBeaten 56 = .ok (.bastore, 1) := by decide +kernel
theorem dX0_settleBeaten_57 : decode cX0_settleBeaten 57 = .ok (.iinc 4 1, 3) := by decide +kernel
theorem dX0_settleBeaten_60 : decode cX0_settleBeaten 60 = .ok (.goto (-31), 3) := by decide +kernel
theorem dX0_settleBeaten_63 : decode cX0_settleBeaten 63 = .ok (.iinc 3 1, 3) := by decide +kernel
theorem dX0_settleBeaten_66 : decode cX0_settleBeaten 66 = .ok (.goto (-59), 3) := by decide +kernel
theorem dX0_settleBeaten_69 : decode cX0_settleBeaten 69 = .ok (.return_, 1) := by decide +kernel
theorem dX0_isNoWorse_0 : decode cX0_isNoWorse 0 = .ok (.aload_n 0, 1) := by decide +kernel
theorem dX0_isNoWorse_1 : decode cX0_isNoWorse 1 = .ok (.getfield 46, 3) := by decide +kernel
theorem dX0_isNoWorse_4 : decode cX0_isNoWorse 4 = .ok (.iload_n 1, 1) := by decide +kernel
theorem dX0_isNoWorse_5 : decode cX0_isNoWorse 5 = .ok (.bipush 10, 2) := by decide +kernel
theorem dX0_isNoWorse_7 : decode cX0_isNoWorse 7 = .ok (.irem, 1) := by decide +kernel
theorem dX0_isNoWorse_8 : decode cX0_isNoWorse 8 = .ok (.iconst 2, 1) := by decide +kernel
theorem dX0_isNoWorse_9 : decode cX0_isNoWorse 9 = .ok (.idiv, 1) := by decide +kernel
theorem dX0_isNoWorse_10 : decode cX0_isNoWorse 10 = .ok (.iaload, 1) := by decide +kernel
theorem dX0_isNoWorse_11 : decode cX0_isNoWorse 11 = .ok (.aload_n 0, 1) := by decide +kernel
theorem dX0_isNoWorse_12 : decode cX0_isNoWorse 12 = .ok (.getfield 46, 3) := by decide +kernel
theorem dX0_isNoWorse_15 : decode cX0_isNoWorse 15 = .ok (.iload_n 2, 1) := by decide +kernel
theorem dX0_isNoWorse_16 : decode cX0_isNoWorse 16 = .ok (.bipush 10, 2) := by decide +kernel
theorem dX0_isNoWorse_18 : decode cX0_isNoWorse 18 = .ok (.irem, 1) := by decide +kernel
theorem dX0_isNoWorse_19 : decode cX0_isNoWorse 19 = .ok (.iconst 2, 1) := by decide +kernel
theorem dX0_isNoWorse_20 : decode cX0_isNoWorse 20 = .ok (.idiv, 1) := by decide +kernel
theorem dX0_isNoWorse_21 : decode cX0_isNoWorse 21 = .ok (.iaload, 1) := by decide +kernel
theorem dX0_isNoWorse_22 : decode cX0_isNoWorse 22 = .ok (.if_icmp .le 5, 3) := by decide +kernel
theorem dX0_isNoWorse_25 : decode cX0_isNoWorse 25 = .ok (.iconst 0, 1) := by decide +kernel
theorem dX0_isNoWorse_26 : decode cX0_isNoWorse 26 = .ok (.ireturn, 1) := by decide +kernel
theorem dX0_isNoWorse_27 : decode cX0_isNoWorse 27 = .ok (.iconst 0, 1) := by decide +kernel
theorem dX0_isNoWorse_28 : decode cX0_isNoWorse 28 = .ok (.istore_n 3, 1) := by decide +kernel
theorem dX0_isNoWorse_29 : decode cX0_isNoWorse 29 = .ok (.iload_n 3, 1) := by decide +kernel
theorem dX0_isNoWorse_30 : decode cX0_isNoWorse 30 = .ok (.aload_n 0, 1) := by decide +kernel
theorem dX0_isNoWorse_31 : decode cX0_isNoWorse 31 = .ok (.getfield 56, 3) := by decide +kernel
theorem dX0_isNoWorse_34 : decode cX0_isNoWorse 34 = .ok (.if_icmp .ge 36, 3) := by decide +kernel
theorem dX0_isNoWorse_37 : decode cX0_isNoWorse 37 = .ok (.aload_n 0, 1) := by decide +kernel
theorem dX0_isNoWorse_38 : decode cX0_isNoWorse 38 = .ok (.getfield 69, 3) := by decide +kernel
theorem dX0_isNoWorse_41 : decode cX0_isNoWorse 41 = .ok (.iload_n 1, 1) := by decide +kernel
theorem dX0_isNoWorse_42 : decode cX0_isNoWorse 42 = .ok (.bipush 6, 2) := by decide +kernel
theorem dX0_isNoWorse_44 : decode cX0_isNoWorse 44 = .ok (.imul, 1) := by decide +kernel
theorem dX0_isNoWorse_45 : decode cX0_isNoWorse 45 = .ok (.iload_n 3, 1) := by decide +kernel
theorem dX0_isNoWorse_46 : decode cX0_isNoWorse 46 = .ok (.iadd, 1) := by decide +kernel
theorem dX0_isNoWorse_47 : decode cX0_isNoWorse 47 = .ok (.iaload, 1) := by decide +kernel
theorem dX0_isNoWorse_48 : decode cX0_isNoWorse 48 = .ok (.aload_n 0, 1) := by decide +kernel
theorem dX0_isNoWorse_49 : decode cX0_isNoWorse 49 = .ok (.getfield 69, 3) := by decide +kernel
theorem dX0_isNoWorse_52 : decode cX0_isNoWorse 52 = .ok (.iload_n 2, 1) := by decide +kernel
theorem dX0_isNoWorse_53 : decode cX0_isNoWorse 53 = .ok (.bipush 6, 2) := by decide +kernel
theorem dX0_isNoWorse_55 : decode cX0_isNoWorse 55 = .ok (.imul, 1) := by decide +kernel
theorem dX0_isNoWorse_56 : decode cX0_isNoWorse 56 = .ok (.iload_n 3, 1) := by decide +kernel
theorem dX0_isNoWorse_57 : decode cX0_isNoWorse 57 = .ok (.iadd, 1) := by decide +kernel
theorem dX0_isNoWorse_58 : decode cX0_isNoWorse 58 = .ok (.iaload, 1) := by decide +kernel
theorem dX0_isNoWorse_59 : decode cX0_isNoWorse 59 = .ok (.if_icmp .ge 5, 3) := by decide +kernel
theorem dX0_isNoWorse_62 : decode cX0_isNoWorse 62 = .ok (.iconst 0, 1) := by decide +kernel
theorem dX0_isNoWorse_63 : decode cX0_isNoWorse 63 = .ok (.ireturn, 1) := by decide +kernel
theorem dX0_isNoWorse_64 : decode cX0_isNoWorse 64 = .ok (.iinc 3 1, 3) := by decide +kernel
theorem dX0_isNoWorse_67 : decode cX0_isNoWorse 67 = .ok (.goto (-38), 3) := by decide +kernel
theorem dX0_isNoWorse_70 : decode cX0_isNoWorse 70 = .ok (.iconst 1, 1) := by decide +kernel
theorem dX0_isNoWorse_71 : decode cX0_isNoWorse 71 = .ok (.ireturn, 1) := by decide +kernel
theorem dX0_settleGiftsOf_0 : decode cX0_settleGiftsOf 0 = .ok (.iconst 0, 1) := by decide +kernel
theorem dX0_settleGiftsOf_1 : decode cX0_settleGiftsOf 1 = .ok (.istore 4, 2) := by decide +kernel
theorem dX0_settleGiftsOf_3 : decode cX0_settleGiftsOf 3 = .ok (.iload 4, 2) := by decide +kernel
theorem dX0_settleGiftsOf_5 : decode cX0_settleGiftsOf 5 = .ok (.aload_n 0, 1) := by decide +kernel
theorem dX0_settleGiftsOf_6 : decode cX0_settleGiftsOf 6 = .ok (.getfield 56, 3) := by decide +kernel
theorem dX0_settleGiftsOf_9 : decode cX0_settleGiftsOf 9 = .ok (.if_icmp .ge 73, 3) := by decide +kernel
theorem dX0_settleGiftsOf_12 : decode cX0_settleGiftsOf 12 = .ok (.aload_n 0, 1) := by decide +kernel
theorem dX0_settleGiftsOf_13 : decode cX0_settleGiftsOf 13 = .ok (.getfield 52, 3) := by decide +kernel
theorem dX0_settleGiftsOf_16 : decode cX0_settleGiftsOf 16 = .ok (.iload_n 1, 1) := by decide +kernel
theorem dX0_settleGiftsOf_17 : decode cX0_settleGiftsOf 17 = .ok (.iload 4, 2) := by decide +kernel
theorem dX0_settleGiftsOf_19 : decode cX0_settleGiftsOf 19 = .ok (.isub, 1) := by decide +kernel
theorem dX0_settleGiftsOf_20 : decode cX0_settleGiftsOf 20 = .ok (.invokestatic 92, 3) := by decide +kernel
theorem dX0_settleGiftsOf_23 : decode cX0_settleGiftsOf 23 = .ok (.iload_n 3, 1) := by decide +kernel
theorem dX0_settleGiftsOf_24 : decode cX0_settleGiftsOf 24 = .ok (.iload 4, 2) := by decide +kernel
theorem dX0_settleGiftsOf_26 : decode cX0_settleGiftsOf 26 = .ok (.iload_n 1, 1) := by decide +kernel
theorem dX0_settleGiftsOf_27 : decode cX0_settleGiftsOf 27 = .ok (.if_icmp .ne 7, 3) := by decide +kernel
theorem dX0_settleGiftsOf_30 : decode cX0_settleGiftsOf 30 = .ok (.iconst 1, 1) := by decide +kernel
theorem dX0_settleGiftsOf_31 : decode cX0_settleGiftsOf 31 = .ok (.goto 4, 3) := by decide +kernel
theorem dX0_settleGiftsOf_34 : decode cX0_settleGiftsOf 34 = .ok (.iconst 0, 1) := by decide +kernel
theorem dX0_settleGiftsOf_35 : decode cX0_settleGiftsOf 35 = .ok (.invokevirtual 102, 3) := by decide +kernel
theorem dX0_settleGiftsOf_38 : decode cX0_settleGiftsOf 38 = .ok (.istore 5, 2) := by decide +kernel
theorem dX0_settleGiftsOf_40 : decode cX0_settleGiftsOf 40 = .ok (.aload_n 0, 1) := by decide +kernel
theorem dX0_settleGiftsOf_41 : decode cX0_settleGiftsOf 41 = .ok (.getfield 69, 3) := by decide +kernel
theorem dX0_settleGiftsOf_44 : decode cX0_settleGiftsOf 44 = .ok (.iload_n 1, 1) := by decide +kernel
theorem dX0_settleGiftsOf_45 : decode cX0_settleGiftsOf 45 = .ok (.iload_n 2, 1) := by decide +kernel
theorem dX0_settleGiftsOf_46 : decode cX0_settleGiftsOf 46 = .ok (.iload_n 3, 1) := by decide +kernel
theorem dX0_settleGiftsOf_47 : decode cX0_settleGiftsOf 47 = .ok (.invokestatic 88, 3) := by decide +kernel
theorem dX0_settleGiftsOf_50 : decode cX0_settleGiftsOf 50 = .ok (.iload 4, 2) := by decide +kernel
theorem dX0_settleGiftsOf_52 : decode cX0_settleGiftsOf 52 = .ok (.iadd, 1) := by decide +kernel
theorem dX0_settleGiftsOf_53 : decode cX0_settleGiftsOf 53 = .ok (.aload_n 0, 1) := by decide +kernel
theorem dX0_settleGiftsOf_54 : decode cX0_settleGiftsOf 54 = .ok (.getfield 15, 3) := by decide +kernel
theorem dX0_settleGiftsOf_57 : decode cX0_settleGiftsOf 57 = .ok (.iload_n 1, 1) := by decide +kernel
theorem dX0_settleGiftsOf_58 : decode cX0_settleGiftsOf 58 = .ok (.iaload, 1) := by decide +kernel
theorem dX0_settleGiftsOf_59 : decode cX0_settleGiftsOf 59 = .ok (.iload 4, 2) := by decide +kernel
theorem dX0_settleGiftsOf_61 : decode cX0_settleGiftsOf 61 = .ok (.iload_n 1, 1) := by decide +kernel
theorem dX0_settleGiftsOf_62 : decode cX0_settleGiftsOf 62 = .ok (.if_icmp .ne 7, 3) := by decide +kernel
theorem dX0_settleGiftsOf_65 : decode cX0_settleGiftsOf 65 = .ok (.iconst 1, 1) := by decide +kernel
theorem dX0_settleGiftsOf_66 : decode cX0_settleGiftsOf 66 = .ok (.goto 4, 3) := by decide +kernel
theorem dX0_settleGiftsOf_69 : decode cX0_settleGiftsOf 69 = .ok (.iconst 0, 1) := by decide +kernel
theorem dX0_settleGiftsOf_70 : decode cX0_settleGiftsOf 70 = .ok (.iload 5, 2) := by decide +kernel
theorem dX0_settleGiftsOf_72 : decode cX0_settleGiftsOf 72 = .ok (.invokestatic 118, 3) := by decide +kernel
theorem dX0_settleGiftsOf_75 : decode cX0_settleGiftsOf 75 = .ok (.iastore, 1) := by decide +kernel
theorem dX0_settleGiftsOf_76 : decode cX0_settleGiftsOf 76 = .ok (.iinc 4 1, 3) := by decide +kernel
theorem dX0_settleGiftsOf_79 : decode cX0_settleGiftsOf 79 = .ok (.goto (-76), 3) := by decide +kernel
theorem dX0_settleGiftsOf_82 : decode cX0_settleGiftsOf 82 = .ok (.return_, 1) := by decide +kernel
theorem dX0_byKind_0 : decode cX0_byKind 0 = .ok (.iload_n 1, 1) := by decide +kernel
theorem dX0_byKind_1 : decode cX0_byKind 1 = .ok (.ifCond .eq 16, 3) := by decide +kernel
theorem dX0_byKind_4 : decode cX0_byKind 4 = .ok (.iload_n 0, 1) := by decide +kernel
theorem dX0_byKind_5 : decode cX0_byKind 5 = .ok (.iconst 1, 1) := by decide +kernel
theorem dX0_byKind_6 : decode cX0_byKind 6 = .ok (.if_icmp .ne 9, 3) := by decide +kernel
theorem dX0_byKind_9 : decode cX0_byKind 9 = .ok (.iconst 2, 1) := by decide +kernel
theorem dX0_byKind_10 : decode cX0_byKind 10 = .ok (.iload_n 2, 1) := by decide +kernel
theorem dX0_byKind_11 : decode cX0_byKind 11 = .ok (.imul, 1) := by decide +kernel
theorem dX0_byKind_12 : decode cX0_byKind 12 = .ok (.goto 4, 3) := by decide +kernel
theorem dX0_byKind_15 : decode cX0_byKind 15 = .ok (.iload_n 2, 1) := by decide +kernel
theorem dX0_byKind_16 : decode cX0_byKind 16 = .ok (.ireturn, 1) := by decide +kernel
theorem dX0_byKind_17 : decode cX0_byKind 17 = .ok (.iload_n 0, 1) := by decide +kernel
theorem dX0_byKind_18 : decode cX0_byKind 18 = .ok (.iconst 2, 1) := by decide +kernel
theorem dX0_byKind_19 : decode cX0_byKind 19 = .ok (.if_icmp .ne 7, 3) := by decide +kernel
theorem dX0_byKind_22 : decode cX0_byKind 22 = .ok (.iload_n 2, 1) := by decide +kernel
theorem dX0_byKind_23 : decode cX0_byKind 23 = .ok (.iconst 1, 1) := by decide +kernel
theorem dX0_byKind_24 : decode cX0_byKind 24 = .ok (.iadd, 1) := by decide +kernel
theorem dX0_byKind_25 : decode cX0_byKind 25 = .ok (.ireturn, 1) := by decide +kernel
theorem dX0_byKind_26 : decode cX0_byKind 26 = .ok (.iload_n 0, 1) := by decide +kernel
theorem dX0_byKind_27 : decode cX0_byKind 27 = .ok (.iconst 3, 1) := by decide +kernel
theorem dX0_byKind_28 : decode cX0_byKind 28 = .ok (.if_icmp .ne 13, 3) := by decide +kernel
theorem dX0_byKind_31 : decode cX0_byKind 31 = .ok (.iconst 0, 1) := by decide +kernel
theorem dX0_byKind_32 : decode cX0_byKind 32 = .ok (.iload_n 2, 1) := by decide +kernel
theorem dX0_byKind_33 : decode cX0_byKind 33 = .ok (.iconst 1, 1) := by decide +kernel
theorem dX0_byKind_34 : decode cX0_byKind 34 = .ok (.isub, 1) := by decide +kernel
theorem dX0_byKind_35 : decode cX0_byKind 35 = .ok (.invokestatic 122, 3) := by decide +kernel
theorem dX0_byKind_38 : decode cX0_byKind 38 = .ok (.goto 4, 3) := by decide +kernel
theorem dX0_byKind_41 : decode cX0_byKind 41 = .ok (.iload_n 2, 1) := by decide +kernel
theorem dX0_byKind_42 : decode cX0_byKind 42 = .ok (.ireturn, 1) := by decide +kernel
theorem dX0_cupsInAll_0 : decode cX0_cupsInAll 0 = .ok (.iconst 0, 1) := by decide +kernel
theorem dX0_cupsInAll_1 : decode cX0_cupsInAll 1 = .ok (.istore_n 1, 1) := by decide +kernel
theorem dX0_cupsInAll_2 : decode cX0_cupsInAll 2 = .ok (.iconst 0, 1) := by decide +kernel
theorem dX0_cupsInAll_3 : decode cX0_cupsInAll 3 = .ok (.istore_n 2, 1) := by decide +kernel
theorem dX0_cupsInAll_4 : decode cX0_cupsInAll 4 = .ok (.iload_n 2, 1) := by decide +kernel
theorem dX0_cupsInAll_5 : decode cX0_cupsInAll 5 = .ok (.aload_n 0, 1) := by decide +kernel
theorem dX0_cupsInAll_6 : decode cX0_cupsInAll 6 = .ok (.getfield 56, 3) := by decide +kernel
theorem dX0_cupsInAll_9 : decode cX0_cupsInAll 9 = .ok (.if_icmp .ge 21, 3) := by decide +kernel
theorem dX0_cupsInAll_12 : decode cX0_cupsInAll 12 = .ok (.iload_n 1, 1) := by decide +kernel
theorem dX0_cupsInAll_13 : decode cX0_cupsInAll 13 = .ok (.aload_n 0, 1) := by decide +kernel
theorem dX0_cupsInAll_14 : decode cX0_cupsInAll 14 = .ok (.getfield 34, 3) := by decide +kernel
theorem dX0_cupsInAll_17 : decode cX0_cupsInAll 17 = .ok (.iload_n 2, 1) := by decide +kernel
theorem dX0_cupsInAll_18 : decode cX0_cupsInAll 18 = .ok (.iaload, 1) := by decide +kernel
theorem dX0_cupsInAll_19 : decode cX0_cupsInAll 19 = .ok (.invokestatic 126, 3) := by decide +kernel
theorem dX0_cupsInAll_22 : decode cX0_cupsInAll 22 = .ok (.iadd, 1) := by decide +kernel
theorem dX0_cupsInAll_23 : decode cX0_cupsInAll 23 = .ok (.istore_n 1, 1) := by decide +kernel
theorem dX0_cupsInAll_24 : decode cX0_cupsInAll 24 = .ok (.iinc 2 1, 3) := by decide +kernel
theorem dX0_cupsInAll_27 : decode cX0_cupsInAll 27 = .ok (.goto (-23), 3) := by decide +kernel
theorem dX0_cupsInAll_30 : decode cX0_cupsInAll 30 = .ok (.iload_n 1, 1) := by decide +kernel
theorem dX0_cupsInAll_31 : decode cX0_cupsInAll 31 = .ok (.iconst 2, 1) := by decide +kernel
theorem dX0_cupsInAll_32 : decode cX0_cupsInAll 32 = .ok (.idiv, 1) := by decide +kernel
theorem dX0_cupsInAll_33 : decode cX0_cupsInAll 33 = .ok (.ireturn, 1) := by decide +kernel
theorem dX0_reached_0 : decode cX0_reached 0 = .ok (.iload_n 1, 1) := by decide +kernel
theorem dX0_reached_1 : decode cX0_reached 1 = .ok (.istore_n 3, 1) := by decide +kernel
theorem dX0_reached_2 : decode cX0_reached 2 = .ok (.iconst 0, 1) := by decide +kernel
theorem dX0_reached_3 : decode cX0_reached 3 = .ok (.istore 4, 2) := by decide +kernel
theorem dX0_reached_5 : decode cX0_reached 5 = .ok (.iload 4, 2) := by decide +kernel
theorem dX0_reached_7 : decode cX0_reached 7 = .ok (.aload_n 0, 1) := by decide +kernel
theorem dX0_reached_8 : decode cX0_reached 8 = .ok (.getfield 56, 3) := by decide +kernel
theorem dX0_reached_11 : decode cX0_reached 11 = .ok (.if_icmp .ge 51, 3) := by decide +kernel
theorem dX0_reached_14 : decode cX0_reached 14 = .ok (.iconst 0, 1) := by decide +kernel
theorem dX0_reached_15 : decode cX0_reached 15 = .ok (.istore 5, 2) := by decide +kernel
theorem dX0_reached_17 : decode cX0_reached 17 = .ok (.iload 5, 2) := by decide +kernel
theorem dX0_reached_19 : decode cX0_reached 19 = .ok (.aload_n 0, 1) := by decide +kernel
theorem dX0_reached_20 : decode cX0_reached 20 = .ok (.getfield 56, 3) := by decide +kernel
theorem dX0_reached_23 : decode cX0_reached 23 = .ok (.if_icmp .ge 33, 3) := by decide +kernel
theorem dX0_reached_26 : decode cX0_reached 26 = .ok (.iload_n 3, 1) := by decide +kernel
theorem dX0_reached_27 : decode cX0_reached 27 = .ok (.iload 5, 2) := by decide +kernel
theorem dX0_reached_29 : decode cX0_reached 29 = .ok (.ishr, 1) := by decide +kernel
theorem dX0_reached_30 : decode cX0_reached 30 = .ok (.iconst 1, 1) := by decide +kernel
theorem dX0_reached_31 : decode cX0_reached 31 = .ok (.iand, 1) := by decide +kernel
theorem dX0_reached_32 : decode cX0_reached 32 = .ok (.iconst 1, 1) := by decide +kernel
theorem dX0_reached_33 : decode cX0_reached 33 = .ok (.if_icmp .ne 17, 3) := by decide +kernel
theorem dX0_reached_36 : decode cX0_reached 36 = .ok (.iload_n 3, 1) := by decide +kernel
theorem dX0_reached_37 : decode cX0_reached 37 = .ok (.aload_n 0, 1) := by decide +kernel
theorem dX0_reached_38 : decode cX0_reached 38 = .ok (.getfield 34, 3) := by decide +kernel
theorem dX0_reached_41 : decode cX0_reached 41 = .ok (.iload 5, 2) := by decide +kernel
theorem dX0_reached_43 : decode cX0_reached 43 = .ok (.iaload, 1) := by decide +kernel
theorem dX0_reached_44 : decode cX0_reached 44 = .ok (.iload_n 2, 1) := by decide +kernel
theorem dX0_reached_45 : decode cX0_reached 45 = .ok (.iconst (-1), 1) := by decide +kernel
theorem dX0_reached_46 : decode cX0_reached 46 = .ok (.ixor, 1) := by decide +kernel
theorem dX0_reached_47 : decode cX0_reached 47 = .ok (.iand, 1) := by decide +kernel
theorem dX0_reached_48 : decode cX0_reached 48 = .ok (.ior, 1) := by decide +kernel
theorem dX0_reached_49 : decode cX0_reached 49 = .ok (.istore_n 3, 1) := by decide +kernel
theorem dX0_reached_50 : decode cX0_reached 50 = .ok (.iinc 5 1, 3) := by decide +kernel
theorem dX0_reached_53 : decode cX0_reached 53 = .ok (.goto (-36), 3) := by decide +kernel
theorem dX0_reached_56 : decode cX0_reached 56 = .ok (.iinc 4 1, 3) := by decide +kernel
theorem dX0_reached_59 : decode cX0_reached 59 = .ok (.goto (-54), 3) := by decide +kernel
theorem dX0_reached_62 : decode cX0_reached 62 = .ok (.iload_n 3, 1) := by decide +kernel
theorem dX0_reached_63 : decode cX0_reached 63 = .ok (.ireturn, 1) := by decide +kernel
theorem dX0_votesOf_0 : decode cX0_votesOf 0 = .ok (.iconst 0, 1) := by decide +kernel
theorem dX0_votesOf_1 : decode cX0_votesOf 1 = .ok (.istore_n 2, 1) := by decide +kernel
theorem dX0_votesOf_2 : decode cX0_votesOf 2 = .ok (.iconst 0, 1) := by decide +kernel
theorem dX0_votesOf_3 : decode cX0_votesOf 3 = .ok (.istore_n 3, 1) := by decide +kernel
theorem dX0_votesOf_4 : decode cX0_votesOf 4 = .ok (.iload_n 3, 1) := by decide +kernel
theorem dX0_votesOf_5 : decode cX0_votesOf 5 = .ok (.aload_n 0, 1) := by decide +kernel
theorem dX0_votesOf_6 : decode cX0_votesOf 6 = .ok (.getfield 56, 3) := by decide +kernel
theorem dX0_votesOf_9 : decode cX0_votesOf 9 = .ok (.if_icmp .ge 24, 3) := by decide +kernel
theorem dX0_votesOf_12 : decode cX0_votesOf 12 = .ok (.iload_n 2, 1) := by decide +kernel
theorem dX0_votesOf_13 : decode cX0_votesOf 13 = .ok (.iload_n 1, 1) := by decide +kernel
theorem dX0_votesOf_14 : decode cX0_votesOf 14 = .ok (.iload_n 3, 1) := by decide +kernel
theorem dX0_votesOf_15 : decode cX0_votesOf 15 = .ok (.ishr, 1) := by decide +kernel
theorem dX0_votesOf_16 : decode cX0_votesOf 16 = .ok (.iconst 1, 1) := by decide +kernel
theorem dX0_votesOf_17 : decode cX0_votesOf 17 = .ok (.iand, 1) := by decide +kernel
theorem dX0_votesOf_18 : decode cX0_votesOf 18 = .ok (.aload_n 0, 1) := by decide +kernel
theorem dX0_votesOf_19 : decode cX0_votesOf 19 = .ok (.getfield 25, 3) := by decide +kernel
theorem dX0_votesOf_22 : decode cX0_votesOf 22 = .ok (.iload_n 3, 1) := by decide +kernel
theorem dX0_votesOf_23 : decode cX0_votesOf 23 = .ok (.iaload, 1) := by decide +kernel
theorem dX0_votesOf_24 : decode cX0_votesOf 24 = .ok (.imul, 1) := by decide +kernel
theorem dX0_votesOf_25 : decode cX0_votesOf 25 = .ok (.iadd, 1) := by decide +kernel
theorem dX0_votesOf_26 : decode cX0_votesOf 26 = .ok (.istore_n 2, 1) := by decide +kernel
theorem dX0_votesOf_27 : decode cX0_votesOf 27 = .ok (.iinc 3 1, 3) := by decide +kernel
theorem dX0_votesOf_30 : decode cX0_votesOf 30 = .ok (.goto (-26), 3) := by decide +kernel
theorem dX0_votesOf_33 : decode cX0_votesOf 33 = .ok (.iload_n 2, 1) := by decide +kernel
theorem dX0_votesOf_34 : decode cX0_votesOf 34 = .ok (.ireturn, 1) := by decide +kernel
theorem dX1_init_0 : decode cX1_init 0 = .ok (.aload_n 0, 1) := by decide +kernel
theorem dX1_init_1 : decode cX1_init 1 = .ok (.invokespecial 3, 3) := by decide +kernel
theorem dX1_init_4 : decode cX1_init 4 = .ok (.aload_n 0, 1) := by decide +kernel
theorem dX1_init_5 : decode cX1_init 5 = .ok (.iconst 0, 1) := by decide +kernel
theorem dX1_init_6 : decode cX1_init 6 = .ok (.putfield 9, 3) := by decide +kernel
theorem dX1_init_9 : decode cX1_init 9 = .ok (.aload_n 0, 1) := by decide +kernel
theorem dX1_init_10 : decode cX1_init 10 = .ok (.iconst 0, 1) := by decide +kernel
theorem dX1_init_11 : decode cX1_init 11 = .ok (.putfield 15, 3) := by decide +kernel
theorem dX1_init_14 : decode cX1_init 14 = .ok (.aload_n 0, 1) := by decide +kernel
theorem dX1_init_15 : decode cX1_init 15 = .ok (.iconst 0, 1) := by decide +kernel
theorem dX1_init_16 : decode cX1_init 16 = .ok (.putfield 18, 3) := by decide +kernel
theorem dX1_init_19 : decode cX1_init 19 = .ok (.return_, 1) := by decide +kernel
theorem dX1_reads_0 : decode cX1_reads 0 = .ok (.aload_n 2, 1) := by decide +kernel
theorem dX1_reads_1 : decode cX1_reads 1 = .ok (.invokevirtual 21, 3) := by decide +kernel
theorem dX1_reads_4 : decode cX1_reads 4 = .ok (.aload_n 0, 1) := by decide +kernel
theorem dX1_reads_5 : decode cX1_reads 5 = .ok (.iconst 0, 1) := by decide +kernel
theorem dX1_reads_6 : decode cX1_reads 6 = .ok (.putfield 9, 3) := by decide +kernel
theorem dX1_reads_9 : decode cX1_reads 9 = .ok (.aload_n 0, 1) := by decide +kernel
theorem dX1_reads_10 : decode cX1_reads 10 = .ok (.iconst 0, 1) := by decide +kernel
theorem dX1_reads_11 : decode cX1_reads 11 = .ok (.putfield 15, 3) := by decide +kernel
theorem dX1_reads_14 : decode cX1_reads 14 = .ok (.aload_n 0, 1) := by decide +kernel
theorem dX1_reads_15 : decode cX1_reads 15 = .ok (.iconst 0, 1) := by decide +kernel
theorem dX1_reads_16 : decode cX1_reads 16 = .ok (.putfield 18, 3) := by decide +kernel
theorem dX1_reads_19 : decode cX1_reads 19 = .ok (.aload_n 1, 1) := by decide +kernel
theorem dX1_reads_20 : decode cX1_reads 20 = .ok (.invokevirtual 26, 3) := by decide +kernel
theorem dX1_reads_23 : decode cX1_reads 23 = .ok (.iconst 0, 1) := by decide +kernel
theorem dX1_reads_24 : decode cX1_reads 24 = .ok (.istore_n 3, 1) := by decide +kernel
theorem dX1_reads_25 : decode cX1_reads 25 = .ok (.iload_n 3, 1) := by decide +kernel
theorem dX1_reads_26 : decode cX1_reads 26 = .ok (.sipush 1000, 3) := by decide +kernel
theorem dX1_reads_29 : decode cX1_reads 29 = .ok (.if_icmp .gt 172, 3) := by decide +kernel
theorem dX1_reads_32 : decode cX1_reads 32 = .ok (.aload_n 1, 1) := by decide +kernel
theorem dX1_reads_33 : decode cX1_reads 33 = .ok (.invokevirtual 31, 3) := by decide +kernel
theorem dX1_reads_36 : decode cX1_reads 36 = .ok (.aload_n 1, 1) := by decide +kernel
theorem dX1_reads_37 : decode cX1_reads 37 = .ok (.getfield 34, 3) := by decide +kernel
theorem dX1_reads_40 : decode cX1_reads 40 = .ok (.ifCond .ne 5, 3) := by decide +kernel
theorem dX1_reads_43 : decode cX1_reads 43 = .ok (.iconst 1, 1) := by decide +kernel
theorem dX1_reads_44 : decode cX1_reads 44 = .ok (.ireturn, 1) := by decide +kernel
theorem dX1_reads_45 : decode cX1_reads 45 = .ok (.aload_n 1, 1) := by decide +kernel
theorem dX1_reads_46 : decode cX1_reads 46 = .ok (.ldc 38, 2) := by decide +kernel
theorem dX1_reads_48 : decode cX1_reads 48 = .ok (.invokevirtual 40, 3) := by decide +kernel
theorem dX1_reads_51 : decode cX1_reads 51 = .ok (.ifCond .eq 13, 3) := by decide +kernel
theorem dX1_reads_54 : decode cX1_reads 54 = .ok (.aload_n 1, 1) := by decide +kernel
theorem dX1_reads_55 : decode cX1_reads 55 = .ok (.aload_n 2, 1) := by decide +kernel
theorem dX1_reads_56 : decode cX1_reads 56 = .ok (.invokestatic 44, 3) := by decide +kernel
theorem dX1_reads_59 : decode cX1_reads 59 = .ok (.istore 4, 2) := by decide +kernel
theorem dX1_reads_61 : decode cX1_reads 61 = .ok (.goto 127, 3) := by decide +kernel
theorem dX1_reads_64 : decode cX1_reads 64 = .ok (.aload_n 1, 1) := by decide +kernel
theorem dX1_reads_65 : decode cX1_reads 65 = .ok (.ldc 48, 2) := by decide +kernel
theorem dX1_reads_67 : decode cX1_reads 67 = .ok (.invokevirtual 40, 3) := by decide +kernel
theorem dX1_reads_70 : decode cX1_reads 70 = .ok (.ifCond .eq 13, 3) := by decide +kernel
theorem dX1_reads_73 : decode cX1_reads 73 = .ok (.aload_n 1, 1) := by decide +kernel
theorem dX1_reads_74 : decode cX1_reads 74 = .ok (.aload_n 2, 1) := by decide +kernel
theorem dX1_reads_75 : decode cX1_reads 75 = .ok (.invokestatic 50, 3) := by decide +kernel
theorem dX1_reads_78 : decode cX1_reads 78 = .ok (.istore 4, 2) := by decide +kernel
theorem dX1_reads_80 : decode cX1_reads 80 = .ok (.goto 108, 3) := by decide +kernel
theorem dX1_reads_83 : decode cX1_reads 83 = .ok (.aload_n 1, 1) := by decide +kernel
theorem dX1_reads_84 : decode cX1_reads 84 = .ok (.ldc 53, 2) := by decide +kernel
theorem dX1_reads_86 : decode cX1_reads 86 = .ok (.invokevirtual 40, 3) := by decide +kernel
theorem dX1_reads_89 : decode cX1_reads 89 = .ok (.ifCond .eq 13, 3) := by decide +kernel
theorem dX1_reads_92 : decode cX1_reads 92 = .ok (.aload_n 1, 1) := by decide +kernel
theorem dX1_reads_93 : decode cX1_reads 93 = .ok (.aload_n 2, 1) := by decide +kernel
theorem dX1_reads_94 : decode cX1_reads 94 = .ok (.invokestatic 55, 3) := by decide +kernel
theorem dX1_reads_97 : decode cX1_reads 97 = .ok (.istore 4, 2) := by decide +kernel
theorem dX1_reads_99 : decode cX1_reads 99 = .ok (.goto 89, 3) := by decide +kernel
theorem dX1_reads_102 : decode cX1_reads 102 = .ok (.aload_n 1, 1) := by decide +kernel
theorem dX1_reads_103 : decode cX1_reads 103 = .ok (.ldc 58, 2) := by decide +kernel
theorem dX1_reads_105 : decode cX1_reads 105 = .ok (.invokevirtual 40, 3) := by decide +kernel
theorem dX1_reads_108 : decode cX1_reads 108 = .ok (.ifCond .eq 13, 3) := by decide +kernel
theorem dX1_reads_111 : decode cX1_reads 111 = .ok (.aload_n 1, 1) := by decide +kernel
theorem dX1_reads_112 : decode cX1_reads 112 = .ok (.aload_n 2, 1) := by decide +kernel
theorem dX1_reads_113 : decode cX1_reads 113 = .ok (.invokestatic 60, 3) := by decide +kernel
theorem dX1_reads_116 : decode cX1_reads 116 = .ok (.istore 4, 2) := by decide +kernel
theorem dX1_reads_118 : decode cX1_reads 118 = .ok (.goto 70, 3) := by decide +kernel
theorem dX1_reads_121 : decode cX1_reads 121 = .ok (.aload_n 1, 1) := by decide +kernel
theorem dX1_reads_122 : decode cX1_reads 122 = .ok (.ldc 63, 2) := by decide +kernel
theorem dX1_reads_124 : decode cX1_reads 124 = .ok (.invokevirtual 40, 3) := by decide +kernel
theorem dX1_reads_127 : decode cX1_reads 127 = .ok (.ifCond .eq 14, 3) := by decide +kernel
theorem dX1_reads_130 : decode cX1_reads 130 = .ok (.aload_n 0, 1) := by decide +kernel
theorem dX1_reads_131 : decode cX1_reads 131 = .ok (.aload_n 1, 1) := by decide +kernel
theorem dX1_reads_132 : decode cX1_reads 132 = .ok (.aload_n 2, 1) := by decide +kernel
theorem dX1_reads_133 : decode cX1_reads 133 = .ok (.invokevirtual 65, 3) := by decide +kernel
theorem dX1_reads_136 : decode cX1_reads 136 = .ok (.istore 4, 2) := by decide +kernel
theorem dX1_reads_138 : decode cX1_reads 138 = .ok (.goto 50, 3) := by decide +kernel
theorem dX1_reads_141 : decode cX1_reads 141 = .ok (.aload_n 1, 1) := by decide +kernel
theorem dX1_reads_142 : decode cX1_reads 142 = .ok (.ldc 68, 2) := by decide +kernel
theorem dX1_reads_144 : decode cX1_reads 144 = .ok (.invokevirtual 40, 3) := by decide +kernel
theorem dX1_reads_147 : decode cX1_reads 147 = .ok (.ifCond .eq 14, 3) := by decide +kernel
theorem dX1_reads_150 : decode cX1_reads 150 = .ok (.aload_n 0, 1) := by decide +kernel
theorem dX1_reads_151 : decode cX1_reads 151 = .ok (.aload_n 1, 1) := by decide +kernel
theorem dX1_reads_152 : decode cX1_reads 152 = .ok (.aload_n 2, 1) := by decide +kernel
theorem dX1_reads_153 : decode cX1_reads 153 = .ok (.invokevirtual 70, 3) := by decide +kernel
theorem dX1_reads_156 : decode cX1_reads 156 = .ok (.istore 4, 2) := by decide +kernel
theorem dX1_reads_158 : decode cX1_reads 158 = .ok (.goto 30, 3) := by decide +kernel
theorem dX1_reads_161 : decode cX1_reads 161 = .ok (.aload_n 1, 1) := by decide +kernel
theorem dX1_reads_162 : decode cX1_reads 162 = .ok (.ldc 73, 2) := by decide +kernel
theorem dX1_reads_164 : decode cX1_reads 164 = .ok (.invokevirtual 40, 3) := by decide +kernel
theorem dX1_reads_167 : decode cX1_reads 167 = .ok (.ifCond .eq 14, 3) := by decide +kernel
theorem dX1_reads_170 : decode cX1_reads 170 = .ok (.aload_n 0, 1) := by decide +kernel
theorem dX1_reads_171 : decode cX1_reads 171 = .ok (.aload_n 1, 1) := by decide +kernel
theorem dX1_reads_172 : decode cX1_reads 172 = .ok (.aload_n 2, 1) := by decide +kernel
theorem dX1_reads_173 : decode cX1_reads 173 = .ok (.invokevirtual 75, 3) := by decide +kernel
theorem dX1_reads_176 : decode cX1_reads 176 = .ok (.istore 4, 2) := by decide +kernel
theorem dX1_reads_178 : decode cX1_reads 178 = .ok (.goto 10, 3) := by decide +kernel
theorem dX1_reads_181 : decode cX1_reads 181 = .ok (.aload_n 1, 1) := by decide +kernel
theorem dX1_reads_182 : decode cX1_reads 182 = .ok (.iconst 1, 1) := by decide +kernel
theorem dX1_reads_183 : decode cX1_reads 183 = .ok (.invokevirtual 78, 3) := by decide +kernel
theorem dX1_reads_186 : decode cX1_reads 186 = .ok (.istore 4, 2) := by decide +kernel
theorem dX1_reads_188 : decode cX1_reads 188 = .ok (.iload 4, 2) := by decide +kernel
theorem dX1_reads_190 : decode cX1_reads 190 = .ok (.ifCond .ne 5, 3) := by decide +kernel
theorem dX1_reads_193 : decode cX1_reads 193 = .ok (.iconst 0, 1) := by decide +kernel
theorem dX1_reads_194 : decode cX1_reads 194 = .ok (.ireturn, 1) := by decide +kernel
theorem dX1_reads_195 : decode cX1_reads 195 = .ok (.iinc 3 1, 3) := by decide +kernel
theorem dX1_reads_198 : decode cX1_reads 198 = .ok (.goto (-173), 3) := by decide +kernel
theorem dX1_reads_201 : decode cX1_reads 201 = .ok (.aload_n 1, 1) := by decide +kernel
theorem dX1_reads_202 : decode cX1_reads 202 = .ok (.iconst 1, 1) := by decide +kernel
theorem dX1_reads_203 : decode cX1_reads 203 = .ok (.invokevirtual 78, 3) := by decide +kernel
theorem dX1_reads_206 : decode cX1_reads 206 = .ok (.ireturn, 1) := by decide +kernel
theorem dX1_readsPerson_0 : decode cX1_readsPerson 0 = .ok (.aload_n 1, 1) := by decide +kernel
theorem dX1_readsPerson_1 : decode cX1_readsPerson 1 = .ok (.getfield 82, 3) := by decide +kernel
theorem dX1_readsPerson_4 : decode cX1_readsPerson 4 = .ok (.istore_n 2, 1) := by decide +kernel
theorem dX1_readsPerson_5 : decode cX1_readsPerson 5 = .ok (.iload_n 2, 1) := by decide +kernel
theorem dX1_readsPerson_6 : decode cX1_readsPerson 6 = .ok (.bipush 6, 2) := by decide +kernel
theorem dX1_readsPerson_8 : decode cX1_readsPerson 8 = .ok (.if_icmp .lt 9, 3) := by decide +kernel
theorem dX1_readsPerson_11 : decode cX1_readsPerson 11 = .ok (.aload_n 0, 1) := by decide +kernel
theorem dX1_readsPerson_12 : decode cX1_readsPerson 12 = .ok (.iconst 5, 1) := by decide +kernel
theorem dX1_readsPerson_13 : decode cX1_readsPerson 13 = .ok (.invokevirtual 78, 3) := by decide +kernel
theorem dX1_readsPerson_16 : decode cX1_readsPerson 16 = .ok (.ireturn, 1) := by decide +kernel
theorem dX1_readsPerson_17 : decode cX1_readsPerson 17 = .ok (.aload_n 0, 1) := by decide +kernel
theorem dX1_readsPerson_18 : decode cX1_readsPerson 18 = .ok (.aload_n 1, 1) := by decide +kernel
theorem dX1_readsPerson_19 : decode cX1_readsPerson 19 = .ok (.invokestatic 85, 3) := by decide +kernel
theorem dX1_readsPerson_22 : decode cX1_readsPerson 22 = .ok (.ifCond .ne 5, 3) := by decide +kernel
theorem dX1_readsPerson_25 : decode cX1_readsPerson 25 = .ok (.iconst 0, 1) := by decide +kernel
theorem dX1_readsPerson_26 : decode cX1_readsPerson 26 = .ok (.ireturn, 1) := by decide +kernel
theorem dX1_readsPerson_27 : decode cX1_readsPerson 27 = .ok (.aload_n 1, 1) := by decide +kernel
theorem dX1_readsPerson_28 : decode cX1_readsPerson 28 = .ok (.getfield 88, 3) := by decide +kernel
theorem dX1_readsPerson_31 : decode cX1_readsPerson 31 = .ok (.iload_n 2, 1) := by decide +kernel
theorem dX1_readsPerson_32 : decode cX1_readsPerson 32 = .ok (.aload_n 0, 1) := by decide +kernel
theorem dX1_readsPerson_33 : decode cX1_readsPerson 33 = .ok (.getfield 92, 3) := by decide +kernel
theorem dX1_readsPerson_36 : decode cX1_readsPerson 36 = .ok (.lastore, 1) := by decide +kernel
theorem dX1_readsPerson_37 : decode cX1_readsPerson 37 = .ok (.aload_n 0, 1) := by decide +kernel
theorem dX1_readsPerson_38 : decode cX1_readsPerson 38 = .ok (.aload_n 1, 1) := by decide +kernel
theorem dX1_readsPerson_39 : decode cX1_readsPerson 39 = .ok (.iload_n 2, 1) := by decide +kernel
theorem dX1_readsPerson_40 : decode cX1_readsPerson 40 = .ok (.invokestatic 96, 3) := by decide +kernel
theorem dX1_readsPerson_43 : decode cX1_readsPerson 43 = .ok (.ifCond .eq 14, 3) := by decide +kernel
theorem dX1_readsPerson_46 : decode cX1_readsPerson 46 = .ok (.aload_n 0, 1) := by decide +kernel
theorem dX1_readsPerson_47 : decode cX1_readsPerson 47 = .ok (.ldc 100, 2) := by decide +kernel
theorem dX1_readsPerson_49 : decode cX1_readsPerson 49 = .ok (.bipush 9, 2) := by decide +kernel
theorem dX1_readsPerson_51 : decode cX1_readsPerson 51 = .ok (.invokevirtual 102, 3) := by decide +kernel
theorem dX1_readsPerson_54 : decode cX1_readsPerson 54 = .ok (.ifCond .ne 5, 3) := by decide +kernel
theorem dX1_readsPerson_57 : decode cX1_readsPerson 57 = .ok (.iconst 0, 1) := by decide +kernel
theorem dX1_readsPerson_58 : decode cX1_readsPerson 58 = .ok (.ireturn, 1) := by decide +kernel
theorem dX1_readsPerson_59 : decode cX1_readsPerson 59 = .ok (.aload_n 1, 1) := by decide +kernel
theorem dX1_readsPerson_60 : decode cX1_readsPerson 60 = .ok (.getfield 106, 3) := by decide +kernel
theorem dX1_readsPerson_63 : decode cX1_readsPerson 63 = .ok (.iload_n 2, 1) := by decide +kernel
theorem dX1_readsPerson_64 : decode cX1_readsPerson 64 = .ok (.aload_n 0, 1) := by decide +kernel
theorem dX1_readsPerson_65 : decode cX1_readsPerson 65 = .ok (.getfield 110, 3) := by decide +kernel
theorem dX1_readsPerson_68 : decode cX1_readsPerson 68 = .ok (.iastore, 1) := by decide +kernel
theorem dX1_readsPerson_69 : decode cX1_readsPerson 69 = .ok (.aload_n 0, 1) := by decide +kernel
theorem dX1_readsPerson_70 : decode cX1_readsPerson 70 = .ok (.ldc 113, 2) := by decide +kernel
theorem dX1_readsPerson_72 : decode cX1_readsPerson 72 = .ok (.bipush 9, 2) := by decide +kernel
theorem dX1_readsPerson_74 : decode cX1_readsPerson 74 = .ok (.invokevirtual 102, 3) := by decide +kernel
theorem dX1_readsPerson_77 : decode cX1_readsPerson 77 = .ok (.ifCond .ne 5, 3) := by decide +kernel
theorem dX1_readsPerson_80 : decode cX1_readsPerson 80 = .ok (.iconst 0, 1) := by decide +kernel
theorem dX1_readsPerson_81 : decode cX1_readsPerson 81 = .ok (.ireturn, 1) := by decide +kernel
theorem dX1_readsPerson_82 : decode cX1_readsPerson 82 = .ok (.aload_n 1, 1) := by decide +kernel
theorem dX1_readsPerson_83 : decode cX1_readsPerson 83 = .ok (.getfield 115, 3) := by decide +kernel
theorem dX1_readsPerson_86 : decode cX1_readsPerson 86 = .ok (.iload_n 2, 1) := by decide +kernel
theorem dX1_readsPerson_87 : decode cX1_readsPerson 87 = .ok (.aload_n 0, 1) := by decide +kernel
theorem dX1_readsPerson_88 : decode cX1_readsPerson 88 = .ok (.getfield 110, 3) := by decide +kernel
theorem dX1_readsPerson_91 : decode cX1_readsPerson 91 = .ok (.iastore, 1) := by decide +kernel
theorem dX1_readsPerson_92 : decode cX1_readsPerson 92 = .ok (.aload_n 0, 1) := by decide +kernel
theorem dX1_readsPerson_93 : decode cX1_readsPerson 93 = .ok (.ldc 117, 2) := by decide +kernel
theorem dX1_readsPerson_95 : decode cX1_readsPerson 95 = .ok (.bipush 99, 2) := by decide +kernel
theorem dX1_readsPerson_97 : decode cX1_readsPerson 97 = .ok (.invokevirtual 102, 3) := by decide +kernel
theorem dX1_readsPerson_100 : decode cX1_readsPerson 100 = .ok (.ifCond .ne 5, 3) := by decide +kernel
theorem dX1_readsPerson_103 : decode cX1_readsPerson 103 = .ok (.iconst 0, 1) := by decide +kernel
theorem dX1_readsPerson_104 : decode cX1_readsPerson 104 = .ok (.ireturn, 1) := by decide +kernel
theorem dX1_readsPerson_105 : decode cX1_readsPerson 105 = .ok (.aload_n 1, 1) := by decide +kernel
theorem dX1_readsPerson_106 : decode cX1_readsPerson 106 = .ok (.getfield 119, 3) := by decide +kernel
theorem dX1_readsPerson_109 : decode cX1_readsPerson 109 = .ok (.iload_n 2, 1) := by decide +kernel
theorem dX1_readsPerson_110 : decode cX1_readsPerson 110 = .ok (.aload_n 0, 1) := by decide +kernel
theorem dX1_readsPerson_111 : decode cX1_readsPerson 111 = .ok (.getfield 110, 3) := by decide +kernel
theorem dX1_readsPerson_114 : decode cX1_readsPerson 114 = .ok (.iastore, 1) := by decide +kernel
theorem dX1_readsPerson_115 : decode cX1_readsPerson 115 = .ok (.aload_n 1, 1) := by decide +kernel
theorem dX1_readsPerson_116 : decode cX1_readsPerson 116 = .ok (.iload_n 2, 1) := by decide +kernel
theorem dX1_readsPerson_117 : decode cX1_readsPerson 117 = .ok (.iconst 1, 1) := by decide +kernel
theorem dX1_readsPerson_118 : decode cX1_readsPerson 118 = .ok (.iadd, 1) := by decide +kernel
theorem dX1_readsPerson_119 : decode cX1_readsPerson 119 = .ok (.putfield 82, 3) := by decide +kernel
theorem dX1_readsPerson_122 : decode cX1_readsPerson 122 = .ok (.aload_n 0, 1) := by decide +kernel
theorem dX1_readsPerson_123 : decode cX1_readsPerson 123 = .ok (.invokevirtual 121, 3) := by decide +kernel
theorem dX1_readsPerson_126 : decode cX1_readsPerson 126 = .ok (.ireturn, 1) := by decide +kernel
theorem dX1_takesNewName_0 : decode cX1_takesNewName 0 = .ok (.aload_n 0, 1) := by decide +kernel
theorem dX1_takesNewName_1 : decode cX1_takesNewName 1 = .ok (.invokevirtual 125, 3) := by decide +kernel
theorem dX1_takesNewName_4 : decode cX1_takesNewName 4 = .ok (.ifCond .ne 5, 3) := by decide +kernel
theorem dX1_takesNewName_7 : decode cX1_takesNewName 7 = .ok (.iconst 0, 1) := by decide +kernel
theorem dX1_takesNewName_8 : decode cX1_takesNewName 8 = .ok (.ireturn, 1) := by decide +kernel
theorem dX1_takesNewName_9 : decode cX1_takesNewName 9 = .ok (.aload_n 1, 1) := by decide +kernel
theorem dX1_takesNewName_10 : decode cX1_takesNewName 10 = .ok (.aload_n 0, 1) := by decide +kernel
theorem dX1_takesNewName_11 : decode cX1_takesNewName 11 = .ok (.getfield 92, 3) := by decide +kernel
theorem dX1_takesNewName_14 : decode cX1_takesNewName 14 = .ok (.invokevirtual 128, 3) := by decide +kernel
theorem dX1_takesNewName_17 : decode cX1_takesNewName 17 = .ok (.iconst (-1), 1) := by decide +kernel
theorem dX1_takesNewName_18 : decode cX1_takesNewName 18 = .ok (.if_icmp .ne 19, 3) := by decide +kernel
theorem dX1_takesNewName_21 : decode cX1_takesNewName 21 = .ok (.aload_n 1, 1) := by decide +kernel
theorem dX1_takesNewName_22 : decode cX1_takesNewName 22 = .ok (.aload_n 0, 1) := by decide +kernel
theorem dX1_takesNewName_23 : decode cX1_takesNewName 23 = .ok (.getfield 92, 3) := by decide +kernel
theorem dX1_takesNewName_26 : decode cX1_takesNewName 26 = .ok (.invokevirtual 132, 3) := by decide +kernel
theorem dX1_takesNewName_29 : decode cX1_takesNewName 29 = .ok (.iconst (-1), 1) := by decide +kernel
theorem dX1_takesNewName_30 : decode cX1_takesNewName 30 = .ok (.if_icmp .ne 7, 3) := by decide +kernel
theorem dX1_takesNewName_33 : decode cX1_takesNewName 33 = .ok (.iconst 1, 1) := by decide +kernel
theorem dX1_takesNewName_34 : decode cX1_takesNewName 34 = .ok (.goto 4, 3) := by decide +kernel
theorem dX1_takesNewName_37 : decode cX1_takesNewName 37 = .ok (.iconst 0, 1) := by decide +kernel
theorem dX1_takesNewName_38 : decode cX1_takesNewName 38 = .ok (.istore_n 2, 1) := by decide +kernel
theorem dX1_takesNewName_39 : decode cX1_takesNewName 39 = .ok (.iload_n 2, 1) := by decide +kernel
theorem dX1_takesNewName_40 : decode cX1_takesNewName 40 = .ok (.ifCond .ne 11, 3) := by decide +kernel
theorem dX1_takesNewName_43 : decode cX1_takesNewName 43 = .ok (.aload_n 0, 1) := by decide +kernel
theorem dX1_takesNewName_44 : decode cX1_takesNewName 44 = .ok (.iconst 3, 1) := by decide +kernel
theorem dX1_takesNewName_45 : decode cX1_takesNewName 45 = .ok (.invokevirtual 78, 3) := by decide +kernel
theorem dX1_takesNewName_48 : decode cX1_takesNewName 48 = .ok (.ifCond .eq 7, 3) := by decide +kernel
theorem dX1_takesNewName_51 : decode cX1_takesNewName 51 = .ok (.iconst 1, 1) := by decide +kernel
theorem dX1_takesNewName_52 : decode cX1_takesNewName 52 = .ok (.goto 4, 3) := by decide +kernel
theorem dX1_takesNewName_55 : decode cX1_takesNewName 55 = .ok (.iconst 0, 1) := by decide +kernel
theorem dX1_takesNewName_56 : decode cX1_takesNewName 56 = .ok (.ireturn, 1) := by decide +kernel
theorem dX1_takesKind_0 : decode cX1_takesKind 0 = .ok (.aload_n 0, 1) := by decide +kernel
theorem dX1_takesKind_1 : decode cX1_takesKind 1 = .ok (.invokevirtual 31, 3) := by decide +kernel
theorem dX1_takesKind_4 : decode cX1_takesKind 4 = .ok (.aload_n 0, 1) := by decide +kernel
theorem dX1_takesKind_5 : decode cX1_takesKind 5 = .ok (.ldc 135, 2) := by decide +kernel
theorem dX1_takesKind_7 : decode cX1_takesKind 7 = .ok (.invokevirtual 40, 3) := by decide +kernel
theorem dX1_takesKind_10 : decode cX1_takesKind 10 = .ok (.ifCond .eq 13, 3) := by decide +kernel
theorem dX1_takesKind_13 : decode cX1_takesKind 13 = .ok (.aload_n 1, 1) := by decide +kernel
theorem dX1_takesKind_14 : decode cX1_takesKind 14 = .ok (.getfield 137, 3) := by decide +kernel
theorem dX1_takesKind_17 : decode cX1_takesKind 17 = .ok (.iload_n 2, 1) := by decide +kernel
theorem dX1_takesKind_18 : decode cX1_takesKind 18 = .ok (.iconst 0, 1) := by decide +kernel
theorem dX1_takesKind_19 : decode cX1_takesKind 19 = .ok (.iastore, 1) := by decide +kernel
theorem dX1_takesKind_20 : decode cX1_takesKind 20 = .ok (.goto 66, 3) := by decide +kernel
theorem dX1_takesKind_23 : decode cX1_takesKind 23 = .ok (.aload_n 0, 1) := by decide +kernel
theorem dX1_takesKind_24 : decode cX1_takesKind 24 = .ok (.ldc 139, 2) := by decide +kernel
theorem dX1_takesKind_26 : decode cX1_takesKind 26 = .ok (.invokevirtual 40, 3) := by decide +kernel
theorem dX1_takesKind_29 : decode cX1_takesKind 29 = .ok (.ifCond .eq 13, 3) := by decide +kernel
theorem dX1_takesKind_32 : decode cX1_takesKind 32 = .ok (.aload_n 1, 1) := by decide +kernel
theorem dX1_takesKind_33 : decode cX1_takesKind 33 = .ok (.getfield 137, 3) := by decide +kernel
theorem dX1_takesKind_36 : decode cX1_takesKind 36 = .ok (.iload_n 2, 1) := by decide +kernel
theorem dX1_takesKind_37 : decode cX1_takesKind 37 = .ok (.iconst 1, 1) := by decide +kernel
theorem dX1_takesKind_38 : decode cX1_takesKind 38 = .ok (.iastore, 1) := by decide +kernel
theorem dX1_takesKind_39 : decode cX1_takesKind 39 = .ok (.goto 47, 3) := by decide +kernel
theorem dX1_takesKind_42 : decode cX1_takesKind 42 = .ok (.aload_n 0, 1) := by decide +kernel
theorem dX1_takesKind_43 : decode cX1_takesKind 43 = .ok (.ldc 141, 2) := by decide +kernel
theorem dX1_takesKind_45 : decode cX1_takesKind 45 = .ok (.invokevirtual 40, 3) := by decide +kernel
theorem dX1_takesKind_48 : decode cX1_takesKind 48 = .ok (.ifCond .eq 13, 3) := by decide +kernel
theorem dX1_takesKind_51 : decode cX1_takesKind 51 = .ok (.aload_n 1, 1) := by decide +kernel
theorem dX1_takesKind_52 : decode cX1_takesKind 52 = .ok (.getfield 137, 3) := by decide +kernel
theorem dX1_takesKind_55 : decode cX1_takesKind 55 = .ok (.iload_n 2, 1) := by decide +kernel
theorem dX1_takesKind_56 : decode cX1_takesKind 56 = .ok (.iconst 2, 1) := by decide +kernel
theorem dX1_takesKind_57 : decode cX1_takesKind 57 = .ok (.iastore, 1) := by decide +kernel
theorem dX1_takesKind_58 : decode cX1_takesKind 58 = .ok (.goto 28, 3) := by decide +kernel
theorem dX1_takesKind_61 : decode cX1_takesKind 61 = .ok (.aload_n 0, 1) := by decide +kernel
theorem dX1_takesKind_62 : decode cX1_takesKind 62 = .ok (.ldc 143, 2) := by decide +kernel
theorem dX1_takesKind_64 : decode cX1_takesKind 64 = .ok (.invokevirtual 40, 3) := by decide +kernel
theorem dX1_takesKind_67 : decode cX1_takesKind 67 = .ok (.ifCond .eq 13, 3) := by decide +kernel
theorem dX1_takesKind_70 : decode cX1_takesKind 70 = .ok (.aload_n 1, 1) := by decide +kernel
theorem dX1_takesKind_71 : decode cX1_takesKind 71 = .ok (.getfield 137, 3) := by decide +kernel
theorem dX1_takesKind_74 : decode cX1_takesKind 74 = .ok (.iload_n 2, 1) := by decide +kernel
theorem dX1_takesKind_75 : decode cX1_takesKind 75 = .ok (.iconst 3, 1) := by decide +kernel
theorem dX1_takesKind_76 : decode cX1_takesKind 76 = .ok (.iastore, 1) := by decide +kernel
theorem dX1_takesKind_77 : decode cX1_takesKind 77 = .ok (.goto 9, 3) := by decide +kernel
theorem dX1_takesKind_80 : decode cX1_takesKind 80 = .ok (.aload_n 0, 1) := by decide +kernel
theorem dX1_takesKind_81 : decode cX1_takesKind 81 = .ok (.iconst 1, 1) := by decide +kernel
theorem dX1_takesKind_82 : decode cX1_takesKind 82 = .ok (.invokevirtual 78, 3) := by decide +kernel
theorem dX1_takesKind_85 : decode cX1_takesKind 85 = .ok (.ireturn, 1) := by decide +kernel
theorem dX1_takesKind_86 : decode cX1_takesKind 86 = .ok (.iconst 1, 1) := by decide +kernel
theorem dX1_takesKind_87 : decode cX1_takesKind 87 = .ok (.ireturn, 1) := by decide +kernel
theorem dX1_readsDish_0 : decode cX1_readsDish 0 = .ok (.aload_n 1, 1) := by decide +kernel
theorem dX1_readsDish_1 : decode cX1_readsDish 1 = .ok (.getfield 145, 3) := by decide +kernel
theorem dX1_readsDish_4 : decode cX1_readsDish 4 = .ok (.istore_n 2, 1) := by decide +kernel
theorem dX1_readsDish_5 : decode cX1_readsDish 5 = .ok (.iload_n 2, 1) := by decide +kernel
theorem dX1_readsDish_6 : decode cX1_readsDish 6 = .ok (.iconst 5, 1) := by decide +kernel
theorem dX1_readsDish_7 : decode cX1_readsDish 7 = .ok (.if_icmp .lt 9, 3) := by decide +kernel
theorem dX1_readsDish_10 : decode cX1_readsDish 10 = .ok (.aload_n 0, 1) := by decide +kernel
theorem dX1_readsDish_11 : decode cX1_readsDish 11 = .ok (.iconst 5, 1) := by decide +kernel
theorem dX1_readsDish_12 : decode cX1_readsDish 12 = .ok (.invokevirtual 78, 3) := by decide +kernel
theorem dX1_readsDish_15 : decode cX1_readsDish 15 = .ok (.ireturn, 1) := by decide +kernel
theorem dX1_readsDish_16 : decode cX1_readsDish 16 = .ok (.aload_n 0, 1) := by decide +kernel
theorem dX1_readsDish_17 : decode cX1_readsDish 17 = .ok (.aload_n 1, 1) := by decide +kernel
theorem dX1_readsDish_18 : decode cX1_readsDish 18 = .ok (.invokestatic 85, 3) := by decide +kernel
theorem dX1_readsDish_21 : decode cX1_readsDish 21 = .ok (.ifCond .ne 5, 3) := by decide +kernel
theorem dX1_readsDish_24 : decode cX1_readsDish 24 = .ok (.iconst 0, 1) := by decide +kernel
theorem dX1_readsDish_25 : decode cX1_readsDish 25 = .ok (.ireturn, 1) := by decide +kernel
theorem dX1_readsDish_26 : decode cX1_readsDish 26 = .ok (.aload_n 1, 1) := by decide +kernel
theorem dX1_readsDish_27 : decode cX1_readsDish 27 = .ok (.getfield 148, 3) := by decide +kernel
theorem dX1_readsDish_30 : decode cX1_readsDish 30 = .ok (.iload_n 2, 1) := by decide +kernel
theorem dX1_readsDish_31 : decode cX1_readsDish 31 = .ok (.aload_n 0, 1) := by decide +kernel
theorem dX1_readsDish_32 : decode cX1_readsDish 32 = .ok (.getfield 92, 3) := by decide +kernel
theorem dX1_readsDish_35 : decode cX1_readsDish 35 = .ok (.lastore, 1) := by decide +kernel
theorem dX1_readsDish_36 : decode cX1_readsDish 36 = .ok (.aload_n 0, 1) := by decide +kernel
theorem dX1_readsDish_37 : decode cX1_readsDish 37 = .ok (.ldc 151, 2) := by decide +kernel
theorem dX1_readsDish_39 : decode cX1_readsDish 39 = .ok (.bipush 20, 2) := by decide +kernel
theorem dX1_readsDish_41 : decode cX1_readsDish 41 = .ok (.invokevirtual 102, 3) := by decide +kernel
theorem dX1_readsDish_44 : decode cX1_readsDish 44 = .ok (.ifCond .ne 5, 3) := by decide +kernel
theorem dX1_readsDish_47 : decode cX1_readsDish 47 = .ok (.iconst 0, 1) := by decide +kernel
theorem dX1_readsDish_48 : decode cX1_readsDish 48 = .ok (.ireturn, 1) := by decide +kernel
theorem dX1_readsDish_49 : decode cX1_readsDish 49 = .ok (.aload_n 1, 1) := by decide +kernel
theorem dX1_readsDish_50 : decode cX1_readsDish 50 = .ok (.getfield 153, 3) := by decide +kernel
theorem dX1_readsDish_53 : decode cX1_readsDish 53 = .ok (.iload_n 2, 1) := by decide +kernel
theorem dX1_readsDish_54 : decode cX1_readsDish 54 = .ok (.aload_n 0, 1) := by decide +kernel
theorem dX1_readsDish_55 : decode cX1_readsDish 55 = .ok (.getfield 110, 3) := by decide +kernel
theorem dX1_readsDish_58 : decode cX1_readsDish 58 = .ok (.iastore, 1) := by decide +kernel
theorem dX1_readsDish_59 : decode cX1_readsDish 59 = .ok (.aload_n 0, 1) := by decide +kernel
theorem dX1_readsDish_60 : decode cX1_readsDish 60 = .ok (.ldc 155, 2) := by decide +kernel
theorem dX1_readsDish_62 : decode cX1_readsDish 62 = .ok (.bipush 9, 2) := by decide +kernel
theorem dX1_readsDish_64 : decode cX1_readsDish 64 = .ok (.invokevirtual 102, 3) := by decide +kernel
theorem dX1_readsDish_67 : decode cX1_readsDish 67 = .ok (.ifCond .ne 5, 3) := by decide +kernel
theorem dX1_readsDish_70 : decode cX1_readsDish 70 = .ok (.iconst 0, 1) := by decide +kernel
theorem dX1_readsDish_71 : decode cX1_readsDish 71 = .ok (.ireturn, 1) := by decide +kernel
theorem dX1_readsDish_72 : decode cX1_readsDish 72 = .ok (.aload_n 1, 1) := by decide +kernel
theorem dX1_readsDish_73 : decode cX1_readsDish 73 = .ok (.getfield 157, 3) := by decide +kernel
theorem dX1_readsDish_76 : decode cX1_readsDish 76 = .ok (.iload_n 2, 1) := by decide +kernel
theorem dX1_readsDish_77 : decode cX1_readsDish 77 = .ok (.aload_n 0, 1) := by decide +kernel
theorem dX1_readsDish_78 : decode cX1_readsDish 78 = .ok (.getfield 110, 3) := by decide +kernel
theorem dX1_readsDish_81 : decode cX1_readsDish 81 = .ok (.iastore, 1) := by decide +kernel
theorem dX1_readsDish_82 : decode cX1_readsDish 82 = .ok (.aload_n 0, 1) := by decide +kernel
theorem dX1_readsDish_83 : decode cX1_readsDish 83 = .ok (.ldc 159, 2) := by decide +kernel
theorem dX1_readsDish_85 : decode cX1_readsDish 85 = .ok (.bipush 20, 2) := by decide +kernel
theorem dX1_readsDish_87 : decode cX1_readsDish 87 = .ok (.invokevirtual 102, 3) := by decide +kernel
theorem dX1_readsDish_90 : decode cX1_readsDish 90 = .ok (.ifCond .ne 5, 3) := by decide +kernel
theorem dX1_readsDish_93 : decode cX1_readsDish 93 = .ok (.iconst 0, 1) := by decide +kernel
theorem dX1_readsDish_94 : decode cX1_readsDish 94 = .ok (.ireturn, 1) := by decide +kernel
theorem dX1_readsDish_95 : decode cX1_readsDish 95 = .ok (.aload_n 1, 1) := by decide +kernel
theorem dX1_readsDish_96 : decode cX1_readsDish 96 = .ok (.getfield 161, 3) := by decide +kernel
theorem dX1_readsDish_99 : decode cX1_readsDish 99 = .ok (.iload_n 2, 1) := by decide +kernel
theorem dX1_readsDish_100 : decode cX1_readsDish 100 = .ok (.aload_n 0, 1) := by decide +kernel
theorem dX1_readsDish_101 : decode cX1_readsDish 101 = .ok (.getfield 110, 3) := by decide +kernel
theorem dX1_readsDish_104 : decode cX1_readsDish 104 = .ok (.iastore, 1) := by decide +kernel
theorem dX1_readsDish_105 : decode cX1_readsDish 105 = .ok (.aload_n 1, 1) := by decide +kernel
theorem dX1_readsDish_106 : decode cX1_readsDish 106 = .ok (.iload_n 2, 1) := by decide +kernel
theorem dX1_readsDish_107 : decode cX1_readsDish 107 = .ok (.iconst 1, 1) := by decide +kernel
theorem dX1_readsDish_108 : decode cX1_readsDish 108 = .ok (.iadd, 1) := by decide +kernel
theorem dX1_readsDish_109 : decode cX1_readsDish 109 = .ok (.putfield 145, 3) := by decide +kernel
theorem dX1_readsDish_112 : decode cX1_readsDish 112 = .ok (.aload_n 0, 1) := by decide +kernel
theorem dX1_readsDish_113 : decode cX1_readsDish 113 = .ok (.invokevirtual 121, 3) := by decide +kernel
theorem dX1_readsDish_116 : decode cX1_readsDish 116 = .ok (.ireturn, 1) := by decide +kernel
theorem dX1_readsCup_0 : decode cX1_readsCup 0 = .ok (.aload_n 0, 1) := by decide +kernel
theorem dX1_readsCup_1 : decode cX1_readsCup 1 = .ok (.aload_n 1, 1) := by decide +kernel
theorem dX1_readsCup_2 : decode cX1_readsCup 2 = .ok (.invokevirtual 163, 3) := by decide +kernel
theorem dX1_readsCup_5 : decode cX1_readsCup 5 = .ok (.ifCond .ne 5, 3) := by decide +kernel
theorem dX1_readsCup_8 : decode cX1_readsCup 8 = .ok (.iconst 0, 1) := by decide +kernel
theorem dX1_readsCup_9 : decode cX1_readsCup 9 = .ok (.ireturn, 1) := by decide +kernel
theorem dX1_readsCup_10 : decode cX1_readsCup 10 = .ok (.aload_n 1, 1) := by decide +kernel
theorem dX1_readsCup_11 : decode cX1_readsCup 11 = .ok (.aload_n 0, 1) := by decide +kernel
theorem dX1_readsCup_12 : decode cX1_readsCup 12 = .ok (.getfield 92, 3) := by decide +kernel
theorem dX1_readsCup_15 : decode cX1_readsCup 15 = .ok (.invokevirtual 128, 3) := by decide +kernel
theorem dX1_readsCup_18 : decode cX1_readsCup 18 = .ok (.istore_n 2, 1) := by decide +kernel
theorem dX1_readsCup_19 : decode cX1_readsCup 19 = .ok (.aload_n 0, 1) := by decide +kernel
theorem dX1_readsCup_20 : decode cX1_readsCup 20 = .ok (.aload_n 1, 1) := by decide +kernel
theorem dX1_readsCup_21 : decode cX1_readsCup 21 = .ok (.invokevirtual 163, 3) := by decide +kernel
theorem dX1_readsCup_24 : decode cX1_readsCup 24 = .ok (.ifCond .ne 5, 3) := by decide +kernel
theorem dX1_readsCup_27 : decode cX1_readsCup 27 = .ok (.iconst 0, 1) := by decide +kernel
theorem dX1_readsCup_28 : decode cX1_readsCup 28 = .ok (.ireturn, 1) := by decide +kernel
theorem dX1_readsCup_29 : decode cX1_readsCup 29 = .ok (.aload_n 1, 1) := by decide +kernel
theorem dX1_readsCup_30 : decode cX1_readsCup 30 = .ok (.aload_n 0, 1) := by decide +kernel
theorem dX1_readsCup_31 : decode cX1_readsCup 31 = .ok (.getfield 92, 3) := by decide +kernel
theorem dX1_readsCup_34 : decode cX1_readsCup 34 = .ok (.invokevirtual 128, 3) := by decide +kernel
theorem dX1_readsCup_37 : decode cX1_readsCup 37 = .ok (.istore_n 3, 1) := by decide +kernel
theorem dX1_readsCup_38 : decode cX1_readsCup 38 = .ok (.iload_n 2, 1) := by decide +kernel
theorem dX1_readsCup_39 : decode cX1_readsCup 39 = .ok (.iconst (-1), 1) := by decide +kernel
theorem dX1_readsCup_40 : decode cX1_readsCup 40 = .ok (.if_icmp .eq 27, 3) := by decide +kernel
theorem dX1_readsCup_43 : decode cX1_readsCup 43 = .ok (.iload_n 3, 1) := by decide +kernel
theorem dX1_readsCup_44 : decode cX1_readsCup 44 = .ok (.iconst (-1), 1) := by decide +kernel
theorem dX1_readsCup_45 : decode cX1_readsCup 45 = .ok (.if_icmp .eq 22, 3) := by decide +kernel
theorem dX1_readsCup_48 : decode cX1_readsCup 48 = .ok (.iload_n 2, 1) := by decide +kernel
theorem dX1_readsCup_49 : decode cX1_readsCup 49 = .ok (.iload_n 3, 1) := by decide +kernel
theorem dX1_readsCup_50 : decode cX1_readsCup 50 = .ok (.if_icmp .eq 17, 3) := by decide +kernel
theorem dX1_readsCup_53 : decode cX1_readsCup 53 = .ok (.aload_n 1, 1) := by decide +kernel
theorem dX1_readsCup_54 : decode cX1_readsCup 54 = .ok (.getfield 167, 3) := by decide +kernel
theorem dX1_readsCup_57 : decode cX1_readsCup 57 = .ok (.iload_n 2, 1) := by decide +kernel
theorem dX1_readsCup_58 : decode cX1_readsCup 58 = .ok (.iaload, 1) := by decide +kernel
theorem dX1_readsCup_59 : decode cX1_readsCup 59 = .ok (.iload_n 3, 1) := by decide +kernel
theorem dX1_readsCup_60 : decode cX1_readsCup 60 = .ok (.ishr, 1) := by decide +kernel
theorem dX1_readsCup_61 : decode cX1_readsCup 61 = .ok (.iconst 1, 1) := by decide +kernel
theorem dX1_readsCup_62 : decode cX1_readsCup 62 = .ok (.iand, 1) := by decide +kernel
theorem dX1_readsCup_63 : decode cX1_readsCup 63 = .ok (.iconst 1, 1) := by decide +kernel
theorem dX1_readsCup_64 : decode cX1_readsCup 64 = .ok (.if_icmp .ne 9, 3) := by decide +kernel
theorem dX1_readsCup_67 : decode cX1_readsCup 67 = .ok (.aload_n 0, 1) := by decide +kernel
theorem dX1_readsCup_68 : decode cX1_readsCup 68 = .ok (.iconst 3, 1) := by decide +kernel
theorem dX1_readsCup_69 : decode cX1_readsCup 69 = .ok (.invokevirtual 78, 3) := by decide +kernel
theorem dX1_readsCup_72 : decode cX1_readsCup 72 = .ok (.ireturn, 1) := by decide +kernel
theorem dX1_readsCup_73 : decode cX1_readsCup 73 = .ok (.aload_n 1, 1) := by decide +kernel
theorem dX1_readsCup_74 : decode cX1_readsCup 74 = .ok (.getfield 167, 3) := by decide +kernel
theorem dX1_readsCup_77 : decode cX1_readsCup 77 = .ok (.iload_n 2, 1) := by decide +kernel
theorem dX1_readsCup_78 : decode cX1_readsCup 78 = .ok (.dup2, 1) := by decide +kernel
theorem dX1_readsCup_79 : decode cX1_readsCup 79 = .ok (.iaload, 1) := by decide +kernel
theorem dX1_readsCup_80 : decode cX1_readsCup 80 = .ok (.iconst 1, 1) := by decide +kernel
theorem dX1_readsCup_81 : decode cX1_readsCup 81 = .ok (.iload_n 3, 1) := by decide +kernel
theorem dX1_readsCup_82 : decode cX1_readsCup 82 = .ok (.ishl, 1) := by decide +kernel
theorem dX1_readsCup_83 : decode cX1_readsCup 83 = .ok (.ior, 1) := by decide +kernel
theorem dX1_readsCup_84 : decode cX1_readsCup 84 = .ok (.iastore, 1) := by decide +kernel
theorem dX1_readsCup_85 : decode cX1_readsCup 85 = .ok (.aload_n 1, 1) := by decide +kernel
theorem dX1_readsCup_86 : decode cX1_readsCup 86 = .ok (.getfield 167, 3) := by decide +kernel
theorem dX1_readsCup_89 : decode cX1_readsCup 89 = .ok (.iload_n 3, 1) := by decide +kernel
theorem dX1_readsCup_90 : decode cX1_readsCup 90 = .ok (.dup2, 1) := by decide +kernel
theorem dX1_readsCup_91 : decode cX1_readsCup 91 = .ok (.iaload, 1) := by decide +kernel
theorem dX1_readsCup_92 : decode cX1_readsCup 92 = .ok (.iconst 1, 1) := by decide +kernel
theorem dX1_readsCup_93 : decode cX1_readsCup 93 = .ok (.iload_n 2, 1) := by decide +kernel
theorem dX1_readsCup_94 : decode cX1_readsCup 94 = .ok (.ishl, 1) := by decide +kernel
theorem dX1_readsCup_95 : decode cX1_readsCup 95 = .ok (.ior, 1) := by decide +kernel
theorem dX1_readsCup_96 : decode cX1_readsCup 96 = .ok (.iastore, 1) := by decide +kernel
theorem dX1_readsCup_97 : decode cX1_readsCup 97 = .ok (.aload_n 0, 1) := by decide +kernel
theorem dX1_readsCup_98 : decode cX1_readsCup 98 = .ok (.invokevirtual 121, 3) := by decide +kernel
theorem dX1_readsCup_101 : decode cX1_readsCup 101 = .ok (.ireturn, 1) := by decide +kernel
theorem dX1_readsSick_0 : decode cX1_readsSick 0 = .ok (.aload_n 0, 1) := by decide +kernel
theorem dX1_readsSick_1 : decode cX1_readsSick 1 = .ok (.aload_n 1, 1) := by decide +kernel
theorem dX1_readsSick_2 : decode cX1_readsSick 2 = .ok (.invokevirtual 163, 3) := by decide +kernel
theorem dX1_readsSick_5 : decode cX1_readsSick 5 = .ok (.ifCond .ne 5, 3) := by decide +kernel
theorem dX1_readsSick_8 : decode cX1_readsSick 8 = .ok (.iconst 0, 1) := by decide +kernel
theorem dX1_readsSick_9 : decode cX1_readsSick 9 = .ok (.ireturn, 1) := by decide +kernel
theorem dX1_readsSick_10 : decode cX1_readsSick 10 = .ok (.aload_n 1, 1) := by decide +kernel
theorem dX1_readsSick_11 : decode cX1_readsSick 11 = .ok (.aload_n 0, 1) := by decide +kernel
theorem dX1_readsSick_12 : decode cX1_readsSick 12 = .ok (.getfield 92, 3) := by decide +kernel
theorem dX1_readsSick_15 : decode cX1_readsSick 15 = .ok (.invokevirtual 128, 3) := by decide +kernel
theorem dX1_readsSick_18 : decode cX1_readsSick 18 = .ok (.istore_n 2, 1) := by decide +kernel
theorem dX1_readsSick_19 : decode cX1_readsSick 19 = .ok (.iload_n 2, 1) := by decide +kernel
theorem dX1_readsSick_20 : decode cX1_readsSick 20 = .ok (.iconst (-1), 1) := by decide +kernel
theorem dX1_readsSick_21 : decode cX1_readsSick 21 = .ok (.if_icmp .eq 13, 3) := by decide +kernel
theorem dX1_readsSick_24 : decode cX1_readsSick 24 = .ok (.aload_n 1, 1) := by decide +kernel
theorem dX1_readsSick_25 : decode cX1_readsSick 25 = .ok (.getfield 170, 3) := by decide +kernel
theorem dX1_readsSick_28 : decode cX1_readsSick 28 = .ok (.iload_n 2, 1) := by decide +kernel
theorem dX1_readsSick_29 : decode cX1_readsSick 29 = .ok (.iaload, 1) := by decide +kernel
theorem dX1_readsSick_30 : decode cX1_readsSick 30 = .ok (.iconst (-1), 1) := by decide +kernel
theorem dX1_readsSick_31 : decode cX1_readsSick 31 = .ok (.if_icmp .eq 9, 3) := by decide +kernel
theorem dX1_readsSick_34 : decode cX1_readsSick 34 = .ok (.aload_n 0, 1) := by decide +kernel
theorem dX1_readsSick_35 : decode cX1_readsSick 35 = .ok (.iconst 3, 1) := by decide +kernel
theorem dX1_readsSick_36 : decode cX1_readsSick 36 = .ok (.invokevirtual 78, 3) := by decide +kernel
theorem dX1_readsSick_39 : decode cX1_readsSick 39 = .ok (.ireturn, 1) := by decide +kernel
theorem dX1_readsSick_40 : decode cX1_readsSick 40 = .ok (.aload_n 0, 1) := by decide +kernel
theorem dX1_readsSick_41 : decode cX1_readsSick 41 = .ok (.ldc 173, 2) := by decide +kernel
theorem dX1_readsSick_43 : decode cX1_readsSick 43 = .ok (.bipush 99, 2) := by decide +kernel
theorem dX1_readsSick_45 : decode cX1_readsSick 45 = .ok (.invokevirtual 102, 3) := by decide +kernel
theorem dX1_readsSick_48 : decode cX1_readsSick 48 = .ok (.ifCond .ne 5, 3) := by decide +kernel
theorem dX1_readsSick_51 : decode cX1_readsSick 51 = .ok (.iconst 0, 1) := by decide +kernel
theorem dX1_readsSick_52 : decode cX1_readsSick 52 = .ok (.ireturn, 1) := by decide +kernel
theorem dX1_readsSick_53 : decode cX1_readsSick 53 = .ok (.aload_n 1, 1) := by decide +kernel
theorem dX1_readsSick_54 : decode cX1_readsSick 54 = .ok (.getfield 170, 3) := by decide +kernel
theorem dX1_readsSick_57 : decode cX1_readsSick 57 = .ok (.iload_n 2, 1) := by decide +kernel
theorem dX1_readsSick_58 : decode cX1_readsSick 58 = .ok (.aload_n 0, 1) := by decide +kernel
theorem dX1_readsSick_59 : decode cX1_readsSick 59 = .ok (.getfield 110, 3) := by decide +kernel
theorem dX1_readsSick_62 : decode cX1_readsSick 62 = .ok (.iastore, 1) := by decide +kernel
theorem dX1_readsSick_63 : decode cX1_readsSick 63 = .ok (.aload_n 0, 1) := by decide +kernel
theorem dX1_readsSick_64 : decode cX1_readsSick 64 = .ok (.ldc 175, 2) := by decide +kernel
theorem dX1_readsSick_66 : decode cX1_readsSick 66 = .ok (.invokevirtual 177, 3) := by decide +kernel
theorem dX1_readsSick_69 : decode cX1_readsSick 69 = .ok (.ifCond .eq 18, 3) := by decide +kernel
theorem dX1_readsSick_72 : decode cX1_readsSick 72 = .ok (.aload_n 0, 1) := by decide +kernel
theorem dX1_readsSick_73 : decode cX1_readsSick 73 = .ok (.aload_n 1, 1) := by decide +kernel
theorem dX1_readsSick_74 : decode cX1_readsSick 74 = .ok (.getfield 170, 3) := by decide +kernel
theorem dX1_readsSick_77 : decode cX1_readsSick 77 = .ok (.iload_n 2, 1) := by decide +kernel
theorem dX1_readsSick_78 : decode cX1_readsSick 78 = .ok (.iaload, 1) := by decide +kernel
theorem dX1_readsSick_79 : decode cX1_readsSick 79 = .ok (.bipush 99, 2) := by decide +kernel
theorem dX1_readsSick_81 : decode cX1_readsSick 81 = .ok (.invokevirtual 180, 3) := by decide +kernel
theorem dX1_readsSick_84 : decode cX1_readsSick 84 = .ok (.ifCond .ne 5, 3) := by decide +kernel
theorem dX1_readsSick_87 : decode cX1_readsSick 87 = .ok (.iconst 0, 1) := by decide +kernel
theorem dX1_readsSick_88 : decode cX1_readsSick 88 = .ok (.ireturn, 1) := by decide +kernel
theorem dX1_readsSick_89 : decode cX1_readsSick 89 = .ok (.aload_n 1, 1) := by decide +kernel
theorem dX1_readsSick_90 : decode cX1_readsSick 90 = .ok (.getfield 184, 3) := by decide +kernel
theorem dX1_readsSick_93 : decode cX1_readsSick 93 = .ok (.iload_n 2, 1) := by decide +kernel
theorem dX1_readsSick_94 : decode cX1_readsSick 94 = .ok (.aload_n 0, 1) := by decide +kernel
theorem dX1_readsSick_95 : decode cX1_readsSick 95 = .ok (.getfield 110, 3) := by decide +kernel
theorem dX1_readsSick_98 : decode cX1_readsSick 98 = .ok (.iastore, 1) := by decide +kernel
theorem dX1_readsSick_99 : decode cX1_readsSick 99 = .ok (.aload_n 0, 1) := by decide +kernel
theorem dX1_readsSick_100 : decode cX1_readsSick 100 = .ok (.invokevirtual 121, 3) := by decide +kernel
theorem dX1_readsSick_103 : decode cX1_readsSick 103 = .ok (.ireturn, 1) := by decide +kernel
theorem dX1_readsStore_0 : decode cX1_readsStore 0 = .ok (.aload_n 0, 1) := by decide +kernel
theorem dX1_readsStore_1 : decode cX1_readsStore 1 = .ok (.getfield 9, 3) := by decide +kernel
theorem dX1_readsStore_4 : decode cX1_readsStore 4 = .ok (.ifCond .eq 9, 3) := by decide +kernel
theorem dX1_readsStore_7 : decode cX1_readsStore 7 = .ok (.aload_n 1, 1) := by decide +kernel
theorem dX1_readsStore_8 : decode cX1_readsStore 8 = .ok (.iconst 3, 1) := by decide +kernel
theorem dX1_readsStore_9 : decode cX1_readsStore 9 = .ok (.invokevirtual 78, 3) := by decide +kernel
theorem dX1_readsStore_12 : decode cX1_readsStore 12 = .ok (.ireturn, 1) := by decide +kernel
theorem dX1_readsStore_13 : decode cX1_readsStore 13 = .ok (.aload_n 0, 1) := by decide +kernel
theorem dX1_readsStore_14 : decode cX1_readsStore 14 = .ok (.iconst 1, 1) := by decide +kernel
theorem dX1_readsStore_15 : decode cX1_readsStore 15 = .ok (.putfield 9, 3) := by decide +kernel
theorem dX1_readsStore_18 : decode cX1_readsStore 18 = .ok (.aload_n 1, 1) := by decide +kernel
theorem dX1_readsStore_19 : decode cX1_readsStore 19 = .ok (.iconst 0, 1) := by decide +kernel
theorem dX1_readsStore_20 : decode cX1_readsStore 20 = .ok (.sipush 999, 3) := by decide +kernel
theorem dX1_readsStore_23 : decode cX1_readsStore 23 = .ok (.invokevirtual 180, 3) := by decide +kernel
theorem dX1_readsStore_26 : decode cX1_readsStore 26 = .ok (.ifCond .ne 5, 3) := by decide +kernel
theorem dX1_readsStore_29 : decode cX1_readsStore 29 = .ok (.iconst 0, 1) := by decide +kernel
theorem dX1_readsStore_30 : decode cX1_readsStore 30 = .ok (.ireturn, 1) := by decide +kernel
theorem dX1_readsStore_31 : decode cX1_readsStore 31 = .ok (.aload_n 2, 1) := by decide +kernel
theorem dX1_readsStore_32 : decode cX1_readsStore 32 = .ok (.aload_n 1, 1) := by decide +kernel
theorem dX1_readsStore_33 : decode cX1_readsStore 33 = .ok (.getfield 110, 3) := by decide +kernel
theorem dX1_readsStore_36 : decode cX1_readsStore 36 = .ok (.putfield 187, 3) := by decide +kernel
theorem dX1_readsStore_39 : decode cX1_readsStore 39 = .ok (.aload_n 1, 1) := by decide +kernel
theorem dX1_readsStore_40 : decode cX1_readsStore 40 = .ok (.invokevirtual 121, 3) := by decide +kernel
theorem dX1_readsStore_43 : decode cX1_readsStore 43 = .ok (.ireturn, 1) := by decide +kernel
theorem dX1_readsRest_0 : decode cX1_readsRest 0 = .ok (.aload_n 0, 1) := by decide +kernel
theorem dX1_readsRest_1 : decode cX1_readsRest 1 = .ok (.getfield 15, 3) := by decide +kernel
theorem dX1_readsRest_4 : decode cX1_readsRest 4 = .ok (.ifCond .eq 9, 3) := by decide +kernel
theorem dX1_readsRest_7 : decode cX1_readsRest 7 = .ok (.aload_n 1, 1) := by decide +kernel
theorem dX1_readsRest_8 : decode cX1_readsRest 8 = .ok (.iconst 3, 1) := by decide +kernel
theorem dX1_readsRest_9 : decode cX1_readsRest 9 = .ok (.invokevirtual 78, 3) := by decide +kernel
theorem dX1_readsRest_12 : decode cX1_readsRest 12 = .ok (.ireturn, 1) := by decide +kernel
theorem dX1_readsRest_13 : decode cX1_readsRest 13 = .ok (.aload_n 0, 1) := by decide +kernel
theorem dX1_readsRest_14 : decode cX1_readsRest 14 = .ok (.iconst 1, 1) := by decide +kernel
theorem dX1_readsRest_15 : decode cX1_readsRest 15 = .ok (.putfield 15, 3) := by decide +kernel
theorem dX1_readsRest_18 : decode cX1_readsRest 18 = .ok (.aload_n 1, 1) := by decide +kernel
theorem dX1_readsRest_19 : decode cX1_readsRest 19 = .ok (.iconst 0, 1) := by decide +kernel
theorem dX1_readsRest_20 : decode cX1_readsRest 20 = .ok (.bipush 7, 2) := by decide +kernel
theorem dX1_readsRest_22 : decode cX1_readsRest 22 = .ok (.invokevirtual 180, 3) := by decide +kernel
theorem dX1_readsRest_25 : decode cX1_readsRest 25 = .ok (.ifCond .ne 5, 3) := by decide +kernel
theorem dX1_readsRest_28 : decode cX1_readsRest 28 = .ok (.iconst 0, 1) := by decide +kernel
theorem dX1_readsRest_29 : decode cX1_readsRest 29 = .ok (.ireturn, 1) := by decide +kernel
theorem dX1_readsRest_30 : decode cX1_readsRest 30 = .ok (.aload_n 2, 1) := by decide +kernel
theorem dX1_readsRest_31 : decode cX1_readsRest 31 = .ok (.aload_n 1, 1) := by decide +kernel
theorem dX1_readsRest_32 : decode cX1_readsRest 32 = .ok (.getfield 110, 3) := by decide +kernel
theorem dX1_readsRest_35 : decode cX1_readsRest 35 = .ok (.putfield 189, 3) := by decide +kernel
theorem dX1_readsRest_38 : decode cX1_readsRest 38 = .ok (.aload_n 1, 1) := by decide +kernel
theorem dX1_readsRest_39 : decode cX1_readsRest 39 = .ok (.invokevirtual 121, 3) := by decide +kernel
theorem dX1_readsRest_42 : decode cX1_readsRest 42 = .ok (.ireturn, 1) := by decide +kernel
theorem dX1_readsShare_0 : decode cX1_readsShare 0 = .ok (.aload_n 0, 1) := by decide +kernel
theorem dX1_readsShare_1 : decode cX1_readsShare 1 = .ok (.getfield 18, 3) := by decide +kernel
theorem dX1_readsShare_4 : decode cX1_readsShare 4 = .ok (.ifCond .eq 9, 3) := by decide +kernel
theorem dX1_readsShare_7 : decode cX1_readsShare 7 = .ok (.aload_n 1, 1) := by decide +kernel
theorem dX1_readsShare_8 : decode cX1_readsShare 8 = .ok (.iconst 3, 1) := by decide +kernel
theorem dX1_readsShare_9 : decode cX1_readsShare 9 = .ok (.invokevirtual 78, 3) := by decide +kernel
theorem dX1_readsShare_12 : decode cX1_readsShare 12 = .ok (.ireturn, 1) := by decide +kernel
theorem dX1_readsShare_13 : decode cX1_readsShare 13 = .ok (.aload_n 0, 1) := by decide +kernel
theorem dX1_readsShare_14 : decode cX1_readsShare 14 = .ok (.iconst 1, 1) := by decide +kernel
theorem dX1_readsShare_15 : decode cX1_readsShare 15 = .ok (.putfield 18, 3) := by decide +kernel
theorem dX1_readsShare_18 : decode cX1_readsShare 18 = .ok (.aload_n 2, 1) := by decide +kernel
theorem dX1_readsShare_19 : decode cX1_readsShare 19 = .ok (.getfield 191, 3) := by decide +kernel
theorem dX1_readsShare_22 : decode cX1_readsShare 22 = .ok (.aload_n 1, 1) := by decide +kernel
theorem dX1_readsShare_23 : decode cX1_readsShare 23 = .ok (.invokevirtual 195, 3) := by decide +kernel
theorem dX1_readsShare_26 : decode cX1_readsShare 26 = .ok (.ireturn, 1) := by decide +kernel
theorem dX2_init_0 : decode cX2_init 0 = .ok (.aload_n 0, 1) := by decide +kernel
theorem dX2_init_1 : decode cX2_init 1 = .ok (.invokespecial 3, 3) := by decide +kernel
theorem dX2_init_4 : decode cX2_init 4 = .ok (.aload_n 0, 1) := by decide +kernel
theorem dX2_init_5 : decode cX2_init 5 = .ok (.bipush 6, 2) := by decide +kernel
theorem dX2_init_7 : decode cX2_init 7 = .ok (.newarray .int, 2) := by decide +kernel
theorem dX2_init_9 : decode cX2_init 9 = .ok (.putfield 9, 3) := by decide +kernel
theorem dX2_init_12 : decode cX2_init 12 = .ok (.aload_n 0, 1) := by decide +kernel
theorem dX2_init_13 : decode cX2_init 13 = .ok (.iconst 0, 1) := by decide +kernel
theorem dX2_init_14 : decode cX2_init 14 = .ok (.putfield 15, 3) := by decide +kernel
theorem dX2_init_17 : decode cX2_init 17 = .ok (.aload_n 0, 1) := by decide +kernel
theorem dX2_init_18 : decode cX2_init 18 = .ok (.iconst 0, 1) := by decide +kernel
theorem dX2_init_19 : decode cX2_init 19 = .ok (.putfield 19, 3) := by decide +kernel
theorem dX2_init_22 : decode cX2_init 22 = .ok (.aload_n 0, 1) := by decide +kernel
theorem dX2_init_23 : decode cX2_init 23 = .ok (.iconst 0, 1) := by decide +kernel
theorem dX2_init_24 : decode cX2_init 24 = .ok (.putfield 22, 3) := by decide +kernel
theorem dX2_init_27 : decode cX2_init 27 = .ok (.aload_n 0, 1) := by decide +kernel
theorem dX2_init_28 : decode cX2_init 28 = .ok (.bipush 6, 2) := by decide +kernel
theorem dX2_init_30 : decode cX2_init 30 = .ok (.newarray .int, 2) := by decide +kernel
theorem dX2_init_32 : decode cX2_init 32 = .ok (.putfield 25, 3) := by decide +kernel
theorem dX2_init_35 : decode cX2_init 35 = .ok (.aload_n 0, 1) := by decide +kernel
theorem dX2_init_36 : decode cX2_init 36 = .ok (.getfield 9, 3) := by decide +kernel
theorem dX2_init_39 : decode cX2_init 39 = .ok (.iconst (-1), 1) := by decide +kernel
theorem dX2_init_40 : decode cX2_init 40 = .ok (.invokestatic 28, 3) := by decide +kernel
theorem dX2_init_43 : decode cX2_init 43 = .ok (.return_, 1) := by decide +kernel
theorem dX2_howManyTold_0 : decode cX2_howManyTold 0 = .ok (.iconst 0, 1) := by decide +kernel
theorem dX2_howManyTold_1 : decode cX2_howManyTold 1 = .ok (.istore_n 1, 1) := by decide +kernel
theorem dX2_howManyTold_2 : decode cX2_howManyTold 2 = .ok (.iconst 0, 1) := by decide +kernel
theorem dX2_howManyTold_3 : decode cX2_howManyTold 3 = .ok (.istore_n 2, 1) := by decide +kernel
theorem dX2_howManyTold_4 : decode cX2_howManyTold 4 = .ok (.iload_n 2, 1) := by decide +kernel
theorem dX2_howManyTold_5 : decode cX2_howManyTold 5 = .ok (.bipush 6, 2) := by decide +kernel
theorem dX2_howManyTold_7 : decode cX2_howManyTold 7 = .ok (.if_icmp .ge 25, 3) := by decide +kernel
theorem dX2_howManyTold_10 : decode cX2_howManyTold 10 = .ok (.iload_n 1, 1) := by decide +kernel
theorem dX2_howManyTold_11 : decode cX2_howManyTold 11 = .ok (.aload_n 0, 1) := by decide +kernel
theorem dX2_howManyTold_12 : decode cX2_howManyTold 12 = .ok (.iload_n 2, 1) := by decide +kernel
theorem dX2_howManyTold_13 : decode cX2_howManyTold 13 = .ok (.invokevirtual 34, 3) := by decide +kernel
theorem dX2_howManyTold_16 : decode cX2_howManyTold 16 = .ok (.ifCond .eq 7, 3) := by decide +kernel
theorem dX2_howManyTold_19 : decode cX2_howManyTold 19 = .ok (.iconst 1, 1) := by decide +kernel
theorem dX2_howManyTold_20 : decode cX2_howManyTold 20 = .ok (.goto 4, 3) := by decide +kernel
theorem dX2_howManyTold_23 : decode cX2_howManyTold 23 = .ok (.iconst 0, 1) := by decide +kernel
theorem dX2_howManyTold_24 : decode cX2_howManyTold 24 = .ok (.iadd, 1) := by decide +kernel
theorem dX2_howManyTold_25 : decode cX2_howManyTold 25 = .ok (.istore_n 1, 1) := by decide +kernel
theorem dX2_howManyTold_26 : decode cX2_howManyTold 26 = .ok (.iinc 2 1, 3) := by decide +kernel
theorem dX2_howManyTold_29 : decode cX2_howManyTold 29 = .ok (.goto (-25), 3) := by decide +kernel
theorem dX2_howManyTold_32 : decode cX2_howManyTold 32 = .ok (.iload_n 1, 1) := by decide +kernel
theorem dX2_howManyTold_33 : decode cX2_howManyTold 33 = .ok (.ireturn, 1) := by decide +kernel
theorem dX2_isTold_0 : decode cX2_isTold 0 = .ok (.aload_n 0, 1) := by decide +kernel
theorem dX2_isTold_1 : decode cX2_isTold 1 = .ok (.getfield 9, 3) := by decide +kernel
theorem dX2_isTold_4 : decode cX2_isTold 4 = .ok (.iload_n 1, 1) := by decide +kernel
theorem dX2_isTold_5 : decode cX2_isTold 5 = .ok (.iaload, 1) := by decide +kernel
theorem dX2_isTold_6 : decode cX2_isTold 6 = .ok (.iconst (-1), 1) := by decide +kernel
theorem dX2_isTold_7 : decode cX2_isTold 7 = .ok (.if_icmp .eq 7, 3) := by decide +kernel
theorem dX2_isTold_10 : decode cX2_isTold 10 = .ok (.iconst 1, 1) := by decide +kernel
theorem dX2_isTold_11 : decode cX2_isTold 11 = .ok (.goto 4, 3) := by decide +kernel
theorem dX2_isTold_14 : decode cX2_isTold 14 = .ok (.iconst 0, 1) := by decide +kernel
theorem dX2_isTold_15 : decode cX2_isTold 15 = .ok (.ireturn, 1) := by decide +kernel
theorem dX2_weighs_0 : decode cX2_weighs 0 = .ok (.aload_n 0, 1) := by decide +kernel
theorem dX2_weighs_1 : decode cX2_weighs 1 = .ok (.iconst 0, 1) := by decide +kernel
theorem dX2_weighs_2 : decode cX2_weighs 2 = .ok (.putfield 15, 3) := by decide +kernel
theorem dX2_weighs_5 : decode cX2_weighs 5 = .ok (.aload_n 0, 1) := by decide +kernel
theorem dX2_weighs_6 : decode cX2_weighs 6 = .ok (.aload_n 1, 1) := by decide +kernel
theorem dX2_weighs_7 : decode cX2_weighs 7 = .ok (.invokevirtual 38, 3) := by decide +kernel
theorem dX2_weighs_10 : decode cX2_weighs 10 = .ok (.putfield 19, 3) := by decide +kernel
theorem dX2_weighs_13 : decode cX2_weighs 13 = .ok (.aload_n 0, 1) := by decide +kernel
theorem dX2_weighs_14 : decode cX2_weighs 14 = .ok (.iconst 0, 1) := by decide +kernel
theorem dX2_weighs_15 : decode cX2_weighs 15 = .ok (.putfield 22, 3) := by decide +kernel
theorem dX2_weighs_18 : decode cX2_weighs 18 = .ok (.aload_n 0, 1) := by decide +kernel
theorem dX2_weighs_19 : decode cX2_weighs 19 = .ok (.getfield 25, 3) := by decide +kernel
theorem dX2_weighs_22 : decode cX2_weighs 22 = .ok (.iconst 0, 1) := by decide +kernel
theorem dX2_weighs_23 : decode cX2_weighs 23 = .ok (.invokestatic 28, 3) := by decide +kernel
theorem dX2_weighs_26 : decode cX2_weighs 26 = .ok (.iconst 0, 1) := by decide +kernel
theorem dX2_weighs_27 : decode cX2_weighs 27 = .ok (.istore 4, 2) := by decide +kernel
theorem dX2_weighs_29 : decode cX2_weighs 29 = .ok (.iload 4, 2) := by decide +kernel
theorem dX2_weighs_31 : decode cX2_weighs 31 = .ok (.aload_n 1, 1) := by decide +kernel
theorem dX2_weighs_32 : decode cX2_weighs 32 = .ok (.invokevirtual 38, 3) := by decide +kernel
theorem dX2_weighs_35 : decode cX2_weighs 35 = .ok (.if_icmp .gt 88, 3) := by decide +kernel
theorem dX2_weighs_38 : decode cX2_weighs 38 = .ok (.aload_n 0, 1) := by decide +kernel
theorem dX2_weighs_39 : decode cX2_weighs 39 = .ok (.aload_n 1, 1) := by decide +kernel
theorem dX2_weighs_40 : decode cX2_weighs 40 = .ok (.aload_n 2, 1) := by decide +kernel
theorem dX2_weighs_41 : decode cX2_weighs 41 = .ok (.iload_n 3, 1) := by decide +kernel
theorem dX2_weighs_42 : decode cX2_weighs 42 = .ok (.iload 4, 2) := by decide +kernel
theorem dX2_weighs_44 : decode cX2_weighs 44 = .ok (.invokevirtual 44, 3) := by decide +kernel
theorem dX2_weighs_47 : decode cX2_weighs 47 = .ok (.ifCond .eq 70, 3) := by decide +kernel
theorem dX2_weighs_50 : decode cX2_weighs 50 = .ok (.aload_n 0, 1) := by decide +kernel
theorem dX2_weighs_51 : decode cX2_weighs 51 = .ok (.dup, 1) := by decide +kernel
theorem dX2_weighs_52 : decode cX2_weighs 52 = .ok (.getfield 15, 3) := by decide +kernel
theorem dX2_weighs_55 : decode cX2_weighs 55 = .ok (.iconst 1, 1) := by decide +kernel
theorem dX2_weighs_56 : decode cX2_weighs 56 = .ok (.iadd, 1) := by decide +kernel
theorem dX2_weighs_57 : decode cX2_weighs 57 = .ok (.putfield 15, 3) := by decide +kernel
theorem dX2_weighs_60 : decode cX2_weighs 60 = .ok (.aload_n 0, 1) := by decide +kernel
theorem dX2_weighs_61 : decode cX2_weighs 61 = .ok (.dup, 1) := by decide +kernel
theorem dX2_weighs_62 : decode cX2_weighs 62 = .ok (.getfield 19, 3) := by decide +kernel
theorem dX2_weighs_65 : decode cX2_weighs 65 = .ok (.iload 4, 2) := by decide +kernel
theorem dX2_weighs_67 : decode cX2_weighs 67 = .ok (.iand, 1) := by decide +kernel
theorem dX2_weighs_68 : decode cX2_weighs 68 = .ok (.putfield 19, 3) := by decide +kernel
theorem dX2_weighs_71 : decode cX2_weighs 71 = .ok (.aload_n 0, 1) := by decide +kernel
theorem dX2_weighs_72 : decode cX2_weighs 72 = .ok (.dup, 1) := by decide +kernel
theorem dX2_weighs_73 : decode cX2_weighs 73 = .ok (.getfield 22, 3) := by decide +kernel
theorem dX2_weighs_76 : decode cX2_weighs 76 = .ok (.iload 4, 2) := by decide +kernel
theorem dX2_weighs_78 : decode cX2_weighs 78 = .ok (.ior, 1) := by decide +kernel
theorem dX2_weighs_79 : decode cX2_weighs 79 = .ok (.putfield 22, 3) := by decide +kernel
theorem dX2_weighs_82 : decode cX2_weighs 82 = .ok (.iconst 0, 1) := by decide +kernel
theorem dX2_weighs_83 : decode cX2_weighs 83 = .ok (.istore 5, 2) := by decide +kernel
theorem dX2_weighs_85 : decode cX2_weighs 85 = .ok (.iload 5, 2) := by decide +kernel
theorem dX2_weighs_87 : decode cX2_weighs 87 = .ok (.aload_n 1, 1) := by decide +kernel
theorem dX2_weighs_88 : decode cX2_weighs 88 = .ok (.getfield 48, 3) := by decide +kernel
theorem dX2_weighs_91 : decode cX2_weighs 91 = .ok (.if_icmp .ge 26, 3) := by decide +kernel
theorem dX2_weighs_94 : decode cX2_weighs 94 = .ok (.aload_n 0, 1) := by decide +kernel
theorem dX2_weighs_95 : decode cX2_weighs 95 = .ok (.getfield 25, 3) := by decide +kernel
theorem dX2_weighs_98 : decode cX2_weighs 98 = .ok (.iload 5, 2) := by decide +kernel
theorem dX2_weighs_100 : decode cX2_weighs 100 = .ok (.dup2, 1) := by decide +kernel
theorem dX2_weighs_101 : decode cX2_weighs 101 = .ok (.iaload, 1) := by decide +kernel
theorem dX2_weighs_102 : decode cX2_weighs 102 = .ok (.iload 4, 2) := by decide +kernel
theorem dX2_weighs_104 : decode cX2_weighs 104 = .ok (.iload 5, 2) := by decide +kernel
theorem dX2_weighs_106 : decode cX2_weighs 106 = .ok (.ishr, 1) := by decide +kernel
theorem dX2_weighs_107 : decode cX2_weighs 107 = .ok (.iconst 1, 1) := by decide +kernel
theorem dX2_weighs_108 : decode cX2_weighs 108 = .ok (.iand, 1) := by decide +kernel
theorem dX2_weighs_109 : decode cX2_weighs 109 = .ok (.iadd, 1) := by decide +kernel
theorem dX2_weighs_110 : decode cX2_weighs 110 = .ok (.iastore, 1) := by decide +kernel
theorem dX2_weighs_111 : decode cX2_weighs 111 = .ok (.iinc 5 1, 3) := by decide +kernel
theorem dX2_weighs_114 : decode cX2_weighs 114 = .ok (.goto (-29), 3) := by decide +kernel
theorem dX2_weighs_117 : decode cX2_weighs 117 = .ok (.iinc 4 1, 3) := by decide +kernel
theorem dX2_weighs_120 : decode cX2_weighs 120 = .ok (.goto (-91), 3) := by decide +kernel
theorem dX2_weighs_123 : decode cX2_weighs 123 = .ok (.return_, 1) := by decide +kernel
theorem dX2_agrees_0 : decode cX2_agrees 0 = .ok (.iconst 0, 1) := by decide +kernel
theorem dX2_agrees_1 : decode cX2_agrees 1 = .ok (.istore 5, 2) := by decide +kernel
theorem dX2_agrees_3 : decode cX2_agrees 3 = .ok (.iload 5, 2) := by decide +kernel
theorem dX2_agrees_5 : decode cX2_agrees 5 = .ok (.aload_n 1, 1) := by decide +kernel
theorem dX2_agrees_6 : decode cX2_agrees 6 = .ok (.getfield 48, 3) := by decide +kernel
theorem dX2_agrees_9 : decode cX2_agrees 9 = .ok (.if_icmp .ge 75, 3) := by decide +kernel
theorem dX2_agrees_12 : decode cX2_agrees 12 = .ok (.iload 4, 2) := by decide +kernel
theorem dX2_agrees_14 : decode cX2_agrees 14 = .ok (.iload 5, 2) := by decide +kernel
theorem dX2_agrees_16 : decode cX2_agrees 16 = .ok (.ishr, 1) := by decide +kernel
theorem dX2_agrees_17 : decode cX2_agrees 17 = .ok (.iconst 1, 1) := by decide +kernel
theorem dX2_agrees_18 : decode cX2_agrees 18 = .ok (.iand, 1) := by decide +kernel
theorem dX2_agrees_19 : decode cX2_agrees 19 = .ok (.iconst 1, 1) := by decide +kernel
theorem dX2_agrees_20 : decode cX2_agrees 20 = .ok (.if_icmp .ne 7, 3) := by decide +kernel
theorem dX2_agrees_23 : decode cX2_agrees 23 = .ok (.iconst 1, 1) := by decide +kernel
theorem dX2_agrees_24 : decode cX2_agrees 24 = .ok (.goto 4, 3) := by decide +kernel
theorem dX2_agrees_27 : decode cX2_agrees 27 = .ok (.iconst 0, 1) := by decide +kernel
theorem dX2_agrees_28 : decode cX2_agrees 28 = .ok (.istore 6, 2) := by decide +kernel
theorem dX2_agrees_30 : decode cX2_agrees 30 = .ok (.iload 6, 2) := by decide +kernel
theorem dX2_agrees_32 : decode cX2_agrees 32 = .ok (.ifCond .eq 14, 3) := by decide +kernel
theorem dX2_agrees_35 : decode cX2_agrees 35 = .ok (.aload_n 1, 1) := by decide +kernel
theorem dX2_agrees_36 : decode cX2_agrees 36 = .ok (.aload_n 2, 1) := by decide +kernel
theorem dX2_agrees_37 : decode cX2_agrees 37 = .ok (.iload_n 3, 1) := by decide +kernel
theorem dX2_agrees_38 : decode cX2_agrees 38 = .ok (.iload 5, 2) := by decide +kernel
theorem dX2_agrees_40 : decode cX2_agrees 40 = .ok (.invokestatic 51, 3) := by decide +kernel
theorem dX2_agrees_43 : decode cX2_agrees 43 = .ok (.goto 10, 3) := by decide +kernel
theorem dX2_agrees_46 : decode cX2_agrees 46 = .ok (.aload_n 2, 1) := by decide +kernel
theorem dX2_agrees_47 : decode cX2_agrees 47 = .ok (.getfield 55, 3) := by decide +kernel
theorem dX2_agrees_50 : decode cX2_agrees 50 = .ok (.iload 5, 2) := by decide +kernel
theorem dX2_agrees_52 : decode cX2_agrees 52 = .ok (.iaload, 1) := by decide +kernel
theorem dX2_agrees_53 : decode cX2_agrees 53 = .ok (.istore 7, 2) := by decide +kernel
theorem dX2_agrees_55 : decode cX2_agrees 55 = .ok (.aload_n 0, 1) := by decide +kernel
theorem dX2_agrees_56 : decode cX2_agrees 56 = .ok (.iload 5, 2) := by decide +kernel
theorem dX2_agrees_58 : decode cX2_agrees 58 = .ok (.invokevirtual 34, 3) := by decide +kernel
theorem dX2_agrees_61 : decode cX2_agrees 61 = .ok (.ifCond .eq 17, 3) := by decide +kernel
theorem dX2_agrees_64 : decode cX2_agrees 64 = .ok (.aload_n 0, 1) := by decide +kernel
theorem dX2_agrees_65 : decode cX2_agrees 65 = .ok (.getfield 9, 3) := by decide +kernel
theorem dX2_agrees_68 : decode cX2_agrees 68 = .ok (.iload 5, 2) := by decide +kernel
theorem dX2_agrees_70 : decode cX2_agrees 70 = .ok (.iaload, 1) := by decide +kernel
theorem dX2_agrees_71 : decode cX2_agrees 71 = .ok (.iload 7, 2) := by decide +kernel
theorem dX2_agrees_73 : decode cX2_agrees 73 = .ok (.if_icmp .eq 5, 3) := by decide +kernel
theorem dX2_agrees_76 : decode cX2_agrees 76 = .ok (.iconst 0, 1) := by decide +kernel
theorem dX2_agrees_77 : decode cX2_agrees 77 = .ok (.ireturn, 1) := by decide +kernel
theorem dX2_agrees_78 : decode cX2_agrees 78 = .ok (.iinc 5 1, 3) := by decide +kernel
theorem dX2_agrees_81 : decode cX2_agrees 81 = .ok (.goto (-78), 3) := by decide +kernel
theorem dX2_agrees_84 : decode cX2_agrees 84 = .ok (.iconst 1, 1) := by decide +kernel
theorem dX2_agrees_85 : decode cX2_agrees 85 = .ok (.ireturn, 1) := by decide +kernel
theorem dX2_fullAbroad_0 : decode cX2_fullAbroad 0 = .ok (.bipush 99, 2) := by decide +kernel
theorem dX2_fullAbroad_2 : decode cX2_fullAbroad 2 = .ok (.aload_n 1, 1) := by decide +kernel
theorem dX2_fullAbroad_3 : decode cX2_fullAbroad 3 = .ok (.getfield 55, 3) := by decide +kernel
theorem dX2_fullAbroad_6 : decode cX2_fullAbroad 6 = .ok (.iload_n 3, 1) := by decide +kernel
theorem dX2_fullAbroad_7 : decode cX2_fullAbroad 7 = .ok (.iaload, 1) := by decide +kernel
theorem dX2_fullAbroad_8 : decode cX2_fullAbroad 8 = .ok (.aload_n 0, 1) := by decide +kernel
theorem dX2_fullAbroad_9 : decode cX2_fullAbroad 9 = .ok (.iload_n 3, 1) := by decide +kernel
theorem dX2_fullAbroad_10 : decode cX2_fullAbroad 10 = .ok (.iload_n 2, 1) := by decide +kernel
theorem dX2_fullAbroad_11 : decode cX2_fullAbroad 11 = .ok (.invokevirtual 60, 3) := by decide +kernel
theorem dX2_fullAbroad_14 : decode cX2_fullAbroad 14 = .ok (.iadd, 1) := by decide +kernel
theorem dX2_fullAbroad_15 : decode cX2_fullAbroad 15 = .ok (.invokestatic 64, 3) := by decide +kernel
theorem dX2_fullAbroad_18 : decode cX2_fullAbroad 18 = .ok (.ireturn, 1) := by decide +kernel
theorem dX2_whomToAsk_0 : decode cX2_whomToAsk 0 = .ok (.iconst (-1), 1) := by decide +kernel
theorem dX2_whomToAsk_1 : decode cX2_whomToAsk 1 = .ok (.istore 4, 2) := by decide +kernel
theorem dX2_whomToAsk_3 : decode cX2_whomToAsk 3 = .ok (.aload_n 0, 1) := by decide +kernel
theorem dX2_whomToAsk_4 : decode cX2_whomToAsk 4 = .ok (.getfield 15, 3) := by decide +kernel
theorem dX2_whomToAsk_7 : decode cX2_whomToAsk 7 = .ok (.istore 5, 2) := by decide +kernel
theorem dX2_whomToAsk_9 : decode cX2_whomToAsk 9 = .ok (.iconst 0, 1) := by decide +kernel
theorem dX2_whomToAsk_10 : decode cX2_whomToAsk 10 = .ok (.istore 6, 2) := by decide +kernel
theorem dX2_whomToAsk_12 : decode cX2_whomToAsk 12 = .ok (.iload 6, 2) := by decide +kernel
theorem dX2_whomToAsk_14 : decode cX2_whomToAsk 14 = .ok (.aload_n 1, 1) := by decide +kernel
theorem dX2_whomToAsk_15 : decode cX2_whomToAsk 15 = .ok (.getfield 48, 3) := by decide +kernel
theorem dX2_whomToAsk_18 : decode cX2_whomToAsk 18 = .ok (.if_icmp .ge 94, 3) := by decide +kernel
theorem dX2_whomToAsk_21 : decode cX2_whomToAsk 21 = .ok (.aload_n 1, 1) := by decide +kernel
theorem dX2_whomToAsk_22 : decode cX2_whomToAsk 22 = .ok (.aload_n 2, 1) := by decide +kernel
theorem dX2_whomToAsk_23 : decode cX2_whomToAsk 23 = .ok (.iload_n 3, 1) := by decide +kernel
theorem dX2_whomToAsk_24 : decode cX2_whomToAsk 24 = .ok (.iload 6, 2) := by decide +kernel
theorem dX2_whomToAsk_26 : decode cX2_whomToAsk 26 = .ok (.invokestatic 51, 3) := by decide +kernel
theorem dX2_whomToAsk_29 : decode cX2_whomToAsk 29 = .ok (.aload_n 2, 1) := by decide +kernel
theorem dX2_whomToAsk_30 : decode cX2_whomToAsk 30 = .ok (.getfield 55, 3) := by decide +kernel
theorem dX2_whomToAsk_33 : decode cX2_whomToAsk 33 = .ok (.iload 6, 2) := by decide +kernel
theorem dX2_whomToAsk_35 : decode cX2_whomToAsk 35 = .ok (.iaload, 1) := by decide +kernel
theorem dX2_whomToAsk_36 : decode cX2_whomToAsk 36 = .ok (.if_icmp .eq 7, 3) := by decide +kernel
theorem dX2_whomToAsk_39 : decode cX2_whomToAsk 39 = .ok (.iconst 1, 1) := by decide +kernel
theorem dX2_whomToAsk_40 : decode cX2_whomToAsk 40 = .ok (.goto 4, 3) := by decide +kernel
theorem dX2_whomToAsk_43 : decode cX2_whomToAsk 43 = .ok (.iconst 0, 1) := by decide +kernel
theorem dX2_whomToAsk_44 : decode cX2_whomToAsk 44 = .ok (.istore 7, 2) := by decide +kernel
theorem dX2_whomToAsk_46 : decode cX2_whomToAsk 46 = .ok (.iload 7, 2) := by decide +kernel
theorem dX2_whomToAsk_48 : decode cX2_whomToAsk 48 = .ok (.ifCond .eq 28, 3) := by decide +kernel
theorem dX2_whomToAsk_51 : decode cX2_whomToAsk 51 = .ok (.aload_n 0, 1) := by decide +kernel
theorem dX2_whomToAsk_52 : decode cX2_whomToAsk 52 = .ok (.getfield 25, 3) := by decide +kernel
theorem dX2_whomToAsk_55 : decode cX2_whomToAsk 55 = .ok (.iload 6, 2) := by decide +kernel
theorem dX2_whomToAsk_57 : decode cX2_whomToAsk 57 = .ok (.iaload, 1) := by decide +kernel
theorem dX2_whomToAsk_58 : decode cX2_whomToAsk 58 = .ok (.aload_n 0, 1) := by decide +kernel
theorem dX2_whomToAsk_59 : decode cX2_whomToAsk 59 = .ok (.getfield 15, 3) := by decide +kernel
theorem dX2_whomToAsk_62 : decode cX2_whomToAsk 62 = .ok (.aload_n 0, 1) := by decide +kernel
theorem dX2_whomToAsk_63 : decode cX2_whomToAsk 63 = .ok (.getfield 25, 3) := by decide +kernel
theorem dX2_whomToAsk_66 : decode cX2_whomToAsk 66 = .ok (.iload 6, 2) := by decide +kernel
theorem dX2_whomToAsk_68 : decode cX2_whomToAsk 68 = .ok (.iaload, 1) := by decide +kernel
theorem dX2_whomToAsk_69 : decode cX2_whomToAsk 69 = .ok (.isub, 1) := by decide +kernel
theorem dX2_whomToAsk_70 : decode cX2_whomToAsk 70 = .ok (.invokestatic 69, 3) := by decide +kernel
theorem dX2_whomToAsk_73 : decode cX2_whomToAsk 73 = .ok (.goto 7, 3) := by decide +kernel
theorem dX2_whomToAsk_76 : decode cX2_whomToAsk 76 = .ok (.aload_n 0, 1) := by decide +kernel
theorem dX2_whomToAsk_77 : decode cX2_whomToAsk 77 = .ok (.getfield 15, 3) := by decide +kernel
theorem dX2_whomToAsk_80 : decode cX2_whomToAsk 80 = .ok (.istore 8, 2) := by decide +kernel
theorem dX2_whomToAsk_82 : decode cX2_whomToAsk 82 = .ok (.aload_n 0, 1) := by decide +kernel
theorem dX2_whomToAsk_83 : decode cX2_whomToAsk 83 = .ok (.iload 6, 2) := by decide +kernel
theorem dX2_whomToAsk_85 : decode cX2_whomToAsk 85 = .ok (.invokevirtual 34, 3) := by decide +kernel
theorem dX2_whomToAsk_88 : decode cX2_whomToAsk 88 = .ok (.ifCond .ne 18, 3) := by decide +kernel
theorem dX2_whomToAsk_91 : decode cX2_whomToAsk 91 = .ok (.iload 8, 2) := by decide +kernel
theorem dX2_whomToAsk_93 : decode cX2_whomToAsk 93 = .ok (.iload 5, 2) := by decide +kernel
theorem dX2_whomToAsk_95 : decode cX2_whomToAsk 95 = .ok (.if_icmp .ge 11, 3) := by decide +kernel
theorem dX2_whomToAsk_98 : decode cX2_whomToAsk 98 = .ok (.iload 8, 2) := by decide +kernel
theorem dX2_whomToAsk_100 : decode cX2_whomToAsk 100 = .ok (.istore 5, 2) := by decide +kernel
theorem dX2_whomToAsk_102 : decode cX2_whomToAsk 102 = .ok (.iload 6, 2) := by decide +kernel
theorem dX2_whomToAsk_104 : decode cX2_whomToAsk 104 = .ok (.istore 4, 2) := by decide +kernel
theorem dX2_whomToAsk_106 : decode cX2_whomToAsk 106 = .ok (.iinc 6 1, 3) := by decide +kernel
theorem dX2_whomToAsk_109 : decode cX2_whomToAsk 109 = .ok (.goto (-97), 3) := by decide +kernel
theorem dX2_whomToAsk_112 : decode cX2_whomToAsk 112 = .ok (.iload 4, 2) := by decide +kernel
theorem dX2_whomToAsk_114 : decode cX2_whomToAsk 114 = .ok (.ireturn, 1) := by decide +kernel
theorem dX3_init_0 : decode cX3_init 0 = .ok (.aload_n 0, 1) := by decide +kernel
theorem dX3_init_1 : decode cX3_init 1 = .ok (.invokespecial 3, 3) := by decide +kernel
theorem dX3_init_4 : decode cX3_init 4 = .ok (.aload_n 0, 1) := by decide +kernel
theorem dX3_init_5 : decode cX3_init 5 = .ok (.sipush 1000, 3) := by decide +kernel
theorem dX3_init_8 : decode cX3_init 8 = .ok (.newarray .int, 2) := by decide +kernel
theorem dX3_init_10 : decode cX3_init 10 = .ok (.putfield 9, 3) := by decide +kernel
theorem dX3_init_13 : decode cX3_init 13 = .ok (.aload_n 0, 1) := by decide +kernel
theorem dX3_init_14 : decode cX3_init 14 = .ok (.iconst 0, 1) := by decide +kernel
theorem dX3_init_15 : decode cX3_init 15 = .ok (.putfield 15, 3) := by decide +kernel
theorem dX3_init_18 : decode cX3_init 18 = .ok (.aload_n 0, 1) := by decide +kernel
theorem dX3_init_19 : decode cX3_init 19 = .ok (.bipush 40, 2) := by decide +kernel
theorem dX3_init_21 : decode cX3_init 21 = .ok (.newarray .int, 2) := by decide +kernel
theorem dX3_init_23 : decode cX3_init 23 = .ok (.putfield 19, 3) := by decide +kernel
theorem dX3_init_26 : decode cX3_init 26 = .ok (.aload_n 0, 1) := by decide +kernel
theorem dX3_init_27 : decode cX3_init 27 = .ok (.iconst 0, 1) := by decide +kernel
theorem dX3_init_28 : decode cX3_init 28 = .ok (.putfield 22, 3) := by decide +kernel
theorem dX3_init_31 : decode cX3_init 31 = .ok (.aload_n 0, 1) := by decide +kernel
theorem dX3_init_32 : decode cX3_init 32 = .ok (.iconst 0, 1) := by decide +kernel
theorem dX3_init_33 : decode cX3_init 33 = .ok (.putfield 25, 3) := by decide +kernel
theorem dX3_init_36 : decode cX3_init 36 = .ok (.aload_n 0, 1) := by decide +kernel
theorem dX3_init_37 : decode cX3_init 37 = .ok (.iconst 0, 1) := by decide +kernel
theorem dX3_init_38 : decode cX3_init 38 = .ok (.putfield 28, 3) := by decide +kernel
theorem dX3_init_41 : decode cX3_init 41 = .ok (.aload_n 0, 1) := by decide +kernel
theorem dX3_init_42 : decode cX3_init 42 = .ok (.bipush 40, 2) := by decide +kernel
theorem dX3_init_44 : decode cX3_init 44 = .ok (.newarray .int, 2) := by decide +kernel
theorem dX3_init_46 : decode cX3_init 46 = .ok (.putfield 31, 3) := by decide +kernel
theorem dX3_init_49 : decode cX3_init 49 = .ok (.aload_n 0, 1) := by decide +kernel
theorem dX3_init_50 : decode cX3_init 50 = .ok (.iconst 5, 1) := by decide +kernel
theorem dX3_init_51 : decode cX3_init 51 = .ok (.newarray .int, 2) := by decide +kernel
theorem dX3_init_53 : decode cX3_init 53 = .ok (.putfield 34, 3) := by decide +kernel
theorem dX3_init_56 : decode cX3_init 56 = .ok (.return_, 1) := by decide +kernel
theorem dX3_becomesUsual_0 : decode cX3_becomesUsual 0 = .ok (.aload_n 0, 1) := by decide +kernel
theorem dX3_becomesUsual_1 : decode cX3_becomesUsual 1 = .ok (.iconst 0, 1) := by decide +kernel
theorem dX3_becomesUsual_2 : decode cX3_becomesUsual 2 = .ok (.putfield 15, 3) := by decide +kernel
theorem dX3_becomesUsual_5 : decode cX3_becomesUsual 5 = .ok (.aload_n 0, 1) := by decide +kernel
theorem dX3_becomesUsual_6 : decode cX3_becomesUsual 6 = .ok (.iconst (-1), 1) := by decide +kernel
theorem dX3_becomesUsual_7 : decode cX3_becomesUsual 7 = .ok (.invokevirtual 37, 3) := by decide +kernel
theorem dX3_becomesUsual_10 : decode cX3_becomesUsual 10 = .ok (.aload_n 0, 1) := by decide +kernel
theorem dX3_becomesUsual_11 : decode cX3_becomesUsual 11 = .ok (.bipush (-2), 2) := by decide +kernel
theorem dX3_becomesUsual_13 : decode cX3_becomesUsual 13 = .ok (.invokevirtual 37, 3) := by decide +kernel
theorem dX3_becomesUsual_16 : decode cX3_becomesUsual 16 = .ok (.aload_n 0, 1) := by decide +kernel
theorem dX3_becomesUsual_17 : decode cX3_becomesUsual 17 = .ok (.bipush (-9), 2) := by decide +kernel
theorem dX3_becomesUsual_19 : decode cX3_becomesUsual 19 = .ok (.invokevirtual 37, 3) := by decide +kernel
theorem dX3_becomesUsual_22 : decode cX3_becomesUsual 22 = .ok (.aload_n 0, 1) := by decide +kernel
theorem dX3_becomesUsual_23 : decode cX3_becomesUsual 23 = .ok (.bipush (-3), 2) := by decide +kernel
theorem dX3_becomesUsual_25 : decode cX3_becomesUsual 25 = .ok (.invokevirtual 37, 3) := by decide +kernel
theorem dX3_becomesUsual_28 : decode cX3_becomesUsual 28 = .ok (.aload_n 0, 1) := by decide +kernel
theorem dX3_becomesUsual_29 : decode cX3_becomesUsual 29 = .ok (.bipush (-9), 2) := by decide +kernel
theorem dX3_becomesUsual_31 : decode cX3_becomesUsual 31 = .ok (.invokevirtual 37, 3) := by decide +kernel
theorem dX3_becomesUsual_34 : decode cX3_becomesUsual 34 = .ok (.return_, 1) := by decide +kernel
theorem dX3_reads_0 : decode cX3_reads 0 = .ok (.aload_n 0, 1) := by decide +kernel
theorem dX3_reads_1 : decode cX3_reads 1 = .ok (.iconst 0, 1) := by decide +kernel
theorem dX3_reads_2 : decode cX3_reads 2 = .ok (.putfield 15, 3) := by decide +kernel
theorem dX3_reads_5 : decode cX3_reads 5 = .ok (.aload_n 0, 1) := by decide +kernel
theorem dX3_reads_6 : decode cX3_reads 6 = .ok (.iconst 0, 1) := by decide +kernel
theorem dX3_reads_7 : decode cX3_reads 7 = .ok (.putfield 22, 3) := by decide +kernel
theorem dX3_reads_10 : decode cX3_reads 10 = .ok (.aload_n 0, 1) := by decide +kernel
theorem dX3_reads_11 : decode cX3_reads 11 = .ok (.iconst 0, 1) := by decide +kernel
theorem dX3_reads_12 : decode cX3_reads 12 = .ok (.putfield 25, 3) := by decide +kernel
theorem dX3_reads_15 : decode cX3_reads 15 = .ok (.aload_n 0, 1) := by decide +kernel
theorem dX3_reads_16 : decode cX3_reads 16 = .ok (.iconst 0, 1) := by decide +kernel
theorem dX3_reads_17 : decode cX3_reads 17 = .ok (.putfield 28, 3) := by decide +kernel
theorem dX3_reads_20 : decode cX3_reads 20 = .ok (.iconst 1, 1) := by decide +kernel
theorem dX3_reads_21 : decode cX3_reads 21 = .ok (.istore_n 2, 1) := by decide +kernel
theorem dX3_reads_22 : decode cX3_reads 22 = .ok (.iconst 0, 1) := by decide +kernel
theorem dX3_reads_23 : decode cX3_reads 23 = .ok (.istore_n 3, 1) := by decide +kernel
theorem dX3_reads_24 : decode cX3_reads 24 = .ok (.iload_n 3, 1) := by decide +kernel
theorem dX3_reads_25 : decode cX3_reads 25 = .ok (.sipush 1000, 3) := by decide +kernel
theorem dX3_reads_28 : decode cX3_reads 28 = .ok (.if_icmp .gt 144, 3) := by decide +kernel
theorem dX3_reads_31 : decode cX3_reads 31 = .ok (.aload_n 1, 1) := by decide +kernel
theorem dX3_reads_32 : decode cX3_reads 32 = .ok (.invokevirtual 41, 3) := by decide +kernel
theorem dX3_reads_35 : decode cX3_reads 35 = .ok (.iload_n 2, 1) := by decide +kernel
theorem dX3_reads_36 : decode cX3_reads 36 = .ok (.ifCond .eq 65, 3) := by decide +kernel
theorem dX3_reads_39 : decode cX3_reads 39 = .ok (.aload_n 1, 1) := by decide +kernel
theorem dX3_reads_40 : decode cX3_reads 40 = .ok (.invokestatic 46, 3) := by decide +kernel
theorem dX3_reads_43 : decode cX3_reads 43 = .ok (.istore 4, 2) := by decide +kernel
theorem dX3_reads_45 : decode cX3_reads 45 = .ok (.iload 4, 2) := by decide +kernel
theorem dX3_reads_47 : decode cX3_reads 47 = .ok (.bipush (-15), 2) := by decide +kernel
theorem dX3_reads_49 : decode cX3_reads 49 = .ok (.if_icmp .ne 9, 3) := by decide +kernel
theorem dX3_reads_52 : decode cX3_reads 52 = .ok (.aload_n 1, 1) := by decide +kernel
theorem dX3_reads_53 : decode cX3_reads 53 = .ok (.iconst 1, 1) := by decide +kernel
theorem dX3_reads_54 : decode cX3_reads 54 = .ok (.invokevirtual 50, 3) := by decide +kernel
theorem dX3_reads_57 : decode cX3_reads 57 = .ok (.ireturn, 1) := by decide +kernel
theorem dX3_reads_58 : decode cX3_reads 58 = .ok (.aload_n 0, 1) := by decide +kernel
theorem dX3_reads_59 : decode cX3_reads 59 = .ok (.getfield 25, 3) := by decide +kernel
theorem dX3_reads_62 : decode cX3_reads 62 = .ok (.iconst 5, 1) := by decide +kernel
theorem dX3_reads_63 : decode cX3_reads 63 = .ok (.if_icmp .lt 9, 3) := by decide +kernel
theorem dX3_reads_66 : decode cX3_reads 66 = .ok (.aload_n 1, 1) := by decide +kernel
theorem dX3_reads_67 : decode cX3_reads 67 = .ok (.iconst 5, 1) := by decide +kernel
theorem dX3_reads_68 : decode cX3_reads 68 = .ok (.invokevirtual 50, 3) := by decide +kernel
theorem dX3_reads_71 : decode cX3_reads 71 = .ok (.ireturn, 1) := by decide +kernel
theorem dX3_reads_72 : decode cX3_reads 72 = .ok (.iload 4, 2) := by decide +kernel
theorem dX3_reads_74 : decode cX3_reads 74 = .ok (.bipush (-6), 2) := by decide +kernel
theorem dX3_reads_76 : decode cX3_reads 76 = .ok (.if_icmp .eq 10, 3) := by decide +kernel
theorem dX3_reads_79 : decode cX3_reads 79 = .ok (.iload 4, 2) := by decide +kernel
theorem dX3_reads_81 : decode cX3_reads 81 = .ok (.bipush (-14), 2) := by decide +kernel
theorem dX3_reads_83 : decode cX3_reads 83 = .ok (.if_icmp .ne 7, 3) := by decide +kernel
theorem dX3_reads_86 : decode cX3_reads 86 = .ok (.iconst 1, 1) := by decide +kernel
theorem dX3_reads_87 : decode cX3_reads 87 = .ok (.goto 4, 3) := by decide +kernel
theorem dX3_reads_90 : decode cX3_reads 90 = .ok (.iconst 0, 1) := by decide +kernel
theorem dX3_reads_91 : decode cX3_reads 91 = .ok (.istore_n 2, 1) := by decide +kernel
theorem dX3_reads_92 : decode cX3_reads 92 = .ok (.aload_n 0, 1) := by decide +kernel
theorem dX3_reads_93 : decode cX3_reads 93 = .ok (.iload 4, 2) := by decide +kernel
theorem dX3_reads_95 : decode cX3_reads 95 = .ok (.invokevirtual 54, 3) := by decide +kernel
theorem dX3_reads_98 : decode cX3_reads 98 = .ok (.goto 68, 3) := by decide +kernel
theorem dX3_reads_101 : decode cX3_reads 101 = .ok (.aload_n 1, 1) := by decide +kernel
theorem dX3_reads_102 : decode cX3_reads 102 = .ok (.bipush 59, 2) := by decide +kernel
theorem dX3_reads_104 : decode cX3_reads 104 = .ok (.invokevirtual 57, 3) := by decide +kernel
theorem dX3_reads_107 : decode cX3_reads 107 = .ok (.ifCond .eq 17, 3) := by decide +kernel
theorem dX3_reads_110 : decode cX3_reads 110 = .ok (.aload_n 0, 1) := by decide +kernel
theorem dX3_reads_111 : decode cX3_reads 111 = .ok (.getfield 28, 3) := by decide +kernel
theorem dX3_reads_114 : decode cX3_reads 114 = .ok (.ifCond .ne 10, 3) := by decide +kernel
theorem dX3_reads_117 : decode cX3_reads 117 = .ok (.aload_n 0, 1) := by decide +kernel
theorem dX3_reads_118 : decode cX3_reads 118 = .ok (.iconst 0, 1) := by decide +kernel
theorem dX3_reads_119 : decode cX3_reads 119 = .ok (.invokevirtual 61, 3) := by decide +kernel
theorem dX3_reads_122 : decode cX3_reads 122 = .ok (.iconst 1, 1) := by decide +kernel
theorem dX3_reads_123 : decode cX3_reads 123 = .ok (.ireturn, 1) := by decide +kernel
theorem dX3_reads_124 : decode cX3_reads 124 = .ok (.aload_n 1, 1) := by decide +kernel
theorem dX3_reads_125 : decode cX3_reads 125 = .ok (.bipush 41, 2) := by decide +kernel
theorem dX3_reads_127 : decode cX3_reads 127 = .ok (.invokevirtual 57, 3) := by decide +kernel
theorem dX3_reads_130 : decode cX3_reads 130 = .ok (.ifCond .eq 17, 3) := by decide +kernel
theorem dX3_reads_133 : decode cX3_reads 133 = .ok (.aload_n 0, 1) := by decide +kernel
theorem dX3_reads_134 : decode cX3_reads 134 = .ok (.getfield 28, 3) := by decide +kernel
theorem dX3_reads_137 : decode cX3_reads 137 = .ok (.ifCond .le 10, 3) := by decide +kernel
theorem dX3_reads_140 : decode cX3_reads 140 = .ok (.aload_n 0, 1) := by decide +kernel
theorem dX3_reads_141 : decode cX3_reads 141 = .ok (.invokevirtual 64, 3) := by decide +kernel
theorem dX3_reads_144 : decode cX3_reads 144 = .ok (.goto 22, 3) := by decide +kernel
theorem dX3_reads_147 : decode cX3_reads 147 = .ok (.aload_n 0, 1) := by decide +kernel
theorem dX3_reads_148 : decode cX3_reads 148 = .ok (.aload_n 1, 1) := by decide +kernel
theorem dX3_reads_149 : decode cX3_reads 149 = .ok (.invokestatic 67, 3) := by decide +kernel
theorem dX3_reads_152 : decode cX3_reads 152 = .ok (.invokevirtual 70, 3) := by decide +kernel
theorem dX3_reads_155 : decode cX3_reads 155 = .ok (.ifCond .ne 9, 3) := by decide +kernel
theorem dX3_reads_158 : decode cX3_reads 158 = .ok (.aload_n 1, 1) := by decide +kernel
theorem dX3_reads_159 : decode cX3_reads 159 = .ok (.iconst 1, 1) := by decide +kernel
theorem dX3_reads_160 : decode cX3_reads 160 = .ok (.invokevirtual 50, 3) := by decide +kernel
theorem dX3_reads_163 : decode cX3_reads 163 = .ok (.ireturn, 1) := by decide +kernel
theorem dX3_reads_164 : decode cX3_reads 164 = .ok (.iconst 1, 1) := by decide +kernel
theorem dX3_reads_165 : decode cX3_reads 165 = .ok (.istore_n 2, 1) := by decide +kernel
theorem dX3_reads_166 : decode cX3_reads 166 = .ok (.iinc 3 1, 3) := by decide +kernel
theorem dX3_reads_169 : decode cX3_reads 169 = .ok (.goto (-145), 3) := by decide +kernel
theorem dX3_reads_172 : decode cX3_reads 172 = .ok (.aload_n 1, 1) := by decide +kernel
theorem dX3_reads_173 : decode cX3_reads 173 = .ok (.iconst 1, 1) := by decide +kernel
theorem dX3_reads_174 : decode cX3_reads 174 = .ok (.invokevirtual 50, 3) := by decide +kernel
theorem dX3_reads_177 : decode cX3_reads 177 = .ok (.ireturn, 1) := by decide +kernel
theorem dX3_partOn_0 : decode cX3_partOn 0 = .ok (.aload_n 0, 1) := by decide +kernel
theorem dX3_partOn_1 : decode cX3_partOn 1 = .ok (.getfield 73, 3) := by decide +kernel
theorem dX3_partOn_4 : decode cX3_partOn 4 = .ok (.iconst 2, 1) := by decide +kernel
theorem dX3_partOn_5 : decode cX3_partOn 5 = .ok (.if_icmp .ne 8, 3) := by decide +kernel
theorem dX3_partOn_8 : decode cX3_partOn 8 = .ok (.aload_n 0, 1) := by decide +kernel
theorem dX3_partOn_9 : decode cX3_partOn 9 = .ok (.getfield 76, 3) := by decide +kernel
theorem dX3_partOn_12 : decode cX3_partOn 12 = .ok (.ireturn, 1) := by decide +kernel
theorem dX3_partOn_13 : decode cX3_partOn 13 = .ok (.aload_n 0, 1) := by decide +kernel
theorem dX3_partOn_14 : decode cX3_partOn 14 = .ok (.bipush 40, 2) := by decide +kernel
theorem dX3_partOn_16 : decode cX3_partOn 16 = .ok (.invokevirtual 57, 3) := by decide +kernel
theorem dX3_partOn_19 : decode cX3_partOn 19 = .ok (.ifCond .eq 6, 3) := by decide +kernel
theorem dX3_partOn_22 : decode cX3_partOn 22 = .ok (.bipush (-14), 2) := by decide +kernel
theorem dX3_partOn_24 : decode cX3_partOn 24 = .ok (.ireturn, 1) := by decide +kernel
theorem dX3_partOn_25 : decode cX3_partOn 25 = .ok (.aload_n 0, 1) := by decide +kernel
theorem dX3_partOn_26 : decode cX3_partOn 26 = .ok (.ldc 79, 2) := by decide +kernel
theorem dX3_partOn_28 : decode cX3_partOn 28 = .ok (.invokevirtual 81, 3) := by decide +kernel
theorem dX3_partOn_31 : decode cX3_partOn 31 = .ok (.ifCond .eq 6, 3) := by decide +kernel
theorem dX3_partOn_34 : decode cX3_partOn 34 = .ok (.bipush (-6), 2) := by decide +kernel
theorem dX3_partOn_36 : decode cX3_partOn 36 = .ok (.ireturn, 1) := by decide +kernel
theorem dX3_partOn_37 : decode cX3_partOn 37 = .ok (.aload_n 0, 1) := by decide +kernel
theorem dX3_partOn_38 : decode cX3_partOn 38 = .ok (.ldc 85, 2) := by decide +kernel
theorem dX3_partOn_40 : decode cX3_partOn 40 = .ok (.invokevirtual 81, 3) := by decide +kernel
theorem dX3_partOn_43 : decode cX3_partOn 43 = .ok (.ifCond .eq 5, 3) := by decide +kernel
theorem dX3_partOn_46 : decode cX3_partOn 46 = .ok (.iconst (-1), 1) := by decide +kernel
theorem dX3_partOn_47 : decode cX3_partOn 47 = .ok (.ireturn, 1) := by decide +kernel
theorem dX3_partOn_48 : decode cX3_partOn 48 = .ok (.aload_n 0, 1) := by decide +kernel
theorem dX3_partOn_49 : decode cX3_partOn 49 = .ok (.ldc 87, 2) := by decide +kernel
theorem dX3_partOn_51 : decode cX3_partOn 51 = .ok (.invokevirtual 81, 3) := by decide +kernel
theorem dX3_partOn_54 : decode cX3_partOn 54 = .ok (.ifCond .eq 6, 3) := by decide +kernel
theorem dX3_partOn_57 : decode cX3_partOn 57 = .ok (.bipush (-2), 2) := by decide +kernel
theorem dX3_partOn_59 : decode cX3_partOn 59 = .ok (.ireturn, 1) := by decide +kernel
theorem dX3_partOn_60 : decode cX3_partOn 60 = .ok (.aload_n 0, 1) := by decide +kernel
theorem dX3_partOn_61 : decode cX3_partOn 61 = .ok (.ldc 89, 2) := by decide +kernel
theorem dX3_partOn_63 : decode cX3_partOn 63 = .ok (.invokevirtual 81, 3) := by decide +kernel
theorem dX3_partOn_66 : decode cX3_partOn 66 = .ok (.ifCond .eq 6, 3) := by decide +kernel
theorem dX3_partOn_69 : decode cX3_partOn 69 = .ok (.bipush (-3), 2) := by decide +kernel
theorem dX3_partOn_71 : decode cX3_partOn 71 = .ok (.ireturn, 1) := by decide +kernel
theorem dX3_partOn_72 : decode cX3_partOn 72 = .ok (.aload_n 0, 1) := by decide +kernel
theorem dX3_partOn_73 : decode cX3_partOn 73 = .ok (.ldc 91, 2) := by decide +kernel
theorem dX3_partOn_75 : decode cX3_partOn 75 = .ok (.invokevirtual 81, 3) := by decide +kernel
theorem dX3_partOn_78 : decode cX3_partOn 78 = .ok (.ifCond .eq 6, 3) := by decide +kernel
theorem dX3_partOn_81 : decode cX3_partOn 81 = .ok (.bipush (-4), 2) := by decide +kernel
theorem dX3_partOn_83 : decode cX3_partOn 83 = .ok (.ireturn, 1) := by decide +kernel
theorem dX3_partOn_84 : decode cX3_partOn 84 = .ok (.aload_n 0, 1) := by decide +kernel
theorem dX3_partOn_85 : decode cX3_partOn 85 = .ok (.ldc 93, 2) := by decide +kernel
theorem dX3_partOn_87 : decode cX3_partOn 87 = .ok (.invokevirtual 81, 3) := by decide +kernel
theorem dX3_partOn_90 : decode cX3_partOn 90 = .ok (.ifCond .eq 8, 3) := by decide +kernel
theorem dX3_partOn_93 : decode cX3_partOn 93 = .ok (.bipush (-5), 2) := by decide +kernel
theorem dX3_partOn_95 : decode cX3_partOn 95 = .ok (.goto 5, 3) := by decide +kernel
theorem dX3_partOn_98 : decode cX3_partOn 98 = .ok (.bipush (-15), 2) := by decide +kernel
theorem dX3_partOn_100 : decode cX3_partOn 100 = .ok (.ireturn, 1) := by decide +kernel
theorem dX3_jointOn_0 : decode cX3_jointOn 0 = .ok (.aload_n 0, 1) := by decide +kernel
theorem dX3_jointOn_1 : decode cX3_jointOn 1 = .ok (.ldc 95, 2) := by decide +kernel
theorem dX3_jointOn_3 : decode cX3_jointOn 3 = .ok (.invokevirtual 81, 3) := by decide +kernel
theorem dX3_jointOn_6 : decode cX3_jointOn 6 = .ok (.ifCond .eq 6, 3) := by decide +kernel
theorem dX3_jointOn_9 : decode cX3_jointOn 9 = .ok (.bipush (-12), 2) := by decide +kernel
theorem dX3_jointOn_11 : decode cX3_jointOn 11 = .ok (.ireturn, 1) := by decide +kernel
theorem dX3_jointOn_12 : decode cX3_jointOn 12 = .ok (.aload_n 0, 1) := by decide +kernel
theorem dX3_jointOn_13 : decode cX3_jointOn 13 = .ok (.ldc 97, 2) := by decide +kernel
theorem dX3_jointOn_15 : decode cX3_jointOn 15 = .ok (.invokevirtual 81, 3) := by decide +kernel
theorem dX3_jointOn_18 : decode cX3_jointOn 18 = .ok (.ifCond .eq 6, 3) := by decide +kernel
theorem dX3_jointOn_21 : decode cX3_jointOn 21 = .ok (.bipush (-13), 2) := by decide +kernel
theorem dX3_jointOn_23 : decode cX3_jointOn 23 = .ok (.ireturn, 1) := by decide +kernel
theorem dX3_jointOn_24 : decode cX3_jointOn 24 = .ok (.aload_n 0, 1) := by decide +kernel
theorem dX3_jointOn_25 : decode cX3_jointOn 25 = .ok (.getfield 73, 3) := by decide +kernel
theorem dX3_jointOn_28 : decode cX3_jointOn 28 = .ok (.iconst 3, 1) := by decide +kernel
theorem dX3_jointOn_29 : decode cX3_jointOn 29 = .ok (.if_icmp .eq 6, 3) := by decide +kernel
theorem dX3_jointOn_32 : decode cX3_jointOn 32 = .ok (.bipush (-15), 2) := by decide +kernel
theorem dX3_jointOn_34 : decode cX3_jointOn 34 = .ok (.ireturn, 1) := by decide +kernel
theorem dX3_jointOn_35 : decode cX3_jointOn 35 = .ok (.aload_n 0, 1) := by decide +kernel
theorem dX3_jointOn_36 : decode cX3_jointOn 36 = .ok (.getfield 99, 3) := by decide +kernel
theorem dX3_jointOn_39 : decode cX3_jointOn 39 = .ok (.lookupswitch 64 #[(42, 61), (43, 55), (45, 58), (60, 49), (61, 52)], 49) := by decide +kernel
theorem dX3_jointOn_88 : decode cX3_jointOn 88 = .ok (.bipush (-10), 2) := by decide +kernel
theorem dX3_jointOn_90 : decode cX3_jointOn 90 = .ok (.ireturn, 1) := by decide +kernel
theorem dX3_jointOn_91 : decode cX3_jointOn 91 = .ok (.bipush (-11), 2) := by decide +kernel
theorem dX3_jointOn_93 : decode cX3_jointOn 93 = .ok (.ireturn, 1) := by decide +kernel
theorem dX3_jointOn_94 : decode cX3_jointOn 94 = .ok (.bipush (-8), 2) := by decide +kernel
theorem dX3_jointOn_96 : decode cX3_jointOn 96 = .ok (.ireturn, 1) := by decide +kernel
theorem dX3_jointOn_97 : decode cX3_jointOn 97 = .ok (.bipush (-9), 2) := by decide +kernel
theorem dX3_jointOn_99 : decode cX3_jointOn 99 = .ok (.ireturn, 1) := by decide +kernel
theorem dX3_jointOn_100 : decode cX3_jointOn 100 = .ok (.bipush (-7), 2) := by decide +kernel
theorem dX3_jointOn_102 : decode cX3_jointOn 102 = .ok (.ireturn, 1) := by decide +kernel
theorem dX3_jointOn_103 : decode cX3_jointOn 103 = .ok (.bipush (-15), 2) := by decide +kernel
theorem dX3_jointOn_105 : decode cX3_jointOn 105 = .ok (.ireturn, 1) := by decide +kernel
theorem dX3_bindingOf_0 : decode cX3_bindingOf 0 = .ok (.iload_n 0, 1) := by decide +kernel
theorem dX3_bindingOf_1 : decode cX3_bindingOf 1 = .ok (.tableswitch 51 (-13) (-7) #[43, 43, 45, 45, 47, 47, 49], 43) := by decide +kernel
theorem dX3_bindingOf_44 : decode cX3_bindingOf 44 = .ok (.iconst 1, 1) := by decide +kernel
theorem dX3_bindingOf_45 : decode cX3_bindingOf 45 = .ok (.ireturn, 1) := by decide +kernel
theorem dX3_bindingOf_46 : decode cX3_bindingOf 46 = .ok (.iconst 2, 1) := by decide +kernel
theorem dX3_bindingOf_47 : decode cX3_bindingOf 47 = .ok (.ireturn, 1) := by decide +kernel
theorem dX3_bindingOf_48 : decode cX3_bindingOf 48 = .ok (.iconst 3, 1) := by decide +kernel
theorem dX3_bindingOf_49 : decode cX3_bindingOf 49 = .ok (.ireturn, 1) := by decide +kernel
theorem dX3_bindingOf_50 : decode cX3_bindingOf 50 = .ok (.iconst 4, 1) := by decide +kernel
theorem dX3_bindingOf_51 : decode cX3_bindingOf 51 = .ok (.ireturn, 1) := by decide +kernel
theorem dX3_bindingOf_52 : decode cX3_bindingOf 52 = .ok (.iconst 0, 1) := by decide +kernel
theorem dX3_bindingOf_53 : decode cX3_bindingOf 53 = .ok (.ireturn, 1) := by decide +kernel
theorem dX3_takesPart_0 : decode cX3_takesPart 0 = .ok (.iload_n 1, 1) := by decide +kernel
theorem dX3_takesPart_1 : decode cX3_takesPart 1 = .ok (.bipush (-6), 2) := by decide +kernel
theorem dX3_takesPart_3 : decode cX3_takesPart 3 = .ok (.if_icmp .eq 9, 3) := by decide +kernel
theorem dX3_takesPart_6 : decode cX3_takesPart 6 = .ok (.iload_n 1, 1) := by decide +kernel
theorem dX3_takesPart_7 : decode cX3_takesPart 7 = .ok (.bipush (-14), 2) := by decide +kernel
theorem dX3_takesPart_9 : decode cX3_takesPart 9 = .ok (.if_icmp .ne 41, 3) := by decide +kernel
theorem dX3_takesPart_12 : decode cX3_takesPart 12 = .ok (.aload_n 0, 1) := by decide +kernel
theorem dX3_takesPart_13 : decode cX3_takesPart 13 = .ok (.dup, 1) := by decide +kernel
theorem dX3_takesPart_14 : decode cX3_takesPart 14 = .ok (.getfield 25, 3) := by decide +kernel
theorem dX3_takesPart_17 : decode cX3_takesPart 17 = .ok (.iconst 1, 1) := by decide +kernel
theorem dX3_takesPart_18 : decode cX3_takesPart 18 = .ok (.iadd, 1) := by decide +kernel
theorem dX3_takesPart_19 : decode cX3_takesPart 19 = .ok (.putfield 25, 3) := by decide +kernel
theorem dX3_takesPart_22 : decode cX3_takesPart 22 = .ok (.aload_n 0, 1) := by decide +kernel
theorem dX3_takesPart_23 : decode cX3_takesPart 23 = .ok (.dup, 1) := by decide +kernel
theorem dX3_takesPart_24 : decode cX3_takesPart 24 = .ok (.getfield 28, 3) := by decide +kernel
theorem dX3_takesPart_27 : decode cX3_takesPart 27 = .ok (.iload_n 1, 1) := by decide +kernel
theorem dX3_takesPart_28 : decode cX3_takesPart 28 = .ok (.bipush (-14), 2) := by decide +kernel
theorem dX3_takesPart_30 : decode cX3_takesPart 30 = .ok (.if_icmp .ne 7, 3) := by decide +kernel
theorem dX3_takesPart_33 : decode cX3_takesPart 33 = .ok (.iconst 1, 1) := by decide +kernel
theorem dX3_takesPart_34 : decode cX3_takesPart 34 = .ok (.goto 4, 3) := by decide +kernel
theorem dX3_takesPart_37 : decode cX3_takesPart 37 = .ok (.iconst 0, 1) := by decide +kernel
theorem dX3_takesPart_38 : decode cX3_takesPart 38 = .ok (.iadd, 1) := by decide +kernel
theorem dX3_takesPart_39 : decode cX3_takesPart 39 = .ok (.putfield 28, 3) := by decide +kernel
theorem dX3_takesPart_42 : decode cX3_takesPart 42 = .ok (.aload_n 0, 1) := by decide +kernel
theorem dX3_takesPart_43 : decode cX3_takesPart 43 = .ok (.iload_n 1, 1) := by decide +kernel
theorem dX3_takesPart_44 : decode cX3_takesPart 44 = .ok (.invokevirtual 103, 3) := by decide +kernel
theorem dX3_takesPart_47 : decode cX3_takesPart 47 = .ok (.goto 12, 3) := by decide +kernel
theorem dX3_takesPart_50 : decode cX3_takesPart 50 = .ok (.aload_n 0, 1) := by decide +kernel
theorem dX3_takesPart_51 : decode cX3_takesPart 51 = .ok (.iload_n 1, 1) := by decide +kernel
theorem dX3_takesPart_52 : decode cX3_takesPart 52 = .ok (.invokevirtual 37, 3) := by decide +kernel
theorem dX3_takesPart_55 : decode cX3_takesPart 55 = .ok (.aload_n 0, 1) := by decide +kernel
theorem dX3_takesPart_56 : decode cX3_takesPart 56 = .ok (.invokevirtual 106, 3) := by decide +kernel
theorem dX3_takesPart_59 : decode cX3_takesPart 59 = .ok (.return_, 1) := by decide +kernel
theorem dX3_takesJoint_0 : decode cX3_takesJoint 0 = .ok (.iload_n 1, 1) := by decide +kernel
theorem dX3_takesJoint_1 : decode cX3_takesJoint 1 = .ok (.invokestatic 109, 3) := by decide +kernel
theorem dX3_takesJoint_4 : decode cX3_takesJoint 4 = .ok (.istore_n 2, 1) := by decide +kernel
theorem dX3_takesJoint_5 : decode cX3_takesJoint 5 = .ok (.iload_n 2, 1) := by decide +kernel
theorem dX3_takesJoint_6 : decode cX3_takesJoint 6 = .ok (.ifCond .ne 5, 3) := by decide +kernel
theorem dX3_takesJoint_9 : decode cX3_takesJoint 9 = .ok (.iconst 0, 1) := by decide +kernel
theorem dX3_takesJoint_10 : decode cX3_takesJoint 10 = .ok (.ireturn, 1) := by decide +kernel
theorem dX3_takesJoint_11 : decode cX3_takesJoint 11 = .ok (.iload_n 2, 1) := by decide +kernel
theorem dX3_takesJoint_12 : decode cX3_takesJoint 12 = .ok (.iconst 2, 1) := by decide +kernel
theorem dX3_takesJoint_13 : decode cX3_takesJoint 13 = .ok (.if_icmp .ne 21, 3) := by decide +kernel
theorem dX3_takesJoint_16 : decode cX3_takesJoint 16 = .ok (.aload_n 0, 1) := by decide +kernel
theorem dX3_takesJoint_17 : decode cX3_takesJoint 17 = .ok (.iconst 3, 1) := by decide +kernel
theorem dX3_takesJoint_18 : decode cX3_takesJoint 18 = .ok (.invokevirtual 61, 3) := by decide +kernel
theorem dX3_takesJoint_21 : decode cX3_takesJoint 21 = .ok (.aload_n 0, 1) := by decide +kernel
theorem dX3_takesJoint_22 : decode cX3_takesJoint 22 = .ok (.invokevirtual 113, 3) := by decide +kernel
theorem dX3_takesJoint_25 : decode cX3_takesJoint 25 = .ok (.invokestatic 109, 3) := by decide +kernel
theorem dX3_takesJoint_28 : decode cX3_takesJoint 28 = .ok (.iconst 2, 1) := by decide +kernel
theorem dX3_takesJoint_29 : decode cX3_takesJoint 29 = .ok (.if_icmp .ne 5, 3) := by decide +kernel
theorem dX3_takesJoint_32 : decode cX3_takesJoint 32 = .ok (.iconst 0, 1) := by decide +kernel
theorem dX3_takesJoint_33 : decode cX3_takesJoint 33 = .ok (.ireturn, 1) := by decide +kernel
theorem dX3_takesJoint_34 : decode cX3_takesJoint 34 = .ok (.aload_n 0, 1) := by decide +kernel
theorem dX3_takesJoint_35 : decode cX3_takesJoint 35 = .ok (.iload_n 2, 1) := by decide +kernel
theorem dX3_takesJoint_36 : decode cX3_takesJoint 36 = .ok (.invokevirtual 61, 3) := by decide +kernel
theorem dX3_takesJoint_39 : decode cX3_takesJoint 39 = .ok (.aload_n 0, 1) := by decide +kernel
theorem dX3_takesJoint_40 : decode cX3_takesJoint 40 = .ok (.iload_n 1, 1) := by decide +kernel
theorem dX3_takesJoint_41 : decode cX3_takesJoint 41 = .ok (.invokevirtual 103, 3) := by decide +kernel
theorem dX3_takesJoint_44 : decode cX3_takesJoint 44 = .ok (.iconst 1, 1) := by decide +kernel
theorem dX3_takesJoint_45 : decode cX3_takesJoint 45 = .ok (.ireturn, 1) := by decide +kernel
theorem dX3_closes_0 : decode cX3_closes 0 = .ok (.aload_n 0, 1) := by decide +kernel
theorem dX3_closes_1 : decode cX3_closes 1 = .ok (.iconst 0, 1) := by decide +kernel
theorem dX3_closes_2 : decode cX3_closes 2 = .ok (.invokevirtual 61, 3) := by decide +kernel
theorem dX3_closes_5 : decode cX3_closes 5 = .ok (.aload_n 0, 1) := by decide +kernel
theorem dX3_closes_6 : decode cX3_closes 6 = .ok (.iconst 0, 1) := by decide +kernel
theorem dX3_closes_7 : decode cX3_closes 7 = .ok (.aload_n 0, 1) := by decide +kernel
theorem dX3_closes_8 : decode cX3_closes 8 = .ok (.getfield 22, 3) := by decide +kernel
theorem dX3_closes_11 : decode cX3_closes 11 = .ok (.iconst 1, 1) := by decide +kernel
theorem dX3_closes_12 : decode cX3_closes 12 = .ok (.isub, 1) := by decide +kernel
theorem dX3_closes_13 : decode cX3_closes 13 = .ok (.invokestatic 117, 3) := by decide +kernel
theorem dX3_closes_16 : decode cX3_closes 16 = .ok (.putfield 22, 3) := by decide +kernel
theorem dX3_closes_19 : decode cX3_closes 19 = .ok (.aload_n 0, 1) := by decide +kernel
theorem dX3_closes_20 : decode cX3_closes 20 = .ok (.dup, 1) := by decide +kernel
theorem dX3_closes_21 : decode cX3_closes 21 = .ok (.getfield 25, 3) := by decide +kernel
theorem dX3_closes_24 : decode cX3_closes 24 = .ok (.iconst 1, 1) := by decide +kernel
theorem dX3_closes_25 : decode cX3_closes 25 = .ok (.isub, 1) := by decide +kernel
theorem dX3_closes_26 : decode cX3_closes 26 = .ok (.putfield 25, 3) := by decide +kernel
theorem dX3_closes_29 : decode cX3_closes 29 = .ok (.aload_n 0, 1) := by decide +kernel
theorem dX3_closes_30 : decode cX3_closes 30 = .ok (.dup, 1) := by decide +kernel
theorem dX3_closes_31 : decode cX3_closes 31 = .ok (.getfield 28, 3) := by decide +kernel
theorem dX3_closes_34 : decode cX3_closes 34 = .ok (.iconst 1, 1) := by decide +kernel
theorem dX3_closes_35 : decode cX3_closes 35 = .ok (.isub, 1) := by decide +kernel
theorem dX3_closes_36 : decode cX3_closes 36 = .ok (.putfield 28, 3) := by decide +kernel
theorem dX3_closes_39 : decode cX3_closes 39 = .ok (.aload_n 0, 1) := by decide +kernel
theorem dX3_closes_40 : decode cX3_closes 40 = .ok (.invokevirtual 106, 3) := by decide +kernel
theorem dX3_closes_43 : decode cX3_closes 43 = .ok (.return_, 1) := by decide +kernel
theorem dX3_lastWaiting_0 : decode cX3_lastWaiting 0 = .ok (.aload_n 0, 1) := by decide +kernel
theorem dX3_lastWaiting_1 : decode cX3_lastWaiting 1 = .ok (.getfield 22, 3) := by decide +kernel
theorem dX3_lastWaiting_4 : decode cX3_lastWaiting 4 = .ok (.ifCond .le 17, 3) := by decide +kernel
theorem dX3_lastWaiting_7 : decode cX3_lastWaiting 7 = .ok (.aload_n 0, 1) := by decide +kernel
theorem dX3_lastWaiting_8 : decode cX3_lastWaiting 8 = .ok (.getfield 19, 3) := by decide +kernel
theorem dX3_lastWaiting_11 : decode cX3_lastWaiting 11 = .ok (.aload_n 0, 1) := by decide +kernel
theorem dX3_lastWaiting_12 : decode cX3_lastWaiting 12 = .ok (.getfield 22, 3) := by decide +kernel
theorem dX3_lastWaiting_15 : decode cX3_lastWaiting 15 = .ok (.iconst 1, 1) := by decide +kernel
theorem dX3_lastWaiting_16 : decode cX3_lastWaiting 16 = .ok (.isub, 1) := by decide +kernel
theorem dX3_lastWaiting_17 : decode cX3_lastWaiting 17 = .ok (.iaload, 1) := by decide +kernel
theorem dX3_lastWaiting_18 : decode cX3_lastWaiting 18 = .ok (.goto 5, 3) := by decide +kernel
theorem dX3_lastWaiting_21 : decode cX3_lastWaiting 21 = .ok (.bipush (-15), 2) := by decide +kernel
theorem dX3_lastWaiting_23 : decode cX3_lastWaiting 23 = .ok (.ireturn, 1) := by decide +kernel
theorem dX3_settleNots_0 : decode cX3_settleNots 0 = .ok (.aload_n 0, 1) := by decide +kernel
theorem dX3_settleNots_1 : decode cX3_settleNots 1 = .ok (.getfield 22, 3) := by decide +kernel
theorem dX3_settleNots_4 : decode cX3_settleNots 4 = .ok (.ifCond .le 48, 3) := by decide +kernel
theorem dX3_settleNots_7 : decode cX3_settleNots 7 = .ok (.aload_n 0, 1) := by decide +kernel
theorem dX3_settleNots_8 : decode cX3_settleNots 8 = .ok (.getfield 19, 3) := by decide +kernel
theorem dX3_settleNots_11 : decode cX3_settleNots 11 = .ok (.aload_n 0, 1) := by decide +kernel
theorem dX3_settleNots_12 : decode cX3_settleNots 12 = .ok (.getfield 22, 3) := by decide +kernel
theorem dX3_settleNots_15 : decode cX3_settleNots 15 = .ok (.iconst 1, 1) := by decide +kernel
theorem dX3_settleNots_16 : decode cX3_settleNots 16 = .ok (.isub, 1) := by decide +kernel
theorem dX3_settleNots_17 : decode cX3_settleNots 17 = .ok (.iaload, 1) := by decide +kernel
theorem dX3_settleNots_18 : decode cX3_settleNots 18 = .ok (.bipush (-6), 2) := by decide +kernel
theorem dX3_settleNots_20 : decode cX3_settleNots 20 = .ok (.if_icmp .ne 32, 3) := by decide +kernel
theorem dX3_settleNots_23 : decode cX3_settleNots 23 = .ok (.aload_n 0, 1) := by decide +kernel
theorem dX3_settleNots_24 : decode cX3_settleNots 24 = .ok (.dup, 1) := by decide +kernel
theorem dX3_settleNots_25 : decode cX3_settleNots 25 = .ok (.getfield 22, 3) := by decide +kernel
theorem dX3_settleNots_28 : decode cX3_settleNots 28 = .ok (.iconst 1, 1) := by decide +kernel
theorem dX3_settleNots_29 : decode cX3_settleNots 29 = .ok (.isub, 1) := by decide +kernel
theorem dX3_settleNots_30 : decode cX3_settleNots 30 = .ok (.putfield 22, 3) := by decide +kernel
theorem dX3_settleNots_33 : decode cX3_settleNots 33 = .ok (.aload_n 0, 1) := by decide +kernel
theorem dX3_settleNots_34 : decode cX3_settleNots 34 = .ok (.dup, 1) := by decide +kernel
theorem dX3_settleNots_35 : decode cX3_settleNots 35 = .ok (.getfield 25, 3) := by decide +kernel
theorem dX3_settleNots_38 : decode cX3_settleNots 38 = .ok (.iconst 1, 1) := by decide +kernel
theorem dX3_settleNots_39 : decode cX3_settleNots 39 = .ok (.isub, 1) := by decide +kernel
theorem dX3_settleNots_40 : decode cX3_settleNots 40 = .ok (.putfield 25, 3) := by decide +kernel
theorem dX3_settleNots_43 : decode cX3_settleNots 43 = .ok (.aload_n 0, 1) := by decide +kernel
theorem dX3_settleNots_44 : decode cX3_settleNots 44 = .ok (.bipush (-6), 2) := by decide +kernel
theorem dX3_settleNots_46 : decode cX3_settleNots 46 = .ok (.invokevirtual 37, 3) := by decide +kernel
theorem dX3_settleNots_49 : decode cX3_settleNots 49 = .ok (.goto (-49), 3) := by decide +kernel
theorem dX3_settleNots_52 : decode cX3_settleNots 52 = .ok (.return_, 1) := by decide +kernel
theorem dX3_settleJoints_0 : decode cX3_settleJoints 0 = .ok (.iconst 1, 1) := by decide +kernel
theorem dX3_settleJoints_1 : decode cX3_settleJoints 1 = .ok (.iload_n 1, 1) := by decide +kernel
theorem dX3_settleJoints_2 : decode cX3_settleJoints 2 = .ok (.invokestatic 117, 3) := by decide +kernel
theorem dX3_settleJoints_5 : decode cX3_settleJoints 5 = .ok (.istore_n 2, 1) := by decide +kernel
theorem dX3_settleJoints_6 : decode cX3_settleJoints 6 = .ok (.aload_n 0, 1) := by decide +kernel
theorem dX3_settleJoints_7 : decode cX3_settleJoints 7 = .ok (.getfield 22, 3) := by decide +kernel
theorem dX3_settleJoints_10 : decode cX3_settleJoints 10 = .ok (.ifCond .le 47, 3) := by decide +kernel
theorem dX3_settleJoints_13 : decode cX3_settleJoints 13 = .ok (.aload_n 0, 1) := by decide +kernel
theorem dX3_settleJoints_14 : decode cX3_settleJoints 14 = .ok (.getfield 19, 3) := by decide +kernel
theorem dX3_settleJoints_17 : decode cX3_settleJoints 17 = .ok (.aload_n 0, 1) := by decide +kernel
theorem dX3_settleJoints_18 : decode cX3_settleJoints 18 = .ok (.getfield 22, 3) := by decide +kernel
theorem dX3_settleJoints_21 : decode cX3_settleJoints 21 = .ok (.iconst 1, 1) := by decide +kernel
theorem dX3_settleJoints_22 : decode cX3_settleJoints 22 = .ok (.isub, 1) := by decide +kernel
theorem dX3_settleJoints_23 : decode cX3_settleJoints 23 = .ok (.iaload, 1) := by decide +kernel
theorem dX3_settleJoints_24 : decode cX3_settleJoints 24 = .ok (.invokestatic 109, 3) := by decide +kernel
theorem dX3_settleJoints_27 : decode cX3_settleJoints 27 = .ok (.iload_n 2, 1) := by decide +kernel
theorem dX3_settleJoints_28 : decode cX3_settleJoints 28 = .ok (.if_icmp .lt 29, 3) := by decide +kernel
theorem dX3_settleJoints_31 : decode cX3_settleJoints 31 = .ok (.aload_n 0, 1) := by decide +kernel
theorem dX3_settleJoints_32 : decode cX3_settleJoints 32 = .ok (.dup, 1) := by decide +kernel
theorem dX3_settleJoints_33 : decode cX3_settleJoints 33 = .ok (.getfield 22, 3) := by decide +kernel
theorem dX3_settleJoints_36 : decode cX3_settleJoints 36 = .ok (.iconst 1, 1) := by decide +kernel
theorem dX3_settleJoints_37 : decode cX3_settleJoints 37 = .ok (.isub, 1) := by decide +kernel
theorem dX3_settleJoints_38 : decode cX3_settleJoints 38 = .ok (.putfield 22, 3) := by decide +kernel
theorem dX3_settleJoints_41 : decode cX3_settleJoints 41 = .ok (.aload_n 0, 1) := by decide +kernel
theorem dX3_settleJoints_42 : decode cX3_settleJoints 42 = .ok (.aload_n 0, 1) := by decide +kernel
theorem dX3_settleJoints_43 : decode cX3_settleJoints 43 = .ok (.getfield 19, 3) := by decide +kernel
theorem dX3_settleJoints_46 : decode cX3_settleJoints 46 = .ok (.aload_n 0, 1) := by decide +kernel
theorem dX3_settleJoints_47 : decode cX3_settleJoints 47 = .ok (.getfield 22, 3) := by decide +kernel
theorem dX3_settleJoints_50 : decode cX3_settleJoints 50 = .ok (.iaload, 1) := by decide +kernel
theorem dX3_settleJoints_51 : decode cX3_settleJoints 51 = .ok (.invokevirtual 37, 3) := by decide +kernel
theorem dX3_settleJoints_54 : decode cX3_settleJoints 54 = .ok (.goto (-48), 3) := by decide +kernel
theorem dX3_settleJoints_57 : decode cX3_settleJoints 57 = .ok (.return_, 1) := by decide +kernel
theorem dX3_addStep_0 : decode cX3_addStep 0 = .ok (.aload_n 0, 1) := by decide +kernel
theorem dX3_addStep_1 : decode cX3_addStep 1 = .ok (.getfield 15, 3) := by decide +kernel
theorem dX3_addStep_4 : decode cX3_addStep 4 = .ok (.sipush 1000, 3) := by decide +kernel
theorem dX3_addStep_7 : decode cX3_addStep 7 = .ok (.if_icmp .ge 23, 3) := by decide +kernel
theorem dX3_addStep_10 : decode cX3_addStep 10 = .ok (.aload_n 0, 1) := by decide +kernel
theorem dX3_addStep_11 : decode cX3_addStep 11 = .ok (.getfield 9, 3) := by decide +kernel
theorem dX3_addStep_14 : decode cX3_addStep 14 = .ok (.aload_n 0, 1) := by decide +kernel
theorem dX3_addStep_15 : decode cX3_addStep 15 = .ok (.getfield 15, 3) := by decide +kernel
theorem dX3_addStep_18 : decode cX3_addStep 18 = .ok (.iload_n 1, 1) := by decide +kernel
theorem dX3_addStep_19 : decode cX3_addStep 19 = .ok (.iastore, 1) := by decide +kernel
theorem dX3_addStep_20 : decode cX3_addStep 20 = .ok (.aload_n 0, 1) := by decide +kernel
theorem dX3_addStep_21 : decode cX3_addStep 21 = .ok (.dup, 1) := by decide +kernel
theorem dX3_addStep_22 : decode cX3_addStep 22 = .ok (.getfield 15, 3) := by decide +kernel
theorem dX3_addStep_25 : decode cX3_addStep 25 = .ok (.iconst 1, 1) := by decide +kernel
theorem dX3_addStep_26 : decode cX3_addStep 26 = .ok (.iadd, 1) := by decide +kernel
theorem dX3_addStep_27 : decode cX3_addStep 27 = .ok (.putfield 15, 3) := by decide +kernel
theorem dX3_addStep_30 : decode cX3_addStep 30 = .ok (.return_, 1) := by decide +kernel
theorem dX3_addWaiting_0 : decode cX3_addWaiting 0 = .ok (.aload_n 0, 1) := by decide +kernel
theorem dX3_addWaiting_1 : decode cX3_addWaiting 1 = .ok (.getfield 22, 3) := by decide +kernel
theorem dX3_addWaiting_4 : decode cX3_addWaiting 4 = .ok (.bipush 40, 2) := by decide +kernel
theorem dX3_addWaiting_6 : decode cX3_addWaiting 6 = .ok (.if_icmp .ge 23, 3) := by decide +kernel
theorem dX3_addWaiting_9 : decode cX3_addWaiting 9 = .ok (.aload_n 0, 1) := by decide +kernel
theorem dX3_addWaiting_10 : decode cX3_addWaiting 10 = .ok (.getfield 19, 3) := by decide +kernel
theorem dX3_addWaiting_13 : decode cX3_addWaiting 13 = .ok (.aload_n 0, 1) := by decide +kernel
theorem dX3_addWaiting_14 : decode cX3_addWaiting 14 = .ok (.getfield 22, 3) := by decide +kernel
theorem dX3_addWaiting_17 : decode cX3_addWaiting 17 = .ok (.iload_n 1, 1) := by decide +kernel
theorem dX3_addWaiting_18 : decode cX3_addWaiting 18 = .ok (.iastore, 1) := by decide +kernel
theorem dX3_addWaiting_19 : decode cX3_addWaiting 19 = .ok (.aload_n 0, 1) := by decide +kernel
theorem dX3_addWaiting_20 : decode cX3_addWaiting 20 = .ok (.dup, 1) := by decide +kernel
theorem dX3_addWaiting_21 : decode cX3_addWaiting 21 = .ok (.getfield 22, 3) := by decide +kernel
theorem dX3_addWaiting_24 : decode cX3_addWaiting 24 = .ok (.iconst 1, 1) := by decide +kernel
theorem dX3_addWaiting_25 : decode cX3_addWaiting 25 = .ok (.iadd, 1) := by decide +kernel
theorem dX3_addWaiting_26 : decode cX3_addWaiting 26 = .ok (.putfield 22, 3) := by decide +kernel
theorem dX3_addWaiting_29 : decode cX3_addWaiting 29 = .ok (.return_, 1) := by decide +kernel
theorem dX3_facesDish_0 : decode cX3_facesDish 0 = .ok (.aload_n 0, 1) := by decide +kernel
theorem dX3_facesDish_1 : decode cX3_facesDish 1 = .ok (.getfield 34, 3) := by decide +kernel
theorem dX3_facesDish_4 : decode cX3_facesDish 4 = .ok (.iconst 0, 1) := by decide +kernel
theorem dX3_facesDish_5 : decode cX3_facesDish 5 = .ok (.iload_n 1, 1) := by decide +kernel
theorem dX3_facesDish_6 : decode cX3_facesDish 6 = .ok (.iastore, 1) := by decide +kernel
theorem dX3_facesDish_7 : decode cX3_facesDish 7 = .ok (.aload_n 0, 1) := by decide +kernel
theorem dX3_facesDish_8 : decode cX3_facesDish 8 = .ok (.getfield 34, 3) := by decide +kernel
theorem dX3_facesDish_11 : decode cX3_facesDish 11 = .ok (.iconst 1, 1) := by decide +kernel
theorem dX3_facesDish_12 : decode cX3_facesDish 12 = .ok (.iload_n 2, 1) := by decide +kernel
theorem dX3_facesDish_13 : decode cX3_facesDish 13 = .ok (.iastore, 1) := by decide +kernel
theorem dX3_facesDish_14 : decode cX3_facesDish 14 = .ok (.return_, 1) := by decide +kernel
theorem dX3_share_0 : decode cX3_share 0 = .ok (.aload_n 0, 1) := by decide +kernel
theorem dX3_share_1 : decode cX3_share 1 = .ok (.getfield 34, 3) := by decide +kernel
theorem dX3_share_4 : decode cX3_share 4 = .ok (.iconst 2, 1) := by decide +kernel
theorem dX3_share_5 : decode cX3_share 5 = .ok (.iload_n 1, 1) := by decide +kernel
theorem dX3_share_6 : decode cX3_share 6 = .ok (.iastore, 1) := by decide +kernel
theorem dX3_share_7 : decode cX3_share 7 = .ok (.aload_n 0, 1) := by decide +kernel
theorem dX3_share_8 : decode cX3_share 8 = .ok (.getfield 34, 3) := by decide +kernel
theorem dX3_share_11 : decode cX3_share 11 = .ok (.iconst 3, 1) := by decide +kernel
theorem dX3_share_12 : decode cX3_share 12 = .ok (.iload_n 2, 1) := by decide +kernel
theorem dX3_share_13 : decode cX3_share 13 = .ok (.invokestatic 123, 3) := by decide +kernel
theorem dX3_share_16 : decode cX3_share 16 = .ok (.iastore, 1) := by decide +kernel
theorem dX3_share_17 : decode cX3_share 17 = .ok (.aload_n 0, 1) := by decide +kernel
theorem dX3_share_18 : decode cX3_share 18 = .ok (.getfield 34, 3) := by decide +kernel
theorem dX3_share_21 : decode cX3_share 21 = .ok (.iconst 4, 1) := by decide +kernel
theorem dX3_share_22 : decode cX3_share 22 = .ok (.iload_n 3, 1) := by decide +kernel
theorem dX3_share_23 : decode cX3_share 23 = .ok (.invokestatic 123, 3) := by decide +kernel
theorem dX3_share_26 : decode cX3_share 26 = .ok (.iastore, 1) := by decide +kernel
theorem dX3_share_27 : decode cX3_share 27 = .ok (.iconst 0, 1) := by decide +kernel
theorem dX3_share_28 : decode cX3_share 28 = .ok (.bipush 99, 2) := by decide +kernel
theorem dX3_share_30 : decode cX3_share 30 = .ok (.aload_n 0, 1) := by decide +kernel
theorem dX3_share_31 : decode cX3_share 31 = .ok (.invokevirtual 127, 3) := by decide +kernel
theorem dX3_share_34 : decode cX3_share 34 = .ok (.invokestatic 130, 3) := by decide +kernel
theorem dX3_share_37 : decode cX3_share 37 = .ok (.invokestatic 117, 3) := by decide +kernel
theorem dX3_share_40 : decode cX3_share 40 = .ok (.ireturn, 1) := by decide +kernel
theorem dX3_worked_0 : decode cX3_worked 0 = .ok (.iconst 0, 1) := by decide +kernel
theorem dX3_worked_1 : decode cX3_worked 1 = .ok (.istore_n 1, 1) := by decide +kernel
theorem dX3_worked_2 : decode cX3_worked 2 = .ok (.iconst 0, 1) := by decide +kernel
theorem dX3_worked_3 : decode cX3_worked 3 = .ok (.istore_n 2, 1) := by decide +kernel
theorem dX3_worked_4 : decode cX3_worked 4 = .ok (.iload_n 2, 1) := by decide +kernel
theorem dX3_worked_5 : decode cX3_worked 5 = .ok (.aload_n 0, 1) := by decide +kernel
theorem dX3_worked_6 : decode cX3_worked 6 = .ok (.getfield 15, 3) := by decide +kernel
theorem dX3_worked_9 : decode cX3_worked 9 = .ok (.if_icmp .ge 130, 3) := by decide +kernel
theorem dX3_worked_12 : decode cX3_worked 12 = .ok (.aload_n 0, 1) := by decide +kernel
theorem dX3_worked_13 : decode cX3_worked 13 = .ok (.getfield 9, 3) := by decide +kernel
theorem dX3_worked_16 : decode cX3_worked 16 = .ok (.iload_n 2, 1) := by decide +kernel
theorem dX3_worked_17 : decode cX3_worked 17 = .ok (.iaload, 1) := by decide +kernel
theorem dX3_worked_18 : decode cX3_worked 18 = .ok (.istore_n 3, 1) := by decide +kernel
theorem dX3_worked_19 : decode cX3_worked 19 = .ok (.iload_n 3, 1) := by decide +kernel
theorem dX3_worked_20 : decode cX3_worked 20 = .ok (.bipush (-5), 2) := by decide +kernel
theorem dX3_worked_22 : decode cX3_worked 22 = .ok (.if_icmp .lt 37, 3) := by decide +kernel
theorem dX3_worked_25 : decode cX3_worked 25 = .ok (.iload_n 1, 1) := by decide +kernel
theorem dX3_worked_26 : decode cX3_worked 26 = .ok (.bipush 40, 2) := by decide +kernel
theorem dX3_worked_28 : decode cX3_worked 28 = .ok (.if_icmp .ge 105, 3) := by decide +kernel
theorem dX3_worked_31 : decode cX3_worked 31 = .ok (.aload_n 0, 1) := by decide +kernel
theorem dX3_worked_32 : decode cX3_worked 32 = .ok (.getfield 31, 3) := by decide +kernel
theorem dX3_worked_35 : decode cX3_worked 35 = .ok (.iload_n 1, 1) := by decide +kernel
theorem dX3_worked_36 : decode cX3_worked 36 = .ok (.iload_n 3, 1) := by decide +kernel
theorem dX3_worked_37 : decode cX3_worked 37 = .ok (.ifCond .lt 7, 3) := by decide +kernel
theorem dX3_worked_40 : decode cX3_worked 40 = .ok (.iload_n 3, 1) := by decide +kernel
theorem dX3_worked_41 : decode cX3_worked 41 = .ok (.goto 11, 3) := by decide +kernel
theorem dX3_worked_44 : decode cX3_worked 44 = .ok (.aload_n 0, 1) := by decide +kernel
theorem dX3_worked_45 : decode cX3_worked 45 = .ok (.getfield 34, 3) := by decide +kernel
theorem dX3_worked_48 : decode cX3_worked 48 = .ok (.iconst (-1), 1) := by decide +kernel
theorem dX3_worked_49 : decode cX3_worked 49 = .ok (.iload_n 3, 1) := by decide +kernel
theorem dX3_worked_50 : decode cX3_worked 50 = .ok (.isub, 1) := by decide +kernel
theorem dX3_worked_51 : decode cX3_worked 51 = .ok (.iaload, 1) := by decide +kernel
theorem dX3_worked_52 : decode cX3_worked 52 = .ok (.iastore, 1) := by decide +kernel
theorem dX3_worked_53 : decode cX3_worked 53 = .ok (.iinc 1 1, 3) := by decide +kernel
theorem dX3_worked_56 : decode cX3_worked 56 = .ok (.goto 77, 3) := by decide +kernel
theorem dX3_worked_59 : decode cX3_worked 59 = .ok (.iload_n 3, 1) := by decide +kernel
theorem dX3_worked_60 : decode cX3_worked 60 = .ok (.bipush (-6), 2) := by decide +kernel
theorem dX3_worked_62 : decode cX3_worked 62 = .ok (.if_icmp .ne 37, 3) := by decide +kernel
theorem dX3_worked_65 : decode cX3_worked 65 = .ok (.iload_n 1, 1) := by decide +kernel
theorem dX3_worked_66 : decode cX3_worked 66 = .ok (.ifCond .le 67, 3) := by decide +kernel
theorem dX3_worked_69 : decode cX3_worked 69 = .ok (.aload_n 0, 1) := by decide +kernel
theorem dX3_worked_70 : decode cX3_worked 70 = .ok (.getfield 31, 3) := by decide +kernel
theorem dX3_worked_73 : decode cX3_worked 73 = .ok (.iload_n 1, 1) := by decide +kernel
theorem dX3_worked_74 : decode cX3_worked 74 = .ok (.iconst 1, 1) := by decide +kernel
theorem dX3_worked_75 : decode cX3_worked 75 = .ok (.isub, 1) := by decide +kernel
theorem dX3_worked_76 : decode cX3_worked 76 = .ok (.aload_n 0, 1) := by decide +kernel
theorem dX3_worked_77 : decode cX3_worked 77 = .ok (.getfield 31, 3) := by decide +kernel
theorem dX3_worked_80 : decode cX3_worked 80 = .ok (.iload_n 1, 1) := by decide +kernel
theorem dX3_worked_81 : decode cX3_worked 81 = .ok (.iconst 1, 1) := by decide +kernel
theorem dX3_worked_82 : decode cX3_worked 82 = .ok (.isub, 1) := by decide +kernel
theorem dX3_worked_83 : decode cX3_worked 83 = .ok (.iaload, 1) := by decide +kernel
theorem dX3_worked_84 : decode cX3_worked 84 = .ok (.ifCond .ne 7, 3) := by decide +kernel
theorem dX3_worked_87 : decode cX3_worked 87 = .ok (.iconst 1, 1) := by decide +kernel
theorem dX3_worked_88 : decode cX3_worked 88 = .ok (.goto 4, 3) := by decide +kernel
theorem dX3_worked_91 : decode cX3_worked 91 = .ok (.iconst 0, 1) := by decide +kernel
theorem dX3_worked_92 : decode cX3_worked 92 = .ok (.invokestatic 123, 3) := by decide +kernel
theorem dX3_worked_95 : decode cX3_worked 95 = .ok (.iastore, 1) := by decide +kernel
theorem dX3_worked_96 : decode cX3_worked 96 = .ok (.goto 37, 3) := by decide +kernel
theorem dX3_worked_99 : decode cX3_worked 99 = .ok (.iload_n 1, 1) := by decide +kernel
theorem dX3_worked_100 : decode cX3_worked 100 = .ok (.iconst 1, 1) := by decide +kernel
theorem dX3_worked_101 : decode cX3_worked 101 = .ok (.if_icmp .le 32, 3) := by decide +kernel
theorem dX3_worked_104 : decode cX3_worked 104 = .ok (.iinc 1 (-1), 3) := by decide +kernel
theorem dX3_worked_107 : decode cX3_worked 107 = .ok (.aload_n 0, 1) := by decide +kernel
theorem dX3_worked_108 : decode cX3_worked 108 = .ok (.getfield 31, 3) := by decide +kernel
theorem dX3_worked_111 : decode cX3_worked 111 = .ok (.iload_n 1, 1) := by decide +kernel
theorem dX3_worked_112 : decode cX3_worked 112 = .ok (.iconst 1, 1) := by decide +kernel
theorem dX3_worked_113 : decode cX3_worked 113 = .ok (.isub, 1) := by decide +kernel
theorem dX3_worked_114 : decode cX3_worked 114 = .ok (.iload_n 3, 1) := by decide +kernel
theorem dX3_worked_115 : decode cX3_worked 115 = .ok (.aload_n 0, 1) := by decide +kernel
theorem dX3_worked_116 : decode cX3_worked 116 = .ok (.getfield 31, 3) := by decide +kernel
theorem dX3_worked_119 : decode cX3_worked 119 = .ok (.iload_n 1, 1) := by decide +kernel
theorem dX3_worked_120 : decode cX3_worked 120 = .ok (.iconst 1, 1) := by decide +kernel
theorem dX3_worked_121 : decode cX3_worked 121 = .ok (.isub, 1) := by decide +kernel
theorem dX3_worked_122 : decode cX3_worked 122 = .ok (.iaload, 1) := by decide +kernel
theorem dX3_worked_123 : decode cX3_worked 123 = .ok (.aload_n 0, 1) := by decide +kernel
theorem dX3_worked_124 : decode cX3_worked 124 = .ok (.getfield 31, 3) := by decide +kernel
theorem dX3_worked_127 : decode cX3_worked 127 = .ok (.iload_n 1, 1) := by decide +kernel
theorem dX3_worked_128 : decode cX3_worked 128 = .ok (.iaload, 1) := by decide +kernel
theorem dX3_worked_129 : decode cX3_worked 129 = .ok (.invokestatic 133, 3) := by decide +kernel
theorem dX3_worked_132 : decode cX3_worked 132 = .ok (.iastore, 1) := by decide +kernel
theorem dX3_worked_133 : decode cX3_worked 133 = .ok (.iinc 2 1, 3) := by decide +kernel
theorem dX3_worked_136 : decode cX3_worked 136 = .ok (.goto (-132), 3) := by decide +kernel
theorem dX3_worked_139 : decode cX3_worked 139 = .ok (.aload_n 0, 1) := by decide +kernel
theorem dX3_worked_140 : decode cX3_worked 140 = .ok (.getfield 31, 3) := by decide +kernel
theorem dX3_worked_143 : decode cX3_worked 143 = .ok (.iconst 0, 1) := by decide +kernel
theorem dX3_worked_144 : decode cX3_worked 144 = .ok (.iaload, 1) := by decide +kernel
theorem dX3_worked_145 : decode cX3_worked 145 = .ok (.ireturn, 1) := by decide +kernel
theorem dX3_joined_0 : decode cX3_joined 0 = .ok (.iload_n 0, 1) := by decide +kernel
theorem dX3_joined_1 : decode cX3_joined 1 = .ok (.tableswitch 96 (-12) (-7) #[79, 65, 51, 47, 43, 39], 39) := by decide +kernel
theorem dX3_joined_40 : decode cX3_joined 40 = .ok (.iload_n 1, 1) := by decide +kernel
theorem dX3_joined_41 : decode cX3_joined 41 = .ok (.iload_n 2, 1) := by decide +kernel
theorem dX3_joined_42 : decode cX3_joined 42 = .ok (.imul, 1) := by decide +kernel
theorem dX3_joined_43 : decode cX3_joined 43 = .ok (.ireturn, 1) := by decide +kernel
theorem dX3_joined_44 : decode cX3_joined 44 = .ok (.iload_n 1, 1) := by decide +kernel
theorem dX3_joined_45 : decode cX3_joined 45 = .ok (.iload_n 2, 1) := by decide +kernel
theorem dX3_joined_46 : decode cX3_joined 46 = .ok (.iadd, 1) := by decide +kernel
theorem dX3_joined_47 : decode cX3_joined 47 = .ok (.ireturn, 1) := by decide +kernel
theorem dX3_joined_48 : decode cX3_joined 48 = .ok (.iload_n 1, 1) := by decide +kernel
theorem dX3_joined_49 : decode cX3_joined 49 = .ok (.iload_n 2, 1) := by decide +kernel
theorem dX3_joined_50 : decode cX3_joined 50 = .ok (.isub, 1) := by decide +kernel
theorem dX3_joined_51 : decode cX3_joined 51 = .ok (.ireturn, 1) := by decide +kernel
theorem dX3_joined_52 : decode cX3_joined 52 = .ok (.iload_n 1, 1) := by decide +kernel
theorem dX3_joined_53 : decode cX3_joined 53 = .ok (.iload_n 2, 1) := by decide +kernel
theorem dX3_joined_54 : decode cX3_joined 54 = .ok (.if_icmp .ge 7, 3) := by decide +kernel
theorem dX3_joined_57 : decode cX3_joined 57 = .ok (.iconst 1, 1) := by decide +kernel
theorem dX3_joined_58 : decode cX3_joined 58 = .ok (.goto 4, 3) := by decide +kernel
theorem dX3_joined_61 : decode cX3_joined 61 = .ok (.iconst 0, 1) := by decide +kernel
theorem dX3_joined_62 : decode cX3_joined 62 = .ok (.invokestatic 123, 3) := by decide +kernel
theorem dX3_joined_65 : decode cX3_joined 65 = .ok (.ireturn, 1) := by decide +kernel
theorem dX3_joined_66 : decode cX3_joined 66 = .ok (.iload_n 1, 1) := by decide +kernel
theorem dX3_joined_67 : decode cX3_joined 67 = .ok (.iload_n 2, 1) := by decide +kernel
theorem dX3_joined_68 : decode cX3_joined 68 = .ok (.if_icmp .ne 7, 3) := by decide +kernel
theorem dX3_joined_71 : decode cX3_joined 71 = .ok (.iconst 1, 1) := by decide +kernel
theorem dX3_joined_72 : decode cX3_joined 72 = .ok (.goto 4, 3) := by decide +kernel
theorem dX3_joined_75 : decode cX3_joined 75 = .ok (.iconst 0, 1) := by decide +kernel
theorem dX3_joined_76 : decode cX3_joined 76 = .ok (.invokestatic 123, 3) := by decide +kernel
theorem dX3_joined_79 : decode cX3_joined 79 = .ok (.ireturn, 1) := by decide +kernel
theorem dX3_joined_80 : decode cX3_joined 80 = .ok (.iload_n 1, 1) := by decide +kernel
theorem dX3_joined_81 : decode cX3_joined 81 = .ok (.ifCond .eq 11, 3) := by decide +kernel
theorem dX3_joined_84 : decode cX3_joined 84 = .ok (.iload_n 2, 1) := by decide +kernel
theorem dX3_joined_85 : decode cX3_joined 85 = .ok (.ifCond .eq 7, 3) := by decide +kernel
theorem dX3_joined_88 : decode cX3_joined 88 = .ok (.iconst 1, 1) := by decide +kernel
theorem dX3_joined_89 : decode cX3_joined 89 = .ok (.goto 4, 3) := by decide +kernel
theorem dX3_joined_92 : decode cX3_joined 92 = .ok (.iconst 0, 1) := by decide +kernel
theorem dX3_joined_93 : decode cX3_joined 93 = .ok (.invokestatic 123, 3) := by decide +kernel
theorem dX3_joined_96 : decode cX3_joined 96 = .ok (.ireturn, 1) := by decide +kernel
theorem dX3_joined_97 : decode cX3_joined 97 = .ok (.iload_n 1, 1) := by decide +kernel
theorem dX3_joined_98 : decode cX3_joined 98 = .ok (.ifCond .ne 7, 3) := by decide +kernel
theorem dX3_joined_101 : decode cX3_joined 101 = .ok (.iload_n 2, 1) := by decide +kernel
theorem dX3_joined_102 : decode cX3_joined 102 = .ok (.ifCond .eq 7, 3) := by decide +kernel
theorem dX3_joined_105 : decode cX3_joined 105 = .ok (.iconst 1, 1) := by decide +kernel
theorem dX3_joined_106 : decode cX3_joined 106 = .ok (.goto 4, 3) := by decide +kernel
theorem dX3_joined_109 : decode cX3_joined 109 = .ok (.iconst 0, 1) := by decide +kernel
theorem dX3_joined_110 : decode cX3_joined 110 = .ok (.invokestatic 123, 3) := by decide +kernel
theorem dX3_joined_113 : decode cX3_joined 113 = .ok (.ireturn, 1) := by decide +kernel
theorem dX3_truth_0 : decode cX3_truth 0 = .ok (.iload_n 0, 1) := by decide +kernel
theorem dX3_truth_1 : decode cX3_truth 1 = .ok (.ifCond .eq 7, 3) := by decide +kernel
theorem dX3_truth_4 : decode cX3_truth 4 = .ok (.iconst 1, 1) := by decide +kernel
theorem dX3_truth_5 : decode cX3_truth 5 = .ok (.goto 4, 3) := by decide +kernel
theorem dX3_truth_8 : decode cX3_truth 8 = .ok (.iconst 0, 1) := by decide +kernel
theorem dX3_truth_9 : decode cX3_truth 9 = .ok (.ireturn, 1) := by decide +kernel
theorem dX4_init_0 : decode cX4_init 0 = .ok (.aload_n 0, 1) := by decide +kernel
theorem dX4_init_1 : decode cX4_init 1 = .ok (.invokespecial 3, 3) := by decide +kernel
theorem dX4_init_4 : decode cX4_init 4 = .ok (.aload_n 0, 1) := by decide +kernel
theorem dX4_init_5 : decode cX4_init 5 = .ok (.iconst 0, 1) := by decide +kernel
theorem dX4_init_6 : decode cX4_init 6 = .ok (.putfield 9, 3) := by decide +kernel
theorem dX4_init_9 : decode cX4_init 9 = .ok (.aload_n 0, 1) := by decide +kernel
theorem dX4_init_10 : decode cX4_init 10 = .ok (.new 15, 3) := by decide +kernel
theorem dX4_init_13 : decode cX4_init 13 = .ok (.dup, 1) := by decide +kernel
theorem dX4_init_14 : decode cX4_init 14 = .ok (.invokespecial 17, 3) := by decide +kernel
theorem dX4_init_17 : decode cX4_init 17 = .ok (.putfield 18, 3) := by decide +kernel
theorem dX4_init_20 : decode cX4_init 20 = .ok (.aload_n 0, 1) := by decide +kernel
theorem dX4_init_21 : decode cX4_init 21 = .ok (.new 22, 3) := by decide +kernel
theorem dX4_init_24 : decode cX4_init 24 = .ok (.dup, 1) := by decide +kernel
theorem dX4_init_25 : decode cX4_init 25 = .ok (.invokespecial 24, 3) := by decide +kernel
theorem dX4_init_28 : decode cX4_init 28 = .ok (.putfield 25, 3) := by decide +kernel
theorem dX4_init_31 : decode cX4_init 31 = .ok (.aload_n 0, 1) := by decide +kernel
theorem dX4_init_32 : decode cX4_init 32 = .ok (.bipush 6, 2) := by decide +kernel
theorem dX4_init_34 : decode cX4_init 34 = .ok (.newarray .int, 2) := by decide +kernel
theorem dX4_init_36 : decode cX4_init 36 = .ok (.putfield 29, 3) := by decide +kernel
theorem dX4_init_39 : decode cX4_init 39 = .ok (.return_, 1) := by decide +kernel
theorem dX4_lays_0 : decode cX4_lays 0 = .ok (.aload_n 0, 1) := by decide +kernel
theorem dX4_lays_1 : decode cX4_lays 1 = .ok (.iconst 1, 1) := by decide +kernel
theorem dX4_lays_2 : decode cX4_lays 2 = .ok (.putfield 9, 3) := by decide +kernel
theorem dX4_lays_5 : decode cX4_lays 5 = .ok (.aload_n 0, 1) := by decide +kernel
theorem dX4_lays_6 : decode cX4_lays 6 = .ok (.getfield 18, 3) := by decide +kernel
theorem dX4_lays_9 : decode cX4_lays 9 = .ok (.aload_n 1, 1) := by decide +kernel
theorem dX4_lays_10 : decode cX4_lays 10 = .ok (.invokevirtual 33, 3) := by decide +kernel
theorem dX4_lays_13 : decode cX4_lays 13 = .ok (.aload_n 0, 1) := by decide +kernel
theorem dX4_lays_14 : decode cX4_lays 14 = .ok (.getfield 25, 3) := by decide +kernel
theorem dX4_lays_17 : decode cX4_lays 17 = .ok (.aload_n 2, 1) := by decide +kernel
theorem dX4_lays_18 : decode cX4_lays 18 = .ok (.invokevirtual 37, 3) := by decide +kernel
theorem dX4_lays_21 : decode cX4_lays 21 = .ok (.aload_n 3, 1) := by decide +kernel
theorem dX4_lays_22 : decode cX4_lays 22 = .ok (.getfield 41, 3) := by decide +kernel
theorem dX4_lays_25 : decode cX4_lays 25 = .ok (.iconst 0, 1) := by decide +kernel
theorem dX4_lays_26 : decode cX4_lays 26 = .ok (.aload_n 0, 1) := by decide +kernel
theorem dX4_lays_27 : decode cX4_lays 27 = .ok (.getfield 29, 3) := by decide +kernel
theorem dX4_lays_30 : decode cX4_lays 30 = .ok (.iconst 0, 1) := by decide +kernel
theorem dX4_lays_31 : decode cX4_lays 31 = .ok (.bipush 6, 2) := by decide +kernel
theorem dX4_lays_33 : decode cX4_lays 33 = .ok (.invokestatic 44, 3) := by decide +kernel
theorem dX4_lays_36 : decode cX4_lays 36 = .ok (.return_, 1) := by decide +kernel
theorem dX4_goesBack_0 : decode cX4_goesBack 0 = .ok (.aload_n 1, 1) := by decide +kernel
theorem dX4_goesBack_1 : decode cX4_goesBack 1 = .ok (.aload_n 0, 1) := by decide +kernel
theorem dX4_goesBack_2 : decode cX4_goesBack 2 = .ok (.getfield 18, 3) := by decide +kernel
theorem dX4_goesBack_5 : decode cX4_goesBack 5 = .ok (.invokevirtual 33, 3) := by decide +kernel
theorem dX4_goesBack_8 : decode cX4_goesBack 8 = .ok (.aload_n 2, 1) := by decide +kernel
theorem dX4_goesBack_9 : decode cX4_goesBack 9 = .ok (.aload_n 0, 1) := by decide +kernel
theorem dX4_goesBack_10 : decode cX4_goesBack 10 = .ok (.getfield 25, 3) := by decide +kernel
theorem dX4_goesBack_13 : decode cX4_goesBack 13 = .ok (.invokevirtual 37, 3) := by decide +kernel
theorem dX4_goesBack_16 : decode cX4_goesBack 16 = .ok (.aload_n 0, 1) := by decide +kernel
theorem dX4_goesBack_17 : decode cX4_goesBack 17 = .ok (.getfield 29, 3) := by decide +kernel
theorem dX4_goesBack_20 : decode cX4_goesBack 20 = .ok (.iconst 0, 1) := by decide +kernel
theorem dX4_goesBack_21 : decode cX4_goesBack 21 = .ok (.aload_n 3, 1) := by decide +kernel
theorem dX4_goesBack_22 : decode cX4_goesBack 22 = .ok (.getfield 41, 3) := by decide +kernel
theorem dX4_goesBack_25 : decode cX4_goesBack 25 = .ok (.iconst 0, 1) := by decide +kernel
theorem dX4_goesBack_26 : decode cX4_goesBack 26 = .ok (.bipush 6, 2) := by decide +kernel
theorem dX4_goesBack_28 : decode cX4_goesBack 28 = .ok (.invokestatic 44, 3) := by decide +kernel
theorem dX4_goesBack_31 : decode cX4_goesBack 31 = .ok (.return_, 1) := by decide +kernel
theorem dX5_init_0 : decode cX5_init 0 = .ok (.aload_n 0, 1) := by decide +kernel
theorem dX5_init_1 : decode cX5_init 1 = .ok (.invokespecial 3, 3) := by decide +kernel
theorem dX5_init_4 : decode cX5_init 4 = .ok (.aload_n 0, 1) := by decide +kernel
theorem dX5_init_5 : decode cX5_init 5 = .ok (.iconst 0, 1) := by decide +kernel
theorem dX5_init_6 : decode cX5_init 6 = .ok (.putfield 9, 3) := by decide +kernel
theorem dX5_init_9 : decode cX5_init 9 = .ok (.aload_n 0, 1) := by decide +kernel
theorem dX5_init_10 : decode cX5_init 10 = .ok (.bipush 6, 2) := by decide +kernel
theorem dX5_init_12 : decode cX5_init 12 = .ok (.newarray .int, 2) := by decide +kernel
theorem dX5_init_14 : decode cX5_init 14 = .ok (.putfield 15, 3) := by decide +kernel
theorem dX5_init_17 : decode cX5_init 17 = .ok (.aload_n 0, 1) := by decide +kernel
theorem dX5_init_18 : decode cX5_init 18 = .ok (.bipush 6, 2) := by decide +kernel
theorem dX5_init_20 : decode cX5_init 20 = .ok (.newarray .int, 2) := by decide +kernel
theorem dX5_init_22 : decode cX5_init 22 = .ok (.putfield 19, 3) := by decide +kernel
theorem dX5_init_25 : decode cX5_init 25 = .ok (.return_, 1) := by decide +kernel
theorem dX5_pairs_0 : decode cX5_pairs 0 = .ok (.aload_n 0, 1) := by decide +kernel
theorem dX5_pairs_1 : decode cX5_pairs 1 = .ok (.ldc 22, 2) := by decide +kernel
theorem dX5_pairs_3 : decode cX5_pairs 3 = .ok (.putfield 9, 3) := by decide +kernel
theorem dX5_pairs_6 : decode cX5_pairs 6 = .ok (.aload_n 0, 1) := by decide +kernel
theorem dX5_pairs_7 : decode cX5_pairs 7 = .ok (.getfield 19, 3) := by decide +kernel
theorem dX5_pairs_10 : decode cX5_pairs 10 = .ok (.iconst (-1), 1) := by decide +kernel
theorem dX5_pairs_11 : decode cX5_pairs 11 = .ok (.invokestatic 23, 3) := by decide +kernel
theorem dX5_pairs_14 : decode cX5_pairs 14 = .ok (.aload_n 0, 1) := by decide +kernel
theorem dX5_pairs_15 : decode cX5_pairs 15 = .ok (.aload_n 1, 1) := by decide +kernel
theorem dX5_pairs_16 : decode cX5_pairs 16 = .ok (.iload_n 2, 1) := by decide +kernel
theorem dX5_pairs_17 : decode cX5_pairs 17 = .ok (.iload_n 2, 1) := by decide +kernel
theorem dX5_pairs_18 : decode cX5_pairs 18 = .ok (.invokestatic 29, 3) := by decide +kernel
theorem dX5_pairs_21 : decode cX5_pairs 21 = .ok (.iconst 2, 1) := by decide +kernel
theorem dX5_pairs_22 : decode cX5_pairs 22 = .ok (.irem, 1) := by decide +kernel
theorem dX5_pairs_23 : decode cX5_pairs 23 = .ok (.iconst 1, 1) := by decide +kernel
theorem dX5_pairs_24 : decode cX5_pairs 24 = .ok (.if_icmp .ne 7, 3) := by decide +kernel
theorem dX5_pairs_27 : decode cX5_pairs 27 = .ok (.iconst 1, 1) := by decide +kernel
theorem dX5_pairs_28 : decode cX5_pairs 28 = .ok (.goto 4, 3) := by decide +kernel
theorem dX5_pairs_31 : decode cX5_pairs 31 = .ok (.iconst 0, 1) := by decide +kernel
theorem dX5_pairs_32 : decode cX5_pairs 32 = .ok (.iconst 0, 1) := by decide +kernel
theorem dX5_pairs_33 : decode cX5_pairs 33 = .ok (.invokevirtual 35, 3) := by decide +kernel
theorem dX5_pairs_36 : decode cX5_pairs 36 = .ok (.return_, 1) := by decide +kernel
theorem dX5_pairRest_0 : decode cX5_pairRest 0 = .ok (.iload_n 2, 1) := by decide +kernel
theorem dX5_pairRest_1 : decode cX5_pairRest 1 = .ok (.ifCond .ne 34, 3) := by decide +kernel
theorem dX5_pairRest_4 : decode cX5_pairRest 4 = .ok (.iload 4, 2) := by decide +kernel
theorem dX5_pairRest_6 : decode cX5_pairRest 6 = .ok (.aload_n 0, 1) := by decide +kernel
theorem dX5_pairRest_7 : decode cX5_pairRest 7 = .ok (.getfield 9, 3) := by decide +kernel
theorem dX5_pairRest_10 : decode cX5_pairRest 10 = .ok (.if_icmp .ge 24, 3) := by decide +kernel
theorem dX5_pairRest_13 : decode cX5_pairRest 13 = .ok (.aload_n 0, 1) := by decide +kernel
theorem dX5_pairRest_14 : decode cX5_pairRest 14 = .ok (.iload 4, 2) := by decide +kernel
theorem dX5_pairRest_16 : decode cX5_pairRest 16 = .ok (.putfield 9, 3) := by decide +kernel
theorem dX5_pairRest_19 : decode cX5_pairRest 19 = .ok (.aload_n 0, 1) := by decide +kernel
theorem dX5_pairRest_20 : decode cX5_pairRest 20 = .ok (.getfield 19, 3) := by decide +kernel
theorem dX5_pairRest_23 : decode cX5_pairRest 23 = .ok (.iconst 0, 1) := by decide +kernel
theorem dX5_pairRest_24 : decode cX5_pairRest 24 = .ok (.aload_n 0, 1) := by decide +kernel
theorem dX5_pairRest_25 : decode cX5_pairRest 25 = .ok (.getfield 15, 3) := by decide +kernel
theorem dX5_pairRest_28 : decode cX5_pairRest 28 = .ok (.iconst 0, 1) := by decide +kernel
theorem dX5_pairRest_29 : decode cX5_pairRest 29 = .ok (.bipush 6, 2) := by decide +kernel
theorem dX5_pairRest_31 : decode cX5_pairRest 31 = .ok (.invokestatic 39, 3) := by decide +kernel
theorem dX5_pairRest_34 : decode cX5_pairRest 34 = .ok (.return_, 1) := by decide +kernel
theorem dX5_pairRest_35 : decode cX5_pairRest 35 = .ok (.iload_n 2, 1) := by decide +kernel
theorem dX5_pairRest_36 : decode cX5_pairRest 36 = .ok (.invokestatic 45, 3) := by decide +kernel
theorem dX5_pairRest_39 : decode cX5_pairRest 39 = .ok (.istore 5, 2) := by decide +kernel
theorem dX5_pairRest_41 : decode cX5_pairRest 41 = .ok (.iload_n 2, 1) := by decide +kernel
theorem dX5_pairRest_42 : decode cX5_pairRest 42 = .ok (.iconst 1, 1) := by decide +kernel
theorem dX5_pairRest_43 : decode cX5_pairRest 43 = .ok (.iload 5, 2) := by decide +kernel
theorem dX5_pairRest_45 : decode cX5_pairRest 45 = .ok (.ishl, 1) := by decide +kernel
theorem dX5_pairRest_46 : decode cX5_pairRest 46 = .ok (.iconst (-1), 1) := by decide +kernel
theorem dX5_pairRest_47 : decode cX5_pairRest 47 = .ok (.ixor, 1) := by decide +kernel
theorem dX5_pairRest_48 : decode cX5_pairRest 48 = .ok (.iand, 1) := by decide +kernel
theorem dX5_pairRest_49 : decode cX5_pairRest 49 = .ok (.istore 6, 2) := by decide +kernel
theorem dX5_pairRest_51 : decode cX5_pairRest 51 = .ok (.iload 5, 2) := by decide +kernel
theorem dX5_pairRest_53 : decode cX5_pairRest 53 = .ok (.iconst 1, 1) := by decide +kernel
theorem dX5_pairRest_54 : decode cX5_pairRest 54 = .ok (.iadd, 1) := by decide +kernel
theorem dX5_pairRest_55 : decode cX5_pairRest 55 = .ok (.istore 7, 2) := by decide +kernel
theorem dX5_pairRest_57 : decode cX5_pairRest 57 = .ok (.iload 7, 2) := by decide +kernel
theorem dX5_pairRest_59 : decode cX5_pairRest 59 = .ok (.bipush 6, 2) := by decide +kernel
theorem dX5_pairRest_61 : decode cX5_pairRest 61 = .ok (.if_icmp .ge 78, 3) := by decide +kernel
theorem dX5_pairRest_64 : decode cX5_pairRest 64 = .ok (.iload 6, 2) := by decide +kernel
theorem dX5_pairRest_66 : decode cX5_pairRest 66 = .ok (.iload 7, 2) := by decide +kernel
theorem dX5_pairRest_68 : decode cX5_pairRest 68 = .ok (.ishr, 1) := by decide +kernel
theorem dX5_pairRest_69 : decode cX5_pairRest 69 = .ok (.iconst 1, 1) := by decide +kernel
theorem dX5_pairRest_70 : decode cX5_pairRest 70 = .ok (.iand, 1) := by decide +kernel
theorem dX5_pairRest_71 : decode cX5_pairRest 71 = .ok (.iconst 1, 1) := by decide +kernel
theorem dX5_pairRest_72 : decode cX5_pairRest 72 = .ok (.if_icmp .ne 61, 3) := by decide +kernel
theorem dX5_pairRest_75 : decode cX5_pairRest 75 = .ok (.aload_n 0, 1) := by decide +kernel
theorem dX5_pairRest_76 : decode cX5_pairRest 76 = .ok (.getfield 19, 3) := by decide +kernel
theorem dX5_pairRest_79 : decode cX5_pairRest 79 = .ok (.iload 5, 2) := by decide +kernel
theorem dX5_pairRest_81 : decode cX5_pairRest 81 = .ok (.iload 7, 2) := by decide +kernel
theorem dX5_pairRest_83 : decode cX5_pairRest 83 = .ok (.iastore, 1) := by decide +kernel
theorem dX5_pairRest_84 : decode cX5_pairRest 84 = .ok (.aload_n 0, 1) := by decide +kernel
theorem dX5_pairRest_85 : decode cX5_pairRest 85 = .ok (.getfield 19, 3) := by decide +kernel
theorem dX5_pairRest_88 : decode cX5_pairRest 88 = .ok (.iload 7, 2) := by decide +kernel
theorem dX5_pairRest_90 : decode cX5_pairRest 90 = .ok (.iload 5, 2) := by decide +kernel
theorem dX5_pairRest_92 : decode cX5_pairRest 92 = .ok (.iastore, 1) := by decide +kernel
theorem dX5_pairRest_93 : decode cX5_pairRest 93 = .ok (.aload_n 1, 1) := by decide +kernel
theorem dX5_pairRest_94 : decode cX5_pairRest 94 = .ok (.getfield 48, 3) := by decide +kernel
theorem dX5_pairRest_97 : decode cX5_pairRest 97 = .ok (.iload 5, 2) := by decide +kernel
theorem dX5_pairRest_99 : decode cX5_pairRest 99 = .ok (.iaload, 1) := by decide +kernel
theorem dX5_pairRest_100 : decode cX5_pairRest 100 = .ok (.aload_n 1, 1) := by decide +kernel
theorem dX5_pairRest_101 : decode cX5_pairRest 101 = .ok (.getfield 48, 3) := by decide +kernel
theorem dX5_pairRest_104 : decode cX5_pairRest 104 = .ok (.iload 7, 2) := by decide +kernel
theorem dX5_pairRest_106 : decode cX5_pairRest 106 = .ok (.iaload, 1) := by decide +kernel
theorem dX5_pairRest_107 : decode cX5_pairRest 107 = .ok (.isub, 1) := by decide +kernel
theorem dX5_pairRest_108 : decode cX5_pairRest 108 = .ok (.invokestatic 53, 3) := by decide +kernel
theorem dX5_pairRest_111 : decode cX5_pairRest 111 = .ok (.istore 8, 2) := by decide +kernel
theorem dX5_pairRest_113 : decode cX5_pairRest 113 = .ok (.aload_n 0, 1) := by decide +kernel
theorem dX5_pairRest_114 : decode cX5_pairRest 114 = .ok (.aload_n 1, 1) := by decide +kernel
theorem dX5_pairRest_115 : decode cX5_pairRest 115 = .ok (.iload 6, 2) := by decide +kernel
theorem dX5_pairRest_117 : decode cX5_pairRest 117 = .ok (.iconst 1, 1) := by decide +kernel
theorem dX5_pairRest_118 : decode cX5_pairRest 118 = .ok (.iload 7, 2) := by decide +kernel
theorem dX5_pairRest_120 : decode cX5_pairRest 120 = .ok (.ishl, 1) := by decide +kernel
theorem dX5_pairRest_121 : decode cX5_pairRest 121 = .ok (.iconst (-1), 1) := by decide +kernel
theorem dX5_pairRest_122 : decode cX5_pairRest 122 = .ok (.ixor, 1) := by decide +kernel
theorem dX5_pairRest_123 : decode cX5_pairRest 123 = .ok (.iand, 1) := by decide +kernel
theorem dX5_pairRest_124 : decode cX5_pairRest 124 = .ok (.iload_n 3, 1) := by decide +kernel
theorem dX5_pairRest_125 : decode cX5_pairRest 125 = .ok (.iload 4, 2) := by decide +kernel
theorem dX5_pairRest_127 : decode cX5_pairRest 127 = .ok (.iload 8, 2) := by decide +kernel
theorem dX5_pairRest_129 : decode cX5_pairRest 129 = .ok (.iadd, 1) := by decide +kernel
theorem dX5_pairRest_130 : decode cX5_pairRest 130 = .ok (.invokevirtual 35, 3) := by decide +kernel
theorem dX5_pairRest_133 : decode cX5_pairRest 133 = .ok (.iinc 7 1, 3) := by decide +kernel
theorem dX5_pairRest_136 : decode cX5_pairRest 136 = .ok (.goto (-79), 3) := by decide +kernel
theorem dX5_pairRest_139 : decode cX5_pairRest 139 = .ok (.aload_n 0, 1) := by decide +kernel
theorem dX5_pairRest_140 : decode cX5_pairRest 140 = .ok (.getfield 19, 3) := by decide +kernel
theorem dX5_pairRest_143 : decode cX5_pairRest 143 = .ok (.iload 5, 2) := by decide +kernel
theorem dX5_pairRest_145 : decode cX5_pairRest 145 = .ok (.iconst (-1), 1) := by decide +kernel
theorem dX5_pairRest_146 : decode cX5_pairRest 146 = .ok (.iastore, 1) := by decide +kernel
theorem dX5_pairRest_147 : decode cX5_pairRest 147 = .ok (.iload_n 3, 1) := by decide +kernel
theorem dX5_pairRest_148 : decode cX5_pairRest 148 = .ok (.ifCond .eq 13, 3) := by decide +kernel
theorem dX5_pairRest_151 : decode cX5_pairRest 151 = .ok (.aload_n 0, 1) := by decide +kernel
theorem dX5_pairRest_152 : decode cX5_pairRest 152 = .ok (.aload_n 1, 1) := by decide +kernel
theorem dX5_pairRest_153 : decode cX5_pairRest 153 = .ok (.iload 6, 2) := by decide +kernel
theorem dX5_pairRest_155 : decode cX5_pairRest 155 = .ok (.iconst 0, 1) := by decide +kernel
theorem dX5_pairRest_156 : decode cX5_pairRest 156 = .ok (.iload 4, 2) := by decide +kernel
theorem dX5_pairRest_158 : decode cX5_pairRest 158 = .ok (.invokevirtual 35, 3) := by decide +kernel
theorem dX5_pairRest_161 : decode cX5_pairRest 161 = .ok (.return_, 1) := by decide +kernel
theorem dX6_init_0 : decode cX6_init 0 = .ok (.aload_n 0, 1) := by decide +kernel
theorem dX6_init_1 : decode cX6_init 1 = .ok (.invokespecial 3, 3) := by decide +kernel
theorem dX6_init_4 : decode cX6_init 4 = .ok (.aload_n 0, 1) := by decide +kernel
theorem dX6_init_5 : decode cX6_init 5 = .ok (.iconst 0, 1) := by decide +kernel
theorem dX6_init_6 : decode cX6_init 6 = .ok (.putfield 9, 3) := by decide +kernel
theorem dX6_init_9 : decode cX6_init 9 = .ok (.aload_n 0, 1) := by decide +kernel
theorem dX6_init_10 : decode cX6_init 10 = .ok (.bipush 6, 2) := by decide +kernel
theorem dX6_init_12 : decode cX6_init 12 = .ok (.newarray .int, 2) := by decide +kernel
theorem dX6_init_14 : decode cX6_init 14 = .ok (.putfield 15, 3) := by decide +kernel
theorem dX6_init_17 : decode cX6_init 17 = .ok (.aload_n 0, 1) := by decide +kernel
theorem dX6_init_18 : decode cX6_init 18 = .ok (.bipush 6, 2) := by decide +kernel
theorem dX6_init_20 : decode cX6_init 20 = .ok (.newarray .int, 2) := by decide +kernel
theorem dX6_init_22 : decode cX6_init 22 = .ok (.putfield 19, 3) := by decide +kernel
theorem dX6_init_25 : decode cX6_init 25 = .ok (.aload_n 0, 1) := by decide +kernel
theorem dX6_init_26 : decode cX6_init 26 = .ok (.bipush 6, 2) := by decide +kernel
theorem dX6_init_28 : decode cX6_init 28 = .ok (.newarray .int, 2) := by decide +kernel
theorem dX6_init_30 : decode cX6_init 30 = .ok (.putfield 22, 3) := by decide +kernel
theorem dX6_init_33 : decode cX6_init 33 = .ok (.aload_n 0, 1) := by decide +kernel
theorem dX6_init_34 : decode cX6_init 34 = .ok (.bipush 64, 2) := by decide +kernel
theorem dX6_init_36 : decode cX6_init 36 = .ok (.newarray .int, 2) := by decide +kernel
theorem dX6_init_38 : decode cX6_init 38 = .ok (.putfield 25, 3) := by decide +kernel
theorem dX6_init_41 : decode cX6_init 41 = .ok (.aload_n 0, 1) := by decide +kernel
theorem dX6_init_42 : decode cX6_init 42 = .ok (.iconst 0, 1) := by decide +kernel
theorem dX6_init_43 : decode cX6_init 43 = .ok (.putfield 28, 3) := by decide +kernel
theorem dX6_init_46 : decode cX6_init 46 = .ok (.aload_n 0, 1) := by decide +kernel
theorem dX6_init_47 : decode cX6_init 47 = .ok (.iconst 0, 1) := by decide +kernel
theorem dX6_init_48 : decode cX6_init 48 = .ok (.putfield 31, 3) := by decide +kernel
theorem dX6_init_51 : decode cX6_init 51 = .ok (.return_, 1) := by decide +kernel
theorem dX6_parts_0 : decode cX6_parts 0 = .ok (.aload_n 0, 1) := by decide +kernel
theorem dX6_parts_1 : decode cX6_parts 1 = .ok (.aload_n 1, 1) := by decide +kernel
theorem dX6_parts_2 : decode cX6_parts 2 = .ok (.getfield 34, 3) := by decide +kernel
theorem dX6_parts_5 : decode cX6_parts 5 = .ok (.putfield 28, 3) := by decide +kernel
theorem dX6_parts_8 : decode cX6_parts 8 = .ok (.aload_n 0, 1) := by decide +kernel
theorem dX6_parts_9 : decode cX6_parts 9 = .ok (.iload_n 2, 1) := by decide +kernel
theorem dX6_parts_10 : decode cX6_parts 10 = .ok (.putfield 31, 3) := by decide +kernel
theorem dX6_parts_13 : decode cX6_parts 13 = .ok (.iconst 0, 1) := by decide +kernel
theorem dX6_parts_14 : decode cX6_parts 14 = .ok (.istore 4, 2) := by decide +kernel
theorem dX6_parts_16 : decode cX6_parts 16 = .ok (.iload 4, 2) := by decide +kernel
theorem dX6_parts_18 : decode cX6_parts 18 = .ok (.aload_n 0, 1) := by decide +kernel
theorem dX6_parts_19 : decode cX6_parts 19 = .ok (.getfield 31, 3) := by decide +kernel
theorem dX6_parts_22 : decode cX6_parts 22 = .ok (.if_icmp .gt 39, 3) := by decide +kernel
theorem dX6_parts_25 : decode cX6_parts 25 = .ok (.aload_n 0, 1) := by decide +kernel
theorem dX6_parts_26 : decode cX6_parts 26 = .ok (.getfield 25, 3) := by decide +kernel
theorem dX6_parts_29 : decode cX6_parts 29 = .ok (.iload 4, 2) := by decide +kernel
theorem dX6_parts_31 : decode cX6_parts 31 = .ok (.iload 4, 2) := by decide +kernel
theorem dX6_parts_33 : decode cX6_parts 33 = .ok (.aload_n 0, 1) := by decide +kernel
theorem dX6_parts_34 : decode cX6_parts 34 = .ok (.getfield 31, 3) := by decide +kernel
theorem dX6_parts_37 : decode cX6_parts 37 = .ok (.iconst (-1), 1) := by decide +kernel
theorem dX6_parts_38 : decode cX6_parts 38 = .ok (.ixor, 1) := by decide +kernel
theorem dX6_parts_39 : decode cX6_parts 39 = .ok (.iand, 1) := by decide +kernel
theorem dX6_parts_40 : decode cX6_parts 40 = .ok (.ifCond .ne 13, 3) := by decide +kernel
theorem dX6_parts_43 : decode cX6_parts 43 = .ok (.aload_n 1, 1) := by decide +kernel
theorem dX6_parts_44 : decode cX6_parts 44 = .ok (.iload 4, 2) := by decide +kernel
theorem dX6_parts_46 : decode cX6_parts 46 = .ok (.iload_n 3, 1) := by decide +kernel
theorem dX6_parts_47 : decode cX6_parts 47 = .ok (.invokestatic 37, 3) := by decide +kernel
theorem dX6_parts_50 : decode cX6_parts 50 = .ok (.goto 4, 3) := by decide +kernel
theorem dX6_parts_53 : decode cX6_parts 53 = .ok (.iconst 0, 1) := by decide +kernel
theorem dX6_parts_54 : decode cX6_parts 54 = .ok (.iastore, 1) := by decide +kernel
theorem dX6_parts_55 : decode cX6_parts 55 = .ok (.iinc 4 1, 3) := by decide +kernel
theorem dX6_parts_58 : decode cX6_parts 58 = .ok (.goto (-42), 3) := by decide +kernel
theorem dX6_parts_61 : decode cX6_parts 61 = .ok (.aload_n 0, 1) := by decide +kernel
theorem dX6_parts_62 : decode cX6_parts 62 = .ok (.getfield 22, 3) := by decide +kernel
theorem dX6_parts_65 : decode cX6_parts 65 = .ok (.iconst 0, 1) := by decide +kernel
theorem dX6_parts_66 : decode cX6_parts 66 = .ok (.invokestatic 41, 3) := by decide +kernel
theorem dX6_parts_69 : decode cX6_parts 69 = .ok (.aload_n 0, 1) := by decide +kernel
theorem dX6_parts_70 : decode cX6_parts 70 = .ok (.iconst (-1), 1) := by decide +kernel
theorem dX6_parts_71 : decode cX6_parts 71 = .ok (.putfield 9, 3) := by decide +kernel
theorem dX6_parts_74 : decode cX6_parts 74 = .ok (.aload_n 0, 1) := by decide +kernel
theorem dX6_parts_75 : decode cX6_parts 75 = .ok (.iconst 0, 1) := by decide +kernel
theorem dX6_parts_76 : decode cX6_parts 76 = .ok (.iconst 0, 1) := by decide +kernel
theorem dX6_parts_77 : decode cX6_parts 77 = .ok (.invokevirtual 47, 3) := by decide +kernel
theorem dX6_parts_80 : decode cX6_parts 80 = .ok (.return_, 1) := by decide +kernel
theorem dX6_worthOf_0 : decode cX6_worthOf 0 = .ok (.iconst 0, 1) := by decide +kernel
theorem dX6_worthOf_1 : decode cX6_worthOf 1 = .ok (.istore_n 3, 1) := by decide +kernel
theorem dX6_worthOf_2 : decode cX6_worthOf 2 = .ok (.iconst 0, 1) := by decide +kernel
theorem dX6_worthOf_3 : decode cX6_worthOf 3 = .ok (.istore 4, 2) := by decide +kernel
theorem dX6_worthOf_5 : decode cX6_worthOf 5 = .ok (.iload 4, 2) := by decide +kernel
theorem dX6_worthOf_7 : decode cX6_worthOf 7 = .ok (.aload_n 0, 1) := by decide +kernel
theorem dX6_worthOf_8 : decode cX6_worthOf 8 = .ok (.getfield 34, 3) := by decide +kernel
theorem dX6_worthOf_11 : decode cX6_worthOf 11 = .ok (.if_icmp .ge 32, 3) := by decide +kernel
theorem dX6_worthOf_14 : decode cX6_worthOf 14 = .ok (.iload_n 1, 1) := by decide +kernel
theorem dX6_worthOf_15 : decode cX6_worthOf 15 = .ok (.iload 4, 2) := by decide +kernel
theorem dX6_worthOf_17 : decode cX6_worthOf 17 = .ok (.ishr, 1) := by decide +kernel
theorem dX6_worthOf_18 : decode cX6_worthOf 18 = .ok (.iconst 1, 1) := by decide +kernel
theorem dX6_worthOf_19 : decode cX6_worthOf 19 = .ok (.iand, 1) := by decide +kernel
theorem dX6_worthOf_20 : decode cX6_worthOf 20 = .ok (.iconst 1, 1) := by decide +kernel
theorem dX6_worthOf_21 : decode cX6_worthOf 21 = .ok (.if_icmp .ne 16, 3) := by decide +kernel
theorem dX6_worthOf_24 : decode cX6_worthOf 24 = .ok (.iload_n 3, 1) := by decide +kernel
theorem dX6_worthOf_25 : decode cX6_worthOf 25 = .ok (.aload_n 0, 1) := by decide +kernel
theorem dX6_worthOf_26 : decode cX6_worthOf 26 = .ok (.iload_n 1, 1) := by decide +kernel
theorem dX6_worthOf_27 : decode cX6_worthOf 27 = .ok (.iload_n 2, 1) := by decide +kernel
theorem dX6_worthOf_28 : decode cX6_worthOf 28 = .ok (.iload 4, 2) := by decide +kernel
theorem dX6_worthOf_30 : decode cX6_worthOf 30 = .ok (.invokestatic 51, 3) := by decide +kernel
theorem dX6_worthOf_33 : decode cX6_worthOf 33 = .ok (.invokestatic 55, 3) := by decide +kernel
theorem dX6_worthOf_36 : decode cX6_worthOf 36 = .ok (.istore_n 3, 1) := by decide +kernel
theorem dX6_worthOf_37 : decode cX6_worthOf 37 = .ok (.iinc 4 1, 3) := by decide +kernel
theorem dX6_worthOf_40 : decode cX6_worthOf 40 = .ok (.goto (-35), 3) := by decide +kernel
theorem dX6_worthOf_43 : decode cX6_worthOf 43 = .ok (.iload_n 3, 1) := by decide +kernel
theorem dX6_worthOf_44 : decode cX6_worthOf 44 = .ok (.ireturn, 1) := by decide +kernel
theorem dX6_worthBy_0 : decode cX6_worthBy 0 = .ok (.iconst 0, 1) := by decide +kernel
theorem dX6_worthBy_1 : decode cX6_worthBy 1 = .ok (.istore 4, 2) := by decide +kernel
theorem dX6_worthBy_3 : decode cX6_worthBy 3 = .ok (.iconst 0, 1) := by decide +kernel
theorem dX6_worthBy_4 : decode cX6_worthBy 4 = .ok (.istore 5, 2) := by decide +kernel
theorem dX6_worthBy_6 : decode cX6_worthBy 6 = .ok (.iload 5, 2) := by decide +kernel
theorem dX6_worthBy_8 : decode cX6_worthBy 8 = .ok (.aload_n 0, 1) := by decide +kernel
theorem dX6_worthBy_9 : decode cX6_worthBy 9 = .ok (.getfield 34, 3) := by decide +kernel
theorem dX6_worthBy_12 : decode cX6_worthBy 12 = .ok (.if_icmp .ge 33, 3) := by decide +kernel
theorem dX6_worthBy_15 : decode cX6_worthBy 15 = .ok (.iload_n 1, 1) := by decide +kernel
theorem dX6_worthBy_16 : decode cX6_worthBy 16 = .ok (.iload 5, 2) := by decide +kernel
theorem dX6_worthBy_18 : decode cX6_worthBy 18 = .ok (.ishr, 1) := by decide +kernel
theorem dX6_worthBy_19 : decode cX6_worthBy 19 = .ok (.iconst 1, 1) := by decide +kernel
theorem dX6_worthBy_20 : decode cX6_worthBy 20 = .ok (.iand, 1) := by decide +kernel
theorem dX6_worthBy_21 : decode cX6_worthBy 21 = .ok (.iconst 1, 1) := by decide +kernel
theorem dX6_worthBy_22 : decode cX6_worthBy 22 = .ok (.if_icmp .ne 17, 3) := by decide +kernel
theorem dX6_worthBy_25 : decode cX6_worthBy 25 = .ok (.iload 4, 2) := by decide +kernel
theorem dX6_worthBy_27 : decode cX6_worthBy 27 = .ok (.aload_n 0, 1) := by decide +kernel
theorem dX6_worthBy_28 : decode cX6_worthBy 28 = .ok (.iload_n 3, 1) := by decide +kernel
theorem dX6_worthBy_29 : decode cX6_worthBy 29 = .ok (.iload_n 2, 1) := by decide +kernel
theorem dX6_worthBy_30 : decode cX6_worthBy 30 = .ok (.iconst 1, 1) := by decide +kernel
theorem dX6_worthBy_31 : decode cX6_worthBy 31 = .ok (.iload 5, 2) := by decide +kernel
theorem dX6_worthBy_33 : decode cX6_worthBy 33 = .ok (.invokevirtual 61, 3) := by decide +kernel
theorem dX6_worthBy_36 : decode cX6_worthBy 36 = .ok (.iadd, 1) := by decide +kernel
theorem dX6_worthBy_37 : decode cX6_worthBy 37 = .ok (.istore 4, 2) := by decide +kernel
theorem dX6_worthBy_39 : decode cX6_worthBy 39 = .ok (.iinc 5 1, 3) := by decide +kernel
theorem dX6_worthBy_42 : decode cX6_worthBy 42 = .ok (.goto (-36), 3) := by decide +kernel
theorem dX6_worthBy_45 : decode cX6_worthBy 45 = .ok (.iload 4, 2) := by decide +kernel
theorem dX6_worthBy_47 : decode cX6_worthBy 47 = .ok (.ireturn, 1) := by decide +kernel
theorem dX6_seat_0 : decode cX6_seat 0 = .ok (.iload_n 1, 1) := by decide +kernel
theorem dX6_seat_1 : decode cX6_seat 1 = .ok (.aload_n 0, 1) := by decide +kernel
theorem dX6_seat_2 : decode cX6_seat 2 = .ok (.getfield 28, 3) := by decide +kernel
theorem dX6_seat_5 : decode cX6_seat 5 = .ok (.if_icmp .lt 9, 3) := by decide +kernel
theorem dX6_seat_8 : decode cX6_seat 8 = .ok (.aload_n 0, 1) := by decide +kernel
theorem dX6_seat_9 : decode cX6_seat 9 = .ok (.iload_n 2, 1) := by decide +kernel
theorem dX6_seat_10 : decode cX6_seat 10 = .ok (.invokevirtual 65, 3) := by decide +kernel
theorem dX6_seat_13 : decode cX6_seat 13 = .ok (.return_, 1) := by decide +kernel
theorem dX6_seat_14 : decode cX6_seat 14 = .ok (.aload_n 0, 1) := by decide +kernel
theorem dX6_seat_15 : decode cX6_seat 15 = .ok (.getfield 31, 3) := by decide +kernel
theorem dX6_seat_18 : decode cX6_seat 18 = .ok (.iload_n 1, 1) := by decide +kernel
theorem dX6_seat_19 : decode cX6_seat 19 = .ok (.ishr, 1) := by decide +kernel
theorem dX6_seat_20 : decode cX6_seat 20 = .ok (.iconst 1, 1) := by decide +kernel
theorem dX6_seat_21 : decode cX6_seat 21 = .ok (.iand, 1) := by decide +kernel
theorem dX6_seat_22 : decode cX6_seat 22 = .ok (.ifCond .ne 19, 3) := by decide +kernel
theorem dX6_seat_25 : decode cX6_seat 25 = .ok (.aload_n 0, 1) := by decide +kernel
theorem dX6_seat_26 : decode cX6_seat 26 = .ok (.getfield 19, 3) := by decide +kernel
theorem dX6_seat_29 : decode cX6_seat 29 = .ok (.iload_n 1, 1) := by decide +kernel
theorem dX6_seat_30 : decode cX6_seat 30 = .ok (.iconst (-1), 1) := by decide +kernel
theorem dX6_seat_31 : decode cX6_seat 31 = .ok (.iastore, 1) := by decide +kernel
theorem dX6_seat_32 : decode cX6_seat 32 = .ok (.aload_n 0, 1) := by decide +kernel
theorem dX6_seat_33 : decode cX6_seat 33 = .ok (.iload_n 1, 1) := by decide +kernel
theorem dX6_seat_34 : decode cX6_seat 34 = .ok (.iconst 1, 1) := by decide +kernel
theorem dX6_seat_35 : decode cX6_seat 35 = .ok (.iadd, 1) := by decide +kernel
theorem dX6_seat_36 : decode cX6_seat 36 = .ok (.iload_n 2, 1) := by decide +kernel
theorem dX6_seat_37 : decode cX6_seat 37 = .ok (.invokevirtual 47, 3) := by decide +kernel
theorem dX6_seat_40 : decode cX6_seat 40 = .ok (.return_, 1) := by decide +kernel
theorem dX6_seat_41 : decode cX6_seat 41 = .ok (.iconst 0, 1) := by decide +kernel
theorem dX6_seat_42 : decode cX6_seat 42 = .ok (.istore_n 3, 1) := by decide +kernel
theorem dX6_seat_43 : decode cX6_seat 43 = .ok (.iload_n 3, 1) := by decide +kernel
theorem dX6_seat_44 : decode cX6_seat 44 = .ok (.iload_n 2, 1) := by decide +kernel
theorem dX6_seat_45 : decode cX6_seat 45 = .ok (.if_icmp .gt 62, 3) := by decide +kernel
theorem dX6_seat_48 : decode cX6_seat 48 = .ok (.iload_n 3, 1) := by decide +kernel
theorem dX6_seat_49 : decode cX6_seat 49 = .ok (.bipush 6, 2) := by decide +kernel
theorem dX6_seat_51 : decode cX6_seat 51 = .ok (.if_icmp .ge 56, 3) := by decide +kernel
theorem dX6_seat_54 : decode cX6_seat 54 = .ok (.aload_n 0, 1) := by decide +kernel
theorem dX6_seat_55 : decode cX6_seat 55 = .ok (.getfield 19, 3) := by decide +kernel
theorem dX6_seat_58 : decode cX6_seat 58 = .ok (.iload_n 1, 1) := by decide +kernel
theorem dX6_seat_59 : decode cX6_seat 59 = .ok (.iload_n 3, 1) := by decide +kernel
theorem dX6_seat_60 : decode cX6_seat 60 = .ok (.iastore, 1) := by decide +kernel
theorem dX6_seat_61 : decode cX6_seat 61 = .ok (.aload_n 0, 1) := by decide +kernel
theorem dX6_seat_62 : decode cX6_seat 62 = .ok (.getfield 22, 3) := by decide +kernel
theorem dX6_seat_65 : decode cX6_seat 65 = .ok (.iload_n 3, 1) := by decide +kernel
theorem dX6_seat_66 : decode cX6_seat 66 = .ok (.dup2, 1) := by decide +kernel
theorem dX6_seat_67 : decode cX6_seat 67 = .ok (.iaload, 1) := by decide +kernel
theorem dX6_seat_68 : decode cX6_seat 68 = .ok (.iconst 1, 1) := by decide +kernel
theorem dX6_seat_69 : decode cX6_seat 69 = .ok (.iload_n 1, 1) := by decide +kernel
theorem dX6_seat_70 : decode cX6_seat 70 = .ok (.ishl, 1) := by decide +kernel
theorem dX6_seat_71 : decode cX6_seat 71 = .ok (.ior, 1) := by decide +kernel
theorem dX6_seat_72 : decode cX6_seat 72 = .ok (.iastore, 1) := by decide +kernel
theorem dX6_seat_73 : decode cX6_seat 73 = .ok (.aload_n 0, 1) := by decide +kernel
theorem dX6_seat_74 : decode cX6_seat 74 = .ok (.iload_n 1, 1) := by decide +kernel
theorem dX6_seat_75 : decode cX6_seat 75 = .ok (.iconst 1, 1) := by decide +kernel
theorem dX6_seat_76 : decode cX6_seat 76 = .ok (.iadd, 1) := by decide +kernel
theorem dX6_seat_77 : decode cX6_seat 77 = .ok (.iload_n 2, 1) := by decide +kernel
theorem dX6_seat_78 : decode cX6_seat 78 = .ok (.iload_n 3, 1) := by decide +kernel
theorem dX6_seat_79 : decode cX6_seat 79 = .ok (.iconst 1, 1) := by decide +kernel
theorem dX6_seat_80 : decode cX6_seat 80 = .ok (.iadd, 1) := by decide +kernel
theorem dX6_seat_81 : decode cX6_seat 81 = .ok (.invokestatic 55, 3) := by decide +kernel
theorem dX6_seat_84 : decode cX6_seat 84 = .ok (.invokevirtual 47, 3) := by decide +kernel
theorem dX6_seat_87 : decode cX6_seat 87 = .ok (.aload_n 0, 1) := by decide +kernel
theorem dX6_seat_88 : decode cX6_seat 88 = .ok (.getfield 22, 3) := by decide +kernel
theorem dX6_seat_91 : decode cX6_seat 91 = .ok (.iload_n 3, 1) := by decide +kernel
theorem dX6_seat_92 : decode cX6_seat 92 = .ok (.dup2, 1) := by decide +kernel
theorem dX6_seat_93 : decode cX6_seat 93 = .ok (.iaload, 1) := by decide +kernel
theorem dX6_seat_94 : decode cX6_seat 94 = .ok (.iconst 1, 1) := by decide +kernel
theorem dX6_seat_95 : decode cX6_seat 95 = .ok (.iload_n 1, 1) := by decide +kernel
theorem dX6_seat_96 : decode cX6_seat 96 = .ok (.ishl, 1) := by decide +kernel
theorem dX6_seat_97 : decode cX6_seat 97 = .ok (.iconst (-1), 1) := by decide +kernel
theorem dX6_seat_98 : decode cX6_seat 98 = .ok (.ixor, 1) := by decide +kernel
theorem dX6_seat_99 : decode cX6_seat 99 = .ok (.iand, 1) := by decide +kernel
theorem dX6_seat_100 : decode cX6_seat 100 = .ok (.iastore, 1) := by decide +kernel
theorem dX6_seat_101 : decode cX6_seat 101 = .ok (.iinc 3 1, 3) := by decide +kernel
theorem dX6_seat_104 : decode cX6_seat 104 = .ok (.goto (-61), 3) := by decide +kernel
theorem dX6_seat_107 : decode cX6_seat 107 = .ok (.return_, 1) := by decide +kernel
theorem dX6_keepIfBetter_0 : decode cX6_keepIfBetter 0 = .ok (.iconst 0, 1) := by decide +kernel
theorem dX6_keepIfBetter_1 : decode cX6_keepIfBetter 1 = .ok (.istore_n 2, 1) := by decide +kernel
theorem dX6_keepIfBetter_2 : decode cX6_keepIfBetter 2 = .ok (.iconst 0, 1) := by decide +kernel
theorem dX6_keepIfBetter_3 : decode cX6_keepIfBetter 3 = .ok (.istore_n 3, 1) := by decide +kernel
theorem dX6_keepIfBetter_4 : decode cX6_keepIfBetter 4 = .ok (.iload_n 3, 1) := by decide +kernel
theorem dX6_keepIfBetter_5 : decode cX6_keepIfBetter 5 = .ok (.iload_n 1, 1) := by decide +kernel
theorem dX6_keepIfBetter_6 : decode cX6_keepIfBetter 6 = .ok (.if_icmp .ge 23, 3) := by decide +kernel
theorem dX6_keepIfBetter_9 : decode cX6_keepIfBetter 9 = .ok (.iload_n 2, 1) := by decide +kernel
theorem dX6_keepIfBetter_10 : decode cX6_keepIfBetter 10 = .ok (.aload_n 0, 1) := by decide +kernel
theorem dX6_keepIfBetter_11 : decode cX6_keepIfBetter 11 = .ok (.getfield 25, 3) := by decide +kernel
theorem dX6_keepIfBetter_14 : decode cX6_keepIfBetter 14 = .ok (.aload_n 0, 1) := by decide +kernel
theorem dX6_keepIfBetter_15 : decode cX6_keepIfBetter 15 = .ok (.getfield 22, 3) := by decide +kernel
theorem dX6_keepIfBetter_18 : decode cX6_keepIfBetter 18 = .ok (.iload_n 3, 1) := by decide +kernel
theorem dX6_keepIfBetter_19 : decode cX6_keepIfBetter 19 = .ok (.iaload, 1) := by decide +kernel
theorem dX6_keepIfBetter_20 : decode cX6_keepIfBetter 20 = .ok (.iaload, 1) := by decide +kernel
theorem dX6_keepIfBetter_21 : decode cX6_keepIfBetter 21 = .ok (.iadd, 1) := by decide +kernel
theorem dX6_keepIfBetter_22 : decode cX6_keepIfBetter 22 = .ok (.istore_n 2, 1) := by decide +kernel
theorem dX6_keepIfBetter_23 : decode cX6_keepIfBetter 23 = .ok (.iinc 3 1, 3) := by decide +kernel
theorem dX6_keepIfBetter_26 : decode cX6_keepIfBetter 26 = .ok (.goto (-22), 3) := by decide +kernel
theorem dX6_keepIfBetter_29 : decode cX6_keepIfBetter 29 = .ok (.iload_n 2, 1) := by decide +kernel
theorem dX6_keepIfBetter_30 : decode cX6_keepIfBetter 30 = .ok (.aload_n 0, 1) := by decide +kernel
theorem dX6_keepIfBetter_31 : decode cX6_keepIfBetter 31 = .ok (.getfield 9, 3) := by decide +kernel
theorem dX6_keepIfBetter_34 : decode cX6_keepIfBetter 34 = .ok (.if_icmp .le 23, 3) := by decide +kernel
theorem dX6_keepIfBetter_37 : decode cX6_keepIfBetter 37 = .ok (.aload_n 0, 1) := by decide +kernel
theorem dX6_keepIfBetter_38 : decode cX6_keepIfBetter 38 = .ok (.iload_n 2, 1) := by decide +kernel
theorem dX6_keepIfBetter_39 : decode cX6_keepIfBetter 39 = .ok (.putfield 9, 3) := by decide +kernel
theorem dX6_keepIfBetter_42 : decode cX6_keepIfBetter 42 = .ok (.aload_n 0, 1) := by decide +kernel
theorem dX6_keepIfBetter_43 : decode cX6_keepIfBetter 43 = .ok (.getfield 19, 3) := by decide +kernel
theorem dX6_keepIfBetter_46 : decode cX6_keepIfBetter 46 = .ok (.iconst 0, 1) := by decide +kernel
theorem dX6_keepIfBetter_47 : decode cX6_keepIfBetter 47 = .ok (.aload_n 0, 1) := by decide +kernel
theorem dX6_keepIfBetter_48 : decode cX6_keepIfBetter 48 = .ok (.getfield 15, 3) := by decide +kernel
theorem dX6_keepIfBetter_51 : decode cX6_keepIfBetter 51 = .ok (.iconst 0, 1) := by decide +kernel
theorem dX6_keepIfBetter_52 : decode cX6_keepIfBetter 52 = .ok (.bipush 6, 2) := by decide +kernel
theorem dX6_keepIfBetter_54 : decode cX6_keepIfBetter 54 = .ok (.invokestatic 69, 3) := by decide +kernel
theorem dX6_keepIfBetter_57 : decode cX6_keepIfBetter 57 = .ok (.return_, 1) := by decide +kernel
theorem dX7_init_0 : decode cX7_init 0 = .ok (.aload_n 0, 1) := by decide +kernel
theorem dX7_init_1 : decode cX7_init 1 = .ok (.invokespecial 3, 3) := by decide +kernel
theorem dX7_init_4 : decode cX7_init 4 = .ok (.aload_n 0, 1) := by decide +kernel
theorem dX7_init_5 : decode cX7_init 5 = .ok (.iconst 0, 1) := by decide +kernel
theorem dX7_init_6 : decode cX7_init 6 = .ok (.putfield 9, 3) := by decide +kernel
theorem dX7_init_9 : decode cX7_init 9 = .ok (.aload_n 0, 1) := by decide +kernel
theorem dX7_init_10 : decode cX7_init 10 = .ok (.iconst (-1), 1) := by decide +kernel
theorem dX7_init_11 : decode cX7_init 11 = .ok (.putfield 15, 3) := by decide +kernel
theorem dX7_init_14 : decode cX7_init 14 = .ok (.aload_n 0, 1) := by decide +kernel
theorem dX7_init_15 : decode cX7_init 15 = .ok (.iconst 0, 1) := by decide +kernel
theorem dX7_init_16 : decode cX7_init 16 = .ok (.putfield 18, 3) := by decide +kernel
theorem dX7_init_19 : decode cX7_init 19 = .ok (.aload_n 0, 1) := by decide +kernel
theorem dX7_init_20 : decode cX7_init 20 = .ok (.iconst (-1), 1) := by decide +kernel
theorem dX7_init_21 : decode cX7_init 21 = .ok (.putfield 21, 3) := by decide +kernel
theorem dX7_init_24 : decode cX7_init 24 = .ok (.aload_n 0, 1) := by decide +kernel
theorem dX7_init_25 : decode cX7_init 25 = .ok (.iconst 0, 1) := by decide +kernel
theorem dX7_init_26 : decode cX7_init 26 = .ok (.putfield 24, 3) := by decide +kernel
theorem dX7_init_29 : decode cX7_init 29 = .ok (.aload_n 0, 1) := by decide +kernel
theorem dX7_init_30 : decode cX7_init 30 = .ok (.iconst 4, 1) := by decide +kernel
theorem dX7_init_31 : decode cX7_init 31 = .ok (.anewarray 27, 3) := by decide +kernel
theorem dX7_init_34 : decode cX7_init 34 = .ok (.putfield 29, 3) := by decide +kernel
theorem dX7_init_37 : decode cX7_init 37 = .ok (.iconst 0, 1) := by decide +kernel
theorem dX7_init_38 : decode cX7_init 38 = .ok (.istore_n 1, 1) := by decide +kernel
theorem dX7_init_39 : decode cX7_init 39 = .ok (.iload_n 1, 1) := by decide +kernel
theorem dX7_init_40 : decode cX7_init 40 = .ok (.iconst 3, 1) := by decide +kernel
theorem dX7_init_41 : decode cX7_init 41 = .ok (.if_icmp .gt 22, 3) := by decide +kernel
theorem dX7_init_44 : decode cX7_init 44 = .ok (.aload_n 0, 1) := by decide +kernel
theorem dX7_init_45 : decode cX7_init 45 = .ok (.getfield 29, 3) := by decide +kernel
theorem dX7_init_48 : decode cX7_init 48 = .ok (.iload_n 1, 1) := by decide +kernel
theorem dX7_init_49 : decode cX7_init 49 = .ok (.new 27, 3) := by decide +kernel
theorem dX7_init_52 : decode cX7_init 52 = .ok (.dup, 1) := by decide +kernel
theorem dX7_init_53 : decode cX7_init 53 = .ok (.invokespecial 33, 3) := by decide +kernel
theorem dX7_init_56 : decode cX7_init 56 = .ok (.aastore, 1) := by decide +kernel
theorem dX7_init_57 : decode cX7_init 57 = .ok (.iinc 1 1, 3) := by decide +kernel
theorem dX7_init_60 : decode cX7_init 60 = .ok (.goto (-21), 3) := by decide +kernel
theorem dX7_init_63 : decode cX7_init 63 = .ok (.return_, 1) := by decide +kernel
theorem dX7_finds_0 : decode cX7_finds 0 = .ok (.aload_n 0, 1) := by decide +kernel
theorem dX7_finds_1 : decode cX7_finds 1 = .ok (.iconst 3, 1) := by decide +kernel
theorem dX7_finds_2 : decode cX7_finds 2 = .ok (.iload_n 3, 1) := by decide +kernel
theorem dX7_finds_3 : decode cX7_finds 3 = .ok (.invokestatic 34, 3) := by decide +kernel
theorem dX7_finds_6 : decode cX7_finds 6 = .ok (.putfield 24, 3) := by decide +kernel
theorem dX7_finds_9 : decode cX7_finds 9 = .ok (.aload_n 0, 1) := by decide +kernel
theorem dX7_finds_10 : decode cX7_finds 10 = .ok (.ldc 40, 2) := by decide +kernel
theorem dX7_finds_12 : decode cX7_finds 12 = .ok (.putfield 9, 3) := by decide +kernel
theorem dX7_finds_15 : decode cX7_finds 15 = .ok (.aload_n 0, 1) := by decide +kernel
theorem dX7_finds_16 : decode cX7_finds 16 = .ok (.iconst (-1), 1) := by decide +kernel
theorem dX7_finds_17 : decode cX7_finds 17 = .ok (.putfield 15, 3) := by decide +kernel
theorem dX7_finds_20 : decode cX7_finds 20 = .ok (.aload_n 0, 1) := by decide +kernel
theorem dX7_finds_21 : decode cX7_finds 21 = .ok (.iconst (-1), 1) := by decide +kernel
theorem dX7_finds_22 : decode cX7_finds 22 = .ok (.putfield 21, 3) := by decide +kernel
theorem dX7_finds_25 : decode cX7_finds 25 = .ok (.aload_n 0, 1) := by decide +kernel
theorem dX7_finds_26 : decode cX7_finds 26 = .ok (.getfield 29, 3) := by decide +kernel
theorem dX7_finds_29 : decode cX7_finds 29 = .ok (.iconst 0, 1) := by decide +kernel
theorem dX7_finds_30 : decode cX7_finds 30 = .ok (.aaload, 1) := by decide +kernel
theorem dX7_finds_31 : decode cX7_finds 31 = .ok (.aload_n 2, 1) := by decide +kernel
theorem dX7_finds_32 : decode cX7_finds 32 = .ok (.invokevirtual 41, 3) := by decide +kernel
theorem dX7_finds_35 : decode cX7_finds 35 = .ok (.aload_n 0, 1) := by decide +kernel
theorem dX7_finds_36 : decode cX7_finds 36 = .ok (.bipush 60, 2) := by decide +kernel
theorem dX7_finds_38 : decode cX7_finds 38 = .ok (.putfield 18, 3) := by decide +kernel
theorem dX7_finds_41 : decode cX7_finds 41 = .ok (.aload_n 0, 1) := by decide +kernel
theorem dX7_finds_42 : decode cX7_finds 42 = .ok (.aload_n 1, 1) := by decide +kernel
theorem dX7_finds_43 : decode cX7_finds 43 = .ok (.iconst 0, 1) := by decide +kernel
theorem dX7_finds_44 : decode cX7_finds 44 = .ok (.iconst 0, 1) := by decide +kernel
theorem dX7_finds_45 : decode cX7_finds 45 = .ok (.invokevirtual 45, 3) := by decide +kernel
theorem dX7_finds_48 : decode cX7_finds 48 = .ok (.aload_n 0, 1) := by decide +kernel
theorem dX7_finds_49 : decode cX7_finds 49 = .ok (.getfield 9, 3) := by decide +kernel
theorem dX7_finds_52 : decode cX7_finds 52 = .ok (.ldc 40, 2) := by decide +kernel
theorem dX7_finds_54 : decode cX7_finds 54 = .ok (.if_icmp .ne 5, 3) := by decide +kernel
theorem dX7_finds_57 : decode cX7_finds 57 = .ok (.iconst 0, 1) := by decide +kernel
theorem dX7_finds_58 : decode cX7_finds 58 = .ok (.ireturn, 1) := by decide +kernel
theorem dX7_finds_59 : decode cX7_finds 59 = .ok (.aload_n 0, 1) := by decide +kernel
theorem dX7_finds_60 : decode cX7_finds 60 = .ok (.dup, 1) := by decide +kernel
theorem dX7_finds_61 : decode cX7_finds 61 = .ok (.getfield 9, 3) := by decide +kernel
theorem dX7_finds_64 : decode cX7_finds 64 = .ok (.iconst 1, 1) := by decide +kernel
theorem dX7_finds_65 : decode cX7_finds 65 = .ok (.iadd, 1) := by decide +kernel
theorem dX7_finds_66 : decode cX7_finds 66 = .ok (.putfield 9, 3) := by decide +kernel
theorem dX7_finds_69 : decode cX7_finds 69 = .ok (.aload_n 0, 1) := by decide +kernel
theorem dX7_finds_70 : decode cX7_finds 70 = .ok (.iconst 0, 1) := by decide +kernel
theorem dX7_finds_71 : decode cX7_finds 71 = .ok (.putfield 18, 3) := by decide +kernel
theorem dX7_finds_74 : decode cX7_finds 74 = .ok (.aload_n 0, 1) := by decide +kernel
theorem dX7_finds_75 : decode cX7_finds 75 = .ok (.aload_n 1, 1) := by decide +kernel
theorem dX7_finds_76 : decode cX7_finds 76 = .ok (.iconst 0, 1) := by decide +kernel
theorem dX7_finds_77 : decode cX7_finds 77 = .ok (.iconst 0, 1) := by decide +kernel
theorem dX7_finds_78 : decode cX7_finds 78 = .ok (.invokevirtual 45, 3) := by decide +kernel
theorem dX7_finds_81 : decode cX7_finds 81 = .ok (.iconst 1, 1) := by decide +kernel
theorem dX7_finds_82 : decode cX7_finds 82 = .ok (.ireturn, 1) := by decide +kernel
theorem dX7_search_0 : decode cX7_search 0 = .ok (.iload_n 2, 1) := by decide +kernel
theorem dX7_search_1 : decode cX7_search 1 = .ok (.aload_n 0, 1) := by decide +kernel
theorem dX7_search_2 : decode cX7_search 2 = .ok (.getfield 24, 3) := by decide +kernel
theorem dX7_search_5 : decode cX7_search 5 = .ok (.if_icmp .lt 17, 3) := by decide +kernel
theorem dX7_search_8 : decode cX7_search 8 = .ok (.aload_n 0, 1) := by decide +kernel
theorem dX7_search_9 : decode cX7_search 9 = .ok (.iload_n 3, 1) := by decide +kernel
theorem dX7_search_10 : decode cX7_search 10 = .ok (.putfield 9, 3) := by decide +kernel
theorem dX7_search_13 : decode cX7_search 13 = .ok (.aload_n 0, 1) := by decide +kernel
theorem dX7_search_14 : decode cX7_search 14 = .ok (.aload_n 0, 1) := by decide +kernel
theorem dX7_search_15 : decode cX7_search 15 = .ok (.getfield 21, 3) := by decide +kernel
theorem dX7_search_18 : decode cX7_search 18 = .ok (.putfield 15, 3) := by decide +kernel
theorem dX7_search_21 : decode cX7_search 21 = .ok (.return_, 1) := by decide +kernel
theorem dX7_search_22 : decode cX7_search 22 = .ok (.iconst 0, 1) := by decide +kernel
theorem dX7_search_23 : decode cX7_search 23 = .ok (.istore 4, 2) := by decide +kernel
theorem dX7_search_25 : decode cX7_search 25 = .ok (.iload 4, 2) := by decide +kernel
theorem dX7_search_27 : decode cX7_search 27 = .ok (.bipush 60, 2) := by decide +kernel
theorem dX7_search_29 : decode cX7_search 29 = .ok (.if_icmp .gt 96, 3) := by decide +kernel
theorem dX7_search_32 : decode cX7_search 32 = .ok (.aload_n 0, 1) := by decide +kernel
theorem dX7_search_33 : decode cX7_search 33 = .ok (.getfield 18, 3) := by decide +kernel
theorem dX7_search_36 : decode cX7_search 36 = .ok (.iload 4, 2) := by decide +kernel
theorem dX7_search_38 : decode cX7_search 38 = .ok (.iadd, 1) := by decide +kernel
theorem dX7_search_39 : decode cX7_search 39 = .ok (.bipush 61, 2) := by decide +kernel
theorem dX7_search_41 : decode cX7_search 41 = .ok (.irem, 1) := by decide +kernel
theorem dX7_search_42 : decode cX7_search 42 = .ok (.istore 5, 2) := by decide +kernel
theorem dX7_search_44 : decode cX7_search 44 = .ok (.aload_n 0, 1) := by decide +kernel
theorem dX7_search_45 : decode cX7_search 45 = .ok (.aload_n 1, 1) := by decide +kernel
theorem dX7_search_46 : decode cX7_search 46 = .ok (.iload_n 2, 1) := by decide +kernel
theorem dX7_search_47 : decode cX7_search 47 = .ok (.iload 5, 2) := by decide +kernel
theorem dX7_search_49 : decode cX7_search 49 = .ok (.invokevirtual 49, 3) := by decide +kernel
theorem dX7_search_52 : decode cX7_search 52 = .ok (.istore 6, 2) := by decide +kernel
theorem dX7_search_54 : decode cX7_search 54 = .ok (.iload 6, 2) := by decide +kernel
theorem dX7_search_56 : decode cX7_search 56 = .ok (.iconst (-1), 1) := by decide +kernel
theorem dX7_search_57 : decode cX7_search 57 = .ok (.if_icmp .eq 62, 3) := by decide +kernel
theorem dX7_search_60 : decode cX7_search 60 = .ok (.iload_n 3, 1) := by decide +kernel
theorem dX7_search_61 : decode cX7_search 61 = .ok (.iload 6, 2) := by decide +kernel
theorem dX7_search_63 : decode cX7_search 63 = .ok (.iadd, 1) := by decide +kernel
theorem dX7_search_64 : decode cX7_search 64 = .ok (.aload_n 0, 1) := by decide +kernel
theorem dX7_search_65 : decode cX7_search 65 = .ok (.getfield 9, 3) := by decide +kernel
theorem dX7_search_68 : decode cX7_search 68 = .ok (.if_icmp .ge 51, 3) := by decide +kernel
theorem dX7_search_71 : decode cX7_search 71 = .ok (.aload_n 0, 1) := by decide +kernel
theorem dX7_search_72 : decode cX7_search 72 = .ok (.aload_n 1, 1) := by decide +kernel
theorem dX7_search_73 : decode cX7_search 73 = .ok (.iload_n 2, 1) := by decide +kernel
theorem dX7_search_74 : decode cX7_search 74 = .ok (.iload 5, 2) := by decide +kernel
theorem dX7_search_76 : decode cX7_search 76 = .ok (.invokevirtual 53, 3) := by decide +kernel
theorem dX7_search_79 : decode cX7_search 79 = .ok (.ifCond .eq 40, 3) := by decide +kernel
theorem dX7_search_82 : decode cX7_search 82 = .ok (.aload_n 0, 1) := by decide +kernel
theorem dX7_search_83 : decode cX7_search 83 = .ok (.iload_n 2, 1) := by decide +kernel
theorem dX7_search_84 : decode cX7_search 84 = .ok (.ifCond .ne 8, 3) := by decide +kernel
theorem dX7_search_87 : decode cX7_search 87 = .ok (.iload 5, 2) := by decide +kernel
theorem dX7_search_89 : decode cX7_search 89 = .ok (.goto 7, 3) := by decide +kernel
theorem dX7_search_92 : decode cX7_search 92 = .ok (.aload_n 0, 1) := by decide +kernel
theorem dX7_search_93 : decode cX7_search 93 = .ok (.getfield 21, 3) := by decide +kernel
theorem dX7_search_96 : decode cX7_search 96 = .ok (.putfield 21, 3) := by decide +kernel
theorem dX7_search_99 : decode cX7_search 99 = .ok (.aload_n 0, 1) := by decide +kernel
theorem dX7_search_100 : decode cX7_search 100 = .ok (.aload_n 1, 1) := by decide +kernel
theorem dX7_search_101 : decode cX7_search 101 = .ok (.iload_n 2, 1) := by decide +kernel
theorem dX7_search_102 : decode cX7_search 102 = .ok (.iload 5, 2) := by decide +kernel
theorem dX7_search_104 : decode cX7_search 104 = .ok (.invokevirtual 57, 3) := by decide +kernel
theorem dX7_search_107 : decode cX7_search 107 = .ok (.aload_n 0, 1) := by decide +kernel
theorem dX7_search_108 : decode cX7_search 108 = .ok (.aload_n 1, 1) := by decide +kernel
theorem dX7_search_109 : decode cX7_search 109 = .ok (.iload_n 2, 1) := by decide +kernel
theorem dX7_search_110 : decode cX7_search 110 = .ok (.iconst 1, 1) := by decide +kernel
theorem dX7_search_111 : decode cX7_search 111 = .ok (.iadd, 1) := by decide +kernel
theorem dX7_search_112 : decode cX7_search 112 = .ok (.iload_n 3, 1) := by decide +kernel
theorem dX7_search_113 : decode cX7_search 113 = .ok (.iload 6, 2) := by decide +kernel
theorem dX7_search_115 : decode cX7_search 115 = .ok (.iadd, 1) := by decide +kernel
theorem dX7_search_116 : decode cX7_search 116 = .ok (.invokevirtual 45, 3) := by decide +kernel
theorem dX7_search_119 : decode cX7_search 119 = .ok (.iinc 4 1, 3) := by decide +kernel
theorem dX7_search_122 : decode cX7_search 122 = .ok (.goto (-97), 3) := by decide +kernel
theorem dX7_search_125 : decode cX7_search 125 = .ok (.return_, 1) := by decide +kernel
theorem dX7_eaterOf_0 : decode cX7_eaterOf 0 = .ok (.iload_n 0, 1) := by decide +kernel
theorem dX7_eaterOf_1 : decode cX7_eaterOf 1 = .ok (.bipush 10, 2) := by decide +kernel
