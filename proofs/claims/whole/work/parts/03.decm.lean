theorem dX8_init_0 : decode cX8_init 0 = .ok (.aload_n 0, 1) := by decide +kernel
theorem dX8_init_1 : decode cX8_init 1 = .ok (.invokespecial 1, 3) := by decide +kernel
theorem dX8_init_4 : decode cX8_init 4 = .ok (.aload_n 0, 1) := by decide +kernel
theorem dX8_init_5 : decode cX8_init 5 = .ok (.bipush 56, 2) := by decide +kernel
theorem dX8_init_7 : decode cX8_init 7 = .ok (.newarray .int, 2) := by decide +kernel
theorem dX8_init_9 : decode cX8_init 9 = .ok (.putfield 7, 3) := by decide +kernel
theorem dX8_init_12 : decode cX8_init 12 = .ok (.aload_n 0, 1) := by decide +kernel
theorem dX8_init_13 : decode cX8_init 13 = .ok (.bipush 10, 2) := by decide +kernel
theorem dX8_init_15 : decode cX8_init 15 = .ok (.newarray .int, 2) := by decide +kernel
theorem dX8_init_17 : decode cX8_init 17 = .ok (.putfield 13, 3) := by decide +kernel
theorem dX8_init_20 : decode cX8_init 20 = .ok (.aload_n 0, 1) := by decide +kernel
theorem dX8_init_21 : decode cX8_init 21 = .ok (.iconst 1, 1) := by decide +kernel
theorem dX8_init_22 : decode cX8_init 22 = .ok (.putfield 16, 3) := by decide +kernel
theorem dX8_init_25 : decode cX8_init 25 = .ok (.aload_n 0, 1) := by decide +kernel
theorem dX8_init_26 : decode cX8_init 26 = .ok (.iconst 5, 1) := by decide +kernel
theorem dX8_init_27 : decode cX8_init 27 = .ok (.newarray .int, 2) := by decide +kernel
theorem dX8_init_29 : decode cX8_init 29 = .ok (.putfield 20, 3) := by decide +kernel
theorem dX8_init_32 : decode cX8_init 32 = .ok (.aload_n 0, 1) := by decide +kernel
theorem dX8_init_33 : decode cX8_init 33 = .ok (.iconst 5, 1) := by decide +kernel
theorem dX8_init_34 : decode cX8_init 34 = .ok (.newarray .int, 2) := by decide +kernel
theorem dX8_init_36 : decode cX8_init 36 = .ok (.putfield 23, 3) := by decide +kernel
theorem dX8_init_39 : decode cX8_init 39 = .ok (.aload_n 0, 1) := by decide +kernel
theorem dX8_init_40 : decode cX8_init 40 = .ok (.iconst 2, 1) := by decide +kernel
theorem dX8_init_41 : decode cX8_init 41 = .ok (.newarray .int, 2) := by decide +kernel
theorem dX8_init_43 : decode cX8_init 43 = .ok (.putfield 26, 3) := by decide +kernel
theorem dX8_init_46 : decode cX8_init 46 = .ok (.aload_n 0, 1) := by decide +kernel
theorem dX8_init_47 : decode cX8_init 47 = .ok (.iconst 2, 1) := by decide +kernel
theorem dX8_init_48 : decode cX8_init 48 = .ok (.newarray .int, 2) := by decide +kernel
theorem dX8_init_50 : decode cX8_init 50 = .ok (.putfield 29, 3) := by decide +kernel
theorem dX8_init_53 : decode cX8_init 53 = .ok (.aload_n 0, 1) := by decide +kernel
theorem dX8_init_54 : decode cX8_init 54 = .ok (.bipush 10, 2) := by decide +kernel
theorem dX8_init_56 : decode cX8_init 56 = .ok (.newarray .int, 2) := by decide +kernel
theorem dX8_init_58 : decode cX8_init 58 = .ok (.putfield 32, 3) := by decide +kernel
theorem dX8_init_61 : decode cX8_init 61 = .ok (.aload_n 0, 1) := by decide +kernel
theorem dX8_init_62 : decode cX8_init 62 = .ok (.iconst 5, 1) := by decide +kernel
theorem dX8_init_63 : decode cX8_init 63 = .ok (.newarray .int, 2) := by decide +kernel
theorem dX8_init_65 : decode cX8_init 65 = .ok (.putfield 35, 3) := by decide +kernel
theorem dX8_init_68 : decode cX8_init 68 = .ok (.aload_n 0, 1) := by decide +kernel
theorem dX8_init_69 : decode cX8_init 69 = .ok (.iconst 5, 1) := by decide +kernel
theorem dX8_init_70 : decode cX8_init 70 = .ok (.newarray .int, 2) := by decide +kernel
theorem dX8_init_72 : decode cX8_init 72 = .ok (.putfield 38, 3) := by decide +kernel
theorem dX8_init_75 : decode cX8_init 75 = .ok (.aload_n 0, 1) := by decide +kernel
theorem dX8_init_76 : decode cX8_init 76 = .ok (.iconst 2, 1) := by decide +kernel
theorem dX8_init_77 : decode cX8_init 77 = .ok (.newarray .int, 2) := by decide +kernel
theorem dX8_init_79 : decode cX8_init 79 = .ok (.putfield 41, 3) := by decide +kernel
theorem dX8_init_82 : decode cX8_init 82 = .ok (.aload_n 0, 1) := by decide +kernel
theorem dX8_init_83 : decode cX8_init 83 = .ok (.iconst 2, 1) := by decide +kernel
theorem dX8_init_84 : decode cX8_init 84 = .ok (.newarray .int, 2) := by decide +kernel
theorem dX8_init_86 : decode cX8_init 86 = .ok (.putfield 44, 3) := by decide +kernel
theorem dX8_init_89 : decode cX8_init 89 = .ok (.aload_n 0, 1) := by decide +kernel
theorem dX8_init_90 : decode cX8_init 90 = .ok (.bipush 16, 2) := by decide +kernel
theorem dX8_init_92 : decode cX8_init 92 = .ok (.newarray .int, 2) := by decide +kernel
theorem dX8_init_94 : decode cX8_init 94 = .ok (.putfield 47, 3) := by decide +kernel
theorem dX8_init_97 : decode cX8_init 97 = .ok (.aload_n 0, 1) := by decide +kernel
theorem dX8_init_98 : decode cX8_init 98 = .ok (.sipush 256, 3) := by decide +kernel
theorem dX8_init_101 : decode cX8_init 101 = .ok (.newarray .int, 2) := by decide +kernel
theorem dX8_init_103 : decode cX8_init 103 = .ok (.putfield 50, 3) := by decide +kernel
theorem dX8_init_106 : decode cX8_init 106 = .ok (.aload_n 0, 1) := by decide +kernel
theorem dX8_init_107 : decode cX8_init 107 = .ok (.bipush 32, 2) := by decide +kernel
theorem dX8_init_109 : decode cX8_init 109 = .ok (.newarray .int, 2) := by decide +kernel
theorem dX8_init_111 : decode cX8_init 111 = .ok (.putfield 53, 3) := by decide +kernel
theorem dX8_init_114 : decode cX8_init 114 = .ok (.aload_n 0, 1) := by decide +kernel
theorem dX8_init_115 : decode cX8_init 115 = .ok (.iconst 2, 1) := by decide +kernel
theorem dX8_init_116 : decode cX8_init 116 = .ok (.newarray .boolean, 2) := by decide +kernel
theorem dX8_init_118 : decode cX8_init 118 = .ok (.putfield 56, 3) := by decide +kernel
theorem dX8_init_121 : decode cX8_init 121 = .ok (.aload_n 0, 1) := by decide +kernel
theorem dX8_init_122 : decode cX8_init 122 = .ok (.bipush 10, 2) := by decide +kernel
theorem dX8_init_124 : decode cX8_init 124 = .ok (.newarray .long, 2) := by decide +kernel
theorem dX8_init_126 : decode cX8_init 126 = .ok (.putfield 60, 3) := by decide +kernel
theorem dX8_init_129 : decode cX8_init 129 = .ok (.aload_n 0, 1) := by decide +kernel
theorem dX8_init_130 : decode cX8_init 130 = .ok (.bipush 10, 2) := by decide +kernel
theorem dX8_init_132 : decode cX8_init 132 = .ok (.newarray .long, 2) := by decide +kernel
theorem dX8_init_134 : decode cX8_init 134 = .ok (.putfield 64, 3) := by decide +kernel
theorem dX8_init_137 : decode cX8_init 137 = .ok (.return_, 1) := by decide +kernel
theorem dX8_in_0 : decode cX8_in 0 = .ok (.lload_n 0, 1) := by decide +kernel
theorem dX8_in_1 : decode cX8_in 1 = .ok (.lload_n 2, 1) := by decide +kernel
theorem dX8_in_2 : decode cX8_in 2 = .ok (.lcmp, 1) := by decide +kernel
theorem dX8_in_3 : decode cX8_in 3 = .ok (.ifCond .lt 14, 3) := by decide +kernel
theorem dX8_in_6 : decode cX8_in 6 = .ok (.lload_n 0, 1) := by decide +kernel
theorem dX8_in_7 : decode cX8_in 7 = .ok (.lload 4, 2) := by decide +kernel
theorem dX8_in_9 : decode cX8_in 9 = .ok (.lcmp, 1) := by decide +kernel
theorem dX8_in_10 : decode cX8_in 10 = .ok (.ifCond .gt 7, 3) := by decide +kernel
theorem dX8_in_13 : decode cX8_in 13 = .ok (.iconst 1, 1) := by decide +kernel
theorem dX8_in_14 : decode cX8_in 14 = .ok (.goto 4, 3) := by decide +kernel
theorem dX8_in_17 : decode cX8_in 17 = .ok (.iconst 0, 1) := by decide +kernel
theorem dX8_in_18 : decode cX8_in 18 = .ok (.ireturn, 1) := by decide +kernel
theorem dX8_has_0 : decode cX8_has 0 = .ok (.iload_n 0, 1) := by decide +kernel
theorem dX8_has_1 : decode cX8_has 1 = .ok (.iload_n 1, 1) := by decide +kernel
theorem dX8_has_2 : decode cX8_has 2 = .ok (.ishr, 1) := by decide +kernel
theorem dX8_has_3 : decode cX8_has 3 = .ok (.iconst 1, 1) := by decide +kernel
theorem dX8_has_4 : decode cX8_has 4 = .ok (.iand, 1) := by decide +kernel
theorem dX8_has_5 : decode cX8_has 5 = .ok (.iconst 1, 1) := by decide +kernel
theorem dX8_has_6 : decode cX8_has 6 = .ok (.if_icmp .ne 7, 3) := by decide +kernel
theorem dX8_has_9 : decode cX8_has 9 = .ok (.iconst 1, 1) := by decide +kernel
theorem dX8_has_10 : decode cX8_has 10 = .ok (.goto 4, 3) := by decide +kernel
theorem dX8_has_13 : decode cX8_has 13 = .ok (.iconst 0, 1) := by decide +kernel
theorem dX8_has_14 : decode cX8_has 14 = .ok (.ireturn, 1) := by decide +kernel
theorem dX8_noOne_0 : decode cX8_noOne 0 = .ok (.iload_n 1, 1) := by decide +kernel
theorem dX8_noOne_1 : decode cX8_noOne 1 = .ok (.i2l, 1) := by decide +kernel
theorem dX8_noOne_2 : decode cX8_noOne 2 = .ok (.lconst 0, 1) := by decide +kernel
theorem dX8_noOne_3 : decode cX8_noOne 3 = .ok (.aload_n 0, 1) := by decide +kernel
theorem dX8_noOne_4 : decode cX8_noOne 4 = .ok (.getfield 70, 3) := by decide +kernel
theorem dX8_noOne_7 : decode cX8_noOne 7 = .ok (.iconst 1, 1) := by decide +kernel
theorem dX8_noOne_8 : decode cX8_noOne 8 = .ok (.isub, 1) := by decide +kernel
theorem dX8_noOne_9 : decode cX8_noOne 9 = .ok (.i2l, 1) := by decide +kernel
theorem dX8_noOne_10 : decode cX8_noOne 10 = .ok (.invokestatic 73, 3) := by decide +kernel
theorem dX8_noOne_13 : decode cX8_noOne 13 = .ok (.ifCond .ne 7, 3) := by decide +kernel
theorem dX8_noOne_16 : decode cX8_noOne 16 = .ok (.iconst 1, 1) := by decide +kernel
theorem dX8_noOne_17 : decode cX8_noOne 17 = .ok (.goto 4, 3) := by decide +kernel
theorem dX8_noOne_20 : decode cX8_noOne 20 = .ok (.iconst 0, 1) := by decide +kernel
theorem dX8_noOne_21 : decode cX8_noOne 21 = .ok (.ireturn, 1) := by decide +kernel
theorem dX8_noCell_0 : decode cX8_noCell 0 = .ok (.iload_n 0, 1) := by decide +kernel
theorem dX8_noCell_1 : decode cX8_noCell 1 = .ok (.i2l, 1) := by decide +kernel
theorem dX8_noCell_2 : decode cX8_noCell 2 = .ok (.lconst 0, 1) := by decide +kernel
theorem dX8_noCell_3 : decode cX8_noCell 3 = .ok (.ldc2_w 77, 3) := by decide +kernel
theorem dX8_noCell_6 : decode cX8_noCell 6 = .ok (.invokestatic 73, 3) := by decide +kernel
theorem dX8_noCell_9 : decode cX8_noCell 9 = .ok (.ifCond .ne 7, 3) := by decide +kernel
theorem dX8_noCell_12 : decode cX8_noCell 12 = .ok (.iconst 1, 1) := by decide +kernel
theorem dX8_noCell_13 : decode cX8_noCell 13 = .ok (.goto 4, 3) := by decide +kernel
theorem dX8_noCell_16 : decode cX8_noCell 16 = .ok (.iconst 0, 1) := by decide +kernel
theorem dX8_noCell_17 : decode cX8_noCell 17 = .ok (.ireturn, 1) := by decide +kernel
theorem dX8_write_0 : decode cX8_write 0 = .ok (.aload_n 0, 1) := by decide +kernel
theorem dX8_write_1 : decode cX8_write 1 = .ok (.iconst 0, 1) := by decide +kernel
theorem dX8_write_2 : decode cX8_write 2 = .ok (.putfield 67, 3) := by decide +kernel
theorem dX8_write_5 : decode cX8_write 5 = .ok (.iload_n 1, 1) := by decide +kernel
theorem dX8_write_6 : decode cX8_write 6 = .ok (.i2l, 1) := by decide +kernel
theorem dX8_write_7 : decode cX8_write 7 = .ok (.lconst 0, 1) := by decide +kernel
theorem dX8_write_8 : decode cX8_write 8 = .ok (.ldc2_w 79, 3) := by decide +kernel
theorem dX8_write_11 : decode cX8_write 11 = .ok (.invokestatic 73, 3) := by decide +kernel
theorem dX8_write_14 : decode cX8_write 14 = .ok (.ifCond .ne 6, 3) := by decide +kernel
theorem dX8_write_17 : decode cX8_write 17 = .ok (.bipush (-2), 2) := by decide +kernel
theorem dX8_write_19 : decode cX8_write 19 = .ok (.ireturn, 1) := by decide +kernel
theorem dX8_write_20 : decode cX8_write 20 = .ok (.aload_n 0, 1) := by decide +kernel
theorem dX8_write_21 : decode cX8_write 21 = .ok (.getfield 81, 3) := by decide +kernel
theorem dX8_write_24 : decode cX8_write 24 = .ok (.bipush 56, 2) := by decide +kernel
theorem dX8_write_26 : decode cX8_write 26 = .ok (.if_icmp .ne 6, 3) := by decide +kernel
theorem dX8_write_29 : decode cX8_write 29 = .ok (.bipush (-4), 2) := by decide +kernel
theorem dX8_write_31 : decode cX8_write 31 = .ok (.ireturn, 1) := by decide +kernel
theorem dX8_write_32 : decode cX8_write 32 = .ok (.aload_n 0, 1) := by decide +kernel
theorem dX8_write_33 : decode cX8_write 33 = .ok (.getfield 7, 3) := by decide +kernel
theorem dX8_write_36 : decode cX8_write 36 = .ok (.aload_n 0, 1) := by decide +kernel
theorem dX8_write_37 : decode cX8_write 37 = .ok (.getfield 81, 3) := by decide +kernel
theorem dX8_write_40 : decode cX8_write 40 = .ok (.iload_n 1, 1) := by decide +kernel
theorem dX8_write_41 : decode cX8_write 41 = .ok (.iastore, 1) := by decide +kernel
theorem dX8_write_42 : decode cX8_write 42 = .ok (.aload_n 0, 1) := by decide +kernel
theorem dX8_write_43 : decode cX8_write 43 = .ok (.dup, 1) := by decide +kernel
theorem dX8_write_44 : decode cX8_write 44 = .ok (.getfield 81, 3) := by decide +kernel
theorem dX8_write_47 : decode cX8_write 47 = .ok (.iconst 1, 1) := by decide +kernel
theorem dX8_write_48 : decode cX8_write 48 = .ok (.iadd, 1) := by decide +kernel
theorem dX8_write_49 : decode cX8_write 49 = .ok (.putfield 81, 3) := by decide +kernel
theorem dX8_write_52 : decode cX8_write 52 = .ok (.aload_n 0, 1) := by decide +kernel
theorem dX8_write_53 : decode cX8_write 53 = .ok (.getfield 81, 3) := by decide +kernel
theorem dX8_write_56 : decode cX8_write 56 = .ok (.ireturn, 1) := by decide +kernel
theorem dX8_wipe_0 : decode cX8_wipe 0 = .ok (.aload_n 0, 1) := by decide +kernel
theorem dX8_wipe_1 : decode cX8_wipe 1 = .ok (.iconst 0, 1) := by decide +kernel
theorem dX8_wipe_2 : decode cX8_wipe 2 = .ok (.putfield 67, 3) := by decide +kernel
theorem dX8_wipe_5 : decode cX8_wipe 5 = .ok (.aload_n 0, 1) := by decide +kernel
theorem dX8_wipe_6 : decode cX8_wipe 6 = .ok (.getfield 81, 3) := by decide +kernel
theorem dX8_wipe_9 : decode cX8_wipe 9 = .ok (.istore_n 1, 1) := by decide +kernel
theorem dX8_wipe_10 : decode cX8_wipe 10 = .ok (.aload_n 0, 1) := by decide +kernel
theorem dX8_wipe_11 : decode cX8_wipe 11 = .ok (.iconst 0, 1) := by decide +kernel
theorem dX8_wipe_12 : decode cX8_wipe 12 = .ok (.putfield 81, 3) := by decide +kernel
theorem dX8_wipe_15 : decode cX8_wipe 15 = .ok (.iload_n 1, 1) := by decide +kernel
theorem dX8_wipe_16 : decode cX8_wipe 16 = .ok (.ireturn, 1) := by decide +kernel
theorem dX8_figure_0 : decode cX8_figure 0 = .ok (.aload_n 0, 1) := by decide +kernel
theorem dX8_figure_1 : decode cX8_figure 1 = .ok (.getfield 84, 3) := by decide +kernel
theorem dX8_figure_4 : decode cX8_figure 4 = .ok (.aload_n 0, 1) := by decide +kernel
theorem dX8_figure_5 : decode cX8_figure 5 = .ok (.getfield 81, 3) := by decide +kernel
theorem dX8_figure_8 : decode cX8_figure 8 = .ok (.if_icmp .eq 26, 3) := by decide +kernel
theorem dX8_figure_11 : decode cX8_figure 11 = .ok (.aload_n 0, 1) := by decide +kernel
theorem dX8_figure_12 : decode cX8_figure 12 = .ok (.getfield 7, 3) := by decide +kernel
theorem dX8_figure_15 : decode cX8_figure 15 = .ok (.aload_n 0, 1) := by decide +kernel
theorem dX8_figure_16 : decode cX8_figure 16 = .ok (.getfield 84, 3) := by decide +kernel
theorem dX8_figure_19 : decode cX8_figure 19 = .ok (.iaload, 1) := by decide +kernel
theorem dX8_figure_20 : decode cX8_figure 20 = .ok (.bipush 48, 2) := by decide +kernel
theorem dX8_figure_22 : decode cX8_figure 22 = .ok (.isub, 1) := by decide +kernel
theorem dX8_figure_23 : decode cX8_figure 23 = .ok (.i2l, 1) := by decide +kernel
theorem dX8_figure_24 : decode cX8_figure 24 = .ok (.iload_n 1, 1) := by decide +kernel
theorem dX8_figure_25 : decode cX8_figure 25 = .ok (.i2l, 1) := by decide +kernel
theorem dX8_figure_26 : decode cX8_figure 26 = .ok (.iload_n 2, 1) := by decide +kernel
theorem dX8_figure_27 : decode cX8_figure 27 = .ok (.i2l, 1) := by decide +kernel
theorem dX8_figure_28 : decode cX8_figure 28 = .ok (.invokestatic 73, 3) := by decide +kernel
theorem dX8_figure_31 : decode cX8_figure 31 = .ok (.ifCond .ne 6, 3) := by decide +kernel
theorem dX8_figure_34 : decode cX8_figure 34 = .ok (.bipush (-9), 2) := by decide +kernel
theorem dX8_figure_36 : decode cX8_figure 36 = .ok (.ireturn, 1) := by decide +kernel
theorem dX8_figure_37 : decode cX8_figure 37 = .ok (.aload_n 0, 1) := by decide +kernel
theorem dX8_figure_38 : decode cX8_figure 38 = .ok (.dup, 1) := by decide +kernel
theorem dX8_figure_39 : decode cX8_figure 39 = .ok (.getfield 84, 3) := by decide +kernel
theorem dX8_figure_42 : decode cX8_figure 42 = .ok (.iconst 1, 1) := by decide +kernel
theorem dX8_figure_43 : decode cX8_figure 43 = .ok (.iadd, 1) := by decide +kernel
theorem dX8_figure_44 : decode cX8_figure 44 = .ok (.putfield 84, 3) := by decide +kernel
theorem dX8_figure_47 : decode cX8_figure 47 = .ok (.aload_n 0, 1) := by decide +kernel
theorem dX8_figure_48 : decode cX8_figure 48 = .ok (.getfield 7, 3) := by decide +kernel
theorem dX8_figure_51 : decode cX8_figure 51 = .ok (.aload_n 0, 1) := by decide +kernel
theorem dX8_figure_52 : decode cX8_figure 52 = .ok (.getfield 84, 3) := by decide +kernel
theorem dX8_figure_55 : decode cX8_figure 55 = .ok (.iconst 1, 1) := by decide +kernel
theorem dX8_figure_56 : decode cX8_figure 56 = .ok (.isub, 1) := by decide +kernel
theorem dX8_figure_57 : decode cX8_figure 57 = .ok (.iaload, 1) := by decide +kernel
theorem dX8_figure_58 : decode cX8_figure 58 = .ok (.bipush 48, 2) := by decide +kernel
theorem dX8_figure_60 : decode cX8_figure 60 = .ok (.isub, 1) := by decide +kernel
theorem dX8_figure_61 : decode cX8_figure 61 = .ok (.ireturn, 1) := by decide +kernel
theorem dX8_freeTowers_0 : decode cX8_freeTowers 0 = .ok (.sipush 510, 3) := by decide +kernel
theorem dX8_freeTowers_3 : decode cX8_freeTowers 3 = .ok (.istore_n 1, 1) := by decide +kernel
theorem dX8_freeTowers_4 : decode cX8_freeTowers 4 = .ok (.iconst 0, 1) := by decide +kernel
theorem dX8_freeTowers_5 : decode cX8_freeTowers 5 = .ok (.istore_n 2, 1) := by decide +kernel
theorem dX8_freeTowers_6 : decode cX8_freeTowers 6 = .ok (.iload_n 2, 1) := by decide +kernel
theorem dX8_freeTowers_7 : decode cX8_freeTowers 7 = .ok (.aload_n 0, 1) := by decide +kernel
theorem dX8_freeTowers_8 : decode cX8_freeTowers 8 = .ok (.getfield 87, 3) := by decide +kernel
theorem dX8_freeTowers_11 : decode cX8_freeTowers 11 = .ok (.if_icmp .ge 22, 3) := by decide +kernel
theorem dX8_freeTowers_14 : decode cX8_freeTowers 14 = .ok (.iload_n 1, 1) := by decide +kernel
theorem dX8_freeTowers_15 : decode cX8_freeTowers 15 = .ok (.iconst 1, 1) := by decide +kernel
theorem dX8_freeTowers_16 : decode cX8_freeTowers 16 = .ok (.aload_n 0, 1) := by decide +kernel
theorem dX8_freeTowers_17 : decode cX8_freeTowers 17 = .ok (.getfield 41, 3) := by decide +kernel
theorem dX8_freeTowers_20 : decode cX8_freeTowers 20 = .ok (.iload_n 2, 1) := by decide +kernel
theorem dX8_freeTowers_21 : decode cX8_freeTowers 21 = .ok (.iaload, 1) := by decide +kernel
theorem dX8_freeTowers_22 : decode cX8_freeTowers 22 = .ok (.ishl, 1) := by decide +kernel
theorem dX8_freeTowers_23 : decode cX8_freeTowers 23 = .ok (.iconst (-1), 1) := by decide +kernel
theorem dX8_freeTowers_24 : decode cX8_freeTowers 24 = .ok (.ixor, 1) := by decide +kernel
theorem dX8_freeTowers_25 : decode cX8_freeTowers 25 = .ok (.iand, 1) := by decide +kernel
theorem dX8_freeTowers_26 : decode cX8_freeTowers 26 = .ok (.istore_n 1, 1) := by decide +kernel
theorem dX8_freeTowers_27 : decode cX8_freeTowers 27 = .ok (.iinc 2 1, 3) := by decide +kernel
theorem dX8_freeTowers_30 : decode cX8_freeTowers 30 = .ok (.goto (-24), 3) := by decide +kernel
theorem dX8_freeTowers_33 : decode cX8_freeTowers 33 = .ok (.iload_n 1, 1) := by decide +kernel
theorem dX8_freeTowers_34 : decode cX8_freeTowers 34 = .ok (.ireturn, 1) := by decide +kernel
theorem dX8_one_0 : decode cX8_one 0 = .ok (.aload_n 0, 1) := by decide +kernel
theorem dX8_one_1 : decode cX8_one 1 = .ok (.getfield 84, 3) := by decide +kernel
theorem dX8_one_4 : decode cX8_one 4 = .ok (.aload_n 0, 1) := by decide +kernel
theorem dX8_one_5 : decode cX8_one 5 = .ok (.getfield 81, 3) := by decide +kernel
theorem dX8_one_8 : decode cX8_one 8 = .ok (.if_icmp .ge 18, 3) := by decide +kernel
theorem dX8_one_11 : decode cX8_one 11 = .ok (.aload_n 0, 1) := by decide +kernel
theorem dX8_one_12 : decode cX8_one 12 = .ok (.getfield 7, 3) := by decide +kernel
theorem dX8_one_15 : decode cX8_one 15 = .ok (.aload_n 0, 1) := by decide +kernel
theorem dX8_one_16 : decode cX8_one 16 = .ok (.getfield 84, 3) := by decide +kernel
theorem dX8_one_19 : decode cX8_one 19 = .ok (.iaload, 1) := by decide +kernel
theorem dX8_one_20 : decode cX8_one 20 = .ok (.bipush 48, 2) := by decide +kernel
theorem dX8_one_22 : decode cX8_one 22 = .ok (.isub, 1) := by decide +kernel
theorem dX8_one_23 : decode cX8_one 23 = .ok (.goto 5, 3) := by decide +kernel
theorem dX8_one_26 : decode cX8_one 26 = .ok (.bipush (-9), 2) := by decide +kernel
theorem dX8_one_28 : decode cX8_one 28 = .ok (.istore_n 2, 1) := by decide +kernel
theorem dX8_one_29 : decode cX8_one 29 = .ok (.iload_n 2, 1) := by decide +kernel
theorem dX8_one_30 : decode cX8_one 30 = .ok (.i2l, 1) := by decide +kernel
theorem dX8_one_31 : decode cX8_one 31 = .ok (.lconst 1, 1) := by decide +kernel
theorem dX8_one_32 : decode cX8_one 32 = .ok (.ldc2_w 90, 3) := by decide +kernel
theorem dX8_one_35 : decode cX8_one 35 = .ok (.invokestatic 73, 3) := by decide +kernel
theorem dX8_one_38 : decode cX8_one 38 = .ok (.ifCond .eq 11, 3) := by decide +kernel
theorem dX8_one_41 : decode cX8_one 41 = .ok (.iload_n 1, 1) := by decide +kernel
theorem dX8_one_42 : decode cX8_one 42 = .ok (.iload_n 2, 1) := by decide +kernel
theorem dX8_one_43 : decode cX8_one 43 = .ok (.invokestatic 92, 3) := by decide +kernel
theorem dX8_one_46 : decode cX8_one 46 = .ok (.ifCond .ne 6, 3) := by decide +kernel
theorem dX8_one_49 : decode cX8_one 49 = .ok (.bipush (-9), 2) := by decide +kernel
theorem dX8_one_51 : decode cX8_one 51 = .ok (.ireturn, 1) := by decide +kernel
theorem dX8_one_52 : decode cX8_one 52 = .ok (.aload_n 0, 1) := by decide +kernel
theorem dX8_one_53 : decode cX8_one 53 = .ok (.dup, 1) := by decide +kernel
theorem dX8_one_54 : decode cX8_one 54 = .ok (.getfield 84, 3) := by decide +kernel
theorem dX8_one_57 : decode cX8_one 57 = .ok (.iconst 1, 1) := by decide +kernel
theorem dX8_one_58 : decode cX8_one 58 = .ok (.iadd, 1) := by decide +kernel
theorem dX8_one_59 : decode cX8_one 59 = .ok (.putfield 84, 3) := by decide +kernel
theorem dX8_one_62 : decode cX8_one 62 = .ok (.iload_n 2, 1) := by decide +kernel
theorem dX8_one_63 : decode cX8_one 63 = .ok (.ireturn, 1) := by decide +kernel
theorem dX8_readWalker_0 : decode cX8_readWalker 0 = .ok (.aload_n 0, 1) := by decide +kernel
theorem dX8_readWalker_1 : decode cX8_readWalker 1 = .ok (.iconst 1, 1) := by decide +kernel
theorem dX8_readWalker_2 : decode cX8_readWalker 2 = .ok (.iconst 3, 1) := by decide +kernel
theorem dX8_readWalker_3 : decode cX8_readWalker 3 = .ok (.invokevirtual 96, 3) := by decide +kernel
theorem dX8_readWalker_6 : decode cX8_readWalker 6 = .ok (.istore_n 1, 1) := by decide +kernel
theorem dX8_readWalker_7 : decode cX8_readWalker 7 = .ok (.iload_n 1, 1) := by decide +kernel
theorem dX8_readWalker_8 : decode cX8_readWalker 8 = .ok (.bipush (-9), 2) := by decide +kernel
theorem dX8_readWalker_10 : decode cX8_readWalker 10 = .ok (.if_icmp .ne 8, 3) := by decide +kernel
theorem dX8_readWalker_13 : decode cX8_readWalker 13 = .ok (.bipush (-9), 2) := by decide +kernel
theorem dX8_readWalker_15 : decode cX8_readWalker 15 = .ok (.goto 9, 3) := by decide +kernel
theorem dX8_readWalker_18 : decode cX8_readWalker 18 = .ok (.aload_n 0, 1) := by decide +kernel
theorem dX8_readWalker_19 : decode cX8_readWalker 19 = .ok (.iconst 0, 1) := by decide +kernel
theorem dX8_readWalker_20 : decode cX8_readWalker 20 = .ok (.iconst 5, 1) := by decide +kernel
theorem dX8_readWalker_21 : decode cX8_readWalker 21 = .ok (.invokevirtual 96, 3) := by decide +kernel
theorem dX8_readWalker_24 : decode cX8_readWalker 24 = .ok (.istore_n 2, 1) := by decide +kernel
theorem dX8_readWalker_25 : decode cX8_readWalker 25 = .ok (.iload_n 2, 1) := by decide +kernel
theorem dX8_readWalker_26 : decode cX8_readWalker 26 = .ok (.bipush (-9), 2) := by decide +kernel
theorem dX8_readWalker_28 : decode cX8_readWalker 28 = .ok (.if_icmp .ne 5, 3) := by decide +kernel
theorem dX8_readWalker_31 : decode cX8_readWalker 31 = .ok (.iconst 0, 1) := by decide +kernel
theorem dX8_readWalker_32 : decode cX8_readWalker 32 = .ok (.ireturn, 1) := by decide +kernel
theorem dX8_readWalker_33 : decode cX8_readWalker 33 = .ok (.aload_n 0, 1) := by decide +kernel
theorem dX8_readWalker_34 : decode cX8_readWalker 34 = .ok (.getfield 35, 3) := by decide +kernel
theorem dX8_readWalker_37 : decode cX8_readWalker 37 = .ok (.aload_n 0, 1) := by decide +kernel
theorem dX8_readWalker_38 : decode cX8_readWalker 38 = .ok (.getfield 100, 3) := by decide +kernel
theorem dX8_readWalker_41 : decode cX8_readWalker 41 = .ok (.iload_n 1, 1) := by decide +kernel
theorem dX8_readWalker_42 : decode cX8_readWalker 42 = .ok (.iastore, 1) := by decide +kernel
theorem dX8_readWalker_43 : decode cX8_readWalker 43 = .ok (.aload_n 0, 1) := by decide +kernel
theorem dX8_readWalker_44 : decode cX8_readWalker 44 = .ok (.getfield 38, 3) := by decide +kernel
theorem dX8_readWalker_47 : decode cX8_readWalker 47 = .ok (.aload_n 0, 1) := by decide +kernel
theorem dX8_readWalker_48 : decode cX8_readWalker 48 = .ok (.getfield 100, 3) := by decide +kernel
theorem dX8_readWalker_51 : decode cX8_readWalker 51 = .ok (.iload_n 2, 1) := by decide +kernel
theorem dX8_readWalker_52 : decode cX8_readWalker 52 = .ok (.iastore, 1) := by decide +kernel
theorem dX8_readWalker_53 : decode cX8_readWalker 53 = .ok (.aload_n 0, 1) := by decide +kernel
theorem dX8_readWalker_54 : decode cX8_readWalker 54 = .ok (.dup, 1) := by decide +kernel
theorem dX8_readWalker_55 : decode cX8_readWalker 55 = .ok (.getfield 100, 3) := by decide +kernel
theorem dX8_readWalker_58 : decode cX8_readWalker 58 = .ok (.iconst 1, 1) := by decide +kernel
theorem dX8_readWalker_59 : decode cX8_readWalker 59 = .ok (.iadd, 1) := by decide +kernel
theorem dX8_readWalker_60 : decode cX8_readWalker 60 = .ok (.putfield 100, 3) := by decide +kernel
theorem dX8_readWalker_63 : decode cX8_readWalker 63 = .ok (.iconst 1, 1) := by decide +kernel
theorem dX8_readWalker_64 : decode cX8_readWalker 64 = .ok (.ireturn, 1) := by decide +kernel
theorem dX8_readTower_0 : decode cX8_readTower 0 = .ok (.aload_n 0, 1) := by decide +kernel
theorem dX8_readTower_1 : decode cX8_readTower 1 = .ok (.aload_n 0, 1) := by decide +kernel
theorem dX8_readTower_2 : decode cX8_readTower 2 = .ok (.invokevirtual 103, 3) := by decide +kernel
theorem dX8_readTower_5 : decode cX8_readTower 5 = .ok (.invokevirtual 107, 3) := by decide +kernel
theorem dX8_readTower_8 : decode cX8_readTower 8 = .ok (.istore_n 1, 1) := by decide +kernel
theorem dX8_readTower_9 : decode cX8_readTower 9 = .ok (.iload_n 1, 1) := by decide +kernel
theorem dX8_readTower_10 : decode cX8_readTower 10 = .ok (.bipush (-9), 2) := by decide +kernel
theorem dX8_readTower_12 : decode cX8_readTower 12 = .ok (.if_icmp .ne 8, 3) := by decide +kernel
theorem dX8_readTower_15 : decode cX8_readTower 15 = .ok (.bipush (-9), 2) := by decide +kernel
theorem dX8_readTower_17 : decode cX8_readTower 17 = .ok (.goto 9, 3) := by decide +kernel
theorem dX8_readTower_20 : decode cX8_readTower 20 = .ok (.aload_n 0, 1) := by decide +kernel
theorem dX8_readTower_21 : decode cX8_readTower 21 = .ok (.iconst 1, 1) := by decide +kernel
theorem dX8_readTower_22 : decode cX8_readTower 22 = .ok (.iconst 4, 1) := by decide +kernel
theorem dX8_readTower_23 : decode cX8_readTower 23 = .ok (.invokevirtual 96, 3) := by decide +kernel
theorem dX8_readTower_26 : decode cX8_readTower 26 = .ok (.istore_n 2, 1) := by decide +kernel
theorem dX8_readTower_27 : decode cX8_readTower 27 = .ok (.iload_n 2, 1) := by decide +kernel
theorem dX8_readTower_28 : decode cX8_readTower 28 = .ok (.bipush (-9), 2) := by decide +kernel
theorem dX8_readTower_30 : decode cX8_readTower 30 = .ok (.if_icmp .ne 5, 3) := by decide +kernel
theorem dX8_readTower_33 : decode cX8_readTower 33 = .ok (.iconst 0, 1) := by decide +kernel
theorem dX8_readTower_34 : decode cX8_readTower 34 = .ok (.ireturn, 1) := by decide +kernel
theorem dX8_readTower_35 : decode cX8_readTower 35 = .ok (.aload_n 0, 1) := by decide +kernel
theorem dX8_readTower_36 : decode cX8_readTower 36 = .ok (.getfield 41, 3) := by decide +kernel
theorem dX8_readTower_39 : decode cX8_readTower 39 = .ok (.aload_n 0, 1) := by decide +kernel
theorem dX8_readTower_40 : decode cX8_readTower 40 = .ok (.getfield 87, 3) := by decide +kernel
theorem dX8_readTower_43 : decode cX8_readTower 43 = .ok (.iload_n 1, 1) := by decide +kernel
theorem dX8_readTower_44 : decode cX8_readTower 44 = .ok (.iastore, 1) := by decide +kernel
theorem dX8_readTower_45 : decode cX8_readTower 45 = .ok (.aload_n 0, 1) := by decide +kernel
theorem dX8_readTower_46 : decode cX8_readTower 46 = .ok (.getfield 44, 3) := by decide +kernel
theorem dX8_readTower_49 : decode cX8_readTower 49 = .ok (.aload_n 0, 1) := by decide +kernel
theorem dX8_readTower_50 : decode cX8_readTower 50 = .ok (.getfield 87, 3) := by decide +kernel
theorem dX8_readTower_53 : decode cX8_readTower 53 = .ok (.iload_n 2, 1) := by decide +kernel
theorem dX8_readTower_54 : decode cX8_readTower 54 = .ok (.iastore, 1) := by decide +kernel
theorem dX8_readTower_55 : decode cX8_readTower 55 = .ok (.aload_n 0, 1) := by decide +kernel
theorem dX8_readTower_56 : decode cX8_readTower 56 = .ok (.dup, 1) := by decide +kernel
theorem dX8_readTower_57 : decode cX8_readTower 57 = .ok (.getfield 87, 3) := by decide +kernel
theorem dX8_readTower_60 : decode cX8_readTower 60 = .ok (.iconst 1, 1) := by decide +kernel
theorem dX8_readTower_61 : decode cX8_readTower 61 = .ok (.iadd, 1) := by decide +kernel
theorem dX8_readTower_62 : decode cX8_readTower 62 = .ok (.putfield 87, 3) := by decide +kernel
theorem dX8_readTower_65 : decode cX8_readTower 65 = .ok (.iconst 1, 1) := by decide +kernel
theorem dX8_readTower_66 : decode cX8_readTower 66 = .ok (.ireturn, 1) := by decide +kernel
theorem dX8_readPart_0 : decode cX8_readPart 0 = .ok (.aload_n 0, 1) := by decide +kernel
theorem dX8_readPart_1 : decode cX8_readPart 1 = .ok (.getfield 7, 3) := by decide +kernel
theorem dX8_readPart_4 : decode cX8_readPart 4 = .ok (.aload_n 0, 1) := by decide +kernel
theorem dX8_readPart_5 : decode cX8_readPart 5 = .ok (.getfield 84, 3) := by decide +kernel
theorem dX8_readPart_8 : decode cX8_readPart 8 = .ok (.iaload, 1) := by decide +kernel
theorem dX8_readPart_9 : decode cX8_readPart 9 = .ok (.istore_n 1, 1) := by decide +kernel
theorem dX8_readPart_10 : decode cX8_readPart 10 = .ok (.iload_n 1, 1) := by decide +kernel
theorem dX8_readPart_11 : decode cX8_readPart 11 = .ok (.bipush 87, 2) := by decide +kernel
theorem dX8_readPart_13 : decode cX8_readPart 13 = .ok (.if_icmp .ne 26, 3) := by decide +kernel
theorem dX8_readPart_16 : decode cX8_readPart 16 = .ok (.aload_n 0, 1) := by decide +kernel
theorem dX8_readPart_17 : decode cX8_readPart 17 = .ok (.getfield 100, 3) := by decide +kernel
theorem dX8_readPart_20 : decode cX8_readPart 20 = .ok (.iconst 5, 1) := by decide +kernel
theorem dX8_readPart_21 : decode cX8_readPart 21 = .ok (.if_icmp .ge 18, 3) := by decide +kernel
theorem dX8_readPart_24 : decode cX8_readPart 24 = .ok (.aload_n 0, 1) := by decide +kernel
theorem dX8_readPart_25 : decode cX8_readPart 25 = .ok (.dup, 1) := by decide +kernel
theorem dX8_readPart_26 : decode cX8_readPart 26 = .ok (.getfield 84, 3) := by decide +kernel
theorem dX8_readPart_29 : decode cX8_readPart 29 = .ok (.iconst 1, 1) := by decide +kernel
theorem dX8_readPart_30 : decode cX8_readPart 30 = .ok (.iadd, 1) := by decide +kernel
theorem dX8_readPart_31 : decode cX8_readPart 31 = .ok (.putfield 84, 3) := by decide +kernel
theorem dX8_readPart_34 : decode cX8_readPart 34 = .ok (.aload_n 0, 1) := by decide +kernel
theorem dX8_readPart_35 : decode cX8_readPart 35 = .ok (.invokevirtual 111, 3) := by decide +kernel
theorem dX8_readPart_38 : decode cX8_readPart 38 = .ok (.ireturn, 1) := by decide +kernel
theorem dX8_readPart_39 : decode cX8_readPart 39 = .ok (.iload_n 1, 1) := by decide +kernel
theorem dX8_readPart_40 : decode cX8_readPart 40 = .ok (.bipush 84, 2) := by decide +kernel
theorem dX8_readPart_42 : decode cX8_readPart 42 = .ok (.if_icmp .ne 26, 3) := by decide +kernel
theorem dX8_readPart_45 : decode cX8_readPart 45 = .ok (.aload_n 0, 1) := by decide +kernel
theorem dX8_readPart_46 : decode cX8_readPart 46 = .ok (.getfield 87, 3) := by decide +kernel
theorem dX8_readPart_49 : decode cX8_readPart 49 = .ok (.iconst 2, 1) := by decide +kernel
theorem dX8_readPart_50 : decode cX8_readPart 50 = .ok (.if_icmp .ge 18, 3) := by decide +kernel
theorem dX8_readPart_53 : decode cX8_readPart 53 = .ok (.aload_n 0, 1) := by decide +kernel
theorem dX8_readPart_54 : decode cX8_readPart 54 = .ok (.dup, 1) := by decide +kernel
theorem dX8_readPart_55 : decode cX8_readPart 55 = .ok (.getfield 84, 3) := by decide +kernel
theorem dX8_readPart_58 : decode cX8_readPart 58 = .ok (.iconst 1, 1) := by decide +kernel
theorem dX8_readPart_59 : decode cX8_readPart 59 = .ok (.iadd, 1) := by decide +kernel
theorem dX8_readPart_60 : decode cX8_readPart 60 = .ok (.putfield 84, 3) := by decide +kernel
theorem dX8_readPart_63 : decode cX8_readPart 63 = .ok (.aload_n 0, 1) := by decide +kernel
theorem dX8_readPart_64 : decode cX8_readPart 64 = .ok (.invokevirtual 115, 3) := by decide +kernel
theorem dX8_readPart_67 : decode cX8_readPart 67 = .ok (.ireturn, 1) := by decide +kernel
theorem dX8_readPart_68 : decode cX8_readPart 68 = .ok (.iload_n 1, 1) := by decide +kernel
theorem dX8_readPart_69 : decode cX8_readPart 69 = .ok (.bipush 83, 2) := by decide +kernel
theorem dX8_readPart_71 : decode cX8_readPart 71 = .ok (.if_icmp .ne 72, 3) := by decide +kernel
theorem dX8_readPart_74 : decode cX8_readPart 74 = .ok (.aload_n 0, 1) := by decide +kernel
theorem dX8_readPart_75 : decode cX8_readPart 75 = .ok (.getfield 118, 3) := by decide +kernel
theorem dX8_readPart_78 : decode cX8_readPart 78 = .ok (.sipush 510, 3) := by decide +kernel
theorem dX8_readPart_81 : decode cX8_readPart 81 = .ok (.if_icmp .eq 62, 3) := by decide +kernel
theorem dX8_readPart_84 : decode cX8_readPart 84 = .ok (.aload_n 0, 1) := by decide +kernel
theorem dX8_readPart_85 : decode cX8_readPart 85 = .ok (.dup, 1) := by decide +kernel
theorem dX8_readPart_86 : decode cX8_readPart 86 = .ok (.getfield 84, 3) := by decide +kernel
theorem dX8_readPart_89 : decode cX8_readPart 89 = .ok (.iconst 1, 1) := by decide +kernel
theorem dX8_readPart_90 : decode cX8_readPart 90 = .ok (.iadd, 1) := by decide +kernel
theorem dX8_readPart_91 : decode cX8_readPart 91 = .ok (.putfield 84, 3) := by decide +kernel
theorem dX8_readPart_94 : decode cX8_readPart 94 = .ok (.aload_n 0, 1) := by decide +kernel
theorem dX8_readPart_95 : decode cX8_readPart 95 = .ok (.sipush 510, 3) := by decide +kernel
theorem dX8_readPart_98 : decode cX8_readPart 98 = .ok (.aload_n 0, 1) := by decide +kernel
theorem dX8_readPart_99 : decode cX8_readPart 99 = .ok (.getfield 118, 3) := by decide +kernel
theorem dX8_readPart_102 : decode cX8_readPart 102 = .ok (.iconst (-1), 1) := by decide +kernel
theorem dX8_readPart_103 : decode cX8_readPart 103 = .ok (.ixor, 1) := by decide +kernel
theorem dX8_readPart_104 : decode cX8_readPart 104 = .ok (.iand, 1) := by decide +kernel
theorem dX8_readPart_105 : decode cX8_readPart 105 = .ok (.invokevirtual 107, 3) := by decide +kernel
theorem dX8_readPart_108 : decode cX8_readPart 108 = .ok (.istore_n 2, 1) := by decide +kernel
theorem dX8_readPart_109 : decode cX8_readPart 109 = .ok (.aload_n 0, 1) := by decide +kernel
theorem dX8_readPart_110 : decode cX8_readPart 110 = .ok (.dup, 1) := by decide +kernel
theorem dX8_readPart_111 : decode cX8_readPart 111 = .ok (.getfield 118, 3) := by decide +kernel
theorem dX8_readPart_114 : decode cX8_readPart 114 = .ok (.iload_n 2, 1) := by decide +kernel
theorem dX8_readPart_115 : decode cX8_readPart 115 = .ok (.bipush (-9), 2) := by decide +kernel
theorem dX8_readPart_117 : decode cX8_readPart 117 = .ok (.if_icmp .ne 7, 3) := by decide +kernel
theorem dX8_readPart_120 : decode cX8_readPart 120 = .ok (.iconst 0, 1) := by decide +kernel
theorem dX8_readPart_121 : decode cX8_readPart 121 = .ok (.goto 6, 3) := by decide +kernel
theorem dX8_readPart_124 : decode cX8_readPart 124 = .ok (.iconst 1, 1) := by decide +kernel
theorem dX8_readPart_125 : decode cX8_readPart 125 = .ok (.iload_n 2, 1) := by decide +kernel
theorem dX8_readPart_126 : decode cX8_readPart 126 = .ok (.ishl, 1) := by decide +kernel
theorem dX8_readPart_127 : decode cX8_readPart 127 = .ok (.ior, 1) := by decide +kernel
theorem dX8_readPart_128 : decode cX8_readPart 128 = .ok (.putfield 118, 3) := by decide +kernel
theorem dX8_readPart_131 : decode cX8_readPart 131 = .ok (.iload_n 2, 1) := by decide +kernel
theorem dX8_readPart_132 : decode cX8_readPart 132 = .ok (.bipush (-9), 2) := by decide +kernel
theorem dX8_readPart_134 : decode cX8_readPart 134 = .ok (.if_icmp .eq 7, 3) := by decide +kernel
theorem dX8_readPart_137 : decode cX8_readPart 137 = .ok (.iconst 1, 1) := by decide +kernel
theorem dX8_readPart_138 : decode cX8_readPart 138 = .ok (.goto 4, 3) := by decide +kernel
theorem dX8_readPart_141 : decode cX8_readPart 141 = .ok (.iconst 0, 1) := by decide +kernel
theorem dX8_readPart_142 : decode cX8_readPart 142 = .ok (.ireturn, 1) := by decide +kernel
theorem dX8_readPart_143 : decode cX8_readPart 143 = .ok (.iconst 0, 1) := by decide +kernel
theorem dX8_readPart_144 : decode cX8_readPart 144 = .ok (.ireturn, 1) := by decide +kernel
theorem dX8_readHead_0 : decode cX8_readHead 0 = .ok (.iconst 0, 1) := by decide +kernel
theorem dX8_readHead_1 : decode cX8_readHead 1 = .ok (.istore_n 1, 1) := by decide +kernel
theorem dX8_readHead_2 : decode cX8_readHead 2 = .ok (.iload_n 1, 1) := by decide +kernel
theorem dX8_readHead_3 : decode cX8_readHead 3 = .ok (.bipush 10, 2) := by decide +kernel
theorem dX8_readHead_5 : decode cX8_readHead 5 = .ok (.if_icmp .ge 35, 3) := by decide +kernel
theorem dX8_readHead_8 : decode cX8_readHead 8 = .ok (.aload_n 0, 1) := by decide +kernel
theorem dX8_readHead_9 : decode cX8_readHead 9 = .ok (.getfield 32, 3) := by decide +kernel
theorem dX8_readHead_12 : decode cX8_readHead 12 = .ok (.iload_n 1, 1) := by decide +kernel
theorem dX8_readHead_13 : decode cX8_readHead 13 = .ok (.aload_n 0, 1) := by decide +kernel
theorem dX8_readHead_14 : decode cX8_readHead 14 = .ok (.iconst 0, 1) := by decide +kernel
theorem dX8_readHead_15 : decode cX8_readHead 15 = .ok (.bipush 9, 2) := by decide +kernel
theorem dX8_readHead_17 : decode cX8_readHead 17 = .ok (.invokevirtual 96, 3) := by decide +kernel
theorem dX8_readHead_20 : decode cX8_readHead 20 = .ok (.iastore, 1) := by decide +kernel
theorem dX8_readHead_21 : decode cX8_readHead 21 = .ok (.aload_n 0, 1) := by decide +kernel
theorem dX8_readHead_22 : decode cX8_readHead 22 = .ok (.getfield 32, 3) := by decide +kernel
theorem dX8_readHead_25 : decode cX8_readHead 25 = .ok (.iload_n 1, 1) := by decide +kernel
theorem dX8_readHead_26 : decode cX8_readHead 26 = .ok (.iaload, 1) := by decide +kernel
theorem dX8_readHead_27 : decode cX8_readHead 27 = .ok (.bipush (-9), 2) := by decide +kernel
theorem dX8_readHead_29 : decode cX8_readHead 29 = .ok (.if_icmp .ne 5, 3) := by decide +kernel
theorem dX8_readHead_32 : decode cX8_readHead 32 = .ok (.iconst 0, 1) := by decide +kernel
theorem dX8_readHead_33 : decode cX8_readHead 33 = .ok (.ireturn, 1) := by decide +kernel
theorem dX8_readHead_34 : decode cX8_readHead 34 = .ok (.iinc 1 1, 3) := by decide +kernel
theorem dX8_readHead_37 : decode cX8_readHead 37 = .ok (.goto (-35), 3) := by decide +kernel
theorem dX8_readHead_40 : decode cX8_readHead 40 = .ok (.aload_n 0, 1) := by decide +kernel
theorem dX8_readHead_41 : decode cX8_readHead 41 = .ok (.iconst 0, 1) := by decide +kernel
theorem dX8_readHead_42 : decode cX8_readHead 42 = .ok (.iconst 4, 1) := by decide +kernel
theorem dX8_readHead_43 : decode cX8_readHead 43 = .ok (.invokevirtual 96, 3) := by decide +kernel
theorem dX8_readHead_46 : decode cX8_readHead 46 = .ok (.istore_n 1, 1) := by decide +kernel
theorem dX8_readHead_47 : decode cX8_readHead 47 = .ok (.iload_n 1, 1) := by decide +kernel
theorem dX8_readHead_48 : decode cX8_readHead 48 = .ok (.bipush (-9), 2) := by decide +kernel
theorem dX8_readHead_50 : decode cX8_readHead 50 = .ok (.if_icmp .ne 8, 3) := by decide +kernel
theorem dX8_readHead_53 : decode cX8_readHead 53 = .ok (.bipush (-9), 2) := by decide +kernel
theorem dX8_readHead_55 : decode cX8_readHead 55 = .ok (.goto 19, 3) := by decide +kernel
theorem dX8_readHead_58 : decode cX8_readHead 58 = .ok (.aload_n 0, 1) := by decide +kernel
theorem dX8_readHead_59 : decode cX8_readHead 59 = .ok (.iconst 0, 1) := by decide +kernel
theorem dX8_readHead_60 : decode cX8_readHead 60 = .ok (.iload_n 1, 1) := by decide +kernel
theorem dX8_readHead_61 : decode cX8_readHead 61 = .ok (.iconst 4, 1) := by decide +kernel
theorem dX8_readHead_62 : decode cX8_readHead 62 = .ok (.if_icmp .ne 7, 3) := by decide +kernel
theorem dX8_readHead_65 : decode cX8_readHead 65 = .ok (.iconst 0, 1) := by decide +kernel
theorem dX8_readHead_66 : decode cX8_readHead 66 = .ok (.goto 5, 3) := by decide +kernel
theorem dX8_readHead_69 : decode cX8_readHead 69 = .ok (.bipush 9, 2) := by decide +kernel
theorem dX8_readHead_71 : decode cX8_readHead 71 = .ok (.invokevirtual 96, 3) := by decide +kernel
theorem dX8_readHead_74 : decode cX8_readHead 74 = .ok (.istore_n 2, 1) := by decide +kernel
theorem dX8_readHead_75 : decode cX8_readHead 75 = .ok (.aload_n 0, 1) := by decide +kernel
theorem dX8_readHead_76 : decode cX8_readHead 76 = .ok (.bipush 10, 2) := by decide +kernel
theorem dX8_readHead_78 : decode cX8_readHead 78 = .ok (.iload_n 1, 1) := by decide +kernel
theorem dX8_readHead_79 : decode cX8_readHead 79 = .ok (.imul, 1) := by decide +kernel
theorem dX8_readHead_80 : decode cX8_readHead 80 = .ok (.iload_n 2, 1) := by decide +kernel
theorem dX8_readHead_81 : decode cX8_readHead 81 = .ok (.iadd, 1) := by decide +kernel
theorem dX8_readHead_82 : decode cX8_readHead 82 = .ok (.putfield 121, 3) := by decide +kernel
theorem dX8_readHead_85 : decode cX8_readHead 85 = .ok (.aload_n 0, 1) := by decide +kernel
theorem dX8_readHead_86 : decode cX8_readHead 86 = .ok (.iload_n 2, 1) := by decide +kernel
theorem dX8_readHead_87 : decode cX8_readHead 87 = .ok (.bipush (-9), 2) := by decide +kernel
theorem dX8_readHead_89 : decode cX8_readHead 89 = .ok (.if_icmp .ne 8, 3) := by decide +kernel
theorem dX8_readHead_92 : decode cX8_readHead 92 = .ok (.bipush (-9), 2) := by decide +kernel
theorem dX8_readHead_94 : decode cX8_readHead 94 = .ok (.goto 9, 3) := by decide +kernel
theorem dX8_readHead_97 : decode cX8_readHead 97 = .ok (.aload_n 0, 1) := by decide +kernel
theorem dX8_readHead_98 : decode cX8_readHead 98 = .ok (.iconst 1, 1) := by decide +kernel
theorem dX8_readHead_99 : decode cX8_readHead 99 = .ok (.iconst 3, 1) := by decide +kernel
theorem dX8_readHead_100 : decode cX8_readHead 100 = .ok (.invokevirtual 96, 3) := by decide +kernel
theorem dX8_readHead_103 : decode cX8_readHead 103 = .ok (.putfield 124, 3) := by decide +kernel
theorem dX8_readHead_106 : decode cX8_readHead 106 = .ok (.aload_n 0, 1) := by decide +kernel
theorem dX8_readHead_107 : decode cX8_readHead 107 = .ok (.aload_n 0, 1) := by decide +kernel
theorem dX8_readHead_108 : decode cX8_readHead 108 = .ok (.getfield 124, 3) := by decide +kernel
theorem dX8_readHead_111 : decode cX8_readHead 111 = .ok (.bipush (-9), 2) := by decide +kernel
theorem dX8_readHead_113 : decode cX8_readHead 113 = .ok (.if_icmp .ne 8, 3) := by decide +kernel
theorem dX8_readHead_116 : decode cX8_readHead 116 = .ok (.bipush (-9), 2) := by decide +kernel
theorem dX8_readHead_118 : decode cX8_readHead 118 = .ok (.goto 10, 3) := by decide +kernel
theorem dX8_readHead_121 : decode cX8_readHead 121 = .ok (.aload_n 0, 1) := by decide +kernel
theorem dX8_readHead_122 : decode cX8_readHead 122 = .ok (.iconst 0, 1) := by decide +kernel
theorem dX8_readHead_123 : decode cX8_readHead 123 = .ok (.bipush 9, 2) := by decide +kernel
theorem dX8_readHead_125 : decode cX8_readHead 125 = .ok (.invokevirtual 96, 3) := by decide +kernel
theorem dX8_readHead_128 : decode cX8_readHead 128 = .ok (.putfield 127, 3) := by decide +kernel
theorem dX8_readHead_131 : decode cX8_readHead 131 = .ok (.aload_n 0, 1) := by decide +kernel
theorem dX8_readHead_132 : decode cX8_readHead 132 = .ok (.getfield 127, 3) := by decide +kernel
theorem dX8_readHead_135 : decode cX8_readHead 135 = .ok (.bipush (-9), 2) := by decide +kernel
theorem dX8_readHead_137 : decode cX8_readHead 137 = .ok (.if_icmp .eq 7, 3) := by decide +kernel
theorem dX8_readHead_140 : decode cX8_readHead 140 = .ok (.iconst 1, 1) := by decide +kernel
theorem dX8_readHead_141 : decode cX8_readHead 141 = .ok (.goto 4, 3) := by decide +kernel
theorem dX8_readHead_144 : decode cX8_readHead 144 = .ok (.iconst 0, 1) := by decide +kernel
theorem dX8_readHead_145 : decode cX8_readHead 145 = .ok (.ireturn, 1) := by decide +kernel
theorem dX8_readBay_0 : decode cX8_readBay 0 = .ok (.aload_n 0, 1) := by decide +kernel
theorem dX8_readBay_1 : decode cX8_readBay 1 = .ok (.iconst 0, 1) := by decide +kernel
theorem dX8_readBay_2 : decode cX8_readBay 2 = .ok (.putfield 84, 3) := by decide +kernel
theorem dX8_readBay_5 : decode cX8_readBay 5 = .ok (.aload_n 0, 1) := by decide +kernel
theorem dX8_readBay_6 : decode cX8_readBay 6 = .ok (.iconst 0, 1) := by decide +kernel
theorem dX8_readBay_7 : decode cX8_readBay 7 = .ok (.putfield 100, 3) := by decide +kernel
theorem dX8_readBay_10 : decode cX8_readBay 10 = .ok (.aload_n 0, 1) := by decide +kernel
theorem dX8_readBay_11 : decode cX8_readBay 11 = .ok (.iconst 0, 1) := by decide +kernel
theorem dX8_readBay_12 : decode cX8_readBay 12 = .ok (.putfield 87, 3) := by decide +kernel
theorem dX8_readBay_15 : decode cX8_readBay 15 = .ok (.aload_n 0, 1) := by decide +kernel
theorem dX8_readBay_16 : decode cX8_readBay 16 = .ok (.iconst 0, 1) := by decide +kernel
theorem dX8_readBay_17 : decode cX8_readBay 17 = .ok (.putfield 118, 3) := by decide +kernel
theorem dX8_readBay_20 : decode cX8_readBay 20 = .ok (.aload_n 0, 1) := by decide +kernel
theorem dX8_readBay_21 : decode cX8_readBay 21 = .ok (.getfield 81, 3) := by decide +kernel
theorem dX8_readBay_24 : decode cX8_readBay 24 = .ok (.ifCond .eq 14, 3) := by decide +kernel
theorem dX8_readBay_27 : decode cX8_readBay 27 = .ok (.aload_n 0, 1) := by decide +kernel
theorem dX8_readBay_28 : decode cX8_readBay 28 = .ok (.getfield 7, 3) := by decide +kernel
theorem dX8_readBay_31 : decode cX8_readBay 31 = .ok (.iconst 0, 1) := by decide +kernel
theorem dX8_readBay_32 : decode cX8_readBay 32 = .ok (.iaload, 1) := by decide +kernel
theorem dX8_readBay_33 : decode cX8_readBay 33 = .ok (.bipush 66, 2) := by decide +kernel
theorem dX8_readBay_35 : decode cX8_readBay 35 = .ok (.if_icmp .eq 5, 3) := by decide +kernel
theorem dX8_readBay_38 : decode cX8_readBay 38 = .ok (.iconst 0, 1) := by decide +kernel
theorem dX8_readBay_39 : decode cX8_readBay 39 = .ok (.ireturn, 1) := by decide +kernel
theorem dX8_readBay_40 : decode cX8_readBay 40 = .ok (.aload_n 0, 1) := by decide +kernel
theorem dX8_readBay_41 : decode cX8_readBay 41 = .ok (.iconst 1, 1) := by decide +kernel
theorem dX8_readBay_42 : decode cX8_readBay 42 = .ok (.putfield 84, 3) := by decide +kernel
theorem dX8_readBay_45 : decode cX8_readBay 45 = .ok (.aload_n 0, 1) := by decide +kernel
theorem dX8_readBay_46 : decode cX8_readBay 46 = .ok (.invokevirtual 130, 3) := by decide +kernel
theorem dX8_readBay_49 : decode cX8_readBay 49 = .ok (.ifCond .ne 8, 3) := by decide +kernel
theorem dX8_readBay_52 : decode cX8_readBay 52 = .ok (.aload_n 0, 1) := by decide +kernel
theorem dX8_readBay_53 : decode cX8_readBay 53 = .ok (.getfield 84, 3) := by decide +kernel
theorem dX8_readBay_56 : decode cX8_readBay 56 = .ok (.ireturn, 1) := by decide +kernel
theorem dX8_readBay_57 : decode cX8_readBay 57 = .ok (.aload_n 0, 1) := by decide +kernel
theorem dX8_readBay_58 : decode cX8_readBay 58 = .ok (.getfield 84, 3) := by decide +kernel
theorem dX8_readBay_61 : decode cX8_readBay 61 = .ok (.aload_n 0, 1) := by decide +kernel
theorem dX8_readBay_62 : decode cX8_readBay 62 = .ok (.getfield 81, 3) := by decide +kernel
theorem dX8_readBay_65 : decode cX8_readBay 65 = .ok (.if_icmp .ge 15, 3) := by decide +kernel
theorem dX8_readBay_68 : decode cX8_readBay 68 = .ok (.aload_n 0, 1) := by decide +kernel
theorem dX8_readBay_69 : decode cX8_readBay 69 = .ok (.invokevirtual 133, 3) := by decide +kernel
theorem dX8_readBay_72 : decode cX8_readBay 72 = .ok (.ifCond .ne (-15), 3) := by decide +kernel
theorem dX8_readBay_75 : decode cX8_readBay 75 = .ok (.aload_n 0, 1) := by decide +kernel
theorem dX8_readBay_76 : decode cX8_readBay 76 = .ok (.getfield 84, 3) := by decide +kernel
theorem dX8_readBay_79 : decode cX8_readBay 79 = .ok (.ireturn, 1) := by decide +kernel
theorem dX8_readBay_80 : decode cX8_readBay 80 = .ok (.bipush (-9), 2) := by decide +kernel
theorem dX8_readBay_82 : decode cX8_readBay 82 = .ok (.ireturn, 1) := by decide +kernel
theorem dX8_fault_0 : decode cX8_fault 0 = .ok (.aload_n 0, 1) := by decide +kernel
theorem dX8_fault_1 : decode cX8_fault 1 = .ok (.iconst 0, 1) := by decide +kernel
theorem dX8_fault_2 : decode cX8_fault 2 = .ok (.putfield 67, 3) := by decide +kernel
theorem dX8_fault_5 : decode cX8_fault 5 = .ok (.aload_n 0, 1) := by decide +kernel
theorem dX8_fault_6 : decode cX8_fault 6 = .ok (.invokevirtual 136, 3) := by decide +kernel
theorem dX8_fault_9 : decode cX8_fault 9 = .ok (.ireturn, 1) := by decide +kernel
theorem dX8_bay_0 : decode cX8_bay 0 = .ok (.aload_n 0, 1) := by decide +kernel
theorem dX8_bay_1 : decode cX8_bay 1 = .ok (.iconst 0, 1) := by decide +kernel
theorem dX8_bay_2 : decode cX8_bay 2 = .ok (.putfield 67, 3) := by decide +kernel
theorem dX8_bay_5 : decode cX8_bay 5 = .ok (.aload_n 0, 1) := by decide +kernel
theorem dX8_bay_6 : decode cX8_bay 6 = .ok (.invokevirtual 136, 3) := by decide +kernel
theorem dX8_bay_9 : decode cX8_bay 9 = .ok (.bipush (-9), 2) := by decide +kernel
theorem dX8_bay_11 : decode cX8_bay 11 = .ok (.if_icmp .eq 6, 3) := by decide +kernel
theorem dX8_bay_14 : decode cX8_bay 14 = .ok (.bipush (-3), 2) := by decide +kernel
theorem dX8_bay_16 : decode cX8_bay 16 = .ok (.ireturn, 1) := by decide +kernel
theorem dX8_bay_17 : decode cX8_bay 17 = .ok (.iconst 0, 1) := by decide +kernel
theorem dX8_bay_18 : decode cX8_bay 18 = .ok (.istore_n 1, 1) := by decide +kernel
theorem dX8_bay_19 : decode cX8_bay 19 = .ok (.iload_n 1, 1) := by decide +kernel
theorem dX8_bay_20 : decode cX8_bay 20 = .ok (.bipush 10, 2) := by decide +kernel
theorem dX8_bay_22 : decode cX8_bay 22 = .ok (.if_icmp .ge 21, 3) := by decide +kernel
theorem dX8_bay_25 : decode cX8_bay 25 = .ok (.aload_n 0, 1) := by decide +kernel
theorem dX8_bay_26 : decode cX8_bay 26 = .ok (.getfield 13, 3) := by decide +kernel
theorem dX8_bay_29 : decode cX8_bay 29 = .ok (.iload_n 1, 1) := by decide +kernel
theorem dX8_bay_30 : decode cX8_bay 30 = .ok (.aload_n 0, 1) := by decide +kernel
theorem dX8_bay_31 : decode cX8_bay 31 = .ok (.getfield 32, 3) := by decide +kernel
theorem dX8_bay_34 : decode cX8_bay 34 = .ok (.iload_n 1, 1) := by decide +kernel
theorem dX8_bay_35 : decode cX8_bay 35 = .ok (.iaload, 1) := by decide +kernel
theorem dX8_bay_36 : decode cX8_bay 36 = .ok (.iastore, 1) := by decide +kernel
theorem dX8_bay_37 : decode cX8_bay 37 = .ok (.iinc 1 1, 3) := by decide +kernel
theorem dX8_bay_40 : decode cX8_bay 40 = .ok (.goto (-21), 3) := by decide +kernel
theorem dX8_bay_43 : decode cX8_bay 43 = .ok (.aload_n 0, 1) := by decide +kernel
theorem dX8_bay_44 : decode cX8_bay 44 = .ok (.aload_n 0, 1) := by decide +kernel
theorem dX8_bay_45 : decode cX8_bay 45 = .ok (.getfield 121, 3) := by decide +kernel
theorem dX8_bay_48 : decode cX8_bay 48 = .ok (.putfield 139, 3) := by decide +kernel
theorem dX8_bay_51 : decode cX8_bay 51 = .ok (.aload_n 0, 1) := by decide +kernel
theorem dX8_bay_52 : decode cX8_bay 52 = .ok (.aload_n 0, 1) := by decide +kernel
theorem dX8_bay_53 : decode cX8_bay 53 = .ok (.getfield 124, 3) := by decide +kernel
theorem dX8_bay_56 : decode cX8_bay 56 = .ok (.putfield 16, 3) := by decide +kernel
theorem dX8_bay_59 : decode cX8_bay 59 = .ok (.aload_n 0, 1) := by decide +kernel
theorem dX8_bay_60 : decode cX8_bay 60 = .ok (.aload_n 0, 1) := by decide +kernel
theorem dX8_bay_61 : decode cX8_bay 61 = .ok (.getfield 127, 3) := by decide +kernel
theorem dX8_bay_64 : decode cX8_bay 64 = .ok (.putfield 142, 3) := by decide +kernel
theorem dX8_bay_67 : decode cX8_bay 67 = .ok (.aload_n 0, 1) := by decide +kernel
theorem dX8_bay_68 : decode cX8_bay 68 = .ok (.aload_n 0, 1) := by decide +kernel
theorem dX8_bay_69 : decode cX8_bay 69 = .ok (.getfield 100, 3) := by decide +kernel
theorem dX8_bay_72 : decode cX8_bay 72 = .ok (.putfield 70, 3) := by decide +kernel
theorem dX8_bay_75 : decode cX8_bay 75 = .ok (.aload_n 0, 1) := by decide +kernel
theorem dX8_bay_76 : decode cX8_bay 76 = .ok (.aload_n 0, 1) := by decide +kernel
theorem dX8_bay_77 : decode cX8_bay 77 = .ok (.getfield 87, 3) := by decide +kernel
theorem dX8_bay_80 : decode cX8_bay 80 = .ok (.putfield 145, 3) := by decide +kernel
theorem dX8_bay_83 : decode cX8_bay 83 = .ok (.aload_n 0, 1) := by decide +kernel
theorem dX8_bay_84 : decode cX8_bay 84 = .ok (.aload_n 0, 1) := by decide +kernel
theorem dX8_bay_85 : decode cX8_bay 85 = .ok (.getfield 118, 3) := by decide +kernel
theorem dX8_bay_88 : decode cX8_bay 88 = .ok (.putfield 148, 3) := by decide +kernel
theorem dX8_bay_91 : decode cX8_bay 91 = .ok (.iconst 0, 1) := by decide +kernel
theorem dX8_bay_92 : decode cX8_bay 92 = .ok (.istore_n 1, 1) := by decide +kernel
theorem dX8_bay_93 : decode cX8_bay 93 = .ok (.iload_n 1, 1) := by decide +kernel
theorem dX8_bay_94 : decode cX8_bay 94 = .ok (.aload_n 0, 1) := by decide +kernel
theorem dX8_bay_95 : decode cX8_bay 95 = .ok (.getfield 70, 3) := by decide +kernel
theorem dX8_bay_98 : decode cX8_bay 98 = .ok (.if_icmp .ge 33, 3) := by decide +kernel
theorem dX8_bay_101 : decode cX8_bay 101 = .ok (.aload_n 0, 1) := by decide +kernel
theorem dX8_bay_102 : decode cX8_bay 102 = .ok (.getfield 20, 3) := by decide +kernel
theorem dX8_bay_105 : decode cX8_bay 105 = .ok (.iload_n 1, 1) := by decide +kernel
theorem dX8_bay_106 : decode cX8_bay 106 = .ok (.aload_n 0, 1) := by decide +kernel
theorem dX8_bay_107 : decode cX8_bay 107 = .ok (.getfield 35, 3) := by decide +kernel
theorem dX8_bay_110 : decode cX8_bay 110 = .ok (.iload_n 1, 1) := by decide +kernel
theorem dX8_bay_111 : decode cX8_bay 111 = .ok (.iaload, 1) := by decide +kernel
theorem dX8_bay_112 : decode cX8_bay 112 = .ok (.iastore, 1) := by decide +kernel
theorem dX8_bay_113 : decode cX8_bay 113 = .ok (.aload_n 0, 1) := by decide +kernel
theorem dX8_bay_114 : decode cX8_bay 114 = .ok (.getfield 23, 3) := by decide +kernel
theorem dX8_bay_117 : decode cX8_bay 117 = .ok (.iload_n 1, 1) := by decide +kernel
theorem dX8_bay_118 : decode cX8_bay 118 = .ok (.aload_n 0, 1) := by decide +kernel
theorem dX8_bay_119 : decode cX8_bay 119 = .ok (.getfield 38, 3) := by decide +kernel
theorem dX8_bay_122 : decode cX8_bay 122 = .ok (.iload_n 1, 1) := by decide +kernel
theorem dX8_bay_123 : decode cX8_bay 123 = .ok (.iaload, 1) := by decide +kernel
theorem dX8_bay_124 : decode cX8_bay 124 = .ok (.iastore, 1) := by decide +kernel
theorem dX8_bay_125 : decode cX8_bay 125 = .ok (.iinc 1 1, 3) := by decide +kernel
theorem dX8_bay_128 : decode cX8_bay 128 = .ok (.goto (-35), 3) := by decide +kernel
theorem dX8_bay_131 : decode cX8_bay 131 = .ok (.iconst 0, 1) := by decide +kernel
theorem dX8_bay_132 : decode cX8_bay 132 = .ok (.istore_n 1, 1) := by decide +kernel
theorem dX8_bay_133 : decode cX8_bay 133 = .ok (.iload_n 1, 1) := by decide +kernel
theorem dX8_bay_134 : decode cX8_bay 134 = .ok (.aload_n 0, 1) := by decide +kernel
theorem dX8_bay_135 : decode cX8_bay 135 = .ok (.getfield 145, 3) := by decide +kernel
theorem dX8_bay_138 : decode cX8_bay 138 = .ok (.if_icmp .ge 33, 3) := by decide +kernel
theorem dX8_bay_141 : decode cX8_bay 141 = .ok (.aload_n 0, 1) := by decide +kernel
theorem dX8_bay_142 : decode cX8_bay 142 = .ok (.getfield 26, 3) := by decide +kernel
theorem dX8_bay_145 : decode cX8_bay 145 = .ok (.iload_n 1, 1) := by decide +kernel
theorem dX8_bay_146 : decode cX8_bay 146 = .ok (.aload_n 0, 1) := by decide +kernel
theorem dX8_bay_147 : decode cX8_bay 147 = .ok (.getfield 41, 3) := by decide +kernel
theorem dX8_bay_150 : decode cX8_bay 150 = .ok (.iload_n 1, 1) := by decide +kernel
theorem dX8_bay_151 : decode cX8_bay 151 = .ok (.iaload, 1) := by decide +kernel
theorem dX8_bay_152 : decode cX8_bay 152 = .ok (.iastore, 1) := by decide +kernel
theorem dX8_bay_153 : decode cX8_bay 153 = .ok (.aload_n 0, 1) := by decide +kernel
theorem dX8_bay_154 : decode cX8_bay 154 = .ok (.getfield 29, 3) := by decide +kernel
theorem dX8_bay_157 : decode cX8_bay 157 = .ok (.iload_n 1, 1) := by decide +kernel
theorem dX8_bay_158 : decode cX8_bay 158 = .ok (.aload_n 0, 1) := by decide +kernel
theorem dX8_bay_159 : decode cX8_bay 159 = .ok (.getfield 44, 3) := by decide +kernel
theorem dX8_bay_162 : decode cX8_bay 162 = .ok (.iload_n 1, 1) := by decide +kernel
theorem dX8_bay_163 : decode cX8_bay 163 = .ok (.iaload, 1) := by decide +kernel
theorem dX8_bay_164 : decode cX8_bay 164 = .ok (.iastore, 1) := by decide +kernel
theorem dX8_bay_165 : decode cX8_bay 165 = .ok (.iinc 1 1, 3) := by decide +kernel
theorem dX8_bay_168 : decode cX8_bay 168 = .ok (.goto (-35), 3) := by decide +kernel
theorem dX8_bay_171 : decode cX8_bay 171 = .ok (.iconst 0, 1) := by decide +kernel
theorem dX8_bay_172 : decode cX8_bay 172 = .ok (.istore_n 1, 1) := by decide +kernel
theorem dX8_bay_173 : decode cX8_bay 173 = .ok (.iload_n 1, 1) := by decide +kernel
theorem dX8_bay_174 : decode cX8_bay 174 = .ok (.bipush 16, 2) := by decide +kernel
theorem dX8_bay_176 : decode cX8_bay 176 = .ok (.if_icmp .ge 16, 3) := by decide +kernel
theorem dX8_bay_179 : decode cX8_bay 179 = .ok (.aload_n 0, 1) := by decide +kernel
theorem dX8_bay_180 : decode cX8_bay 180 = .ok (.getfield 47, 3) := by decide +kernel
theorem dX8_bay_183 : decode cX8_bay 183 = .ok (.iload_n 1, 1) := by decide +kernel
theorem dX8_bay_184 : decode cX8_bay 184 = .ok (.iconst 0, 1) := by decide +kernel
theorem dX8_bay_185 : decode cX8_bay 185 = .ok (.iastore, 1) := by decide +kernel
theorem dX8_bay_186 : decode cX8_bay 186 = .ok (.iinc 1 1, 3) := by decide +kernel
theorem dX8_bay_189 : decode cX8_bay 189 = .ok (.goto (-16), 3) := by decide +kernel
theorem dX8_bay_192 : decode cX8_bay 192 = .ok (.aload_n 0, 1) := by decide +kernel
theorem dX8_bay_193 : decode cX8_bay 193 = .ok (.iconst 0, 1) := by decide +kernel
theorem dX8_bay_194 : decode cX8_bay 194 = .ok (.putfield 151, 3) := by decide +kernel
theorem dX8_bay_197 : decode cX8_bay 197 = .ok (.aload_n 0, 1) := by decide +kernel
theorem dX8_bay_198 : decode cX8_bay 198 = .ok (.getfield 56, 3) := by decide +kernel
theorem dX8_bay_201 : decode cX8_bay 201 = .ok (.iconst 0, 1) := by decide +kernel
theorem dX8_bay_202 : decode cX8_bay 202 = .ok (.iconst 0, 1) := by decide +kernel
theorem dX8_bay_203 : decode cX8_bay 203 = .ok (.bastore, 1) := by decide +kernel
theorem dX8_bay_204 : decode cX8_bay 204 = .ok (.aload_n 0, 1) := by decide +kernel
theorem dX8_bay_205 : decode cX8_bay 205 = .ok (.getfield 56, 3) := by decide +kernel
theorem dX8_bay_208 : decode cX8_bay 208 = .ok (.iconst 1, 1) := by decide +kernel
theorem dX8_bay_209 : decode cX8_bay 209 = .ok (.iconst 0, 1) := by decide +kernel
theorem dX8_bay_210 : decode cX8_bay 210 = .ok (.bastore, 1) := by decide +kernel
theorem dX8_bay_211 : decode cX8_bay 211 = .ok (.bipush 10, 2) := by decide +kernel
theorem dX8_bay_213 : decode cX8_bay 213 = .ok (.aload_n 0, 1) := by decide +kernel
theorem dX8_bay_214 : decode cX8_bay 214 = .ok (.getfield 70, 3) := by decide +kernel
theorem dX8_bay_217 : decode cX8_bay 217 = .ok (.imul, 1) := by decide +kernel
theorem dX8_bay_218 : decode cX8_bay 218 = .ok (.aload_n 0, 1) := by decide +kernel
theorem dX8_bay_219 : decode cX8_bay 219 = .ok (.getfield 145, 3) := by decide +kernel
theorem dX8_bay_222 : decode cX8_bay 222 = .ok (.iadd, 1) := by decide +kernel
theorem dX8_bay_223 : decode cX8_bay 223 = .ok (.ireturn, 1) := by decide +kernel
theorem dX8_water_0 : decode cX8_water 0 = .ok (.aload_n 0, 1) := by decide +kernel
theorem dX8_water_1 : decode cX8_water 1 = .ok (.getfield 142, 3) := by decide +kernel
theorem dX8_water_4 : decode cX8_water 4 = .ok (.aload_n 0, 1) := by decide +kernel
theorem dX8_water_5 : decode cX8_water 5 = .ok (.getfield 16, 3) := by decide +kernel
theorem dX8_water_8 : decode cX8_water 8 = .ok (.iload_n 1, 1) := by decide +kernel
theorem dX8_water_9 : decode cX8_water 9 = .ok (.iload_n 2, 1) := by decide +kernel
theorem dX8_water_10 : decode cX8_water 10 = .ok (.if_icmp .ge 9, 3) := by decide +kernel
theorem dX8_water_13 : decode cX8_water 13 = .ok (.iload_n 2, 1) := by decide +kernel
theorem dX8_water_14 : decode cX8_water 14 = .ok (.iload_n 1, 1) := by decide +kernel
theorem dX8_water_15 : decode cX8_water 15 = .ok (.isub, 1) := by decide +kernel
theorem dX8_water_16 : decode cX8_water 16 = .ok (.goto 6, 3) := by decide +kernel
theorem dX8_water_19 : decode cX8_water 19 = .ok (.iload_n 1, 1) := by decide +kernel
theorem dX8_water_20 : decode cX8_water 20 = .ok (.iload_n 2, 1) := by decide +kernel
theorem dX8_water_21 : decode cX8_water 21 = .ok (.isub, 1) := by decide +kernel
theorem dX8_water_22 : decode cX8_water 22 = .ok (.imul, 1) := by decide +kernel
theorem dX8_water_23 : decode cX8_water 23 = .ok (.iadd, 1) := by decide +kernel
theorem dX8_water_24 : decode cX8_water 24 = .ok (.istore_n 3, 1) := by decide +kernel
theorem dX8_water_25 : decode cX8_water 25 = .ok (.iload_n 3, 1) := by decide +kernel
theorem dX8_water_26 : decode cX8_water 26 = .ok (.bipush 9, 2) := by decide +kernel
theorem dX8_water_28 : decode cX8_water 28 = .ok (.if_icmp .le 8, 3) := by decide +kernel
theorem dX8_water_31 : decode cX8_water 31 = .ok (.bipush 9, 2) := by decide +kernel
theorem dX8_water_33 : decode cX8_water 33 = .ok (.goto 4, 3) := by decide +kernel
theorem dX8_water_36 : decode cX8_water 36 = .ok (.iload_n 3, 1) := by decide +kernel
theorem dX8_water_37 : decode cX8_water 37 = .ok (.ireturn, 1) := by decide +kernel
theorem dX8_deepBy_0 : decode cX8_deepBy 0 = .ok (.aload_n 0, 1) := by decide +kernel
theorem dX8_deepBy_1 : decode cX8_deepBy 1 = .ok (.iload_n 2, 1) := by decide +kernel
theorem dX8_deepBy_2 : decode cX8_deepBy 2 = .ok (.iload_n 3, 1) := by decide +kernel
theorem dX8_deepBy_3 : decode cX8_deepBy 3 = .ok (.invokevirtual 154, 3) := by decide +kernel
theorem dX8_deepBy_6 : decode cX8_deepBy 6 = .ok (.aload_n 0, 1) := by decide +kernel
theorem dX8_deepBy_7 : decode cX8_deepBy 7 = .ok (.getfield 13, 3) := by decide +kernel
theorem dX8_deepBy_10 : decode cX8_deepBy 10 = .ok (.iload_n 1, 1) := by decide +kernel
theorem dX8_deepBy_11 : decode cX8_deepBy 11 = .ok (.iaload, 1) := by decide +kernel
theorem dX8_deepBy_12 : decode cX8_deepBy 12 = .ok (.isub, 1) := by decide +kernel
theorem dX8_deepBy_13 : decode cX8_deepBy 13 = .ok (.istore 4, 2) := by decide +kernel
theorem dX8_deepBy_15 : decode cX8_deepBy 15 = .ok (.iload_n 1, 1) := by decide +kernel
theorem dX8_deepBy_16 : decode cX8_deepBy 16 = .ok (.ifCond .eq 14, 3) := by decide +kernel
theorem dX8_deepBy_19 : decode cX8_deepBy 19 = .ok (.iload_n 1, 1) := by decide +kernel
theorem dX8_deepBy_20 : decode cX8_deepBy 20 = .ok (.bipush 9, 2) := by decide +kernel
theorem dX8_deepBy_22 : decode cX8_deepBy 22 = .ok (.if_icmp .eq 8, 3) := by decide +kernel
theorem dX8_deepBy_25 : decode cX8_deepBy 25 = .ok (.iload 4, 2) := by decide +kernel
theorem dX8_deepBy_27 : decode cX8_deepBy 27 = .ok (.ifCond .ge 7, 3) := by decide +kernel
theorem dX8_deepBy_30 : decode cX8_deepBy 30 = .ok (.iconst 0, 1) := by decide +kernel
theorem dX8_deepBy_31 : decode cX8_deepBy 31 = .ok (.goto 5, 3) := by decide +kernel
theorem dX8_deepBy_34 : decode cX8_deepBy 34 = .ok (.iload 4, 2) := by decide +kernel
theorem dX8_deepBy_36 : decode cX8_deepBy 36 = .ok (.ireturn, 1) := by decide +kernel
theorem dX8_those_0 : decode cX8_those 0 = .ok (.iconst 0, 1) := by decide +kernel
theorem dX8_those_1 : decode cX8_those 1 = .ok (.istore_n 2, 1) := by decide +kernel
theorem dX8_those_2 : decode cX8_those 2 = .ok (.iconst 0, 1) := by decide +kernel
theorem dX8_those_3 : decode cX8_those 3 = .ok (.istore_n 3, 1) := by decide +kernel
theorem dX8_those_4 : decode cX8_those 4 = .ok (.iload_n 3, 1) := by decide +kernel
theorem dX8_those_5 : decode cX8_those 5 = .ok (.aload_n 0, 1) := by decide +kernel
theorem dX8_those_6 : decode cX8_those 6 = .ok (.getfield 70, 3) := by decide +kernel
theorem dX8_those_9 : decode cX8_those 9 = .ok (.if_icmp .ge 33, 3) := by decide +kernel
theorem dX8_those_12 : decode cX8_those 12 = .ok (.iload_n 2, 1) := by decide +kernel
theorem dX8_those_13 : decode cX8_those 13 = .ok (.aload_n 0, 1) := by decide +kernel
theorem dX8_those_14 : decode cX8_those 14 = .ok (.getfield 47, 3) := by decide +kernel
theorem dX8_those_17 : decode cX8_those 17 = .ok (.iconst 3, 1) := by decide +kernel
theorem dX8_those_18 : decode cX8_those 18 = .ok (.iload_n 3, 1) := by decide +kernel
theorem dX8_those_19 : decode cX8_those 19 = .ok (.imul, 1) := by decide +kernel
theorem dX8_those_20 : decode cX8_those 20 = .ok (.iconst 2, 1) := by decide +kernel
theorem dX8_those_21 : decode cX8_those 21 = .ok (.iadd, 1) := by decide +kernel
theorem dX8_those_22 : decode cX8_those 22 = .ok (.iaload, 1) := by decide +kernel
theorem dX8_those_23 : decode cX8_those 23 = .ok (.iload_n 1, 1) := by decide +kernel
theorem dX8_those_24 : decode cX8_those 24 = .ok (.if_icmp .ne 9, 3) := by decide +kernel
theorem dX8_those_27 : decode cX8_those 27 = .ok (.iconst 1, 1) := by decide +kernel
theorem dX8_those_28 : decode cX8_those 28 = .ok (.iload_n 3, 1) := by decide +kernel
theorem dX8_those_29 : decode cX8_those 29 = .ok (.ishl, 1) := by decide +kernel
theorem dX8_those_30 : decode cX8_those 30 = .ok (.goto 4, 3) := by decide +kernel
theorem dX8_those_33 : decode cX8_those 33 = .ok (.iconst 0, 1) := by decide +kernel
theorem dX8_those_34 : decode cX8_those 34 = .ok (.ior, 1) := by decide +kernel
theorem dX8_those_35 : decode cX8_those 35 = .ok (.istore_n 2, 1) := by decide +kernel
theorem dX8_those_36 : decode cX8_those 36 = .ok (.iinc 3 1, 3) := by decide +kernel
theorem dX8_those_39 : decode cX8_those 39 = .ok (.goto (-35), 3) := by decide +kernel
theorem dX8_those_42 : decode cX8_those 42 = .ok (.iload_n 2, 1) := by decide +kernel
theorem dX8_those_43 : decode cX8_those 43 = .ok (.ireturn, 1) := by decide +kernel
theorem dX8_about_0 : decode cX8_about 0 = .ok (.aload_n 0, 1) := by decide +kernel
theorem dX8_about_1 : decode cX8_about 1 = .ok (.iconst 0, 1) := by decide +kernel
theorem dX8_about_2 : decode cX8_about 2 = .ok (.putfield 67, 3) := by decide +kernel
theorem dX8_about_5 : decode cX8_about 5 = .ok (.iload_n 1, 1) := by decide +kernel
theorem dX8_about_6 : decode cX8_about 6 = .ok (.tableswitch 138 0 13 #[70, 75, 80, 88, 104, 109, 114, 119, 119, 119, 119, 119, 128, 133], 70) := by decide +kernel
theorem dX8_about_76 : decode cX8_about 76 = .ok (.aload_n 0, 1) := by decide +kernel
theorem dX8_about_77 : decode cX8_about 77 = .ok (.getfield 70, 3) := by decide +kernel
theorem dX8_about_80 : decode cX8_about 80 = .ok (.ireturn, 1) := by decide +kernel
theorem dX8_about_81 : decode cX8_about 81 = .ok (.aload_n 0, 1) := by decide +kernel
theorem dX8_about_82 : decode cX8_about 82 = .ok (.getfield 145, 3) := by decide +kernel
theorem dX8_about_85 : decode cX8_about 85 = .ok (.ireturn, 1) := by decide +kernel
theorem dX8_about_86 : decode cX8_about 86 = .ok (.aload_n 0, 1) := by decide +kernel
theorem dX8_about_87 : decode cX8_about 87 = .ok (.getfield 47, 3) := by decide +kernel
theorem dX8_about_90 : decode cX8_about 90 = .ok (.bipush 15, 2) := by decide +kernel
theorem dX8_about_92 : decode cX8_about 92 = .ok (.iaload, 1) := by decide +kernel
theorem dX8_about_93 : decode cX8_about 93 = .ok (.ireturn, 1) := by decide +kernel
theorem dX8_about_94 : decode cX8_about 94 = .ok (.aload_n 0, 1) := by decide +kernel
theorem dX8_about_95 : decode cX8_about 95 = .ok (.aload_n 0, 1) := by decide +kernel
theorem dX8_about_96 : decode cX8_about 96 = .ok (.getfield 47, 3) := by decide +kernel
theorem dX8_about_99 : decode cX8_about 99 = .ok (.bipush 15, 2) := by decide +kernel
theorem dX8_about_101 : decode cX8_about 101 = .ok (.iaload, 1) := by decide +kernel
theorem dX8_about_102 : decode cX8_about 102 = .ok (.aload_n 0, 1) := by decide +kernel
theorem dX8_about_103 : decode cX8_about 103 = .ok (.getfield 139, 3) := by decide +kernel
theorem dX8_about_106 : decode cX8_about 106 = .ok (.invokevirtual 154, 3) := by decide +kernel
theorem dX8_about_109 : decode cX8_about 109 = .ok (.ireturn, 1) := by decide +kernel
theorem dX8_about_110 : decode cX8_about 110 = .ok (.aload_n 0, 1) := by decide +kernel
theorem dX8_about_111 : decode cX8_about 111 = .ok (.getfield 139, 3) := by decide +kernel
theorem dX8_about_114 : decode cX8_about 114 = .ok (.ireturn, 1) := by decide +kernel
theorem dX8_about_115 : decode cX8_about 115 = .ok (.aload_n 0, 1) := by decide +kernel
theorem dX8_about_116 : decode cX8_about 116 = .ok (.getfield 16, 3) := by decide +kernel
theorem dX8_about_119 : decode cX8_about 119 = .ok (.ireturn, 1) := by decide +kernel
theorem dX8_about_120 : decode cX8_about 120 = .ok (.aload_n 0, 1) := by decide +kernel
theorem dX8_about_121 : decode cX8_about 121 = .ok (.getfield 142, 3) := by decide +kernel
theorem dX8_about_124 : decode cX8_about 124 = .ok (.ireturn, 1) := by decide +kernel
theorem dX8_about_125 : decode cX8_about 125 = .ok (.aload_n 0, 1) := by decide +kernel
theorem dX8_about_126 : decode cX8_about 126 = .ok (.iload_n 1, 1) := by decide +kernel
theorem dX8_about_127 : decode cX8_about 127 = .ok (.bipush 7, 2) := by decide +kernel
theorem dX8_about_129 : decode cX8_about 129 = .ok (.isub, 1) := by decide +kernel
theorem dX8_about_130 : decode cX8_about 130 = .ok (.invokevirtual 157, 3) := by decide +kernel
theorem dX8_about_133 : decode cX8_about 133 = .ok (.ireturn, 1) := by decide +kernel
theorem dX8_about_134 : decode cX8_about 134 = .ok (.aload_n 0, 1) := by decide +kernel
theorem dX8_about_135 : decode cX8_about 135 = .ok (.getfield 151, 3) := by decide +kernel
theorem dX8_about_138 : decode cX8_about 138 = .ok (.ireturn, 1) := by decide +kernel
theorem dX8_about_139 : decode cX8_about 139 = .ok (.aload_n 0, 1) := by decide +kernel
theorem dX8_about_140 : decode cX8_about 140 = .ok (.getfield 81, 3) := by decide +kernel
theorem dX8_about_143 : decode cX8_about 143 = .ok (.ireturn, 1) := by decide +kernel
theorem dX8_about_144 : decode cX8_about 144 = .ok (.bipush (-2), 2) := by decide +kernel
theorem dX8_about_146 : decode cX8_about 146 = .ok (.ireturn, 1) := by decide +kernel
theorem dX8_towerOf_0 : decode cX8_towerOf 0 = .ok (.bipush (-9), 2) := by decide +kernel
theorem dX8_towerOf_2 : decode cX8_towerOf 2 = .ok (.istore_n 2, 1) := by decide +kernel
theorem dX8_towerOf_3 : decode cX8_towerOf 3 = .ok (.iconst 0, 1) := by decide +kernel
theorem dX8_towerOf_4 : decode cX8_towerOf 4 = .ok (.istore_n 3, 1) := by decide +kernel
theorem dX8_towerOf_5 : decode cX8_towerOf 5 = .ok (.iload_n 3, 1) := by decide +kernel
theorem dX8_towerOf_6 : decode cX8_towerOf 6 = .ok (.aload_n 0, 1) := by decide +kernel
theorem dX8_towerOf_7 : decode cX8_towerOf 7 = .ok (.getfield 145, 3) := by decide +kernel
theorem dX8_towerOf_10 : decode cX8_towerOf 10 = .ok (.if_icmp .ge 25, 3) := by decide +kernel
theorem dX8_towerOf_13 : decode cX8_towerOf 13 = .ok (.aload_n 0, 1) := by decide +kernel
theorem dX8_towerOf_14 : decode cX8_towerOf 14 = .ok (.getfield 26, 3) := by decide +kernel
theorem dX8_towerOf_17 : decode cX8_towerOf 17 = .ok (.iload_n 3, 1) := by decide +kernel
theorem dX8_towerOf_18 : decode cX8_towerOf 18 = .ok (.iaload, 1) := by decide +kernel
theorem dX8_towerOf_19 : decode cX8_towerOf 19 = .ok (.iload_n 1, 1) := by decide +kernel
theorem dX8_towerOf_20 : decode cX8_towerOf 20 = .ok (.if_icmp .ne 7, 3) := by decide +kernel
theorem dX8_towerOf_23 : decode cX8_towerOf 23 = .ok (.iload_n 3, 1) := by decide +kernel
theorem dX8_towerOf_24 : decode cX8_towerOf 24 = .ok (.goto 4, 3) := by decide +kernel
theorem dX8_towerOf_27 : decode cX8_towerOf 27 = .ok (.iload_n 2, 1) := by decide +kernel
theorem dX8_towerOf_28 : decode cX8_towerOf 28 = .ok (.istore_n 2, 1) := by decide +kernel
theorem dX8_towerOf_29 : decode cX8_towerOf 29 = .ok (.iinc 3 1, 3) := by decide +kernel
theorem dX8_towerOf_32 : decode cX8_towerOf 32 = .ok (.goto (-27), 3) := by decide +kernel
theorem dX8_towerOf_35 : decode cX8_towerOf 35 = .ok (.iload_n 2, 1) := by decide +kernel
theorem dX8_towerOf_36 : decode cX8_towerOf 36 = .ok (.ireturn, 1) := by decide +kernel
theorem dX8_upAt_0 : decode cX8_upAt 0 = .ok (.iconst 0, 1) := by decide +kernel
theorem dX8_upAt_1 : decode cX8_upAt 1 = .ok (.istore_n 2, 1) := by decide +kernel
theorem dX8_upAt_2 : decode cX8_upAt 2 = .ok (.iconst 0, 1) := by decide +kernel
theorem dX8_upAt_3 : decode cX8_upAt 3 = .ok (.istore_n 3, 1) := by decide +kernel
theorem dX8_upAt_4 : decode cX8_upAt 4 = .ok (.iload_n 3, 1) := by decide +kernel
theorem dX8_upAt_5 : decode cX8_upAt 5 = .ok (.aload_n 0, 1) := by decide +kernel
theorem dX8_upAt_6 : decode cX8_upAt 6 = .ok (.getfield 70, 3) := by decide +kernel
theorem dX8_upAt_9 : decode cX8_upAt 9 = .ok (.if_icmp .ge 43, 3) := by decide +kernel
theorem dX8_upAt_12 : decode cX8_upAt 12 = .ok (.iload_n 2, 1) := by decide +kernel
theorem dX8_upAt_13 : decode cX8_upAt 13 = .ok (.aload_n 0, 1) := by decide +kernel
theorem dX8_upAt_14 : decode cX8_upAt 14 = .ok (.getfield 47, 3) := by decide +kernel
theorem dX8_upAt_17 : decode cX8_upAt 17 = .ok (.iconst 3, 1) := by decide +kernel
theorem dX8_upAt_18 : decode cX8_upAt 18 = .ok (.iload_n 3, 1) := by decide +kernel
theorem dX8_upAt_19 : decode cX8_upAt 19 = .ok (.imul, 1) := by decide +kernel
theorem dX8_upAt_20 : decode cX8_upAt 20 = .ok (.iaload, 1) := by decide +kernel
theorem dX8_upAt_21 : decode cX8_upAt 21 = .ok (.iload_n 1, 1) := by decide +kernel
theorem dX8_upAt_22 : decode cX8_upAt 22 = .ok (.if_icmp .ne 21, 3) := by decide +kernel
theorem dX8_upAt_25 : decode cX8_upAt 25 = .ok (.aload_n 0, 1) := by decide +kernel
theorem dX8_upAt_26 : decode cX8_upAt 26 = .ok (.getfield 47, 3) := by decide +kernel
theorem dX8_upAt_29 : decode cX8_upAt 29 = .ok (.iconst 3, 1) := by decide +kernel
theorem dX8_upAt_30 : decode cX8_upAt 30 = .ok (.iload_n 3, 1) := by decide +kernel
theorem dX8_upAt_31 : decode cX8_upAt 31 = .ok (.imul, 1) := by decide +kernel
theorem dX8_upAt_32 : decode cX8_upAt 32 = .ok (.iconst 2, 1) := by decide +kernel
theorem dX8_upAt_33 : decode cX8_upAt 33 = .ok (.iadd, 1) := by decide +kernel
theorem dX8_upAt_34 : decode cX8_upAt 34 = .ok (.iaload, 1) := by decide +kernel
theorem dX8_upAt_35 : decode cX8_upAt 35 = .ok (.iconst 4, 1) := by decide +kernel
theorem dX8_upAt_36 : decode cX8_upAt 36 = .ok (.if_icmp .ne 7, 3) := by decide +kernel
theorem dX8_upAt_39 : decode cX8_upAt 39 = .ok (.iconst 1, 1) := by decide +kernel
theorem dX8_upAt_40 : decode cX8_upAt 40 = .ok (.goto 4, 3) := by decide +kernel
theorem dX8_upAt_43 : decode cX8_upAt 43 = .ok (.iconst 0, 1) := by decide +kernel
theorem dX8_upAt_44 : decode cX8_upAt 44 = .ok (.iadd, 1) := by decide +kernel
theorem dX8_upAt_45 : decode cX8_upAt 45 = .ok (.istore_n 2, 1) := by decide +kernel
theorem dX8_upAt_46 : decode cX8_upAt 46 = .ok (.iinc 3 1, 3) := by decide +kernel
theorem dX8_upAt_49 : decode cX8_upAt 49 = .ok (.goto (-45), 3) := by decide +kernel
theorem dX8_upAt_52 : decode cX8_upAt 52 = .ok (.iload_n 2, 1) := by decide +kernel
theorem dX8_upAt_53 : decode cX8_upAt 53 = .ok (.ireturn, 1) := by decide +kernel
theorem dX8_cell_0 : decode cX8_cell 0 = .ok (.aload_n 0, 1) := by decide +kernel
theorem dX8_cell_1 : decode cX8_cell 1 = .ok (.iconst 0, 1) := by decide +kernel
theorem dX8_cell_2 : decode cX8_cell 2 = .ok (.putfield 67, 3) := by decide +kernel
theorem dX8_cell_5 : decode cX8_cell 5 = .ok (.iload_n 1, 1) := by decide +kernel
theorem dX8_cell_6 : decode cX8_cell 6 = .ok (.invokestatic 160, 3) := by decide +kernel
theorem dX8_cell_9 : decode cX8_cell 9 = .ok (.ifCond .eq 5, 3) := by decide +kernel
theorem dX8_cell_12 : decode cX8_cell 12 = .ok (.iconst (-1), 1) := by decide +kernel
theorem dX8_cell_13 : decode cX8_cell 13 = .ok (.ireturn, 1) := by decide +kernel
theorem dX8_cell_14 : decode cX8_cell 14 = .ok (.aload_n 0, 1) := by decide +kernel
theorem dX8_cell_15 : decode cX8_cell 15 = .ok (.iload_n 1, 1) := by decide +kernel
theorem dX8_cell_16 : decode cX8_cell 16 = .ok (.invokevirtual 164, 3) := by decide +kernel
theorem dX8_cell_19 : decode cX8_cell 19 = .ok (.istore_n 3, 1) := by decide +kernel
theorem dX8_cell_20 : decode cX8_cell 20 = .ok (.iload_n 2, 1) := by decide +kernel
theorem dX8_cell_21 : decode cX8_cell 21 = .ok (.tableswitch 91 0 4 #[35, 42, 59, 68, 85], 35) := by decide +kernel
theorem dX8_cell_56 : decode cX8_cell 56 = .ok (.aload_n 0, 1) := by decide +kernel
theorem dX8_cell_57 : decode cX8_cell 57 = .ok (.getfield 13, 3) := by decide +kernel
theorem dX8_cell_60 : decode cX8_cell 60 = .ok (.iload_n 1, 1) := by decide +kernel
theorem dX8_cell_61 : decode cX8_cell 61 = .ok (.iaload, 1) := by decide +kernel
theorem dX8_cell_62 : decode cX8_cell 62 = .ok (.ireturn, 1) := by decide +kernel
theorem dX8_cell_63 : decode cX8_cell 63 = .ok (.aload_n 0, 1) := by decide +kernel
theorem dX8_cell_64 : decode cX8_cell 64 = .ok (.iload_n 1, 1) := by decide +kernel
theorem dX8_cell_65 : decode cX8_cell 65 = .ok (.aload_n 0, 1) := by decide +kernel
theorem dX8_cell_66 : decode cX8_cell 66 = .ok (.getfield 47, 3) := by decide +kernel
theorem dX8_cell_69 : decode cX8_cell 69 = .ok (.bipush 15, 2) := by decide +kernel
theorem dX8_cell_71 : decode cX8_cell 71 = .ok (.iaload, 1) := by decide +kernel
theorem dX8_cell_72 : decode cX8_cell 72 = .ok (.aload_n 0, 1) := by decide +kernel
theorem dX8_cell_73 : decode cX8_cell 73 = .ok (.getfield 139, 3) := by decide +kernel
theorem dX8_cell_76 : decode cX8_cell 76 = .ok (.invokevirtual 167, 3) := by decide +kernel
theorem dX8_cell_79 : decode cX8_cell 79 = .ok (.ireturn, 1) := by decide +kernel
theorem dX8_cell_80 : decode cX8_cell 80 = .ok (.aload_n 0, 1) := by decide +kernel
theorem dX8_cell_81 : decode cX8_cell 81 = .ok (.getfield 148, 3) := by decide +kernel
theorem dX8_cell_84 : decode cX8_cell 84 = .ok (.iload_n 1, 1) := by decide +kernel
theorem dX8_cell_85 : decode cX8_cell 85 = .ok (.ishr, 1) := by decide +kernel
theorem dX8_cell_86 : decode cX8_cell 86 = .ok (.iconst 1, 1) := by decide +kernel
theorem dX8_cell_87 : decode cX8_cell 87 = .ok (.iand, 1) := by decide +kernel
theorem dX8_cell_88 : decode cX8_cell 88 = .ok (.ireturn, 1) := by decide +kernel
theorem dX8_cell_89 : decode cX8_cell 89 = .ok (.iload_n 3, 1) := by decide +kernel
theorem dX8_cell_90 : decode cX8_cell 90 = .ok (.bipush (-9), 2) := by decide +kernel
theorem dX8_cell_92 : decode cX8_cell 92 = .ok (.if_icmp .ne 7, 3) := by decide +kernel
theorem dX8_cell_95 : decode cX8_cell 95 = .ok (.iconst 0, 1) := by decide +kernel
theorem dX8_cell_96 : decode cX8_cell 96 = .ok (.goto 9, 3) := by decide +kernel
theorem dX8_cell_99 : decode cX8_cell 99 = .ok (.aload_n 0, 1) := by decide +kernel
theorem dX8_cell_100 : decode cX8_cell 100 = .ok (.getfield 29, 3) := by decide +kernel
theorem dX8_cell_103 : decode cX8_cell 103 = .ok (.iload_n 3, 1) := by decide +kernel
theorem dX8_cell_104 : decode cX8_cell 104 = .ok (.iaload, 1) := by decide +kernel
theorem dX8_cell_105 : decode cX8_cell 105 = .ok (.ireturn, 1) := by decide +kernel
theorem dX8_cell_106 : decode cX8_cell 106 = .ok (.aload_n 0, 1) := by decide +kernel
theorem dX8_cell_107 : decode cX8_cell 107 = .ok (.iload_n 1, 1) := by decide +kernel
theorem dX8_cell_108 : decode cX8_cell 108 = .ok (.invokevirtual 171, 3) := by decide +kernel
theorem dX8_cell_111 : decode cX8_cell 111 = .ok (.ireturn, 1) := by decide +kernel
theorem dX8_cell_112 : decode cX8_cell 112 = .ok (.bipush (-2), 2) := by decide +kernel
theorem dX8_cell_114 : decode cX8_cell 114 = .ok (.ireturn, 1) := by decide +kernel
theorem dX8_walker_0 : decode cX8_walker 0 = .ok (.aload_n 0, 1) := by decide +kernel
theorem dX8_walker_1 : decode cX8_walker 1 = .ok (.iconst 0, 1) := by decide +kernel
theorem dX8_walker_2 : decode cX8_walker 2 = .ok (.putfield 67, 3) := by decide +kernel
theorem dX8_walker_5 : decode cX8_walker 5 = .ok (.aload_n 0, 1) := by decide +kernel
theorem dX8_walker_6 : decode cX8_walker 6 = .ok (.iload_n 1, 1) := by decide +kernel
theorem dX8_walker_7 : decode cX8_walker 7 = .ok (.invokevirtual 174, 3) := by decide +kernel
theorem dX8_walker_10 : decode cX8_walker 10 = .ok (.ifCond .eq 5, 3) := by decide +kernel
theorem dX8_walker_13 : decode cX8_walker 13 = .ok (.iconst (-1), 1) := by decide +kernel
theorem dX8_walker_14 : decode cX8_walker 14 = .ok (.ireturn, 1) := by decide +kernel
theorem dX8_walker_15 : decode cX8_walker 15 = .ok (.iload_n 2, 1) := by decide +kernel
theorem dX8_walker_16 : decode cX8_walker 16 = .ok (.tableswitch 81 0 4 #[36, 43, 50, 59, 70], 36) := by decide +kernel
theorem dX8_walker_52 : decode cX8_walker 52 = .ok (.aload_n 0, 1) := by decide +kernel
theorem dX8_walker_53 : decode cX8_walker 53 = .ok (.getfield 20, 3) := by decide +kernel
theorem dX8_walker_56 : decode cX8_walker 56 = .ok (.iload_n 1, 1) := by decide +kernel
theorem dX8_walker_57 : decode cX8_walker 57 = .ok (.iaload, 1) := by decide +kernel
theorem dX8_walker_58 : decode cX8_walker 58 = .ok (.ireturn, 1) := by decide +kernel
theorem dX8_walker_59 : decode cX8_walker 59 = .ok (.aload_n 0, 1) := by decide +kernel
theorem dX8_walker_60 : decode cX8_walker 60 = .ok (.getfield 23, 3) := by decide +kernel
theorem dX8_walker_63 : decode cX8_walker 63 = .ok (.iload_n 1, 1) := by decide +kernel
theorem dX8_walker_64 : decode cX8_walker 64 = .ok (.iaload, 1) := by decide +kernel
theorem dX8_walker_65 : decode cX8_walker 65 = .ok (.ireturn, 1) := by decide +kernel
theorem dX8_walker_66 : decode cX8_walker 66 = .ok (.aload_n 0, 1) := by decide +kernel
theorem dX8_walker_67 : decode cX8_walker 67 = .ok (.getfield 47, 3) := by decide +kernel
theorem dX8_walker_70 : decode cX8_walker 70 = .ok (.iconst 3, 1) := by decide +kernel
theorem dX8_walker_71 : decode cX8_walker 71 = .ok (.iload_n 1, 1) := by decide +kernel
theorem dX8_walker_72 : decode cX8_walker 72 = .ok (.imul, 1) := by decide +kernel
theorem dX8_walker_73 : decode cX8_walker 73 = .ok (.iaload, 1) := by decide +kernel
theorem dX8_walker_74 : decode cX8_walker 74 = .ok (.ireturn, 1) := by decide +kernel
theorem dX8_walker_75 : decode cX8_walker 75 = .ok (.aload_n 0, 1) := by decide +kernel
theorem dX8_walker_76 : decode cX8_walker 76 = .ok (.getfield 47, 3) := by decide +kernel
theorem dX8_walker_79 : decode cX8_walker 79 = .ok (.iconst 3, 1) := by decide +kernel
theorem dX8_walker_80 : decode cX8_walker 80 = .ok (.iload_n 1, 1) := by decide +kernel
theorem dX8_walker_81 : decode cX8_walker 81 = .ok (.imul, 1) := by decide +kernel
theorem dX8_walker_82 : decode cX8_walker 82 = .ok (.iconst 1, 1) := by decide +kernel
theorem dX8_walker_83 : decode cX8_walker 83 = .ok (.iadd, 1) := by decide +kernel
theorem dX8_walker_84 : decode cX8_walker 84 = .ok (.iaload, 1) := by decide +kernel
theorem dX8_walker_85 : decode cX8_walker 85 = .ok (.ireturn, 1) := by decide +kernel
theorem dX8_walker_86 : decode cX8_walker 86 = .ok (.aload_n 0, 1) := by decide +kernel
theorem dX8_walker_87 : decode cX8_walker 87 = .ok (.getfield 47, 3) := by decide +kernel
theorem dX8_walker_90 : decode cX8_walker 90 = .ok (.iconst 3, 1) := by decide +kernel
theorem dX8_walker_91 : decode cX8_walker 91 = .ok (.iload_n 1, 1) := by decide +kernel
theorem dX8_walker_92 : decode cX8_walker 92 = .ok (.imul, 1) := by decide +kernel
theorem dX8_walker_93 : decode cX8_walker 93 = .ok (.iconst 2, 1) := by decide +kernel
theorem dX8_walker_94 : decode cX8_walker 94 = .ok (.iadd, 1) := by decide +kernel
theorem dX8_walker_95 : decode cX8_walker 95 = .ok (.iaload, 1) := by decide +kernel
theorem dX8_walker_96 : decode cX8_walker 96 = .ok (.ireturn, 1) := by decide +kernel
theorem dX8_walker_97 : decode cX8_walker 97 = .ok (.bipush (-2), 2) := by decide +kernel
theorem dX8_walker_99 : decode cX8_walker 99 = .ok (.ireturn, 1) := by decide +kernel
theorem dX8_deep_0 : decode cX8_deep 0 = .ok (.aload_n 0, 1) := by decide +kernel
theorem dX8_deep_1 : decode cX8_deep 1 = .ok (.iconst 0, 1) := by decide +kernel
theorem dX8_deep_2 : decode cX8_deep 2 = .ok (.putfield 67, 3) := by decide +kernel
theorem dX8_deep_5 : decode cX8_deep 5 = .ok (.iload_n 1, 1) := by decide +kernel
theorem dX8_deep_6 : decode cX8_deep 6 = .ok (.invokestatic 160, 3) := by decide +kernel
theorem dX8_deep_9 : decode cX8_deep 9 = .ok (.ifCond .eq 7, 3) := by decide +kernel
theorem dX8_deep_12 : decode cX8_deep 12 = .ok (.iconst (-1), 1) := by decide +kernel
theorem dX8_deep_13 : decode cX8_deep 13 = .ok (.goto 30, 3) := by decide +kernel
theorem dX8_deep_16 : decode cX8_deep 16 = .ok (.iload_n 2, 1) := by decide +kernel
theorem dX8_deep_17 : decode cX8_deep 17 = .ok (.i2l, 1) := by decide +kernel
theorem dX8_deep_18 : decode cX8_deep 18 = .ok (.lconst 0, 1) := by decide +kernel
theorem dX8_deep_19 : decode cX8_deep 19 = .ok (.ldc2_w 177, 3) := by decide +kernel
theorem dX8_deep_22 : decode cX8_deep 22 = .ok (.invokestatic 73, 3) := by decide +kernel
theorem dX8_deep_25 : decode cX8_deep 25 = .ok (.ifCond .eq 16, 3) := by decide +kernel
theorem dX8_deep_28 : decode cX8_deep 28 = .ok (.aload_n 0, 1) := by decide +kernel
theorem dX8_deep_29 : decode cX8_deep 29 = .ok (.iload_n 1, 1) := by decide +kernel
theorem dX8_deep_30 : decode cX8_deep 30 = .ok (.iload_n 2, 1) := by decide +kernel
theorem dX8_deep_31 : decode cX8_deep 31 = .ok (.aload_n 0, 1) := by decide +kernel
theorem dX8_deep_32 : decode cX8_deep 32 = .ok (.getfield 139, 3) := by decide +kernel
theorem dX8_deep_35 : decode cX8_deep 35 = .ok (.invokevirtual 167, 3) := by decide +kernel
theorem dX8_deep_38 : decode cX8_deep 38 = .ok (.goto 5, 3) := by decide +kernel
theorem dX8_deep_41 : decode cX8_deep 41 = .ok (.bipush (-2), 2) := by decide +kernel
theorem dX8_deep_43 : decode cX8_deep 43 = .ok (.ireturn, 1) := by decide +kernel
theorem dX8_goes_0 : decode cX8_goes 0 = .ok (.aload_n 0, 1) := by decide +kernel
theorem dX8_goes_1 : decode cX8_goes 1 = .ok (.iload_n 2, 1) := by decide +kernel
theorem dX8_goes_2 : decode cX8_goes 2 = .ok (.iload 4, 2) := by decide +kernel
theorem dX8_goes_4 : decode cX8_goes 4 = .ok (.iload 5, 2) := by decide +kernel
theorem dX8_goes_6 : decode cX8_goes 6 = .ok (.invokevirtual 167, 3) := by decide +kernel
theorem dX8_goes_9 : decode cX8_goes 9 = .ok (.ifCond .le 16, 3) := by decide +kernel
theorem dX8_goes_12 : decode cX8_goes 12 = .ok (.aload_n 0, 1) := by decide +kernel
theorem dX8_goes_13 : decode cX8_goes 13 = .ok (.getfield 20, 3) := by decide +kernel
theorem dX8_goes_16 : decode cX8_goes 16 = .ok (.iload_n 1, 1) := by decide +kernel
theorem dX8_goes_17 : decode cX8_goes 17 = .ok (.iaload, 1) := by decide +kernel
theorem dX8_goes_18 : decode cX8_goes 18 = .ok (.iconst 1, 1) := by decide +kernel
theorem dX8_goes_19 : decode cX8_goes 19 = .ok (.iadd, 1) := by decide +kernel
theorem dX8_goes_20 : decode cX8_goes 20 = .ok (.iconst 2, 1) := by decide +kernel
theorem dX8_goes_21 : decode cX8_goes 21 = .ok (.idiv, 1) := by decide +kernel
theorem dX8_goes_22 : decode cX8_goes 22 = .ok (.goto 9, 3) := by decide +kernel
theorem dX8_goes_25 : decode cX8_goes 25 = .ok (.aload_n 0, 1) := by decide +kernel
theorem dX8_goes_26 : decode cX8_goes 26 = .ok (.getfield 20, 3) := by decide +kernel
theorem dX8_goes_29 : decode cX8_goes 29 = .ok (.iload_n 1, 1) := by decide +kernel
theorem dX8_goes_30 : decode cX8_goes 30 = .ok (.iaload, 1) := by decide +kernel
theorem dX8_goes_31 : decode cX8_goes 31 = .ok (.istore 6, 2) := by decide +kernel
theorem dX8_goes_33 : decode cX8_goes 33 = .ok (.iload_n 2, 1) := by decide +kernel
theorem dX8_goes_34 : decode cX8_goes 34 = .ok (.istore 7, 2) := by decide +kernel
theorem dX8_goes_36 : decode cX8_goes 36 = .ok (.iload_n 3, 1) := by decide +kernel
theorem dX8_goes_37 : decode cX8_goes 37 = .ok (.iconst 1, 1) := by decide +kernel
theorem dX8_goes_38 : decode cX8_goes 38 = .ok (.if_icmp .ne 7, 3) := by decide +kernel
theorem dX8_goes_41 : decode cX8_goes 41 = .ok (.iconst 1, 1) := by decide +kernel
theorem dX8_goes_42 : decode cX8_goes 42 = .ok (.goto 4, 3) := by decide +kernel
theorem dX8_goes_45 : decode cX8_goes 45 = .ok (.iconst (-1), 1) := by decide +kernel
theorem dX8_goes_46 : decode cX8_goes 46 = .ok (.istore 8, 2) := by decide +kernel
theorem dX8_goes_48 : decode cX8_goes 48 = .ok (.iload_n 3, 1) := by decide +kernel
theorem dX8_goes_49 : decode cX8_goes 49 = .ok (.ifCond .eq 54, 3) := by decide +kernel
theorem dX8_goes_52 : decode cX8_goes 52 = .ok (.iload 6, 2) := by decide +kernel
theorem dX8_goes_54 : decode cX8_goes 54 = .ok (.ifCond .le 49, 3) := by decide +kernel
theorem dX8_goes_57 : decode cX8_goes 57 = .ok (.iload 7, 2) := by decide +kernel
theorem dX8_goes_59 : decode cX8_goes 59 = .ok (.iload 8, 2) := by decide +kernel
theorem dX8_goes_61 : decode cX8_goes 61 = .ok (.iadd, 1) := by decide +kernel
theorem dX8_goes_62 : decode cX8_goes 62 = .ok (.invokestatic 160, 3) := by decide +kernel
theorem dX8_goes_65 : decode cX8_goes 65 = .ok (.ifCond .ne 38, 3) := by decide +kernel
theorem dX8_goes_68 : decode cX8_goes 68 = .ok (.aload_n 0, 1) := by decide +kernel
theorem dX8_goes_69 : decode cX8_goes 69 = .ok (.iload 7, 2) := by decide +kernel
theorem dX8_goes_71 : decode cX8_goes 71 = .ok (.iload 8, 2) := by decide +kernel
theorem dX8_goes_73 : decode cX8_goes 73 = .ok (.iadd, 1) := by decide +kernel
theorem dX8_goes_74 : decode cX8_goes 74 = .ok (.iload 4, 2) := by decide +kernel
theorem dX8_goes_76 : decode cX8_goes 76 = .ok (.iload 5, 2) := by decide +kernel
theorem dX8_goes_78 : decode cX8_goes 78 = .ok (.invokevirtual 167, 3) := by decide +kernel
theorem dX8_goes_81 : decode cX8_goes 81 = .ok (.aload_n 0, 1) := by decide +kernel
theorem dX8_goes_82 : decode cX8_goes 82 = .ok (.getfield 23, 3) := by decide +kernel
theorem dX8_goes_85 : decode cX8_goes 85 = .ok (.iload_n 1, 1) := by decide +kernel
theorem dX8_goes_86 : decode cX8_goes 86 = .ok (.iaload, 1) := by decide +kernel
theorem dX8_goes_87 : decode cX8_goes 87 = .ok (.if_icmp .gt 16, 3) := by decide +kernel
theorem dX8_goes_90 : decode cX8_goes 90 = .ok (.iload 7, 2) := by decide +kernel
theorem dX8_goes_92 : decode cX8_goes 92 = .ok (.iload 8, 2) := by decide +kernel
theorem dX8_goes_94 : decode cX8_goes 94 = .ok (.iadd, 1) := by decide +kernel
theorem dX8_goes_95 : decode cX8_goes 95 = .ok (.istore 7, 2) := by decide +kernel
theorem dX8_goes_97 : decode cX8_goes 97 = .ok (.iinc 6 (-1), 3) := by decide +kernel
theorem dX8_goes_100 : decode cX8_goes 100 = .ok (.goto (-52), 3) := by decide +kernel
theorem dX8_goes_103 : decode cX8_goes 103 = .ok (.iload 7, 2) := by decide +kernel
theorem dX8_goes_105 : decode cX8_goes 105 = .ok (.ireturn, 1) := by decide +kernel
theorem dX8_stateOf_0 : decode cX8_stateOf 0 = .ok (.iload_n 3, 1) := by decide +kernel
theorem dX8_stateOf_1 : decode cX8_stateOf 1 = .ok (.bipush 9, 2) := by decide +kernel
theorem dX8_stateOf_3 : decode cX8_stateOf 3 = .ok (.if_icmp .ne 11, 3) := by decide +kernel
theorem dX8_stateOf_6 : decode cX8_stateOf 6 = .ok (.iload 4, 2) := by decide +kernel
theorem dX8_stateOf_8 : decode cX8_stateOf 8 = .ok (.iconst 1, 1) := by decide +kernel
theorem dX8_stateOf_9 : decode cX8_stateOf 9 = .ok (.if_icmp .ne 5, 3) := by decide +kernel
theorem dX8_stateOf_12 : decode cX8_stateOf 12 = .ok (.iconst 1, 1) := by decide +kernel
theorem dX8_stateOf_13 : decode cX8_stateOf 13 = .ok (.ireturn, 1) := by decide +kernel
theorem dX8_stateOf_14 : decode cX8_stateOf 14 = .ok (.aload_n 0, 1) := by decide +kernel
theorem dX8_stateOf_15 : decode cX8_stateOf 15 = .ok (.iload_n 3, 1) := by decide +kernel
theorem dX8_stateOf_16 : decode cX8_stateOf 16 = .ok (.iload 5, 2) := by decide +kernel
theorem dX8_stateOf_18 : decode cX8_stateOf 18 = .ok (.iload 6, 2) := by decide +kernel
theorem dX8_stateOf_20 : decode cX8_stateOf 20 = .ok (.invokevirtual 167, 3) := by decide +kernel
theorem dX8_stateOf_23 : decode cX8_stateOf 23 = .ok (.aload_n 0, 1) := by decide +kernel
theorem dX8_stateOf_24 : decode cX8_stateOf 24 = .ok (.getfield 23, 3) := by decide +kernel
theorem dX8_stateOf_27 : decode cX8_stateOf 27 = .ok (.iload_n 1, 1) := by decide +kernel
theorem dX8_stateOf_28 : decode cX8_stateOf 28 = .ok (.iaload, 1) := by decide +kernel
theorem dX8_stateOf_29 : decode cX8_stateOf 29 = .ok (.if_icmp .le 5, 3) := by decide +kernel
theorem dX8_stateOf_32 : decode cX8_stateOf 32 = .ok (.iconst 2, 1) := by decide +kernel
theorem dX8_stateOf_33 : decode cX8_stateOf 33 = .ok (.ireturn, 1) := by decide +kernel
theorem dX8_stateOf_34 : decode cX8_stateOf 34 = .ok (.iload_n 2, 1) := by decide +kernel
theorem dX8_stateOf_35 : decode cX8_stateOf 35 = .ok (.iload_n 3, 1) := by decide +kernel
theorem dX8_stateOf_36 : decode cX8_stateOf 36 = .ok (.if_icmp .ne 18, 3) := by decide +kernel
theorem dX8_stateOf_39 : decode cX8_stateOf 39 = .ok (.aload_n 0, 1) := by decide +kernel
theorem dX8_stateOf_40 : decode cX8_stateOf 40 = .ok (.getfield 148, 3) := by decide +kernel
theorem dX8_stateOf_43 : decode cX8_stateOf 43 = .ok (.iload_n 3, 1) := by decide +kernel
theorem dX8_stateOf_44 : decode cX8_stateOf 44 = .ok (.invokestatic 92, 3) := by decide +kernel
theorem dX8_stateOf_47 : decode cX8_stateOf 47 = .ok (.ifCond .eq 7, 3) := by decide +kernel
theorem dX8_stateOf_50 : decode cX8_stateOf 50 = .ok (.iconst 3, 1) := by decide +kernel
theorem dX8_stateOf_51 : decode cX8_stateOf 51 = .ok (.goto 4, 3) := by decide +kernel
theorem dX8_stateOf_54 : decode cX8_stateOf 54 = .ok (.iconst 0, 1) := by decide +kernel
theorem dX8_stateOf_55 : decode cX8_stateOf 55 = .ok (.ireturn, 1) := by decide +kernel
theorem dX8_goAlone_0 : decode cX8_goAlone 0 = .ok (.aload_n 0, 1) := by decide +kernel
theorem dX8_goAlone_1 : decode cX8_goAlone 1 = .ok (.iload_n 1, 1) := by decide +kernel
theorem dX8_goAlone_2 : decode cX8_goAlone 2 = .ok (.aload_n 0, 1) := by decide +kernel
theorem dX8_goAlone_3 : decode cX8_goAlone 3 = .ok (.getfield 179, 3) := by decide +kernel
theorem dX8_goAlone_6 : decode cX8_goAlone 6 = .ok (.iload_n 2, 1) := by decide +kernel
theorem dX8_goAlone_7 : decode cX8_goAlone 7 = .ok (.iload_n 3, 1) := by decide +kernel
theorem dX8_goAlone_8 : decode cX8_goAlone 8 = .ok (.aload_n 0, 1) := by decide +kernel
theorem dX8_goAlone_9 : decode cX8_goAlone 9 = .ok (.getfield 182, 3) := by decide +kernel
theorem dX8_goAlone_12 : decode cX8_goAlone 12 = .ok (.invokevirtual 185, 3) := by decide +kernel
theorem dX8_goAlone_15 : decode cX8_goAlone 15 = .ok (.istore 4, 2) := by decide +kernel
theorem dX8_goAlone_17 : decode cX8_goAlone 17 = .ok (.aload_n 0, 1) := by decide +kernel
theorem dX8_goAlone_18 : decode cX8_goAlone 18 = .ok (.aload_n 0, 1) := by decide +kernel
theorem dX8_goAlone_19 : decode cX8_goAlone 19 = .ok (.iload_n 1, 1) := by decide +kernel
theorem dX8_goAlone_20 : decode cX8_goAlone 20 = .ok (.aload_n 0, 1) := by decide +kernel
theorem dX8_goAlone_21 : decode cX8_goAlone 21 = .ok (.getfield 179, 3) := by decide +kernel
theorem dX8_goAlone_24 : decode cX8_goAlone 24 = .ok (.iload 4, 2) := by decide +kernel
theorem dX8_goAlone_26 : decode cX8_goAlone 26 = .ok (.iload_n 2, 1) := by decide +kernel
theorem dX8_goAlone_27 : decode cX8_goAlone 27 = .ok (.iload_n 3, 1) := by decide +kernel
theorem dX8_goAlone_28 : decode cX8_goAlone 28 = .ok (.iconst 1, 1) := by decide +kernel
theorem dX8_goAlone_29 : decode cX8_goAlone 29 = .ok (.iadd, 1) := by decide +kernel
theorem dX8_goAlone_30 : decode cX8_goAlone 30 = .ok (.aload_n 0, 1) := by decide +kernel
theorem dX8_goAlone_31 : decode cX8_goAlone 31 = .ok (.getfield 182, 3) := by decide +kernel
theorem dX8_goAlone_34 : decode cX8_goAlone 34 = .ok (.invokevirtual 189, 3) := by decide +kernel
theorem dX8_goAlone_37 : decode cX8_goAlone 37 = .ok (.putfield 193, 3) := by decide +kernel
theorem dX8_goAlone_40 : decode cX8_goAlone 40 = .ok (.aload_n 0, 1) := by decide +kernel
theorem dX8_goAlone_41 : decode cX8_goAlone 41 = .ok (.iload 4, 2) := by decide +kernel
theorem dX8_goAlone_43 : decode cX8_goAlone 43 = .ok (.putfield 179, 3) := by decide +kernel
theorem dX8_goAlone_46 : decode cX8_goAlone 46 = .ok (.return_, 1) := by decide +kernel
theorem dX8_note_0 : decode cX8_note 0 = .ok (.aload_n 0, 1) := by decide +kernel
theorem dX8_note_1 : decode cX8_note 1 = .ok (.getfield 151, 3) := by decide +kernel
theorem dX8_note_4 : decode cX8_note 4 = .ok (.bipush 16, 2) := by decide +kernel
theorem dX8_note_6 : decode cX8_note 6 = .ok (.if_icmp .ne 43, 3) := by decide +kernel
theorem dX8_note_9 : decode cX8_note 9 = .ok (.iconst 0, 1) := by decide +kernel
theorem dX8_note_10 : decode cX8_note 10 = .ok (.istore_n 1, 1) := by decide +kernel
theorem dX8_note_11 : decode cX8_note 11 = .ok (.iload_n 1, 1) := by decide +kernel
theorem dX8_note_12 : decode cX8_note 12 = .ok (.sipush 240, 3) := by decide +kernel
theorem dX8_note_15 : decode cX8_note 15 = .ok (.if_icmp .ge 24, 3) := by decide +kernel
theorem dX8_note_18 : decode cX8_note 18 = .ok (.aload_n 0, 1) := by decide +kernel
theorem dX8_note_19 : decode cX8_note 19 = .ok (.getfield 50, 3) := by decide +kernel
theorem dX8_note_22 : decode cX8_note 22 = .ok (.iload_n 1, 1) := by decide +kernel
theorem dX8_note_23 : decode cX8_note 23 = .ok (.aload_n 0, 1) := by decide +kernel
theorem dX8_note_24 : decode cX8_note 24 = .ok (.getfield 50, 3) := by decide +kernel
theorem dX8_note_27 : decode cX8_note 27 = .ok (.iload_n 1, 1) := by decide +kernel
theorem dX8_note_28 : decode cX8_note 28 = .ok (.bipush 16, 2) := by decide +kernel
theorem dX8_note_30 : decode cX8_note 30 = .ok (.iadd, 1) := by decide +kernel
theorem dX8_note_31 : decode cX8_note 31 = .ok (.iaload, 1) := by decide +kernel
theorem dX8_note_32 : decode cX8_note 32 = .ok (.iastore, 1) := by decide +kernel
theorem dX8_note_33 : decode cX8_note 33 = .ok (.iinc 1 1, 3) := by decide +kernel
theorem dX8_note_36 : decode cX8_note 36 = .ok (.goto (-25), 3) := by decide +kernel
theorem dX8_note_39 : decode cX8_note 39 = .ok (.aload_n 0, 1) := by decide +kernel
theorem dX8_note_40 : decode cX8_note 40 = .ok (.dup, 1) := by decide +kernel
theorem dX8_note_41 : decode cX8_note 41 = .ok (.getfield 151, 3) := by decide +kernel
theorem dX8_note_44 : decode cX8_note 44 = .ok (.iconst 1, 1) := by decide +kernel
theorem dX8_note_45 : decode cX8_note 45 = .ok (.isub, 1) := by decide +kernel
theorem dX8_note_46 : decode cX8_note 46 = .ok (.putfield 151, 3) := by decide +kernel
theorem dX8_note_49 : decode cX8_note 49 = .ok (.iconst 0, 1) := by decide +kernel
theorem dX8_note_50 : decode cX8_note 50 = .ok (.istore_n 1, 1) := by decide +kernel
theorem dX8_note_51 : decode cX8_note 51 = .ok (.iload_n 1, 1) := by decide +kernel
theorem dX8_note_52 : decode cX8_note 52 = .ok (.bipush 16, 2) := by decide +kernel
theorem dX8_note_54 : decode cX8_note 54 = .ok (.if_icmp .ge 29, 3) := by decide +kernel
theorem dX8_note_57 : decode cX8_note 57 = .ok (.aload_n 0, 1) := by decide +kernel
theorem dX8_note_58 : decode cX8_note 58 = .ok (.getfield 50, 3) := by decide +kernel
theorem dX8_note_61 : decode cX8_note 61 = .ok (.bipush 16, 2) := by decide +kernel
theorem dX8_note_63 : decode cX8_note 63 = .ok (.aload_n 0, 1) := by decide +kernel
theorem dX8_note_64 : decode cX8_note 64 = .ok (.getfield 151, 3) := by decide +kernel
theorem dX8_note_67 : decode cX8_note 67 = .ok (.imul, 1) := by decide +kernel
theorem dX8_note_68 : decode cX8_note 68 = .ok (.iload_n 1, 1) := by decide +kernel
theorem dX8_note_69 : decode cX8_note 69 = .ok (.iadd, 1) := by decide +kernel
theorem dX8_note_70 : decode cX8_note 70 = .ok (.aload_n 0, 1) := by decide +kernel
theorem dX8_note_71 : decode cX8_note 71 = .ok (.getfield 47, 3) := by decide +kernel
theorem dX8_note_74 : decode cX8_note 74 = .ok (.iload_n 1, 1) := by decide +kernel
theorem dX8_note_75 : decode cX8_note 75 = .ok (.iaload, 1) := by decide +kernel
theorem dX8_note_76 : decode cX8_note 76 = .ok (.iastore, 1) := by decide +kernel
theorem dX8_note_77 : decode cX8_note 77 = .ok (.iinc 1 1, 3) := by decide +kernel
theorem dX8_note_80 : decode cX8_note 80 = .ok (.goto (-29), 3) := by decide +kernel
theorem dX8_note_83 : decode cX8_note 83 = .ok (.aload_n 0, 1) := by decide +kernel
theorem dX8_note_84 : decode cX8_note 84 = .ok (.dup, 1) := by decide +kernel
theorem dX8_note_85 : decode cX8_note 85 = .ok (.getfield 151, 3) := by decide +kernel
theorem dX8_note_88 : decode cX8_note 88 = .ok (.iconst 1, 1) := by decide +kernel
theorem dX8_note_89 : decode cX8_note 89 = .ok (.iadd, 1) := by decide +kernel
theorem dX8_note_90 : decode cX8_note 90 = .ok (.putfield 151, 3) := by decide +kernel
theorem dX8_note_93 : decode cX8_note 93 = .ok (.return_, 1) := by decide +kernel
theorem dX8_head_0 : decode cX8_head 0 = .ok (.aload_n 0, 1) := by decide +kernel
theorem dX8_head_1 : decode cX8_head 1 = .ok (.iconst 0, 1) := by decide +kernel
theorem dX8_head_2 : decode cX8_head 2 = .ok (.putfield 67, 3) := by decide +kernel
theorem dX8_head_5 : decode cX8_head 5 = .ok (.aload_n 0, 1) := by decide +kernel
theorem dX8_head_6 : decode cX8_head 6 = .ok (.iload_n 1, 1) := by decide +kernel
theorem dX8_head_7 : decode cX8_head 7 = .ok (.invokevirtual 174, 3) := by decide +kernel
theorem dX8_head_10 : decode cX8_head 10 = .ok (.ifCond .eq 5, 3) := by decide +kernel
theorem dX8_head_13 : decode cX8_head 13 = .ok (.iconst (-1), 1) := by decide +kernel
theorem dX8_head_14 : decode cX8_head 14 = .ok (.ireturn, 1) := by decide +kernel
theorem dX8_head_15 : decode cX8_head 15 = .ok (.iload_n 2, 1) := by decide +kernel
theorem dX8_head_16 : decode cX8_head 16 = .ok (.i2l, 1) := by decide +kernel
theorem dX8_head_17 : decode cX8_head 17 = .ok (.lconst 0, 1) := by decide +kernel
theorem dX8_head_18 : decode cX8_head 18 = .ok (.ldc2_w 196, 3) := by decide +kernel
theorem dX8_head_21 : decode cX8_head 21 = .ok (.invokestatic 73, 3) := by decide +kernel
theorem dX8_head_24 : decode cX8_head 24 = .ok (.ifCond .ne 6, 3) := by decide +kernel
theorem dX8_head_27 : decode cX8_head 27 = .ok (.bipush (-2), 2) := by decide +kernel
theorem dX8_head_29 : decode cX8_head 29 = .ok (.ireturn, 1) := by decide +kernel
theorem dX8_head_30 : decode cX8_head 30 = .ok (.aload_n 0, 1) := by decide +kernel
theorem dX8_head_31 : decode cX8_head 31 = .ok (.getfield 47, 3) := by decide +kernel
theorem dX8_head_34 : decode cX8_head 34 = .ok (.iconst 3, 1) := by decide +kernel
theorem dX8_head_35 : decode cX8_head 35 = .ok (.iload_n 1, 1) := by decide +kernel
theorem dX8_head_36 : decode cX8_head 36 = .ok (.imul, 1) := by decide +kernel
theorem dX8_head_37 : decode cX8_head 37 = .ok (.iconst 1, 1) := by decide +kernel
theorem dX8_head_38 : decode cX8_head 38 = .ok (.iadd, 1) := by decide +kernel
theorem dX8_head_39 : decode cX8_head 39 = .ok (.iaload, 1) := by decide +kernel
theorem dX8_head_40 : decode cX8_head 40 = .ok (.istore_n 3, 1) := by decide +kernel
theorem dX8_head_41 : decode cX8_head 41 = .ok (.aload_n 0, 1) := by decide +kernel
theorem dX8_head_42 : decode cX8_head 42 = .ok (.getfield 47, 3) := by decide +kernel
theorem dX8_head_45 : decode cX8_head 45 = .ok (.iconst 3, 1) := by decide +kernel
theorem dX8_head_46 : decode cX8_head 46 = .ok (.iload_n 1, 1) := by decide +kernel
theorem dX8_head_47 : decode cX8_head 47 = .ok (.imul, 1) := by decide +kernel
theorem dX8_head_48 : decode cX8_head 48 = .ok (.iconst 2, 1) := by decide +kernel
theorem dX8_head_49 : decode cX8_head 49 = .ok (.iadd, 1) := by decide +kernel
theorem dX8_head_50 : decode cX8_head 50 = .ok (.iaload, 1) := by decide +kernel
theorem dX8_head_51 : decode cX8_head 51 = .ok (.ifCond .ne 8, 3) := by decide +kernel
theorem dX8_head_54 : decode cX8_head 54 = .ok (.iload_n 3, 1) := by decide +kernel
theorem dX8_head_55 : decode cX8_head 55 = .ok (.iload_n 2, 1) := by decide +kernel
theorem dX8_head_56 : decode cX8_head 56 = .ok (.if_icmp .ne 6, 3) := by decide +kernel
theorem dX8_head_59 : decode cX8_head 59 = .ok (.bipush (-3), 2) := by decide +kernel
theorem dX8_head_61 : decode cX8_head 61 = .ok (.ireturn, 1) := by decide +kernel
theorem dX8_head_62 : decode cX8_head 62 = .ok (.aload_n 0, 1) := by decide +kernel
theorem dX8_head_63 : decode cX8_head 63 = .ok (.invokevirtual 198, 3) := by decide +kernel
theorem dX8_head_66 : decode cX8_head 66 = .ok (.aload_n 0, 1) := by decide +kernel
theorem dX8_head_67 : decode cX8_head 67 = .ok (.getfield 47, 3) := by decide +kernel
theorem dX8_head_70 : decode cX8_head 70 = .ok (.iconst 3, 1) := by decide +kernel
theorem dX8_head_71 : decode cX8_head 71 = .ok (.iload_n 1, 1) := by decide +kernel
theorem dX8_head_72 : decode cX8_head 72 = .ok (.imul, 1) := by decide +kernel
theorem dX8_head_73 : decode cX8_head 73 = .ok (.iconst 1, 1) := by decide +kernel
theorem dX8_head_74 : decode cX8_head 74 = .ok (.iadd, 1) := by decide +kernel
theorem dX8_head_75 : decode cX8_head 75 = .ok (.iload_n 2, 1) := by decide +kernel
theorem dX8_head_76 : decode cX8_head 76 = .ok (.iastore, 1) := by decide +kernel
theorem dX8_head_77 : decode cX8_head 77 = .ok (.iload_n 3, 1) := by decide +kernel
theorem dX8_head_78 : decode cX8_head 78 = .ok (.ireturn, 1) := by decide +kernel
theorem dX8_step_0 : decode cX8_step 0 = .ok (.aload_n 0, 1) := by decide +kernel
theorem dX8_step_1 : decode cX8_step 1 = .ok (.iconst 0, 1) := by decide +kernel
theorem dX8_step_2 : decode cX8_step 2 = .ok (.putfield 67, 3) := by decide +kernel
theorem dX8_step_5 : decode cX8_step 5 = .ok (.aload_n 0, 1) := by decide +kernel
theorem dX8_step_6 : decode cX8_step 6 = .ok (.getfield 47, 3) := by decide +kernel
theorem dX8_step_9 : decode cX8_step 9 = .ok (.bipush 15, 2) := by decide +kernel
theorem dX8_step_11 : decode cX8_step 11 = .ok (.iaload, 1) := by decide +kernel
theorem dX8_step_12 : decode cX8_step 12 = .ok (.bipush 40, 2) := by decide +kernel
theorem dX8_step_14 : decode cX8_step 14 = .ok (.if_icmp .ne 6, 3) := by decide +kernel
theorem dX8_step_17 : decode cX8_step 17 = .ok (.bipush (-3), 2) := by decide +kernel
theorem dX8_step_19 : decode cX8_step 19 = .ok (.ireturn, 1) := by decide +kernel
theorem dX8_step_20 : decode cX8_step 20 = .ok (.aload_n 0, 1) := by decide +kernel
theorem dX8_step_21 : decode cX8_step 21 = .ok (.invokevirtual 198, 3) := by decide +kernel
theorem dX8_step_24 : decode cX8_step 24 = .ok (.iconst 0, 1) := by decide +kernel
theorem dX8_step_25 : decode cX8_step 25 = .ok (.istore_n 1, 1) := by decide +kernel
theorem dX8_step_26 : decode cX8_step 26 = .ok (.iconst 0, 1) := by decide +kernel
theorem dX8_step_27 : decode cX8_step 27 = .ok (.istore_n 2, 1) := by decide +kernel
theorem dX8_step_28 : decode cX8_step 28 = .ok (.iload_n 2, 1) := by decide +kernel
theorem dX8_step_29 : decode cX8_step 29 = .ok (.aload_n 0, 1) := by decide +kernel
theorem dX8_step_30 : decode cX8_step 30 = .ok (.getfield 70, 3) := by decide +kernel
theorem dX8_step_33 : decode cX8_step 33 = .ok (.if_icmp .ge 133, 3) := by decide +kernel
theorem dX8_step_36 : decode cX8_step 36 = .ok (.aload_n 0, 1) := by decide +kernel
theorem dX8_step_37 : decode cX8_step 37 = .ok (.getfield 47, 3) := by decide +kernel
theorem dX8_step_40 : decode cX8_step 40 = .ok (.iconst 3, 1) := by decide +kernel
theorem dX8_step_41 : decode cX8_step 41 = .ok (.iload_n 2, 1) := by decide +kernel
theorem dX8_step_42 : decode cX8_step 42 = .ok (.imul, 1) := by decide +kernel
theorem dX8_step_43 : decode cX8_step 43 = .ok (.iconst 2, 1) := by decide +kernel
theorem dX8_step_44 : decode cX8_step 44 = .ok (.iadd, 1) := by decide +kernel
theorem dX8_step_45 : decode cX8_step 45 = .ok (.iaload, 1) := by decide +kernel
theorem dX8_step_46 : decode cX8_step 46 = .ok (.ifCond .ne 114, 3) := by decide +kernel
theorem dX8_step_49 : decode cX8_step 49 = .ok (.aload_n 0, 1) := by decide +kernel
theorem dX8_step_50 : decode cX8_step 50 = .ok (.getfield 47, 3) := by decide +kernel
theorem dX8_step_53 : decode cX8_step 53 = .ok (.iconst 3, 1) := by decide +kernel
theorem dX8_step_54 : decode cX8_step 54 = .ok (.iload_n 2, 1) := by decide +kernel
theorem dX8_step_55 : decode cX8_step 55 = .ok (.imul, 1) := by decide +kernel
theorem dX8_step_56 : decode cX8_step 56 = .ok (.iaload, 1) := by decide +kernel
theorem dX8_step_57 : decode cX8_step 57 = .ok (.istore_n 3, 1) := by decide +kernel
theorem dX8_step_58 : decode cX8_step 58 = .ok (.aload_n 0, 1) := by decide +kernel
theorem dX8_step_59 : decode cX8_step 59 = .ok (.getfield 47, 3) := by decide +kernel
theorem dX8_step_62 : decode cX8_step 62 = .ok (.iconst 3, 1) := by decide +kernel
theorem dX8_step_63 : decode cX8_step 63 = .ok (.iload_n 2, 1) := by decide +kernel
theorem dX8_step_64 : decode cX8_step 64 = .ok (.imul, 1) := by decide +kernel
theorem dX8_step_65 : decode cX8_step 65 = .ok (.iconst 1, 1) := by decide +kernel
theorem dX8_step_66 : decode cX8_step 66 = .ok (.iadd, 1) := by decide +kernel
theorem dX8_step_67 : decode cX8_step 67 = .ok (.iaload, 1) := by decide +kernel
theorem dX8_step_68 : decode cX8_step 68 = .ok (.istore 4, 2) := by decide +kernel
theorem dX8_step_70 : decode cX8_step 70 = .ok (.aload_n 0, 1) := by decide +kernel
theorem dX8_step_71 : decode cX8_step 71 = .ok (.getfield 47, 3) := by decide +kernel
theorem dX8_step_74 : decode cX8_step 74 = .ok (.iconst 3, 1) := by decide +kernel
theorem dX8_step_75 : decode cX8_step 75 = .ok (.iload_n 2, 1) := by decide +kernel
theorem dX8_step_76 : decode cX8_step 76 = .ok (.imul, 1) := by decide +kernel
theorem dX8_step_77 : decode cX8_step 77 = .ok (.aload_n 0, 1) := by decide +kernel
theorem dX8_step_78 : decode cX8_step 78 = .ok (.iload_n 2, 1) := by decide +kernel
theorem dX8_step_79 : decode cX8_step 79 = .ok (.iload_n 3, 1) := by decide +kernel
theorem dX8_step_80 : decode cX8_step 80 = .ok (.iload 4, 2) := by decide +kernel
theorem dX8_step_82 : decode cX8_step 82 = .ok (.aload_n 0, 1) := by decide +kernel
theorem dX8_step_83 : decode cX8_step 83 = .ok (.getfield 47, 3) := by decide +kernel
theorem dX8_step_86 : decode cX8_step 86 = .ok (.bipush 15, 2) := by decide +kernel
theorem dX8_step_88 : decode cX8_step 88 = .ok (.iaload, 1) := by decide +kernel
theorem dX8_step_89 : decode cX8_step 89 = .ok (.aload_n 0, 1) := by decide +kernel
theorem dX8_step_90 : decode cX8_step 90 = .ok (.getfield 139, 3) := by decide +kernel
theorem dX8_step_93 : decode cX8_step 93 = .ok (.invokevirtual 185, 3) := by decide +kernel
theorem dX8_step_96 : decode cX8_step 96 = .ok (.iastore, 1) := by decide +kernel
theorem dX8_step_97 : decode cX8_step 97 = .ok (.aload_n 0, 1) := by decide +kernel
theorem dX8_step_98 : decode cX8_step 98 = .ok (.getfield 47, 3) := by decide +kernel
theorem dX8_step_101 : decode cX8_step 101 = .ok (.iconst 3, 1) := by decide +kernel
theorem dX8_step_102 : decode cX8_step 102 = .ok (.iload_n 2, 1) := by decide +kernel
theorem dX8_step_103 : decode cX8_step 103 = .ok (.imul, 1) := by decide +kernel
theorem dX8_step_104 : decode cX8_step 104 = .ok (.iconst 2, 1) := by decide +kernel
theorem dX8_step_105 : decode cX8_step 105 = .ok (.iadd, 1) := by decide +kernel
theorem dX8_step_106 : decode cX8_step 106 = .ok (.aload_n 0, 1) := by decide +kernel
theorem dX8_step_107 : decode cX8_step 107 = .ok (.iload_n 2, 1) := by decide +kernel
theorem dX8_step_108 : decode cX8_step 108 = .ok (.iload_n 3, 1) := by decide +kernel
theorem dX8_step_109 : decode cX8_step 109 = .ok (.aload_n 0, 1) := by decide +kernel
theorem dX8_step_110 : decode cX8_step 110 = .ok (.getfield 47, 3) := by decide +kernel
theorem dX8_step_113 : decode cX8_step 113 = .ok (.iconst 3, 1) := by decide +kernel
theorem dX8_step_114 : decode cX8_step 114 = .ok (.iload_n 2, 1) := by decide +kernel
theorem dX8_step_115 : decode cX8_step 115 = .ok (.imul, 1) := by decide +kernel
theorem dX8_step_116 : decode cX8_step 116 = .ok (.iaload, 1) := by decide +kernel
theorem dX8_step_117 : decode cX8_step 117 = .ok (.iload 4, 2) := by decide +kernel
theorem dX8_step_119 : decode cX8_step 119 = .ok (.aload_n 0, 1) := by decide +kernel
theorem dX8_step_120 : decode cX8_step 120 = .ok (.getfield 47, 3) := by decide +kernel
theorem dX8_step_123 : decode cX8_step 123 = .ok (.bipush 15, 2) := by decide +kernel
theorem dX8_step_125 : decode cX8_step 125 = .ok (.iaload, 1) := by decide +kernel
theorem dX8_step_126 : decode cX8_step 126 = .ok (.iconst 1, 1) := by decide +kernel
theorem dX8_step_127 : decode cX8_step 127 = .ok (.iadd, 1) := by decide +kernel
theorem dX8_step_128 : decode cX8_step 128 = .ok (.aload_n 0, 1) := by decide +kernel
theorem dX8_step_129 : decode cX8_step 129 = .ok (.getfield 139, 3) := by decide +kernel
theorem dX8_step_132 : decode cX8_step 132 = .ok (.invokevirtual 189, 3) := by decide +kernel
theorem dX8_step_135 : decode cX8_step 135 = .ok (.iastore, 1) := by decide +kernel
theorem dX8_step_136 : decode cX8_step 136 = .ok (.iload_n 1, 1) := by decide +kernel
theorem dX8_step_137 : decode cX8_step 137 = .ok (.aload_n 0, 1) := by decide +kernel
theorem dX8_step_138 : decode cX8_step 138 = .ok (.getfield 47, 3) := by decide +kernel
theorem dX8_step_141 : decode cX8_step 141 = .ok (.iconst 3, 1) := by decide +kernel
theorem dX8_step_142 : decode cX8_step 142 = .ok (.iload_n 2, 1) := by decide +kernel
theorem dX8_step_143 : decode cX8_step 143 = .ok (.imul, 1) := by decide +kernel
theorem dX8_step_144 : decode cX8_step 144 = .ok (.iconst 2, 1) := by decide +kernel
theorem dX8_step_145 : decode cX8_step 145 = .ok (.iadd, 1) := by decide +kernel
theorem dX8_step_146 : decode cX8_step 146 = .ok (.iaload, 1) := by decide +kernel
theorem dX8_step_147 : decode cX8_step 147 = .ok (.iconst 1, 1) := by decide +kernel
theorem dX8_step_148 : decode cX8_step 148 = .ok (.if_icmp .le 9, 3) := by decide +kernel
theorem dX8_step_151 : decode cX8_step 151 = .ok (.iconst 1, 1) := by decide +kernel
theorem dX8_step_152 : decode cX8_step 152 = .ok (.iload_n 2, 1) := by decide +kernel
theorem dX8_step_153 : decode cX8_step 153 = .ok (.ishl, 1) := by decide +kernel
theorem dX8_step_154 : decode cX8_step 154 = .ok (.goto 4, 3) := by decide +kernel
theorem dX8_step_157 : decode cX8_step 157 = .ok (.iconst 0, 1) := by decide +kernel
theorem dX8_step_158 : decode cX8_step 158 = .ok (.ior, 1) := by decide +kernel
theorem dX8_step_159 : decode cX8_step 159 = .ok (.istore_n 1, 1) := by decide +kernel
theorem dX8_step_160 : decode cX8_step 160 = .ok (.iinc 2 1, 3) := by decide +kernel
theorem dX8_step_163 : decode cX8_step 163 = .ok (.goto (-135), 3) := by decide +kernel
theorem dX8_step_166 : decode cX8_step 166 = .ok (.aload_n 0, 1) := by decide +kernel
theorem dX8_step_167 : decode cX8_step 167 = .ok (.getfield 47, 3) := by decide +kernel
theorem dX8_step_170 : decode cX8_step 170 = .ok (.bipush 15, 2) := by decide +kernel
theorem dX8_step_172 : decode cX8_step 172 = .ok (.dup2, 1) := by decide +kernel
theorem dX8_step_173 : decode cX8_step 173 = .ok (.iaload, 1) := by decide +kernel
theorem dX8_step_174 : decode cX8_step 174 = .ok (.iconst 1, 1) := by decide +kernel
theorem dX8_step_175 : decode cX8_step 175 = .ok (.iadd, 1) := by decide +kernel
theorem dX8_step_176 : decode cX8_step 176 = .ok (.iastore, 1) := by decide +kernel
theorem dX8_step_177 : decode cX8_step 177 = .ok (.iload_n 1, 1) := by decide +kernel
theorem dX8_step_178 : decode cX8_step 178 = .ok (.ireturn, 1) := by decide +kernel
theorem dX8_climb_0 : decode cX8_climb 0 = .ok (.aload_n 0, 1) := by decide +kernel
theorem dX8_climb_1 : decode cX8_climb 1 = .ok (.iconst 0, 1) := by decide +kernel
theorem dX8_climb_2 : decode cX8_climb 2 = .ok (.putfield 67, 3) := by decide +kernel
theorem dX8_climb_5 : decode cX8_climb 5 = .ok (.aload_n 0, 1) := by decide +kernel
theorem dX8_climb_6 : decode cX8_climb 6 = .ok (.iload_n 1, 1) := by decide +kernel
theorem dX8_climb_7 : decode cX8_climb 7 = .ok (.invokevirtual 174, 3) := by decide +kernel
theorem dX8_climb_10 : decode cX8_climb 10 = .ok (.ifCond .eq 5, 3) := by decide +kernel
theorem dX8_climb_13 : decode cX8_climb 13 = .ok (.iconst (-1), 1) := by decide +kernel
theorem dX8_climb_14 : decode cX8_climb 14 = .ok (.ireturn, 1) := by decide +kernel
theorem dX8_climb_15 : decode cX8_climb 15 = .ok (.aload_n 0, 1) := by decide +kernel
theorem dX8_climb_16 : decode cX8_climb 16 = .ok (.aload_n 0, 1) := by decide +kernel
theorem dX8_climb_17 : decode cX8_climb 17 = .ok (.getfield 47, 3) := by decide +kernel
theorem dX8_climb_20 : decode cX8_climb 20 = .ok (.iconst 3, 1) := by decide +kernel
theorem dX8_climb_21 : decode cX8_climb 21 = .ok (.iload_n 1, 1) := by decide +kernel
theorem dX8_climb_22 : decode cX8_climb 22 = .ok (.imul, 1) := by decide +kernel
theorem dX8_climb_23 : decode cX8_climb 23 = .ok (.iaload, 1) := by decide +kernel
theorem dX8_climb_24 : decode cX8_climb 24 = .ok (.invokevirtual 164, 3) := by decide +kernel
theorem dX8_climb_27 : decode cX8_climb 27 = .ok (.istore_n 2, 1) := by decide +kernel
theorem dX8_climb_28 : decode cX8_climb 28 = .ok (.aload_n 0, 1) := by decide +kernel
theorem dX8_climb_29 : decode cX8_climb 29 = .ok (.getfield 47, 3) := by decide +kernel
theorem dX8_climb_32 : decode cX8_climb 32 = .ok (.iconst 3, 1) := by decide +kernel
theorem dX8_climb_33 : decode cX8_climb 33 = .ok (.iload_n 1, 1) := by decide +kernel
theorem dX8_climb_34 : decode cX8_climb 34 = .ok (.imul, 1) := by decide +kernel
theorem dX8_climb_35 : decode cX8_climb 35 = .ok (.iconst 2, 1) := by decide +kernel
theorem dX8_climb_36 : decode cX8_climb 36 = .ok (.iadd, 1) := by decide +kernel
theorem dX8_climb_37 : decode cX8_climb 37 = .ok (.iaload, 1) := by decide +kernel
theorem dX8_climb_38 : decode cX8_climb 38 = .ok (.ifCond .ne 9, 3) := by decide +kernel
theorem dX8_climb_41 : decode cX8_climb 41 = .ok (.iload_n 2, 1) := by decide +kernel
theorem dX8_climb_42 : decode cX8_climb 42 = .ok (.bipush (-9), 2) := by decide +kernel
theorem dX8_climb_44 : decode cX8_climb 44 = .ok (.if_icmp .ne 6, 3) := by decide +kernel
theorem dX8_climb_47 : decode cX8_climb 47 = .ok (.bipush (-3), 2) := by decide +kernel
theorem dX8_climb_49 : decode cX8_climb 49 = .ok (.ireturn, 1) := by decide +kernel
theorem dX8_climb_50 : decode cX8_climb 50 = .ok (.aload_n 0, 1) := by decide +kernel
theorem dX8_climb_51 : decode cX8_climb 51 = .ok (.aload_n 0, 1) := by decide +kernel
theorem dX8_climb_52 : decode cX8_climb 52 = .ok (.getfield 26, 3) := by decide +kernel
theorem dX8_climb_55 : decode cX8_climb 55 = .ok (.iload_n 2, 1) := by decide +kernel
theorem dX8_climb_56 : decode cX8_climb 56 = .ok (.iaload, 1) := by decide +kernel
theorem dX8_climb_57 : decode cX8_climb 57 = .ok (.invokevirtual 171, 3) := by decide +kernel
theorem dX8_climb_60 : decode cX8_climb 60 = .ok (.aload_n 0, 1) := by decide +kernel
theorem dX8_climb_61 : decode cX8_climb 61 = .ok (.getfield 29, 3) := by decide +kernel
theorem dX8_climb_64 : decode cX8_climb 64 = .ok (.iload_n 2, 1) := by decide +kernel
theorem dX8_climb_65 : decode cX8_climb 65 = .ok (.iaload, 1) := by decide +kernel
theorem dX8_climb_66 : decode cX8_climb 66 = .ok (.if_icmp .ne 6, 3) := by decide +kernel
theorem dX8_climb_69 : decode cX8_climb 69 = .ok (.bipush (-4), 2) := by decide +kernel
theorem dX8_climb_71 : decode cX8_climb 71 = .ok (.ireturn, 1) := by decide +kernel
theorem dX8_climb_72 : decode cX8_climb 72 = .ok (.aload_n 0, 1) := by decide +kernel
theorem dX8_climb_73 : decode cX8_climb 73 = .ok (.invokevirtual 198, 3) := by decide +kernel
theorem dX8_climb_76 : decode cX8_climb 76 = .ok (.aload_n 0, 1) := by decide +kernel
theorem dX8_climb_77 : decode cX8_climb 77 = .ok (.getfield 47, 3) := by decide +kernel
theorem dX8_climb_80 : decode cX8_climb 80 = .ok (.iconst 3, 1) := by decide +kernel
theorem dX8_climb_81 : decode cX8_climb 81 = .ok (.iload_n 1, 1) := by decide +kernel
theorem dX8_climb_82 : decode cX8_climb 82 = .ok (.imul, 1) := by decide +kernel
theorem dX8_climb_83 : decode cX8_climb 83 = .ok (.iconst 2, 1) := by decide +kernel
theorem dX8_climb_84 : decode cX8_climb 84 = .ok (.iadd, 1) := by decide +kernel
theorem dX8_climb_85 : decode cX8_climb 85 = .ok (.iconst 4, 1) := by decide +kernel
theorem dX8_climb_86 : decode cX8_climb 86 = .ok (.iastore, 1) := by decide +kernel
theorem dX8_climb_87 : decode cX8_climb 87 = .ok (.aload_n 0, 1) := by decide +kernel
theorem dX8_climb_88 : decode cX8_climb 88 = .ok (.aload_n 0, 1) := by decide +kernel
theorem dX8_climb_89 : decode cX8_climb 89 = .ok (.getfield 26, 3) := by decide +kernel
theorem dX8_climb_92 : decode cX8_climb 92 = .ok (.iload_n 2, 1) := by decide +kernel
theorem dX8_climb_93 : decode cX8_climb 93 = .ok (.iaload, 1) := by decide +kernel
theorem dX8_climb_94 : decode cX8_climb 94 = .ok (.invokevirtual 171, 3) := by decide +kernel
theorem dX8_climb_97 : decode cX8_climb 97 = .ok (.ireturn, 1) := by decide +kernel
theorem dX8_undo_0 : decode cX8_undo 0 = .ok (.aload_n 0, 1) := by decide +kernel
theorem dX8_undo_1 : decode cX8_undo 1 = .ok (.iconst 0, 1) := by decide +kernel
theorem dX8_undo_2 : decode cX8_undo 2 = .ok (.putfield 67, 3) := by decide +kernel
theorem dX8_undo_5 : decode cX8_undo 5 = .ok (.aload_n 0, 1) := by decide +kernel
theorem dX8_undo_6 : decode cX8_undo 6 = .ok (.getfield 151, 3) := by decide +kernel
theorem dX8_undo_9 : decode cX8_undo 9 = .ok (.ifCond .ne 6, 3) := by decide +kernel
theorem dX8_undo_12 : decode cX8_undo 12 = .ok (.bipush (-3), 2) := by decide +kernel
theorem dX8_undo_14 : decode cX8_undo 14 = .ok (.ireturn, 1) := by decide +kernel
theorem dX8_undo_15 : decode cX8_undo 15 = .ok (.aload_n 0, 1) := by decide +kernel
theorem dX8_undo_16 : decode cX8_undo 16 = .ok (.dup, 1) := by decide +kernel
theorem dX8_undo_17 : decode cX8_undo 17 = .ok (.getfield 151, 3) := by decide +kernel
theorem dX8_undo_20 : decode cX8_undo 20 = .ok (.iconst 1, 1) := by decide +kernel
theorem dX8_undo_21 : decode cX8_undo 21 = .ok (.isub, 1) := by decide +kernel
theorem dX8_undo_22 : decode cX8_undo 22 = .ok (.putfield 151, 3) := by decide +kernel
theorem dX8_undo_25 : decode cX8_undo 25 = .ok (.iconst 0, 1) := by decide +kernel
theorem dX8_undo_26 : decode cX8_undo 26 = .ok (.istore_n 1, 1) := by decide +kernel
theorem dX8_undo_27 : decode cX8_undo 27 = .ok (.iload_n 1, 1) := by decide +kernel
theorem dX8_undo_28 : decode cX8_undo 28 = .ok (.bipush 16, 2) := by decide +kernel
theorem dX8_undo_30 : decode cX8_undo 30 = .ok (.if_icmp .ge 29, 3) := by decide +kernel
theorem dX8_undo_33 : decode cX8_undo 33 = .ok (.aload_n 0, 1) := by decide +kernel
theorem dX8_undo_34 : decode cX8_undo 34 = .ok (.getfield 47, 3) := by decide +kernel
theorem dX8_undo_37 : decode cX8_undo 37 = .ok (.iload_n 1, 1) := by decide +kernel
theorem dX8_undo_38 : decode cX8_undo 38 = .ok (.aload_n 0, 1) := by decide +kernel
theorem dX8_undo_39 : decode cX8_undo 39 = .ok (.getfield 50, 3) := by decide +kernel
theorem dX8_undo_42 : decode cX8_undo 42 = .ok (.bipush 16, 2) := by decide +kernel
theorem dX8_undo_44 : decode cX8_undo 44 = .ok (.aload_n 0, 1) := by decide +kernel
theorem dX8_undo_45 : decode cX8_undo 45 = .ok (.getfield 151, 3) := by decide +kernel
theorem dX8_undo_48 : decode cX8_undo 48 = .ok (.imul, 1) := by decide +kernel
theorem dX8_undo_49 : decode cX8_undo 49 = .ok (.iload_n 1, 1) := by decide +kernel
theorem dX8_undo_50 : decode cX8_undo 50 = .ok (.iadd, 1) := by decide +kernel
theorem dX8_undo_51 : decode cX8_undo 51 = .ok (.iaload, 1) := by decide +kernel
theorem dX8_undo_52 : decode cX8_undo 52 = .ok (.iastore, 1) := by decide +kernel
theorem dX8_undo_53 : decode cX8_undo 53 = .ok (.iinc 1 1, 3) := by decide +kernel
theorem dX8_undo_56 : decode cX8_undo 56 = .ok (.goto (-29), 3) := by decide +kernel
theorem dX8_undo_59 : decode cX8_undo 59 = .ok (.aload_n 0, 1) := by decide +kernel
theorem dX8_undo_60 : decode cX8_undo 60 = .ok (.getfield 151, 3) := by decide +kernel
theorem dX8_undo_63 : decode cX8_undo 63 = .ok (.ireturn, 1) := by decide +kernel
theorem dX8_goneOf_0 : decode cX8_goneOf 0 = .ok (.aload_n 0, 1) := by decide +kernel
theorem dX8_goneOf_1 : decode cX8_goneOf 1 = .ok (.iload 5, 2) := by decide +kernel
theorem dX8_goneOf_3 : decode cX8_goneOf 3 = .ok (.putfield 182, 3) := by decide +kernel
theorem dX8_goneOf_6 : decode cX8_goneOf 6 = .ok (.aload_n 0, 1) := by decide +kernel
theorem dX8_goneOf_7 : decode cX8_goneOf 7 = .ok (.iload_n 2, 1) := by decide +kernel
theorem dX8_goneOf_8 : decode cX8_goneOf 8 = .ok (.putfield 179, 3) := by decide +kernel
theorem dX8_goneOf_11 : decode cX8_goneOf 11 = .ok (.aload_n 0, 1) := by decide +kernel
theorem dX8_goneOf_12 : decode cX8_goneOf 12 = .ok (.iconst 0, 1) := by decide +kernel
theorem dX8_goneOf_13 : decode cX8_goneOf 13 = .ok (.putfield 193, 3) := by decide +kernel
theorem dX8_goneOf_16 : decode cX8_goneOf 16 = .ok (.iload 4, 2) := by decide +kernel
theorem dX8_goneOf_18 : decode cX8_goneOf 18 = .ok (.iconst 1, 1) := by decide +kernel
theorem dX8_goneOf_19 : decode cX8_goneOf 19 = .ok (.if_icmp .ne 8, 3) := by decide +kernel
theorem dX8_goneOf_22 : decode cX8_goneOf 22 = .ok (.bipush 9, 2) := by decide +kernel
theorem dX8_goneOf_24 : decode cX8_goneOf 24 = .ok (.goto 4, 3) := by decide +kernel
theorem dX8_goneOf_27 : decode cX8_goneOf 27 = .ok (.iconst 0, 1) := by decide +kernel
theorem dX8_goneOf_28 : decode cX8_goneOf 28 = .ok (.istore 6, 2) := by decide +kernel
theorem dX8_goneOf_30 : decode cX8_goneOf 30 = .ok (.iload_n 3, 1) := by decide +kernel
theorem dX8_goneOf_31 : decode cX8_goneOf 31 = .ok (.istore 7, 2) := by decide +kernel
theorem dX8_goneOf_33 : decode cX8_goneOf 33 = .ok (.aload_n 0, 1) := by decide +kernel
theorem dX8_goneOf_34 : decode cX8_goneOf 34 = .ok (.getfield 179, 3) := by decide +kernel
theorem dX8_goneOf_37 : decode cX8_goneOf 37 = .ok (.iload 6, 2) := by decide +kernel
theorem dX8_goneOf_39 : decode cX8_goneOf 39 = .ok (.if_icmp .eq 32, 3) := by decide +kernel
theorem dX8_goneOf_42 : decode cX8_goneOf 42 = .ok (.aload_n 0, 1) := by decide +kernel
theorem dX8_goneOf_43 : decode cX8_goneOf 43 = .ok (.getfield 193, 3) := by decide +kernel
theorem dX8_goneOf_46 : decode cX8_goneOf 46 = .ok (.ifCond .ne 25, 3) := by decide +kernel
theorem dX8_goneOf_49 : decode cX8_goneOf 49 = .ok (.iload 7, 2) := by decide +kernel
theorem dX8_goneOf_51 : decode cX8_goneOf 51 = .ok (.bipush 40, 2) := by decide +kernel
theorem dX8_goneOf_53 : decode cX8_goneOf 53 = .ok (.if_icmp .ge 18, 3) := by decide +kernel
theorem dX8_goneOf_56 : decode cX8_goneOf 56 = .ok (.aload_n 0, 1) := by decide +kernel
theorem dX8_goneOf_57 : decode cX8_goneOf 57 = .ok (.iload_n 1, 1) := by decide +kernel
theorem dX8_goneOf_58 : decode cX8_goneOf 58 = .ok (.iload 4, 2) := by decide +kernel
theorem dX8_goneOf_60 : decode cX8_goneOf 60 = .ok (.iload 7, 2) := by decide +kernel
theorem dX8_goneOf_62 : decode cX8_goneOf 62 = .ok (.invokevirtual 201, 3) := by decide +kernel
theorem dX8_goneOf_65 : decode cX8_goneOf 65 = .ok (.iinc 7 1, 3) := by decide +kernel
theorem dX8_goneOf_68 : decode cX8_goneOf 68 = .ok (.goto (-35), 3) := by decide +kernel
theorem dX8_goneOf_71 : decode cX8_goneOf 71 = .ok (.aload_n 0, 1) := by decide +kernel
theorem dX8_goneOf_72 : decode cX8_goneOf 72 = .ok (.getfield 179, 3) := by decide +kernel
theorem dX8_goneOf_75 : decode cX8_goneOf 75 = .ok (.iload 6, 2) := by decide +kernel
theorem dX8_goneOf_77 : decode cX8_goneOf 77 = .ok (.if_icmp .ne 16, 3) := by decide +kernel
theorem dX8_goneOf_80 : decode cX8_goneOf 80 = .ok (.aload_n 0, 1) := by decide +kernel
theorem dX8_goneOf_81 : decode cX8_goneOf 81 = .ok (.getfield 193, 3) := by decide +kernel
theorem dX8_goneOf_84 : decode cX8_goneOf 84 = .ok (.iconst 2, 1) := by decide +kernel
theorem dX8_goneOf_85 : decode cX8_goneOf 85 = .ok (.if_icmp .ge 8, 3) := by decide +kernel
theorem dX8_goneOf_88 : decode cX8_goneOf 88 = .ok (.iload 7, 2) := by decide +kernel
theorem dX8_goneOf_90 : decode cX8_goneOf 90 = .ok (.goto 5, 3) := by decide +kernel
theorem dX8_goneOf_93 : decode cX8_goneOf 93 = .ok (.bipush (-9), 2) := by decide +kernel
theorem dX8_goneOf_95 : decode cX8_goneOf 95 = .ok (.ireturn, 1) := by decide +kernel
theorem dX8_gone_0 : decode cX8_gone 0 = .ok (.aload_n 0, 1) := by decide +kernel
theorem dX8_gone_1 : decode cX8_gone 1 = .ok (.iconst 0, 1) := by decide +kernel
theorem dX8_gone_2 : decode cX8_gone 2 = .ok (.putfield 67, 3) := by decide +kernel
theorem dX8_gone_5 : decode cX8_gone 5 = .ok (.aload_n 0, 1) := by decide +kernel
theorem dX8_gone_6 : decode cX8_gone 6 = .ok (.iload_n 1, 1) := by decide +kernel
theorem dX8_gone_7 : decode cX8_gone 7 = .ok (.invokevirtual 174, 3) := by decide +kernel
theorem dX8_gone_10 : decode cX8_gone 10 = .ok (.ifCond .ne 10, 3) := by decide +kernel
theorem dX8_gone_13 : decode cX8_gone 13 = .ok (.iload_n 2, 1) := by decide +kernel
theorem dX8_gone_14 : decode cX8_gone 14 = .ok (.invokestatic 160, 3) := by decide +kernel
theorem dX8_gone_17 : decode cX8_gone 17 = .ok (.ifCond .eq 5, 3) := by decide +kernel
theorem dX8_gone_20 : decode cX8_gone 20 = .ok (.iconst (-1), 1) := by decide +kernel
theorem dX8_gone_21 : decode cX8_gone 21 = .ok (.ireturn, 1) := by decide +kernel
theorem dX8_gone_22 : decode cX8_gone 22 = .ok (.iload 4, 2) := by decide +kernel
theorem dX8_gone_24 : decode cX8_gone 24 = .ok (.i2l, 1) := by decide +kernel
theorem dX8_gone_25 : decode cX8_gone 25 = .ok (.lconst 1, 1) := by decide +kernel
theorem dX8_gone_26 : decode cX8_gone 26 = .ok (.ldc2_w 196, 3) := by decide +kernel
theorem dX8_gone_29 : decode cX8_gone 29 = .ok (.invokestatic 73, 3) := by decide +kernel
theorem dX8_gone_32 : decode cX8_gone 32 = .ok (.ifCond .eq 31, 3) := by decide +kernel
theorem dX8_gone_35 : decode cX8_gone 35 = .ok (.iload_n 3, 1) := by decide +kernel
theorem dX8_gone_36 : decode cX8_gone 36 = .ok (.i2l, 1) := by decide +kernel
theorem dX8_gone_37 : decode cX8_gone 37 = .ok (.lconst 0, 1) := by decide +kernel
theorem dX8_gone_38 : decode cX8_gone 38 = .ok (.ldc2_w 177, 3) := by decide +kernel
theorem dX8_gone_41 : decode cX8_gone 41 = .ok (.invokestatic 73, 3) := by decide +kernel
theorem dX8_gone_44 : decode cX8_gone 44 = .ok (.ifCond .eq 19, 3) := by decide +kernel
theorem dX8_gone_47 : decode cX8_gone 47 = .ok (.aload_n 0, 1) := by decide +kernel
theorem dX8_gone_48 : decode cX8_gone 48 = .ok (.iload_n 1, 1) := by decide +kernel
theorem dX8_gone_49 : decode cX8_gone 49 = .ok (.iload_n 2, 1) := by decide +kernel
theorem dX8_gone_50 : decode cX8_gone 50 = .ok (.iload_n 3, 1) := by decide +kernel
theorem dX8_gone_51 : decode cX8_gone 51 = .ok (.iload 4, 2) := by decide +kernel
theorem dX8_gone_53 : decode cX8_gone 53 = .ok (.aload_n 0, 1) := by decide +kernel
theorem dX8_gone_54 : decode cX8_gone 54 = .ok (.getfield 139, 3) := by decide +kernel
theorem dX8_gone_57 : decode cX8_gone 57 = .ok (.invokevirtual 205, 3) := by decide +kernel
theorem dX8_gone_60 : decode cX8_gone 60 = .ok (.goto 5, 3) := by decide +kernel
theorem dX8_gone_63 : decode cX8_gone 63 = .ok (.bipush (-2), 2) := by decide +kernel
theorem dX8_gone_65 : decode cX8_gone 65 = .ok (.ireturn, 1) := by decide +kernel
theorem dX8_latest_0 : decode cX8_latest 0 = .ok (.aload_n 0, 1) := by decide +kernel
theorem dX8_latest_1 : decode cX8_latest 1 = .ok (.iconst 0, 1) := by decide +kernel
theorem dX8_latest_2 : decode cX8_latest 2 = .ok (.putfield 67, 3) := by decide +kernel
theorem dX8_latest_5 : decode cX8_latest 5 = .ok (.aload_n 0, 1) := by decide +kernel
theorem dX8_latest_6 : decode cX8_latest 6 = .ok (.iload_n 1, 1) := by decide +kernel
theorem dX8_latest_7 : decode cX8_latest 7 = .ok (.invokevirtual 174, 3) := by decide +kernel
theorem dX8_latest_10 : decode cX8_latest 10 = .ok (.ifCond .eq 5, 3) := by decide +kernel
theorem dX8_latest_13 : decode cX8_latest 13 = .ok (.iconst (-1), 1) := by decide +kernel
theorem dX8_latest_14 : decode cX8_latest 14 = .ok (.ireturn, 1) := by decide +kernel
theorem dX8_latest_15 : decode cX8_latest 15 = .ok (.bipush (-9), 2) := by decide +kernel
theorem dX8_latest_17 : decode cX8_latest 17 = .ok (.istore_n 2, 1) := by decide +kernel
theorem dX8_latest_18 : decode cX8_latest 18 = .ok (.iconst 0, 1) := by decide +kernel
theorem dX8_latest_19 : decode cX8_latest 19 = .ok (.istore_n 3, 1) := by decide +kernel
theorem dX8_latest_20 : decode cX8_latest 20 = .ok (.iload_n 3, 1) := by decide +kernel
theorem dX8_latest_21 : decode cX8_latest 21 = .ok (.bipush 40, 2) := by decide +kernel
theorem dX8_latest_23 : decode cX8_latest 23 = .ok (.if_icmp .gt 32, 3) := by decide +kernel
theorem dX8_latest_26 : decode cX8_latest 26 = .ok (.aload_n 0, 1) := by decide +kernel
theorem dX8_latest_27 : decode cX8_latest 27 = .ok (.iload_n 1, 1) := by decide +kernel
theorem dX8_latest_28 : decode cX8_latest 28 = .ok (.iconst 0, 1) := by decide +kernel
theorem dX8_latest_29 : decode cX8_latest 29 = .ok (.iload_n 3, 1) := by decide +kernel
theorem dX8_latest_30 : decode cX8_latest 30 = .ok (.iconst 1, 1) := by decide +kernel
theorem dX8_latest_31 : decode cX8_latest 31 = .ok (.aload_n 0, 1) := by decide +kernel
theorem dX8_latest_32 : decode cX8_latest 32 = .ok (.getfield 139, 3) := by decide +kernel
theorem dX8_latest_35 : decode cX8_latest 35 = .ok (.invokevirtual 205, 3) := by decide +kernel
theorem dX8_latest_38 : decode cX8_latest 38 = .ok (.bipush (-9), 2) := by decide +kernel
theorem dX8_latest_40 : decode cX8_latest 40 = .ok (.if_icmp .ne 7, 3) := by decide +kernel
theorem dX8_latest_43 : decode cX8_latest 43 = .ok (.iload_n 2, 1) := by decide +kernel
theorem dX8_latest_44 : decode cX8_latest 44 = .ok (.goto 4, 3) := by decide +kernel
theorem dX8_latest_47 : decode cX8_latest 47 = .ok (.iload_n 3, 1) := by decide +kernel
theorem dX8_latest_48 : decode cX8_latest 48 = .ok (.istore_n 2, 1) := by decide +kernel
theorem dX8_latest_49 : decode cX8_latest 49 = .ok (.iinc 3 1, 3) := by decide +kernel
theorem dX8_latest_52 : decode cX8_latest 52 = .ok (.goto (-32), 3) := by decide +kernel
theorem dX8_latest_55 : decode cX8_latest 55 = .ok (.iload_n 2, 1) := by decide +kernel
theorem dX8_latest_56 : decode cX8_latest 56 = .ok (.ireturn, 1) := by decide +kernel
theorem dX8_noWalk_0 : decode cX8_noWalk 0 = .ok (.aload_n 0, 1) := by decide +kernel
theorem dX8_noWalk_1 : decode cX8_noWalk 1 = .ok (.iload_n 1, 1) := by decide +kernel
theorem dX8_noWalk_2 : decode cX8_noWalk 2 = .ok (.invokevirtual 174, 3) := by decide +kernel
theorem dX8_noWalk_5 : decode cX8_noWalk 5 = .ok (.ifCond .eq 7, 3) := by decide +kernel
theorem dX8_noWalk_8 : decode cX8_noWalk 8 = .ok (.iconst (-1), 1) := by decide +kernel
theorem dX8_noWalk_9 : decode cX8_noWalk 9 = .ok (.goto 22, 3) := by decide +kernel
theorem dX8_noWalk_12 : decode cX8_noWalk 12 = .ok (.aload_n 0, 1) := by decide +kernel
theorem dX8_noWalk_13 : decode cX8_noWalk 13 = .ok (.getfield 47, 3) := by decide +kernel
theorem dX8_noWalk_16 : decode cX8_noWalk 16 = .ok (.iconst 3, 1) := by decide +kernel
theorem dX8_noWalk_17 : decode cX8_noWalk 17 = .ok (.iload_n 1, 1) := by decide +kernel
theorem dX8_noWalk_18 : decode cX8_noWalk 18 = .ok (.imul, 1) := by decide +kernel
theorem dX8_noWalk_19 : decode cX8_noWalk 19 = .ok (.iconst 2, 1) := by decide +kernel
theorem dX8_noWalk_20 : decode cX8_noWalk 20 = .ok (.iadd, 1) := by decide +kernel
theorem dX8_noWalk_21 : decode cX8_noWalk 21 = .ok (.iaload, 1) := by decide +kernel
theorem dX8_noWalk_22 : decode cX8_noWalk 22 = .ok (.ifCond .ne 7, 3) := by decide +kernel
theorem dX8_noWalk_25 : decode cX8_noWalk 25 = .ok (.iconst 0, 1) := by decide +kernel
theorem dX8_noWalk_26 : decode cX8_noWalk 26 = .ok (.goto 5, 3) := by decide +kernel
theorem dX8_noWalk_29 : decode cX8_noWalk 29 = .ok (.bipush (-3), 2) := by decide +kernel
theorem dX8_noWalk_31 : decode cX8_noWalk 31 = .ok (.ireturn, 1) := by decide +kernel
theorem dX8_safest_0 : decode cX8_safest 0 = .ok (.aload_n 0, 1) := by decide +kernel
theorem dX8_safest_1 : decode cX8_safest 1 = .ok (.iconst 0, 1) := by decide +kernel
theorem dX8_safest_2 : decode cX8_safest 2 = .ok (.putfield 67, 3) := by decide +kernel
theorem dX8_safest_5 : decode cX8_safest 5 = .ok (.aload_n 0, 1) := by decide +kernel
theorem dX8_safest_6 : decode cX8_safest 6 = .ok (.iload_n 1, 1) := by decide +kernel
theorem dX8_safest_7 : decode cX8_safest 7 = .ok (.invokevirtual 174, 3) := by decide +kernel
theorem dX8_safest_10 : decode cX8_safest 10 = .ok (.ifCond .eq 5, 3) := by decide +kernel
theorem dX8_safest_13 : decode cX8_safest 13 = .ok (.iconst (-1), 1) := by decide +kernel
theorem dX8_safest_14 : decode cX8_safest 14 = .ok (.ireturn, 1) := by decide +kernel
theorem dX8_safest_15 : decode cX8_safest 15 = .ok (.iload_n 2, 1) := by decide +kernel
theorem dX8_safest_16 : decode cX8_safest 16 = .ok (.i2l, 1) := by decide +kernel
theorem dX8_safest_17 : decode cX8_safest 17 = .ok (.lconst 0, 1) := by decide +kernel
theorem dX8_safest_18 : decode cX8_safest 18 = .ok (.lconst 1, 1) := by decide +kernel
theorem dX8_safest_19 : decode cX8_safest 19 = .ok (.invokestatic 73, 3) := by decide +kernel
theorem dX8_safest_22 : decode cX8_safest 22 = .ok (.ifCond .ne 6, 3) := by decide +kernel
theorem dX8_safest_25 : decode cX8_safest 25 = .ok (.bipush (-2), 2) := by decide +kernel
theorem dX8_safest_27 : decode cX8_safest 27 = .ok (.ireturn, 1) := by decide +kernel
theorem dX8_safest_28 : decode cX8_safest 28 = .ok (.aload_n 0, 1) := by decide +kernel
theorem dX8_safest_29 : decode cX8_safest 29 = .ok (.iload_n 1, 1) := by decide +kernel
theorem dX8_safest_30 : decode cX8_safest 30 = .ok (.invokevirtual 208, 3) := by decide +kernel
theorem dX8_safest_33 : decode cX8_safest 33 = .ok (.ifCond .eq 6, 3) := by decide +kernel
theorem dX8_safest_36 : decode cX8_safest 36 = .ok (.bipush (-3), 2) := by decide +kernel
theorem dX8_safest_38 : decode cX8_safest 38 = .ok (.ireturn, 1) := by decide +kernel
theorem dX8_safest_39 : decode cX8_safest 39 = .ok (.aload_n 0, 1) := by decide +kernel
theorem dX8_safest_40 : decode cX8_safest 40 = .ok (.getfield 47, 3) := by decide +kernel
theorem dX8_safest_43 : decode cX8_safest 43 = .ok (.iconst 3, 1) := by decide +kernel
theorem dX8_safest_44 : decode cX8_safest 44 = .ok (.iload_n 1, 1) := by decide +kernel
theorem dX8_safest_45 : decode cX8_safest 45 = .ok (.imul, 1) := by decide +kernel
theorem dX8_safest_46 : decode cX8_safest 46 = .ok (.iaload, 1) := by decide +kernel
theorem dX8_safest_47 : decode cX8_safest 47 = .ok (.istore_n 3, 1) := by decide +kernel
theorem dX8_safest_48 : decode cX8_safest 48 = .ok (.aload_n 0, 1) := by decide +kernel
theorem dX8_safest_49 : decode cX8_safest 49 = .ok (.iload_n 1, 1) := by decide +kernel
theorem dX8_safest_50 : decode cX8_safest 50 = .ok (.iload_n 3, 1) := by decide +kernel
theorem dX8_safest_51 : decode cX8_safest 51 = .ok (.aload_n 0, 1) := by decide +kernel
theorem dX8_safest_52 : decode cX8_safest 52 = .ok (.getfield 47, 3) := by decide +kernel
theorem dX8_safest_55 : decode cX8_safest 55 = .ok (.bipush 15, 2) := by decide +kernel
theorem dX8_safest_57 : decode cX8_safest 57 = .ok (.iaload, 1) := by decide +kernel
theorem dX8_safest_58 : decode cX8_safest 58 = .ok (.iconst 1, 1) := by decide +kernel
theorem dX8_safest_59 : decode cX8_safest 59 = .ok (.aload_n 0, 1) := by decide +kernel
theorem dX8_safest_60 : decode cX8_safest 60 = .ok (.getfield 139, 3) := by decide +kernel
theorem dX8_safest_63 : decode cX8_safest 63 = .ok (.invokevirtual 205, 3) := by decide +kernel
theorem dX8_safest_66 : decode cX8_safest 66 = .ok (.istore 4, 2) := by decide +kernel
theorem dX8_safest_68 : decode cX8_safest 68 = .ok (.aload_n 0, 1) := by decide +kernel
theorem dX8_safest_69 : decode cX8_safest 69 = .ok (.iload_n 1, 1) := by decide +kernel
theorem dX8_safest_70 : decode cX8_safest 70 = .ok (.iload_n 3, 1) := by decide +kernel
theorem dX8_safest_71 : decode cX8_safest 71 = .ok (.aload_n 0, 1) := by decide +kernel
theorem dX8_safest_72 : decode cX8_safest 72 = .ok (.getfield 47, 3) := by decide +kernel
theorem dX8_safest_75 : decode cX8_safest 75 = .ok (.bipush 15, 2) := by decide +kernel
theorem dX8_safest_77 : decode cX8_safest 77 = .ok (.iaload, 1) := by decide +kernel
theorem dX8_safest_78 : decode cX8_safest 78 = .ok (.iconst 2, 1) := by decide +kernel
theorem dX8_safest_79 : decode cX8_safest 79 = .ok (.aload_n 0, 1) := by decide +kernel
theorem dX8_safest_80 : decode cX8_safest 80 = .ok (.getfield 139, 3) := by decide +kernel
theorem dX8_safest_83 : decode cX8_safest 83 = .ok (.invokevirtual 205, 3) := by decide +kernel
theorem dX8_safest_86 : decode cX8_safest 86 = .ok (.istore 5, 2) := by decide +kernel
theorem dX8_safest_88 : decode cX8_safest 88 = .ok (.aload_n 0, 1) := by decide +kernel
theorem dX8_safest_89 : decode cX8_safest 89 = .ok (.iload_n 3, 1) := by decide +kernel
theorem dX8_safest_90 : decode cX8_safest 90 = .ok (.invokevirtual 164, 3) := by decide +kernel
theorem dX8_safest_93 : decode cX8_safest 93 = .ok (.istore 6, 2) := by decide +kernel
theorem dX8_safest_95 : decode cX8_safest 95 = .ok (.iload 6, 2) := by decide +kernel
theorem dX8_safest_97 : decode cX8_safest 97 = .ok (.bipush (-9), 2) := by decide +kernel
theorem dX8_safest_99 : decode cX8_safest 99 = .ok (.if_icmp .eq 22, 3) := by decide +kernel
theorem dX8_safest_102 : decode cX8_safest 102 = .ok (.aload_n 0, 1) := by decide +kernel
theorem dX8_safest_103 : decode cX8_safest 103 = .ok (.iload_n 3, 1) := by decide +kernel
theorem dX8_safest_104 : decode cX8_safest 104 = .ok (.invokevirtual 171, 3) := by decide +kernel
theorem dX8_safest_107 : decode cX8_safest 107 = .ok (.aload_n 0, 1) := by decide +kernel
theorem dX8_safest_108 : decode cX8_safest 108 = .ok (.getfield 29, 3) := by decide +kernel
theorem dX8_safest_111 : decode cX8_safest 111 = .ok (.iload 6, 2) := by decide +kernel
theorem dX8_safest_113 : decode cX8_safest 113 = .ok (.iaload, 1) := by decide +kernel
theorem dX8_safest_114 : decode cX8_safest 114 = .ok (.if_icmp .ge 7, 3) := by decide +kernel
theorem dX8_safest_117 : decode cX8_safest 117 = .ok (.iconst 1, 1) := by decide +kernel
theorem dX8_safest_118 : decode cX8_safest 118 = .ok (.goto 4, 3) := by decide +kernel
theorem dX8_safest_121 : decode cX8_safest 121 = .ok (.iconst 0, 1) := by decide +kernel
theorem dX8_safest_122 : decode cX8_safest 122 = .ok (.istore 7, 2) := by decide +kernel
theorem dX8_safest_124 : decode cX8_safest 124 = .ok (.iload 4, 2) := by decide +kernel
theorem dX8_safest_126 : decode cX8_safest 126 = .ok (.istore 8, 2) := by decide +kernel
theorem dX8_safest_128 : decode cX8_safest 128 = .ok (.iload 4, 2) := by decide +kernel
theorem dX8_safest_130 : decode cX8_safest 130 = .ok (.bipush (-9), 2) := by decide +kernel
theorem dX8_safest_132 : decode cX8_safest 132 = .ok (.if_icmp .ne 8, 3) := by decide +kernel
theorem dX8_safest_135 : decode cX8_safest 135 = .ok (.bipush (-9), 2) := by decide +kernel
theorem dX8_safest_137 : decode cX8_safest 137 = .ok (.goto 4, 3) := by decide +kernel
theorem dX8_safest_140 : decode cX8_safest 140 = .ok (.iconst 0, 1) := by decide +kernel
theorem dX8_safest_141 : decode cX8_safest 141 = .ok (.istore 9, 2) := by decide +kernel
theorem dX8_safest_143 : decode cX8_safest 143 = .ok (.iload 5, 2) := by decide +kernel
theorem dX8_safest_145 : decode cX8_safest 145 = .ok (.bipush (-9), 2) := by decide +kernel
theorem dX8_safest_147 : decode cX8_safest 147 = .ok (.if_icmp .eq 24, 3) := by decide +kernel
theorem dX8_safest_150 : decode cX8_safest 150 = .ok (.iload 9, 2) := by decide +kernel
theorem dX8_safest_152 : decode cX8_safest 152 = .ok (.bipush (-9), 2) := by decide +kernel
theorem dX8_safest_154 : decode cX8_safest 154 = .ok (.if_icmp .eq 10, 3) := by decide +kernel
theorem dX8_safest_157 : decode cX8_safest 157 = .ok (.iload 5, 2) := by decide +kernel
theorem dX8_safest_159 : decode cX8_safest 159 = .ok (.iload 8, 2) := by decide +kernel
theorem dX8_safest_161 : decode cX8_safest 161 = .ok (.if_icmp .ge 10, 3) := by decide +kernel
theorem dX8_safest_164 : decode cX8_safest 164 = .ok (.iload 5, 2) := by decide +kernel
theorem dX8_safest_166 : decode cX8_safest 166 = .ok (.istore 8, 2) := by decide +kernel
theorem dX8_safest_168 : decode cX8_safest 168 = .ok (.iconst 1, 1) := by decide +kernel
theorem dX8_safest_169 : decode cX8_safest 169 = .ok (.istore 9, 2) := by decide +kernel
theorem dX8_safest_171 : decode cX8_safest 171 = .ok (.iload 7, 2) := by decide +kernel
theorem dX8_safest_173 : decode cX8_safest 173 = .ok (.ifCond .eq 25, 3) := by decide +kernel
theorem dX8_safest_176 : decode cX8_safest 176 = .ok (.iload 9, 2) := by decide +kernel
theorem dX8_safest_178 : decode cX8_safest 178 = .ok (.bipush (-9), 2) := by decide +kernel
theorem dX8_safest_180 : decode cX8_safest 180 = .ok (.if_icmp .eq 15, 3) := by decide +kernel
theorem dX8_safest_183 : decode cX8_safest 183 = .ok (.aload_n 0, 1) := by decide +kernel
theorem dX8_safest_184 : decode cX8_safest 184 = .ok (.getfield 47, 3) := by decide +kernel
theorem dX8_safest_187 : decode cX8_safest 187 = .ok (.bipush 15, 2) := by decide +kernel
theorem dX8_safest_189 : decode cX8_safest 189 = .ok (.iaload, 1) := by decide +kernel
theorem dX8_safest_190 : decode cX8_safest 190 = .ok (.iload 8, 2) := by decide +kernel
theorem dX8_safest_192 : decode cX8_safest 192 = .ok (.if_icmp .ge 6, 3) := by decide +kernel
theorem dX8_safest_195 : decode cX8_safest 195 = .ok (.iconst 2, 1) := by decide +kernel
theorem dX8_safest_196 : decode cX8_safest 196 = .ok (.istore 9, 2) := by decide +kernel
theorem dX8_safest_198 : decode cX8_safest 198 = .ok (.iload_n 2, 1) := by decide +kernel
theorem dX8_safest_199 : decode cX8_safest 199 = .ok (.iconst 1, 1) := by decide +kernel
theorem dX8_safest_200 : decode cX8_safest 200 = .ok (.if_icmp .ne 8, 3) := by decide +kernel
theorem dX8_safest_203 : decode cX8_safest 203 = .ok (.iload 9, 2) := by decide +kernel
theorem dX8_safest_205 : decode cX8_safest 205 = .ok (.goto 39, 3) := by decide +kernel
theorem dX8_safest_208 : decode cX8_safest 208 = .ok (.iload 4, 2) := by decide +kernel
theorem dX8_safest_210 : decode cX8_safest 210 = .ok (.bipush (-9), 2) := by decide +kernel
theorem dX8_safest_212 : decode cX8_safest 212 = .ok (.if_icmp .ne 7, 3) := by decide +kernel
theorem dX8_safest_215 : decode cX8_safest 215 = .ok (.iconst 0, 1) := by decide +kernel
theorem dX8_safest_216 : decode cX8_safest 216 = .ok (.goto 4, 3) := by decide +kernel
theorem dX8_safest_219 : decode cX8_safest 219 = .ok (.iconst 1, 1) := by decide +kernel
theorem dX8_safest_220 : decode cX8_safest 220 = .ok (.iload 5, 2) := by decide +kernel
theorem dX8_safest_222 : decode cX8_safest 222 = .ok (.bipush (-9), 2) := by decide +kernel
theorem dX8_safest_224 : decode cX8_safest 224 = .ok (.if_icmp .ne 7, 3) := by decide +kernel
theorem dX8_safest_227 : decode cX8_safest 227 = .ok (.iconst 0, 1) := by decide +kernel
theorem dX8_safest_228 : decode cX8_safest 228 = .ok (.goto 4, 3) := by decide +kernel
theorem dX8_safest_231 : decode cX8_safest 231 = .ok (.iconst 2, 1) := by decide +kernel
theorem dX8_safest_232 : decode cX8_safest 232 = .ok (.iadd, 1) := by decide +kernel
theorem dX8_safest_233 : decode cX8_safest 233 = .ok (.iload 7, 2) := by decide +kernel
theorem dX8_safest_235 : decode cX8_safest 235 = .ok (.ifCond .eq 7, 3) := by decide +kernel
theorem dX8_safest_238 : decode cX8_safest 238 = .ok (.iconst 4, 1) := by decide +kernel
theorem dX8_safest_239 : decode cX8_safest 239 = .ok (.goto 4, 3) := by decide +kernel
theorem dX8_safest_242 : decode cX8_safest 242 = .ok (.iconst 0, 1) := by decide +kernel
theorem dX8_safest_243 : decode cX8_safest 243 = .ok (.iadd, 1) := by decide +kernel
theorem dX8_safest_244 : decode cX8_safest 244 = .ok (.ireturn, 1) := by decide +kernel
theorem dX8_shells_0 : decode cX8_shells 0 = .ok (.aload_n 0, 1) := by decide +kernel
theorem dX8_shells_1 : decode cX8_shells 1 = .ok (.iconst 0, 1) := by decide +kernel
theorem dX8_shells_2 : decode cX8_shells 2 = .ok (.putfield 67, 3) := by decide +kernel
theorem dX8_shells_5 : decode cX8_shells 5 = .ok (.aload_n 0, 1) := by decide +kernel
theorem dX8_shells_6 : decode cX8_shells 6 = .ok (.iload_n 1, 1) := by decide +kernel
theorem dX8_shells_7 : decode cX8_shells 7 = .ok (.invokevirtual 208, 3) := by decide +kernel
theorem dX8_shells_10 : decode cX8_shells 10 = .ok (.istore_n 2, 1) := by decide +kernel
theorem dX8_shells_11 : decode cX8_shells 11 = .ok (.iload_n 2, 1) := by decide +kernel
theorem dX8_shells_12 : decode cX8_shells 12 = .ok (.ifCond .eq 5, 3) := by decide +kernel
theorem dX8_shells_15 : decode cX8_shells 15 = .ok (.iload_n 2, 1) := by decide +kernel
theorem dX8_shells_16 : decode cX8_shells 16 = .ok (.ireturn, 1) := by decide +kernel
theorem dX8_shells_17 : decode cX8_shells 17 = .ok (.aload_n 0, 1) := by decide +kernel
theorem dX8_shells_18 : decode cX8_shells 18 = .ok (.getfield 47, 3) := by decide +kernel
theorem dX8_shells_21 : decode cX8_shells 21 = .ok (.iconst 3, 1) := by decide +kernel
theorem dX8_shells_22 : decode cX8_shells 22 = .ok (.iload_n 1, 1) := by decide +kernel
theorem dX8_shells_23 : decode cX8_shells 23 = .ok (.imul, 1) := by decide +kernel
theorem dX8_shells_24 : decode cX8_shells 24 = .ok (.iaload, 1) := by decide +kernel
theorem dX8_shells_25 : decode cX8_shells 25 = .ok (.istore_n 3, 1) := by decide +kernel
theorem dX8_shells_26 : decode cX8_shells 26 = .ok (.bipush (-9), 2) := by decide +kernel
theorem dX8_shells_28 : decode cX8_shells 28 = .ok (.istore 4, 2) := by decide +kernel
theorem dX8_shells_30 : decode cX8_shells 30 = .ok (.iconst 1, 1) := by decide +kernel
theorem dX8_shells_31 : decode cX8_shells 31 = .ok (.istore 5, 2) := by decide +kernel
theorem dX8_shells_33 : decode cX8_shells 33 = .ok (.iconst 0, 1) := by decide +kernel
theorem dX8_shells_34 : decode cX8_shells 34 = .ok (.istore 6, 2) := by decide +kernel
theorem dX8_shells_36 : decode cX8_shells 36 = .ok (.iload 5, 2) := by decide +kernel
theorem dX8_shells_38 : decode cX8_shells 38 = .ok (.ifCond .eq 141, 3) := by decide +kernel
theorem dX8_shells_41 : decode cX8_shells 41 = .ok (.aload_n 0, 1) := by decide +kernel
theorem dX8_shells_42 : decode cX8_shells 42 = .ok (.getfield 47, 3) := by decide +kernel
theorem dX8_shells_45 : decode cX8_shells 45 = .ok (.bipush 15, 2) := by decide +kernel
theorem dX8_shells_47 : decode cX8_shells 47 = .ok (.iaload, 1) := by decide +kernel
theorem dX8_shells_48 : decode cX8_shells 48 = .ok (.iload 6, 2) := by decide +kernel
theorem dX8_shells_50 : decode cX8_shells 50 = .ok (.iadd, 1) := by decide +kernel
theorem dX8_shells_51 : decode cX8_shells 51 = .ok (.bipush 40, 2) := by decide +kernel
theorem dX8_shells_53 : decode cX8_shells 53 = .ok (.if_icmp .gt 126, 3) := by decide +kernel
theorem dX8_shells_56 : decode cX8_shells 56 = .ok (.aload_n 0, 1) := by decide +kernel
theorem dX8_shells_57 : decode cX8_shells 57 = .ok (.getfield 47, 3) := by decide +kernel
theorem dX8_shells_60 : decode cX8_shells 60 = .ok (.bipush 15, 2) := by decide +kernel
theorem dX8_shells_62 : decode cX8_shells 62 = .ok (.iaload, 1) := by decide +kernel
theorem dX8_shells_63 : decode cX8_shells 63 = .ok (.iload 6, 2) := by decide +kernel
theorem dX8_shells_65 : decode cX8_shells 65 = .ok (.iadd, 1) := by decide +kernel
theorem dX8_shells_66 : decode cX8_shells 66 = .ok (.istore 7, 2) := by decide +kernel
theorem dX8_shells_68 : decode cX8_shells 68 = .ok (.iload 6, 2) := by decide +kernel
theorem dX8_shells_70 : decode cX8_shells 70 = .ok (.ifCond .eq 34, 3) := by decide +kernel
theorem dX8_shells_73 : decode cX8_shells 73 = .ok (.aload_n 0, 1) := by decide +kernel
theorem dX8_shells_74 : decode cX8_shells 74 = .ok (.iload_n 3, 1) := by decide +kernel
theorem dX8_shells_75 : decode cX8_shells 75 = .ok (.iload 7, 2) := by decide +kernel
theorem dX8_shells_77 : decode cX8_shells 77 = .ok (.aload_n 0, 1) := by decide +kernel
theorem dX8_shells_78 : decode cX8_shells 78 = .ok (.getfield 139, 3) := by decide +kernel
theorem dX8_shells_81 : decode cX8_shells 81 = .ok (.invokevirtual 167, 3) := by decide +kernel
theorem dX8_shells_84 : decode cX8_shells 84 = .ok (.aload_n 0, 1) := by decide +kernel
theorem dX8_shells_85 : decode cX8_shells 85 = .ok (.getfield 23, 3) := by decide +kernel
theorem dX8_shells_88 : decode cX8_shells 88 = .ok (.iload_n 1, 1) := by decide +kernel
theorem dX8_shells_89 : decode cX8_shells 89 = .ok (.iaload, 1) := by decide +kernel
theorem dX8_shells_90 : decode cX8_shells 90 = .ok (.if_icmp .gt 18, 3) := by decide +kernel
theorem dX8_shells_93 : decode cX8_shells 93 = .ok (.aload_n 0, 1) := by decide +kernel
theorem dX8_shells_94 : decode cX8_shells 94 = .ok (.getfield 148, 3) := by decide +kernel
theorem dX8_shells_97 : decode cX8_shells 97 = .ok (.iload_n 3, 1) := by decide +kernel
theorem dX8_shells_98 : decode cX8_shells 98 = .ok (.invokestatic 92, 3) := by decide +kernel
theorem dX8_shells_101 : decode cX8_shells 101 = .ok (.ifCond .ne 7, 3) := by decide +kernel
theorem dX8_shells_104 : decode cX8_shells 104 = .ok (.iconst 1, 1) := by decide +kernel
theorem dX8_shells_105 : decode cX8_shells 105 = .ok (.goto 4, 3) := by decide +kernel
theorem dX8_shells_108 : decode cX8_shells 108 = .ok (.iconst 0, 1) := by decide +kernel
theorem dX8_shells_109 : decode cX8_shells 109 = .ok (.istore 5, 2) := by decide +kernel
theorem dX8_shells_111 : decode cX8_shells 111 = .ok (.aload_n 0, 1) := by decide +kernel
theorem dX8_shells_112 : decode cX8_shells 112 = .ok (.iload_n 1, 1) := by decide +kernel
theorem dX8_shells_113 : decode cX8_shells 113 = .ok (.iload_n 3, 1) := by decide +kernel
theorem dX8_shells_114 : decode cX8_shells 114 = .ok (.iload 7, 2) := by decide +kernel
theorem dX8_shells_116 : decode cX8_shells 116 = .ok (.iconst 1, 1) := by decide +kernel
theorem dX8_shells_117 : decode cX8_shells 117 = .ok (.aload_n 0, 1) := by decide +kernel
theorem dX8_shells_118 : decode cX8_shells 118 = .ok (.getfield 139, 3) := by decide +kernel
theorem dX8_shells_121 : decode cX8_shells 121 = .ok (.invokevirtual 205, 3) := by decide +kernel
theorem dX8_shells_124 : decode cX8_shells 124 = .ok (.bipush (-9), 2) := by decide +kernel
theorem dX8_shells_126 : decode cX8_shells 126 = .ok (.if_icmp .ne 21, 3) := by decide +kernel
theorem dX8_shells_129 : decode cX8_shells 129 = .ok (.aload_n 0, 1) := by decide +kernel
theorem dX8_shells_130 : decode cX8_shells 130 = .ok (.iload_n 1, 1) := by decide +kernel
theorem dX8_shells_131 : decode cX8_shells 131 = .ok (.iload_n 3, 1) := by decide +kernel
theorem dX8_shells_132 : decode cX8_shells 132 = .ok (.iload 7, 2) := by decide +kernel
theorem dX8_shells_134 : decode cX8_shells 134 = .ok (.iconst 2, 1) := by decide +kernel
theorem dX8_shells_135 : decode cX8_shells 135 = .ok (.aload_n 0, 1) := by decide +kernel
theorem dX8_shells_136 : decode cX8_shells 136 = .ok (.getfield 139, 3) := by decide +kernel
theorem dX8_shells_139 : decode cX8_shells 139 = .ok (.invokevirtual 205, 3) := by decide +kernel
theorem dX8_shells_142 : decode cX8_shells 142 = .ok (.bipush (-9), 2) := by decide +kernel
theorem dX8_shells_144 : decode cX8_shells 144 = .ok (.if_icmp .eq 7, 3) := by decide +kernel
theorem dX8_shells_147 : decode cX8_shells 147 = .ok (.iconst 1, 1) := by decide +kernel
theorem dX8_shells_148 : decode cX8_shells 148 = .ok (.goto 4, 3) := by decide +kernel
theorem dX8_shells_151 : decode cX8_shells 151 = .ok (.iconst 0, 1) := by decide +kernel
theorem dX8_shells_152 : decode cX8_shells 152 = .ok (.istore 8, 2) := by decide +kernel
theorem dX8_shells_154 : decode cX8_shells 154 = .ok (.iload 5, 2) := by decide +kernel
theorem dX8_shells_156 : decode cX8_shells 156 = .ok (.ifCond .eq 13, 3) := by decide +kernel
theorem dX8_shells_159 : decode cX8_shells 159 = .ok (.iload 8, 2) := by decide +kernel
theorem dX8_shells_161 : decode cX8_shells 161 = .ok (.ifCond .eq 8, 3) := by decide +kernel
theorem dX8_shells_164 : decode cX8_shells 164 = .ok (.iload 6, 2) := by decide +kernel
theorem dX8_shells_166 : decode cX8_shells 166 = .ok (.goto 5, 3) := by decide +kernel
theorem dX8_shells_169 : decode cX8_shells 169 = .ok (.iload 4, 2) := by decide +kernel
theorem dX8_shells_171 : decode cX8_shells 171 = .ok (.istore 4, 2) := by decide +kernel
theorem dX8_shells_173 : decode cX8_shells 173 = .ok (.iinc 6 1, 3) := by decide +kernel
theorem dX8_shells_176 : decode cX8_shells 176 = .ok (.goto (-140), 3) := by decide +kernel
theorem dX8_shells_179 : decode cX8_shells 179 = .ok (.iload 4, 2) := by decide +kernel
theorem dX8_shells_181 : decode cX8_shells 181 = .ok (.ireturn, 1) := by decide +kernel
theorem dX8_cut_0 : decode cX8_cut 0 = .ok (.aload_n 0, 1) := by decide +kernel
theorem dX8_cut_1 : decode cX8_cut 1 = .ok (.iconst 0, 1) := by decide +kernel
theorem dX8_cut_2 : decode cX8_cut 2 = .ok (.putfield 67, 3) := by decide +kernel
theorem dX8_cut_5 : decode cX8_cut 5 = .ok (.aload_n 0, 1) := by decide +kernel
theorem dX8_cut_6 : decode cX8_cut 6 = .ok (.iload_n 1, 1) := by decide +kernel
theorem dX8_cut_7 : decode cX8_cut 7 = .ok (.invokevirtual 174, 3) := by decide +kernel
theorem dX8_cut_10 : decode cX8_cut 10 = .ok (.ifCond .eq 5, 3) := by decide +kernel
theorem dX8_cut_13 : decode cX8_cut 13 = .ok (.iconst (-1), 1) := by decide +kernel
theorem dX8_cut_14 : decode cX8_cut 14 = .ok (.ireturn, 1) := by decide +kernel
theorem dX8_cut_15 : decode cX8_cut 15 = .ok (.aload_n 0, 1) := by decide +kernel
theorem dX8_cut_16 : decode cX8_cut 16 = .ok (.getfield 47, 3) := by decide +kernel
theorem dX8_cut_19 : decode cX8_cut 19 = .ok (.bipush 15, 2) := by decide +kernel
theorem dX8_cut_21 : decode cX8_cut 21 = .ok (.iaload, 1) := by decide +kernel
theorem dX8_cut_22 : decode cX8_cut 22 = .ok (.istore_n 2, 1) := by decide +kernel
theorem dX8_cut_23 : decode cX8_cut 23 = .ok (.iload_n 2, 1) := by decide +kernel
theorem dX8_cut_24 : decode cX8_cut 24 = .ok (.bipush 40, 2) := by decide +kernel
theorem dX8_cut_26 : decode cX8_cut 26 = .ok (.if_icmp .gt 50, 3) := by decide +kernel
theorem dX8_cut_29 : decode cX8_cut 29 = .ok (.iconst 0, 1) := by decide +kernel
theorem dX8_cut_30 : decode cX8_cut 30 = .ok (.istore_n 3, 1) := by decide +kernel
theorem dX8_cut_31 : decode cX8_cut 31 = .ok (.iload_n 3, 1) := by decide +kernel
theorem dX8_cut_32 : decode cX8_cut 32 = .ok (.aload_n 0, 1) := by decide +kernel
theorem dX8_cut_33 : decode cX8_cut 33 = .ok (.getfield 47, 3) := by decide +kernel
theorem dX8_cut_36 : decode cX8_cut 36 = .ok (.iconst 3, 1) := by decide +kernel
theorem dX8_cut_37 : decode cX8_cut 37 = .ok (.iload_n 1, 1) := by decide +kernel
theorem dX8_cut_38 : decode cX8_cut 38 = .ok (.imul, 1) := by decide +kernel
theorem dX8_cut_39 : decode cX8_cut 39 = .ok (.iaload, 1) := by decide +kernel
theorem dX8_cut_40 : decode cX8_cut 40 = .ok (.if_icmp .gt 30, 3) := by decide +kernel
theorem dX8_cut_43 : decode cX8_cut 43 = .ok (.aload_n 0, 1) := by decide +kernel
theorem dX8_cut_44 : decode cX8_cut 44 = .ok (.iload_n 3, 1) := by decide +kernel
theorem dX8_cut_45 : decode cX8_cut 45 = .ok (.iload_n 2, 1) := by decide +kernel
theorem dX8_cut_46 : decode cX8_cut 46 = .ok (.aload_n 0, 1) := by decide +kernel
theorem dX8_cut_47 : decode cX8_cut 47 = .ok (.getfield 139, 3) := by decide +kernel
theorem dX8_cut_50 : decode cX8_cut 50 = .ok (.invokevirtual 167, 3) := by decide +kernel
theorem dX8_cut_53 : decode cX8_cut 53 = .ok (.aload_n 0, 1) := by decide +kernel
theorem dX8_cut_54 : decode cX8_cut 54 = .ok (.getfield 23, 3) := by decide +kernel
theorem dX8_cut_57 : decode cX8_cut 57 = .ok (.iload_n 1, 1) := by decide +kernel
theorem dX8_cut_58 : decode cX8_cut 58 = .ok (.iaload, 1) := by decide +kernel
theorem dX8_cut_59 : decode cX8_cut 59 = .ok (.if_icmp .le 5, 3) := by decide +kernel
theorem dX8_cut_62 : decode cX8_cut 62 = .ok (.iload_n 2, 1) := by decide +kernel
theorem dX8_cut_63 : decode cX8_cut 63 = .ok (.ireturn, 1) := by decide +kernel
theorem dX8_cut_64 : decode cX8_cut 64 = .ok (.iinc 3 1, 3) := by decide +kernel
theorem dX8_cut_67 : decode cX8_cut 67 = .ok (.goto (-36), 3) := by decide +kernel
theorem dX8_cut_70 : decode cX8_cut 70 = .ok (.iinc 2 1, 3) := by decide +kernel
theorem dX8_cut_73 : decode cX8_cut 73 = .ok (.goto (-50), 3) := by decide +kernel
theorem dX8_cut_76 : decode cX8_cut 76 = .ok (.bipush (-9), 2) := by decide +kernel
theorem dX8_cut_78 : decode cX8_cut 78 = .ok (.ireturn, 1) := by decide +kernel
theorem dX8_ten_0 : decode cX8_ten 0 = .ok (.iconst 1, 1) := by decide +kernel
theorem dX8_ten_1 : decode cX8_ten 1 = .ok (.istore_n 1, 1) := by decide +kernel
theorem dX8_ten_2 : decode cX8_ten 2 = .ok (.iconst 0, 1) := by decide +kernel
theorem dX8_ten_3 : decode cX8_ten 3 = .ok (.istore_n 2, 1) := by decide +kernel
theorem dX8_ten_4 : decode cX8_ten 4 = .ok (.iload_n 2, 1) := by decide +kernel
theorem dX8_ten_5 : decode cX8_ten 5 = .ok (.iload_n 0, 1) := by decide +kernel
theorem dX8_ten_6 : decode cX8_ten 6 = .ok (.if_icmp .ge 14, 3) := by decide +kernel
theorem dX8_ten_9 : decode cX8_ten 9 = .ok (.iload_n 1, 1) := by decide +kernel
theorem dX8_ten_10 : decode cX8_ten 10 = .ok (.bipush 10, 2) := by decide +kernel
theorem dX8_ten_12 : decode cX8_ten 12 = .ok (.imul, 1) := by decide +kernel
theorem dX8_ten_13 : decode cX8_ten 13 = .ok (.istore_n 1, 1) := by decide +kernel
theorem dX8_ten_14 : decode cX8_ten 14 = .ok (.iinc 2 1, 3) := by decide +kernel
theorem dX8_ten_17 : decode cX8_ten 17 = .ok (.goto (-13), 3) := by decide +kernel
theorem dX8_ten_20 : decode cX8_ten 20 = .ok (.iload_n 1, 1) := by decide +kernel
theorem dX8_ten_21 : decode cX8_ten 21 = .ok (.ireturn, 1) := by decide +kernel
theorem dX8_judged_0 : decode cX8_judged 0 = .ok (.aload_n 0, 1) := by decide +kernel
theorem dX8_judged_1 : decode cX8_judged 1 = .ok (.iconst 0, 1) := by decide +kernel
theorem dX8_judged_2 : decode cX8_judged 2 = .ok (.putfield 67, 3) := by decide +kernel
theorem dX8_judged_5 : decode cX8_judged 5 = .ok (.aload_n 0, 1) := by decide +kernel
theorem dX8_judged_6 : decode cX8_judged 6 = .ok (.iload_n 1, 1) := by decide +kernel
theorem dX8_judged_7 : decode cX8_judged 7 = .ok (.invokevirtual 174, 3) := by decide +kernel
theorem dX8_judged_10 : decode cX8_judged 10 = .ok (.ifCond .eq 5, 3) := by decide +kernel
theorem dX8_judged_13 : decode cX8_judged 13 = .ok (.iconst (-1), 1) := by decide +kernel
theorem dX8_judged_14 : decode cX8_judged 14 = .ok (.ireturn, 1) := by decide +kernel
theorem dX8_judged_15 : decode cX8_judged 15 = .ok (.iload_n 2, 1) := by decide +kernel
theorem dX8_judged_16 : decode cX8_judged 16 = .ok (.i2l, 1) := by decide +kernel
theorem dX8_judged_17 : decode cX8_judged 17 = .ok (.lconst 1, 1) := by decide +kernel
theorem dX8_judged_18 : decode cX8_judged 18 = .ok (.ldc2_w 90, 3) := by decide +kernel
theorem dX8_judged_21 : decode cX8_judged 21 = .ok (.invokestatic 73, 3) := by decide +kernel
theorem dX8_judged_24 : decode cX8_judged 24 = .ok (.ifCond .eq 19, 3) := by decide +kernel
theorem dX8_judged_27 : decode cX8_judged 27 = .ok (.iload_n 3, 1) := by decide +kernel
theorem dX8_judged_28 : decode cX8_judged 28 = .ok (.i2l, 1) := by decide +kernel
theorem dX8_judged_29 : decode cX8_judged 29 = .ok (.lconst 0, 1) := by decide +kernel
theorem dX8_judged_30 : decode cX8_judged 30 = .ok (.iload_n 2, 1) := by decide +kernel
theorem dX8_judged_31 : decode cX8_judged 31 = .ok (.invokestatic 211, 3) := by decide +kernel
theorem dX8_judged_34 : decode cX8_judged 34 = .ok (.iconst 1, 1) := by decide +kernel
theorem dX8_judged_35 : decode cX8_judged 35 = .ok (.isub, 1) := by decide +kernel
theorem dX8_judged_36 : decode cX8_judged 36 = .ok (.i2l, 1) := by decide +kernel
theorem dX8_judged_37 : decode cX8_judged 37 = .ok (.invokestatic 73, 3) := by decide +kernel
theorem dX8_judged_40 : decode cX8_judged 40 = .ok (.ifCond .ne 6, 3) := by decide +kernel
theorem dX8_judged_43 : decode cX8_judged 43 = .ok (.bipush (-2), 2) := by decide +kernel
theorem dX8_judged_45 : decode cX8_judged 45 = .ok (.ireturn, 1) := by decide +kernel
theorem dX8_judged_46 : decode cX8_judged 46 = .ok (.aload_n 0, 1) := by decide +kernel
theorem dX8_judged_47 : decode cX8_judged 47 = .ok (.aload_n 0, 1) := by decide +kernel
theorem dX8_judged_48 : decode cX8_judged 48 = .ok (.getfield 139, 3) := by decide +kernel
theorem dX8_judged_51 : decode cX8_judged 51 = .ok (.putfield 182, 3) := by decide +kernel
theorem dX8_judged_54 : decode cX8_judged 54 = .ok (.aload_n 0, 1) := by decide +kernel
theorem dX8_judged_55 : decode cX8_judged 55 = .ok (.aload_n 0, 1) := by decide +kernel
theorem dX8_judged_56 : decode cX8_judged 56 = .ok (.getfield 47, 3) := by decide +kernel
theorem dX8_judged_59 : decode cX8_judged 59 = .ok (.iconst 3, 1) := by decide +kernel
theorem dX8_judged_60 : decode cX8_judged 60 = .ok (.iload_n 1, 1) := by decide +kernel
theorem dX8_judged_61 : decode cX8_judged 61 = .ok (.imul, 1) := by decide +kernel
theorem dX8_judged_62 : decode cX8_judged 62 = .ok (.iaload, 1) := by decide +kernel
theorem dX8_judged_63 : decode cX8_judged 63 = .ok (.putfield 179, 3) := by decide +kernel
theorem dX8_judged_66 : decode cX8_judged 66 = .ok (.aload_n 0, 1) := by decide +kernel
theorem dX8_judged_67 : decode cX8_judged 67 = .ok (.aload_n 0, 1) := by decide +kernel
theorem dX8_judged_68 : decode cX8_judged 68 = .ok (.getfield 47, 3) := by decide +kernel
theorem dX8_judged_71 : decode cX8_judged 71 = .ok (.iconst 3, 1) := by decide +kernel
theorem dX8_judged_72 : decode cX8_judged 72 = .ok (.iload_n 1, 1) := by decide +kernel
theorem dX8_judged_73 : decode cX8_judged 73 = .ok (.imul, 1) := by decide +kernel
theorem dX8_judged_74 : decode cX8_judged 74 = .ok (.iconst 2, 1) := by decide +kernel
theorem dX8_judged_75 : decode cX8_judged 75 = .ok (.iadd, 1) := by decide +kernel
theorem dX8_judged_76 : decode cX8_judged 76 = .ok (.iaload, 1) := by decide +kernel
theorem dX8_judged_77 : decode cX8_judged 77 = .ok (.putfield 193, 3) := by decide +kernel
theorem dX8_judged_80 : decode cX8_judged 80 = .ok (.iconst 0, 1) := by decide +kernel
theorem dX8_judged_81 : decode cX8_judged 81 = .ok (.istore 4, 2) := by decide +kernel
theorem dX8_judged_83 : decode cX8_judged 83 = .ok (.iload 4, 2) := by decide +kernel
theorem dX8_judged_85 : decode cX8_judged 85 = .ok (.iload_n 2, 1) := by decide +kernel
theorem dX8_judged_86 : decode cX8_judged 86 = .ok (.if_icmp .ge 92, 3) := by decide +kernel
theorem dX8_judged_89 : decode cX8_judged 89 = .ok (.iload_n 3, 1) := by decide +kernel
theorem dX8_judged_90 : decode cX8_judged 90 = .ok (.iload_n 2, 1) := by decide +kernel
theorem dX8_judged_91 : decode cX8_judged 91 = .ok (.iconst 1, 1) := by decide +kernel
theorem dX8_judged_92 : decode cX8_judged 92 = .ok (.isub, 1) := by decide +kernel
theorem dX8_judged_93 : decode cX8_judged 93 = .ok (.iload 4, 2) := by decide +kernel
theorem dX8_judged_95 : decode cX8_judged 95 = .ok (.isub, 1) := by decide +kernel
theorem dX8_judged_96 : decode cX8_judged 96 = .ok (.invokestatic 211, 3) := by decide +kernel
theorem dX8_judged_99 : decode cX8_judged 99 = .ok (.idiv, 1) := by decide +kernel
theorem dX8_judged_100 : decode cX8_judged 100 = .ok (.bipush 10, 2) := by decide +kernel
theorem dX8_judged_102 : decode cX8_judged 102 = .ok (.irem, 1) := by decide +kernel
theorem dX8_judged_103 : decode cX8_judged 103 = .ok (.istore 5, 2) := by decide +kernel
theorem dX8_judged_105 : decode cX8_judged 105 = .ok (.aload_n 0, 1) := by decide +kernel
theorem dX8_judged_106 : decode cX8_judged 106 = .ok (.getfield 193, 3) := by decide +kernel
theorem dX8_judged_109 : decode cX8_judged 109 = .ok (.ifCond .ne 24, 3) := by decide +kernel
theorem dX8_judged_112 : decode cX8_judged 112 = .ok (.aload_n 0, 1) := by decide +kernel
theorem dX8_judged_113 : decode cX8_judged 113 = .ok (.getfield 47, 3) := by decide +kernel
theorem dX8_judged_116 : decode cX8_judged 116 = .ok (.bipush 15, 2) := by decide +kernel
theorem dX8_judged_118 : decode cX8_judged 118 = .ok (.iaload, 1) := by decide +kernel
theorem dX8_judged_119 : decode cX8_judged 119 = .ok (.iload 4, 2) := by decide +kernel
theorem dX8_judged_121 : decode cX8_judged 121 = .ok (.iadd, 1) := by decide +kernel
theorem dX8_judged_122 : decode cX8_judged 122 = .ok (.bipush 40, 2) := by decide +kernel
theorem dX8_judged_124 : decode cX8_judged 124 = .ok (.if_icmp .ge 9, 3) := by decide +kernel
theorem dX8_judged_127 : decode cX8_judged 127 = .ok (.iload 5, 2) := by decide +kernel
theorem dX8_judged_129 : decode cX8_judged 129 = .ok (.iconst 2, 1) := by decide +kernel
theorem dX8_judged_130 : decode cX8_judged 130 = .ok (.if_icmp .le 6, 3) := by decide +kernel
theorem dX8_judged_133 : decode cX8_judged 133 = .ok (.iload 4, 2) := by decide +kernel
theorem dX8_judged_135 : decode cX8_judged 135 = .ok (.ireturn, 1) := by decide +kernel
theorem dX8_judged_136 : decode cX8_judged 136 = .ok (.aload_n 0, 1) := by decide +kernel
theorem dX8_judged_137 : decode cX8_judged 137 = .ok (.iload_n 1, 1) := by decide +kernel
theorem dX8_judged_138 : decode cX8_judged 138 = .ok (.iload 5, 2) := by decide +kernel
theorem dX8_judged_140 : decode cX8_judged 140 = .ok (.aload_n 0, 1) := by decide +kernel
theorem dX8_judged_141 : decode cX8_judged 141 = .ok (.getfield 47, 3) := by decide +kernel
theorem dX8_judged_144 : decode cX8_judged 144 = .ok (.bipush 15, 2) := by decide +kernel
theorem dX8_judged_146 : decode cX8_judged 146 = .ok (.iaload, 1) := by decide +kernel
theorem dX8_judged_147 : decode cX8_judged 147 = .ok (.iload 4, 2) := by decide +kernel
theorem dX8_judged_149 : decode cX8_judged 149 = .ok (.iadd, 1) := by decide +kernel
theorem dX8_judged_150 : decode cX8_judged 150 = .ok (.invokevirtual 201, 3) := by decide +kernel
theorem dX8_judged_153 : decode cX8_judged 153 = .ok (.aload_n 0, 1) := by decide +kernel
theorem dX8_judged_154 : decode cX8_judged 154 = .ok (.getfield 193, 3) := by decide +kernel
theorem dX8_judged_157 : decode cX8_judged 157 = .ok (.iconst 2, 1) := by decide +kernel
theorem dX8_judged_158 : decode cX8_judged 158 = .ok (.if_icmp .eq 11, 3) := by decide +kernel
theorem dX8_judged_161 : decode cX8_judged 161 = .ok (.aload_n 0, 1) := by decide +kernel
theorem dX8_judged_162 : decode cX8_judged 162 = .ok (.getfield 193, 3) := by decide +kernel
theorem dX8_judged_165 : decode cX8_judged 165 = .ok (.iconst 3, 1) := by decide +kernel
theorem dX8_judged_166 : decode cX8_judged 166 = .ok (.if_icmp .ne 6, 3) := by decide +kernel
theorem dX8_judged_169 : decode cX8_judged 169 = .ok (.iload 4, 2) := by decide +kernel
theorem dX8_judged_171 : decode cX8_judged 171 = .ok (.ireturn, 1) := by decide +kernel
theorem dX8_judged_172 : decode cX8_judged 172 = .ok (.iinc 4 1, 3) := by decide +kernel
theorem dX8_judged_175 : decode cX8_judged 175 = .ok (.goto (-92), 3) := by decide +kernel
theorem dX8_judged_178 : decode cX8_judged 178 = .ok (.bipush (-9), 2) := by decide +kernel
theorem dX8_judged_180 : decode cX8_judged 180 = .ok (.ireturn, 1) := by decide +kernel
theorem dX8_beginOf_0 : decode cX8_beginOf 0 = .ok (.bipush (-9), 2) := by decide +kernel
theorem dX8_beginOf_2 : decode cX8_beginOf 2 = .ok (.istore_n 3, 1) := by decide +kernel
theorem dX8_beginOf_3 : decode cX8_beginOf 3 = .ok (.iconst 0, 1) := by decide +kernel
theorem dX8_beginOf_4 : decode cX8_beginOf 4 = .ok (.istore 4, 2) := by decide +kernel
theorem dX8_beginOf_6 : decode cX8_beginOf 6 = .ok (.iload 4, 2) := by decide +kernel
theorem dX8_beginOf_8 : decode cX8_beginOf 8 = .ok (.bipush 40, 2) := by decide +kernel
theorem dX8_beginOf_10 : decode cX8_beginOf 10 = .ok (.if_icmp .gt 33, 3) := by decide +kernel
theorem dX8_beginOf_13 : decode cX8_beginOf 13 = .ok (.aload_n 0, 1) := by decide +kernel
theorem dX8_beginOf_14 : decode cX8_beginOf 14 = .ok (.iload_n 1, 1) := by decide +kernel
theorem dX8_beginOf_15 : decode cX8_beginOf 15 = .ok (.iconst 0, 1) := by decide +kernel
theorem dX8_beginOf_16 : decode cX8_beginOf 16 = .ok (.iload 4, 2) := by decide +kernel
theorem dX8_beginOf_18 : decode cX8_beginOf 18 = .ok (.iconst 1, 1) := by decide +kernel
theorem dX8_beginOf_19 : decode cX8_beginOf 19 = .ok (.aload_n 0, 1) := by decide +kernel
theorem dX8_beginOf_20 : decode cX8_beginOf 20 = .ok (.getfield 139, 3) := by decide +kernel
theorem dX8_beginOf_23 : decode cX8_beginOf 23 = .ok (.invokevirtual 205, 3) := by decide +kernel
theorem dX8_beginOf_26 : decode cX8_beginOf 26 = .ok (.iload_n 2, 1) := by decide +kernel
theorem dX8_beginOf_27 : decode cX8_beginOf 27 = .ok (.if_icmp .ne 8, 3) := by decide +kernel
theorem dX8_beginOf_30 : decode cX8_beginOf 30 = .ok (.iload 4, 2) := by decide +kernel
theorem dX8_beginOf_32 : decode cX8_beginOf 32 = .ok (.goto 4, 3) := by decide +kernel
theorem dX8_beginOf_35 : decode cX8_beginOf 35 = .ok (.iload_n 3, 1) := by decide +kernel
theorem dX8_beginOf_36 : decode cX8_beginOf 36 = .ok (.istore_n 3, 1) := by decide +kernel
theorem dX8_beginOf_37 : decode cX8_beginOf 37 = .ok (.iinc 4 1, 3) := by decide +kernel
theorem dX8_beginOf_40 : decode cX8_beginOf 40 = .ok (.goto (-34), 3) := by decide +kernel
theorem dX8_beginOf_43 : decode cX8_beginOf 43 = .ok (.iload_n 3, 1) := by decide +kernel
theorem dX8_beginOf_44 : decode cX8_beginOf 44 = .ok (.ireturn, 1) := by decide +kernel
theorem dX8_findAhead_0 : decode cX8_findAhead 0 = .ok (.iconst 0, 1) := by decide +kernel
theorem dX8_findAhead_1 : decode cX8_findAhead 1 = .ok (.istore_n 1, 1) := by decide +kernel
theorem dX8_findAhead_2 : decode cX8_findAhead 2 = .ok (.iload_n 1, 1) := by decide +kernel
theorem dX8_findAhead_3 : decode cX8_findAhead 3 = .ok (.bipush 40, 2) := by decide +kernel
theorem dX8_findAhead_5 : decode cX8_findAhead 5 = .ok (.if_icmp .gt 54, 3) := by decide +kernel
theorem dX8_findAhead_8 : decode cX8_findAhead 8 = .ok (.iconst 1, 1) := by decide +kernel
theorem dX8_findAhead_9 : decode cX8_findAhead 9 = .ok (.istore_n 2, 1) := by decide +kernel
theorem dX8_findAhead_10 : decode cX8_findAhead 10 = .ok (.iconst 0, 1) := by decide +kernel
theorem dX8_findAhead_11 : decode cX8_findAhead 11 = .ok (.istore_n 3, 1) := by decide +kernel
theorem dX8_findAhead_12 : decode cX8_findAhead 12 = .ok (.iload_n 3, 1) := by decide +kernel
theorem dX8_findAhead_13 : decode cX8_findAhead 13 = .ok (.aload_n 0, 1) := by decide +kernel
theorem dX8_findAhead_14 : decode cX8_findAhead 14 = .ok (.getfield 70, 3) := by decide +kernel
theorem dX8_findAhead_17 : decode cX8_findAhead 17 = .ok (.if_icmp .ge 30, 3) := by decide +kernel
theorem dX8_findAhead_20 : decode cX8_findAhead 20 = .ok (.iload_n 2, 1) := by decide +kernel
theorem dX8_findAhead_21 : decode cX8_findAhead 21 = .ok (.ifCond .eq 26, 3) := by decide +kernel
theorem dX8_findAhead_24 : decode cX8_findAhead 24 = .ok (.aload_n 0, 1) := by decide +kernel
theorem dX8_findAhead_25 : decode cX8_findAhead 25 = .ok (.iload_n 3, 1) := by decide +kernel
theorem dX8_findAhead_26 : decode cX8_findAhead 26 = .ok (.iload_n 1, 1) := by decide +kernel
theorem dX8_findAhead_27 : decode cX8_findAhead 27 = .ok (.invokevirtual 214, 3) := by decide +kernel
theorem dX8_findAhead_30 : decode cX8_findAhead 30 = .ok (.bipush (-9), 2) := by decide +kernel
theorem dX8_findAhead_32 : decode cX8_findAhead 32 = .ok (.if_icmp .eq 7, 3) := by decide +kernel
theorem dX8_findAhead_35 : decode cX8_findAhead 35 = .ok (.iconst 1, 1) := by decide +kernel
theorem dX8_findAhead_36 : decode cX8_findAhead 36 = .ok (.goto 4, 3) := by decide +kernel
theorem dX8_findAhead_39 : decode cX8_findAhead 39 = .ok (.iconst 0, 1) := by decide +kernel
theorem dX8_findAhead_40 : decode cX8_findAhead 40 = .ok (.istore_n 2, 1) := by decide +kernel
theorem dX8_findAhead_41 : decode cX8_findAhead 41 = .ok (.iinc 3 1, 3) := by decide +kernel
theorem dX8_findAhead_44 : decode cX8_findAhead 44 = .ok (.goto (-32), 3) := by decide +kernel
theorem dX8_findAhead_47 : decode cX8_findAhead 47 = .ok (.iload_n 2, 1) := by decide +kernel
theorem dX8_findAhead_48 : decode cX8_findAhead 48 = .ok (.ifCond .eq 5, 3) := by decide +kernel
theorem dX8_findAhead_51 : decode cX8_findAhead 51 = .ok (.iload_n 1, 1) := by decide +kernel
theorem dX8_findAhead_52 : decode cX8_findAhead 52 = .ok (.ireturn, 1) := by decide +kernel
theorem dX8_findAhead_53 : decode cX8_findAhead 53 = .ok (.iinc 1 1, 3) := by decide +kernel
theorem dX8_findAhead_56 : decode cX8_findAhead 56 = .ok (.goto (-54), 3) := by decide +kernel
theorem dX8_findAhead_59 : decode cX8_findAhead 59 = .ok (.bipush (-9), 2) := by decide +kernel
theorem dX8_findAhead_61 : decode cX8_findAhead 61 = .ok (.ireturn, 1) := by decide +kernel
theorem dX8_ahead_0 : decode cX8_ahead 0 = .ok (.aload_n 0, 1) := by decide +kernel
theorem dX8_ahead_1 : decode cX8_ahead 1 = .ok (.iconst 0, 1) := by decide +kernel
theorem dX8_ahead_2 : decode cX8_ahead 2 = .ok (.putfield 67, 3) := by decide +kernel
theorem dX8_ahead_5 : decode cX8_ahead 5 = .ok (.aload_n 0, 1) := by decide +kernel
theorem dX8_ahead_6 : decode cX8_ahead 6 = .ok (.getfield 70, 3) := by decide +kernel
theorem dX8_ahead_9 : decode cX8_ahead 9 = .ok (.ifCond .ne 8, 3) := by decide +kernel
theorem dX8_ahead_12 : decode cX8_ahead 12 = .ok (.bipush (-3), 2) := by decide +kernel
theorem dX8_ahead_14 : decode cX8_ahead 14 = .ok (.goto 7, 3) := by decide +kernel
theorem dX8_ahead_17 : decode cX8_ahead 17 = .ok (.aload_n 0, 1) := by decide +kernel
theorem dX8_ahead_18 : decode cX8_ahead 18 = .ok (.invokevirtual 217, 3) := by decide +kernel
theorem dX8_ahead_21 : decode cX8_ahead 21 = .ok (.ireturn, 1) := by decide +kernel
theorem dX8_aheadOf_0 : decode cX8_aheadOf 0 = .ok (.aload_n 0, 1) := by decide +kernel
theorem dX8_aheadOf_1 : decode cX8_aheadOf 1 = .ok (.iconst 0, 1) := by decide +kernel
theorem dX8_aheadOf_2 : decode cX8_aheadOf 2 = .ok (.putfield 67, 3) := by decide +kernel
theorem dX8_aheadOf_5 : decode cX8_aheadOf 5 = .ok (.aload_n 0, 1) := by decide +kernel
theorem dX8_aheadOf_6 : decode cX8_aheadOf 6 = .ok (.iload_n 1, 1) := by decide +kernel
theorem dX8_aheadOf_7 : decode cX8_aheadOf 7 = .ok (.invokevirtual 174, 3) := by decide +kernel
theorem dX8_aheadOf_10 : decode cX8_aheadOf 10 = .ok (.ifCond .eq 5, 3) := by decide +kernel
theorem dX8_aheadOf_13 : decode cX8_aheadOf 13 = .ok (.iconst (-1), 1) := by decide +kernel
theorem dX8_aheadOf_14 : decode cX8_aheadOf 14 = .ok (.ireturn, 1) := by decide +kernel
theorem dX8_aheadOf_15 : decode cX8_aheadOf 15 = .ok (.aload_n 0, 1) := by decide +kernel
theorem dX8_aheadOf_16 : decode cX8_aheadOf 16 = .ok (.invokevirtual 217, 3) := by decide +kernel
theorem dX8_aheadOf_19 : decode cX8_aheadOf 19 = .ok (.istore_n 2, 1) := by decide +kernel
theorem dX8_aheadOf_20 : decode cX8_aheadOf 20 = .ok (.iload_n 2, 1) := by decide +kernel
theorem dX8_aheadOf_21 : decode cX8_aheadOf 21 = .ok (.bipush (-9), 2) := by decide +kernel
theorem dX8_aheadOf_23 : decode cX8_aheadOf 23 = .ok (.if_icmp .ne 8, 3) := by decide +kernel
theorem dX8_aheadOf_26 : decode cX8_aheadOf 26 = .ok (.bipush (-9), 2) := by decide +kernel
theorem dX8_aheadOf_28 : decode cX8_aheadOf 28 = .ok (.goto 9, 3) := by decide +kernel
theorem dX8_aheadOf_31 : decode cX8_aheadOf 31 = .ok (.aload_n 0, 1) := by decide +kernel
theorem dX8_aheadOf_32 : decode cX8_aheadOf 32 = .ok (.iload_n 1, 1) := by decide +kernel
theorem dX8_aheadOf_33 : decode cX8_aheadOf 33 = .ok (.iload_n 2, 1) := by decide +kernel
theorem dX8_aheadOf_34 : decode cX8_aheadOf 34 = .ok (.invokevirtual 214, 3) := by decide +kernel
theorem dX8_aheadOf_37 : decode cX8_aheadOf 37 = .ok (.ireturn, 1) := by decide +kernel
theorem dX8_saved_0 : decode cX8_saved 0 = .ok (.aload_n 0, 1) := by decide +kernel
theorem dX8_saved_1 : decode cX8_saved 1 = .ok (.iconst 0, 1) := by decide +kernel
theorem dX8_saved_2 : decode cX8_saved 2 = .ok (.putfield 67, 3) := by decide +kernel
theorem dX8_saved_5 : decode cX8_saved 5 = .ok (.iconst 0, 1) := by decide +kernel
theorem dX8_saved_6 : decode cX8_saved 6 = .ok (.istore_n 1, 1) := by decide +kernel
theorem dX8_saved_7 : decode cX8_saved 7 = .ok (.iconst 0, 1) := by decide +kernel
theorem dX8_saved_8 : decode cX8_saved 8 = .ok (.istore_n 2, 1) := by decide +kernel
theorem dX8_saved_9 : decode cX8_saved 9 = .ok (.iload_n 2, 1) := by decide +kernel
theorem dX8_saved_10 : decode cX8_saved 10 = .ok (.aload_n 0, 1) := by decide +kernel
theorem dX8_saved_11 : decode cX8_saved 11 = .ok (.getfield 70, 3) := by decide +kernel
theorem dX8_saved_14 : decode cX8_saved 14 = .ok (.if_icmp .ge 25, 3) := by decide +kernel
theorem dX8_saved_17 : decode cX8_saved 17 = .ok (.iload_n 1, 1) := by decide +kernel
theorem dX8_saved_18 : decode cX8_saved 18 = .ok (.aload_n 0, 1) := by decide +kernel
theorem dX8_saved_19 : decode cX8_saved 19 = .ok (.iload_n 2, 1) := by decide +kernel
theorem dX8_saved_20 : decode cX8_saved 20 = .ok (.invokevirtual 220, 3) := by decide +kernel
theorem dX8_saved_23 : decode cX8_saved 23 = .ok (.ifCond .eq 7, 3) := by decide +kernel
theorem dX8_saved_26 : decode cX8_saved 26 = .ok (.iconst 1, 1) := by decide +kernel
theorem dX8_saved_27 : decode cX8_saved 27 = .ok (.goto 4, 3) := by decide +kernel
theorem dX8_saved_30 : decode cX8_saved 30 = .ok (.iconst 0, 1) := by decide +kernel
theorem dX8_saved_31 : decode cX8_saved 31 = .ok (.iadd, 1) := by decide +kernel
theorem dX8_saved_32 : decode cX8_saved 32 = .ok (.istore_n 1, 1) := by decide +kernel
theorem dX8_saved_33 : decode cX8_saved 33 = .ok (.iinc 2 1, 3) := by decide +kernel
theorem dX8_saved_36 : decode cX8_saved 36 = .ok (.goto (-27), 3) := by decide +kernel
theorem dX8_saved_39 : decode cX8_saved 39 = .ok (.iconst 0, 1) := by decide +kernel
theorem dX8_saved_40 : decode cX8_saved 40 = .ok (.istore_n 2, 1) := by decide +kernel
theorem dX8_saved_41 : decode cX8_saved 41 = .ok (.iload_n 2, 1) := by decide +kernel
theorem dX8_saved_42 : decode cX8_saved 42 = .ok (.aload_n 0, 1) := by decide +kernel
theorem dX8_saved_43 : decode cX8_saved 43 = .ok (.getfield 145, 3) := by decide +kernel
theorem dX8_saved_46 : decode cX8_saved 46 = .ok (.if_icmp .ge 123, 3) := by decide +kernel
theorem dX8_saved_49 : decode cX8_saved 49 = .ok (.aload_n 0, 1) := by decide +kernel
theorem dX8_saved_50 : decode cX8_saved 50 = .ok (.getfield 29, 3) := by decide +kernel
theorem dX8_saved_53 : decode cX8_saved 53 = .ok (.iload_n 2, 1) := by decide +kernel
theorem dX8_saved_54 : decode cX8_saved 54 = .ok (.iaload, 1) := by decide +kernel
theorem dX8_saved_55 : decode cX8_saved 55 = .ok (.aload_n 0, 1) := by decide +kernel
theorem dX8_saved_56 : decode cX8_saved 56 = .ok (.aload_n 0, 1) := by decide +kernel
theorem dX8_saved_57 : decode cX8_saved 57 = .ok (.getfield 26, 3) := by decide +kernel
theorem dX8_saved_60 : decode cX8_saved 60 = .ok (.iload_n 2, 1) := by decide +kernel
theorem dX8_saved_61 : decode cX8_saved 61 = .ok (.iaload, 1) := by decide +kernel
theorem dX8_saved_62 : decode cX8_saved 62 = .ok (.invokevirtual 171, 3) := by decide +kernel
theorem dX8_saved_65 : decode cX8_saved 65 = .ok (.isub, 1) := by decide +kernel
theorem dX8_saved_66 : decode cX8_saved 66 = .ok (.istore_n 3, 1) := by decide +kernel
theorem dX8_saved_67 : decode cX8_saved 67 = .ok (.iconst 0, 1) := by decide +kernel
theorem dX8_saved_68 : decode cX8_saved 68 = .ok (.istore 4, 2) := by decide +kernel
theorem dX8_saved_70 : decode cX8_saved 70 = .ok (.iload 4, 2) := by decide +kernel
theorem dX8_saved_72 : decode cX8_saved 72 = .ok (.aload_n 0, 1) := by decide +kernel
theorem dX8_saved_73 : decode cX8_saved 73 = .ok (.getfield 70, 3) := by decide +kernel
theorem dX8_saved_76 : decode cX8_saved 76 = .ok (.if_icmp .ge 87, 3) := by decide +kernel
theorem dX8_saved_79 : decode cX8_saved 79 = .ok (.aload_n 0, 1) := by decide +kernel
theorem dX8_saved_80 : decode cX8_saved 80 = .ok (.getfield 47, 3) := by decide +kernel
theorem dX8_saved_83 : decode cX8_saved 83 = .ok (.iconst 3, 1) := by decide +kernel
theorem dX8_saved_84 : decode cX8_saved 84 = .ok (.iload 4, 2) := by decide +kernel
theorem dX8_saved_86 : decode cX8_saved 86 = .ok (.imul, 1) := by decide +kernel
theorem dX8_saved_87 : decode cX8_saved 87 = .ok (.iconst 2, 1) := by decide +kernel
theorem dX8_saved_88 : decode cX8_saved 88 = .ok (.iadd, 1) := by decide +kernel
theorem dX8_saved_89 : decode cX8_saved 89 = .ok (.iaload, 1) := by decide +kernel
theorem dX8_saved_90 : decode cX8_saved 90 = .ok (.ifCond .ne 38, 3) := by decide +kernel
theorem dX8_saved_93 : decode cX8_saved 93 = .ok (.aload_n 0, 1) := by decide +kernel
theorem dX8_saved_94 : decode cX8_saved 94 = .ok (.getfield 47, 3) := by decide +kernel
theorem dX8_saved_97 : decode cX8_saved 97 = .ok (.iconst 3, 1) := by decide +kernel
theorem dX8_saved_98 : decode cX8_saved 98 = .ok (.iload 4, 2) := by decide +kernel
theorem dX8_saved_100 : decode cX8_saved 100 = .ok (.imul, 1) := by decide +kernel
theorem dX8_saved_101 : decode cX8_saved 101 = .ok (.iaload, 1) := by decide +kernel
theorem dX8_saved_102 : decode cX8_saved 102 = .ok (.aload_n 0, 1) := by decide +kernel
theorem dX8_saved_103 : decode cX8_saved 103 = .ok (.getfield 26, 3) := by decide +kernel
theorem dX8_saved_106 : decode cX8_saved 106 = .ok (.iload_n 2, 1) := by decide +kernel
theorem dX8_saved_107 : decode cX8_saved 107 = .ok (.iaload, 1) := by decide +kernel
theorem dX8_saved_108 : decode cX8_saved 108 = .ok (.if_icmp .ne 20, 3) := by decide +kernel
theorem dX8_saved_111 : decode cX8_saved 111 = .ok (.aload_n 0, 1) := by decide +kernel
theorem dX8_saved_112 : decode cX8_saved 112 = .ok (.iload 4, 2) := by decide +kernel
theorem dX8_saved_114 : decode cX8_saved 114 = .ok (.invokevirtual 220, 3) := by decide +kernel
theorem dX8_saved_117 : decode cX8_saved 117 = .ok (.ifCond .ne 11, 3) := by decide +kernel
theorem dX8_saved_120 : decode cX8_saved 120 = .ok (.iload_n 3, 1) := by decide +kernel
theorem dX8_saved_121 : decode cX8_saved 121 = .ok (.ifCond .le 7, 3) := by decide +kernel
theorem dX8_saved_124 : decode cX8_saved 124 = .ok (.iconst 1, 1) := by decide +kernel
theorem dX8_saved_125 : decode cX8_saved 125 = .ok (.goto 4, 3) := by decide +kernel
theorem dX8_saved_128 : decode cX8_saved 128 = .ok (.iconst 0, 1) := by decide +kernel
theorem dX8_saved_129 : decode cX8_saved 129 = .ok (.istore 5, 2) := by decide +kernel
theorem dX8_saved_131 : decode cX8_saved 131 = .ok (.iload_n 3, 1) := by decide +kernel
theorem dX8_saved_132 : decode cX8_saved 132 = .ok (.iload 5, 2) := by decide +kernel
theorem dX8_saved_134 : decode cX8_saved 134 = .ok (.ifCond .eq 7, 3) := by decide +kernel
theorem dX8_saved_137 : decode cX8_saved 137 = .ok (.iconst 1, 1) := by decide +kernel
theorem dX8_saved_138 : decode cX8_saved 138 = .ok (.goto 4, 3) := by decide +kernel
theorem dX8_saved_141 : decode cX8_saved 141 = .ok (.iconst 0, 1) := by decide +kernel
theorem dX8_saved_142 : decode cX8_saved 142 = .ok (.isub, 1) := by decide +kernel
theorem dX8_saved_143 : decode cX8_saved 143 = .ok (.istore_n 3, 1) := by decide +kernel
theorem dX8_saved_144 : decode cX8_saved 144 = .ok (.iload_n 1, 1) := by decide +kernel
theorem dX8_saved_145 : decode cX8_saved 145 = .ok (.iload 5, 2) := by decide +kernel
theorem dX8_saved_147 : decode cX8_saved 147 = .ok (.ifCond .eq 7, 3) := by decide +kernel
theorem dX8_saved_150 : decode cX8_saved 150 = .ok (.iconst 1, 1) := by decide +kernel
theorem dX8_saved_151 : decode cX8_saved 151 = .ok (.goto 4, 3) := by decide +kernel
theorem dX8_saved_154 : decode cX8_saved 154 = .ok (.iconst 0, 1) := by decide +kernel
theorem dX8_saved_155 : decode cX8_saved 155 = .ok (.iadd, 1) := by decide +kernel
theorem dX8_saved_156 : decode cX8_saved 156 = .ok (.istore_n 1, 1) := by decide +kernel
theorem dX8_saved_157 : decode cX8_saved 157 = .ok (.iinc 4 1, 3) := by decide +kernel
theorem dX8_saved_160 : decode cX8_saved 160 = .ok (.goto (-90), 3) := by decide +kernel
theorem dX8_saved_163 : decode cX8_saved 163 = .ok (.iinc 2 1, 3) := by decide +kernel
theorem dX8_saved_166 : decode cX8_saved 166 = .ok (.goto (-125), 3) := by decide +kernel
theorem dX8_saved_169 : decode cX8_saved 169 = .ok (.iload_n 1, 1) := by decide +kernel
theorem dX8_saved_170 : decode cX8_saved 170 = .ok (.ireturn, 1) := by decide +kernel
theorem dX8_isSaved_0 : decode cX8_isSaved 0 = .ok (.aload_n 0, 1) := by decide +kernel
theorem dX8_isSaved_1 : decode cX8_isSaved 1 = .ok (.getfield 47, 3) := by decide +kernel
theorem dX8_isSaved_4 : decode cX8_isSaved 4 = .ok (.iconst 3, 1) := by decide +kernel
theorem dX8_isSaved_5 : decode cX8_isSaved 5 = .ok (.iload_n 1, 1) := by decide +kernel
theorem dX8_isSaved_6 : decode cX8_isSaved 6 = .ok (.imul, 1) := by decide +kernel
theorem dX8_isSaved_7 : decode cX8_isSaved 7 = .ok (.iconst 2, 1) := by decide +kernel
theorem dX8_isSaved_8 : decode cX8_isSaved 8 = .ok (.iadd, 1) := by decide +kernel
theorem dX8_isSaved_9 : decode cX8_isSaved 9 = .ok (.iaload, 1) := by decide +kernel
theorem dX8_isSaved_10 : decode cX8_isSaved 10 = .ok (.istore_n 2, 1) := by decide +kernel
theorem dX8_isSaved_11 : decode cX8_isSaved 11 = .ok (.iload_n 2, 1) := by decide +kernel
theorem dX8_isSaved_12 : decode cX8_isSaved 12 = .ok (.ifCond .eq 19, 3) := by decide +kernel
theorem dX8_isSaved_15 : decode cX8_isSaved 15 = .ok (.iload_n 2, 1) := by decide +kernel
theorem dX8_isSaved_16 : decode cX8_isSaved 16 = .ok (.iconst 1, 1) := by decide +kernel
theorem dX8_isSaved_17 : decode cX8_isSaved 17 = .ok (.if_icmp .eq 8, 3) := by decide +kernel
theorem dX8_isSaved_20 : decode cX8_isSaved 20 = .ok (.iload_n 2, 1) := by decide +kernel
theorem dX8_isSaved_21 : decode cX8_isSaved 21 = .ok (.iconst 4, 1) := by decide +kernel
theorem dX8_isSaved_22 : decode cX8_isSaved 22 = .ok (.if_icmp .ne 7, 3) := by decide +kernel
theorem dX8_isSaved_25 : decode cX8_isSaved 25 = .ok (.iconst 1, 1) := by decide +kernel
theorem dX8_isSaved_26 : decode cX8_isSaved 26 = .ok (.goto 4, 3) := by decide +kernel
theorem dX8_isSaved_29 : decode cX8_isSaved 29 = .ok (.iconst 0, 1) := by decide +kernel
theorem dX8_isSaved_30 : decode cX8_isSaved 30 = .ok (.ireturn, 1) := by decide +kernel
theorem dX8_isSaved_31 : decode cX8_isSaved 31 = .ok (.aload_n 0, 1) := by decide +kernel
theorem dX8_isSaved_32 : decode cX8_isSaved 32 = .ok (.iload_n 1, 1) := by decide +kernel
theorem dX8_isSaved_33 : decode cX8_isSaved 33 = .ok (.aload_n 0, 1) := by decide +kernel
theorem dX8_isSaved_34 : decode cX8_isSaved 34 = .ok (.getfield 47, 3) := by decide +kernel
theorem dX8_isSaved_37 : decode cX8_isSaved 37 = .ok (.iconst 3, 1) := by decide +kernel
theorem dX8_isSaved_38 : decode cX8_isSaved 38 = .ok (.iload_n 1, 1) := by decide +kernel
theorem dX8_isSaved_39 : decode cX8_isSaved 39 = .ok (.imul, 1) := by decide +kernel
theorem dX8_isSaved_40 : decode cX8_isSaved 40 = .ok (.iaload, 1) := by decide +kernel
theorem dX8_isSaved_41 : decode cX8_isSaved 41 = .ok (.aload_n 0, 1) := by decide +kernel
theorem dX8_isSaved_42 : decode cX8_isSaved 42 = .ok (.getfield 47, 3) := by decide +kernel
theorem dX8_isSaved_45 : decode cX8_isSaved 45 = .ok (.bipush 15, 2) := by decide +kernel
theorem dX8_isSaved_47 : decode cX8_isSaved 47 = .ok (.iaload, 1) := by decide +kernel
theorem dX8_isSaved_48 : decode cX8_isSaved 48 = .ok (.iconst 1, 1) := by decide +kernel
theorem dX8_isSaved_49 : decode cX8_isSaved 49 = .ok (.aload_n 0, 1) := by decide +kernel
theorem dX8_isSaved_50 : decode cX8_isSaved 50 = .ok (.getfield 139, 3) := by decide +kernel
theorem dX8_isSaved_53 : decode cX8_isSaved 53 = .ok (.invokevirtual 205, 3) := by decide +kernel
theorem dX8_isSaved_56 : decode cX8_isSaved 56 = .ok (.bipush (-9), 2) := by decide +kernel
theorem dX8_isSaved_58 : decode cX8_isSaved 58 = .ok (.if_icmp .ne 33, 3) := by decide +kernel
theorem dX8_isSaved_61 : decode cX8_isSaved 61 = .ok (.aload_n 0, 1) := by decide +kernel
theorem dX8_isSaved_62 : decode cX8_isSaved 62 = .ok (.iload_n 1, 1) := by decide +kernel
theorem dX8_isSaved_63 : decode cX8_isSaved 63 = .ok (.aload_n 0, 1) := by decide +kernel
theorem dX8_isSaved_64 : decode cX8_isSaved 64 = .ok (.getfield 47, 3) := by decide +kernel
theorem dX8_isSaved_67 : decode cX8_isSaved 67 = .ok (.iconst 3, 1) := by decide +kernel
theorem dX8_isSaved_68 : decode cX8_isSaved 68 = .ok (.iload_n 1, 1) := by decide +kernel
theorem dX8_isSaved_69 : decode cX8_isSaved 69 = .ok (.imul, 1) := by decide +kernel
theorem dX8_isSaved_70 : decode cX8_isSaved 70 = .ok (.iaload, 1) := by decide +kernel
theorem dX8_isSaved_71 : decode cX8_isSaved 71 = .ok (.aload_n 0, 1) := by decide +kernel
theorem dX8_isSaved_72 : decode cX8_isSaved 72 = .ok (.getfield 47, 3) := by decide +kernel
theorem dX8_isSaved_75 : decode cX8_isSaved 75 = .ok (.bipush 15, 2) := by decide +kernel
theorem dX8_isSaved_77 : decode cX8_isSaved 77 = .ok (.iaload, 1) := by decide +kernel
theorem dX8_isSaved_78 : decode cX8_isSaved 78 = .ok (.iconst 2, 1) := by decide +kernel
theorem dX8_isSaved_79 : decode cX8_isSaved 79 = .ok (.aload_n 0, 1) := by decide +kernel
theorem dX8_isSaved_80 : decode cX8_isSaved 80 = .ok (.getfield 139, 3) := by decide +kernel
theorem dX8_isSaved_83 : decode cX8_isSaved 83 = .ok (.invokevirtual 205, 3) := by decide +kernel
theorem dX8_isSaved_86 : decode cX8_isSaved 86 = .ok (.bipush (-9), 2) := by decide +kernel
theorem dX8_isSaved_88 : decode cX8_isSaved 88 = .ok (.if_icmp .eq 7, 3) := by decide +kernel
theorem dX8_isSaved_91 : decode cX8_isSaved 91 = .ok (.iconst 1, 1) := by decide +kernel
theorem dX8_isSaved_92 : decode cX8_isSaved 92 = .ok (.goto 4, 3) := by decide +kernel
theorem dX8_isSaved_95 : decode cX8_isSaved 95 = .ok (.iconst 0, 1) := by decide +kernel
theorem dX8_isSaved_96 : decode cX8_isSaved 96 = .ok (.ireturn, 1) := by decide +kernel
theorem dX8_divisor_0 : decode cX8_divisor 0 = .ok (.lload_n 0, 1) := by decide +kernel
theorem dX8_divisor_1 : decode cX8_divisor 1 = .ok (.lstore 4, 2) := by decide +kernel
theorem dX8_divisor_3 : decode cX8_divisor 3 = .ok (.lload_n 2, 1) := by decide +kernel
theorem dX8_divisor_4 : decode cX8_divisor 4 = .ok (.lstore 6, 2) := by decide +kernel
theorem dX8_divisor_6 : decode cX8_divisor 6 = .ok (.lload 6, 2) := by decide +kernel
theorem dX8_divisor_8 : decode cX8_divisor 8 = .ok (.lconst 0, 1) := by decide +kernel
theorem dX8_divisor_9 : decode cX8_divisor 9 = .ok (.lcmp, 1) := by decide +kernel
theorem dX8_divisor_10 : decode cX8_divisor 10 = .ok (.ifCond .eq 21, 3) := by decide +kernel
theorem dX8_divisor_13 : decode cX8_divisor 13 = .ok (.lload 4, 2) := by decide +kernel
theorem dX8_divisor_15 : decode cX8_divisor 15 = .ok (.lload 6, 2) := by decide +kernel
theorem dX8_divisor_17 : decode cX8_divisor 17 = .ok (.lrem, 1) := by decide +kernel
theorem dX8_divisor_18 : decode cX8_divisor 18 = .ok (.lstore 8, 2) := by decide +kernel
theorem dX8_divisor_20 : decode cX8_divisor 20 = .ok (.lload 6, 2) := by decide +kernel
theorem dX8_divisor_22 : decode cX8_divisor 22 = .ok (.lstore 4, 2) := by decide +kernel
theorem dX8_divisor_24 : decode cX8_divisor 24 = .ok (.lload 8, 2) := by decide +kernel
theorem dX8_divisor_26 : decode cX8_divisor 26 = .ok (.lstore 6, 2) := by decide +kernel
theorem dX8_divisor_28 : decode cX8_divisor 28 = .ok (.goto (-22), 3) := by decide +kernel
theorem dX8_divisor_31 : decode cX8_divisor 31 = .ok (.lload 4, 2) := by decide +kernel
theorem dX8_divisor_33 : decode cX8_divisor 33 = .ok (.lreturn, 1) := by decide +kernel
theorem dX8_fraction_0 : decode cX8_fraction 0 = .ok (.lload_n 0, 1) := by decide +kernel
theorem dX8_fraction_1 : decode cX8_fraction 1 = .ok (.lload_n 2, 1) := by decide +kernel
theorem dX8_fraction_2 : decode cX8_fraction 2 = .ok (.invokestatic 223, 3) := by decide +kernel
theorem dX8_fraction_5 : decode cX8_fraction 5 = .ok (.lstore 5, 2) := by decide +kernel
theorem dX8_fraction_7 : decode cX8_fraction 7 = .ok (.iload 4, 2) := by decide +kernel
theorem dX8_fraction_9 : decode cX8_fraction 9 = .ok (.ifCond .eq 10, 3) := by decide +kernel
theorem dX8_fraction_12 : decode cX8_fraction 12 = .ok (.lload_n 0, 1) := by decide +kernel
theorem dX8_fraction_13 : decode cX8_fraction 13 = .ok (.lload 5, 2) := by decide +kernel
theorem dX8_fraction_15 : decode cX8_fraction 15 = .ok (.ldiv, 1) := by decide +kernel
theorem dX8_fraction_16 : decode cX8_fraction 16 = .ok (.goto 7, 3) := by decide +kernel
theorem dX8_fraction_19 : decode cX8_fraction 19 = .ok (.lload_n 2, 1) := by decide +kernel
theorem dX8_fraction_20 : decode cX8_fraction 20 = .ok (.lload 5, 2) := by decide +kernel
theorem dX8_fraction_22 : decode cX8_fraction 22 = .ok (.ldiv, 1) := by decide +kernel
theorem dX8_fraction_23 : decode cX8_fraction 23 = .ok (.l2i, 1) := by decide +kernel
theorem dX8_fraction_24 : decode cX8_fraction 24 = .ok (.ireturn, 1) := by decide +kernel
theorem dX8_noTenths_0 : decode cX8_noTenths 0 = .ok (.iload_n 0, 1) := by decide +kernel
theorem dX8_noTenths_1 : decode cX8_noTenths 1 = .ok (.i2l, 1) := by decide +kernel
theorem dX8_noTenths_2 : decode cX8_noTenths 2 = .ok (.lconst 0, 1) := by decide +kernel
theorem dX8_noTenths_3 : decode cX8_noTenths 3 = .ok (.ldc2_w 227, 3) := by decide +kernel
theorem dX8_noTenths_6 : decode cX8_noTenths 6 = .ok (.invokestatic 73, 3) := by decide +kernel
theorem dX8_noTenths_9 : decode cX8_noTenths 9 = .ok (.ifCond .eq 23, 3) := by decide +kernel
theorem dX8_noTenths_12 : decode cX8_noTenths 12 = .ok (.iload_n 1, 1) := by decide +kernel
theorem dX8_noTenths_13 : decode cX8_noTenths 13 = .ok (.i2l, 1) := by decide +kernel
theorem dX8_noTenths_14 : decode cX8_noTenths 14 = .ok (.lconst 0, 1) := by decide +kernel
theorem dX8_noTenths_15 : decode cX8_noTenths 15 = .ok (.ldc2_w 227, 3) := by decide +kernel
theorem dX8_noTenths_18 : decode cX8_noTenths 18 = .ok (.invokestatic 73, 3) := by decide +kernel
theorem dX8_noTenths_21 : decode cX8_noTenths 21 = .ok (.ifCond .eq 11, 3) := by decide +kernel
theorem dX8_noTenths_24 : decode cX8_noTenths 24 = .ok (.iload_n 0, 1) := by decide +kernel
theorem dX8_noTenths_25 : decode cX8_noTenths 25 = .ok (.iload_n 1, 1) := by decide +kernel
theorem dX8_noTenths_26 : decode cX8_noTenths 26 = .ok (.iadd, 1) := by decide +kernel
theorem dX8_noTenths_27 : decode cX8_noTenths 27 = .ok (.bipush 10, 2) := by decide +kernel
theorem dX8_noTenths_29 : decode cX8_noTenths 29 = .ok (.if_icmp .le 7, 3) := by decide +kernel
theorem dX8_noTenths_32 : decode cX8_noTenths 32 = .ok (.iconst 1, 1) := by decide +kernel
theorem dX8_noTenths_33 : decode cX8_noTenths 33 = .ok (.goto 4, 3) := by decide +kernel
theorem dX8_noTenths_36 : decode cX8_noTenths 36 = .ok (.iconst 0, 1) := by decide +kernel
theorem dX8_noTenths_37 : decode cX8_noTenths 37 = .ok (.ireturn, 1) := by decide +kernel
theorem dX8_channel_0 : decode cX8_channel 0 = .ok (.aload_n 0, 1) := by decide +kernel
theorem dX8_channel_1 : decode cX8_channel 1 = .ok (.iconst 0, 1) := by decide +kernel
theorem dX8_channel_2 : decode cX8_channel 2 = .ok (.putfield 67, 3) := by decide +kernel
theorem dX8_channel_5 : decode cX8_channel 5 = .ok (.iload_n 1, 1) := by decide +kernel
theorem dX8_channel_6 : decode cX8_channel 6 = .ok (.i2l, 1) := by decide +kernel
theorem dX8_channel_7 : decode cX8_channel 7 = .ok (.lconst 1, 1) := by decide +kernel
theorem dX8_channel_8 : decode cX8_channel 8 = .ok (.ldc2_w 90, 3) := by decide +kernel
theorem dX8_channel_11 : decode cX8_channel 11 = .ok (.invokestatic 73, 3) := by decide +kernel
theorem dX8_channel_14 : decode cX8_channel 14 = .ok (.ifCond .eq 37, 3) := by decide +kernel
theorem dX8_channel_17 : decode cX8_channel 17 = .ok (.iload_n 2, 1) := by decide +kernel
theorem dX8_channel_18 : decode cX8_channel 18 = .ok (.i2l, 1) := by decide +kernel
theorem dX8_channel_19 : decode cX8_channel 19 = .ok (.lconst 1, 1) := by decide +kernel
theorem dX8_channel_20 : decode cX8_channel 20 = .ok (.ldc2_w 90, 3) := by decide +kernel
theorem dX8_channel_23 : decode cX8_channel 23 = .ok (.invokestatic 73, 3) := by decide +kernel
theorem dX8_channel_26 : decode cX8_channel 26 = .ok (.ifCond .eq 25, 3) := by decide +kernel
theorem dX8_channel_29 : decode cX8_channel 29 = .ok (.iload_n 3, 1) := by decide +kernel
theorem dX8_channel_30 : decode cX8_channel 30 = .ok (.iload 4, 2) := by decide +kernel
theorem dX8_channel_32 : decode cX8_channel 32 = .ok (.invokestatic 229, 3) := by decide +kernel
theorem dX8_channel_35 : decode cX8_channel 35 = .ok (.ifCond .ne 16, 3) := by decide +kernel
theorem dX8_channel_38 : decode cX8_channel 38 = .ok (.iload 5, 2) := by decide +kernel
theorem dX8_channel_40 : decode cX8_channel 40 = .ok (.i2l, 1) := by decide +kernel
theorem dX8_channel_41 : decode cX8_channel 41 = .ok (.lconst 0, 1) := by decide +kernel
theorem dX8_channel_42 : decode cX8_channel 42 = .ok (.ldc2_w 232, 3) := by decide +kernel
theorem dX8_channel_45 : decode cX8_channel 45 = .ok (.invokestatic 73, 3) := by decide +kernel
theorem dX8_channel_48 : decode cX8_channel 48 = .ok (.ifCond .ne 6, 3) := by decide +kernel
theorem dX8_channel_51 : decode cX8_channel 51 = .ok (.bipush (-2), 2) := by decide +kernel
theorem dX8_channel_53 : decode cX8_channel 53 = .ok (.ireturn, 1) := by decide +kernel
theorem dX8_channel_54 : decode cX8_channel 54 = .ok (.iconst 0, 1) := by decide +kernel
theorem dX8_channel_55 : decode cX8_channel 55 = .ok (.istore 7, 2) := by decide +kernel
theorem dX8_channel_57 : decode cX8_channel 57 = .ok (.iload 7, 2) := by decide +kernel
theorem dX8_channel_59 : decode cX8_channel 59 = .ok (.bipush 10, 2) := by decide +kernel
theorem dX8_channel_61 : decode cX8_channel 61 = .ok (.if_icmp .ge 27, 3) := by decide +kernel
theorem dX8_channel_64 : decode cX8_channel 64 = .ok (.aload_n 0, 1) := by decide +kernel
theorem dX8_channel_65 : decode cX8_channel 65 = .ok (.getfield 60, 3) := by decide +kernel
theorem dX8_channel_68 : decode cX8_channel 68 = .ok (.iload 7, 2) := by decide +kernel
theorem dX8_channel_70 : decode cX8_channel 70 = .ok (.iload 7, 2) := by decide +kernel
theorem dX8_channel_72 : decode cX8_channel 72 = .ok (.iload_n 1, 1) := by decide +kernel
theorem dX8_channel_73 : decode cX8_channel 73 = .ok (.if_icmp .ne 7, 3) := by decide +kernel
theorem dX8_channel_76 : decode cX8_channel 76 = .ok (.lconst 1, 1) := by decide +kernel
theorem dX8_channel_77 : decode cX8_channel 77 = .ok (.goto 4, 3) := by decide +kernel
theorem dX8_channel_80 : decode cX8_channel 80 = .ok (.lconst 0, 1) := by decide +kernel
theorem dX8_channel_81 : decode cX8_channel 81 = .ok (.lastore, 1) := by decide +kernel
theorem dX8_channel_82 : decode cX8_channel 82 = .ok (.iinc 7 1, 3) := by decide +kernel
theorem dX8_channel_85 : decode cX8_channel 85 = .ok (.goto (-28), 3) := by decide +kernel
theorem dX8_channel_88 : decode cX8_channel 88 = .ok (.iconst 0, 1) := by decide +kernel
theorem dX8_channel_89 : decode cX8_channel 89 = .ok (.istore 7, 2) := by decide +kernel
theorem dX8_channel_91 : decode cX8_channel 91 = .ok (.iload 7, 2) := by decide +kernel
theorem dX8_channel_93 : decode cX8_channel 93 = .ok (.iload 5, 2) := by decide +kernel
theorem dX8_channel_95 : decode cX8_channel 95 = .ok (.if_icmp .ge 172, 3) := by decide +kernel
theorem dX8_channel_98 : decode cX8_channel 98 = .ok (.iconst 0, 1) := by decide +kernel
theorem dX8_channel_99 : decode cX8_channel 99 = .ok (.istore 8, 2) := by decide +kernel
theorem dX8_channel_101 : decode cX8_channel 101 = .ok (.iload 8, 2) := by decide +kernel
theorem dX8_channel_103 : decode cX8_channel 103 = .ok (.bipush 10, 2) := by decide +kernel
theorem dX8_channel_105 : decode cX8_channel 105 = .ok (.if_icmp .ge 17, 3) := by decide +kernel
theorem dX8_channel_108 : decode cX8_channel 108 = .ok (.aload_n 0, 1) := by decide +kernel
theorem dX8_channel_109 : decode cX8_channel 109 = .ok (.getfield 64, 3) := by decide +kernel
theorem dX8_channel_112 : decode cX8_channel 112 = .ok (.iload 8, 2) := by decide +kernel
theorem dX8_channel_114 : decode cX8_channel 114 = .ok (.lconst 0, 1) := by decide +kernel
theorem dX8_channel_115 : decode cX8_channel 115 = .ok (.lastore, 1) := by decide +kernel
theorem dX8_channel_116 : decode cX8_channel 116 = .ok (.iinc 8 1, 3) := by decide +kernel
theorem dX8_channel_119 : decode cX8_channel 119 = .ok (.goto (-18), 3) := by decide +kernel
theorem dX8_channel_122 : decode cX8_channel 122 = .ok (.iconst 1, 1) := by decide +kernel
theorem dX8_channel_123 : decode cX8_channel 123 = .ok (.istore 8, 2) := by decide +kernel
theorem dX8_channel_125 : decode cX8_channel 125 = .ok (.iload 8, 2) := by decide +kernel
theorem dX8_channel_127 : decode cX8_channel 127 = .ok (.bipush 8, 2) := by decide +kernel
theorem dX8_channel_129 : decode cX8_channel 129 = .ok (.if_icmp .gt 102, 3) := by decide +kernel
theorem dX8_channel_132 : decode cX8_channel 132 = .ok (.aload_n 0, 1) := by decide +kernel
theorem dX8_channel_133 : decode cX8_channel 133 = .ok (.getfield 64, 3) := by decide +kernel
theorem dX8_channel_136 : decode cX8_channel 136 = .ok (.iload 8, 2) := by decide +kernel
theorem dX8_channel_138 : decode cX8_channel 138 = .ok (.iconst 1, 1) := by decide +kernel
theorem dX8_channel_139 : decode cX8_channel 139 = .ok (.if_icmp .ne 7, 3) := by decide +kernel
theorem dX8_channel_142 : decode cX8_channel 142 = .ok (.iconst 1, 1) := by decide +kernel
theorem dX8_channel_143 : decode cX8_channel 143 = .ok (.goto 7, 3) := by decide +kernel
theorem dX8_channel_146 : decode cX8_channel 146 = .ok (.iload 8, 2) := by decide +kernel
theorem dX8_channel_148 : decode cX8_channel 148 = .ok (.iconst 1, 1) := by decide +kernel
theorem dX8_channel_149 : decode cX8_channel 149 = .ok (.isub, 1) := by decide +kernel
theorem dX8_channel_150 : decode cX8_channel 150 = .ok (.dup2, 1) := by decide +kernel
theorem dX8_channel_151 : decode cX8_channel 151 = .ok (.laload, 1) := by decide +kernel
theorem dX8_channel_152 : decode cX8_channel 152 = .ok (.iload_n 3, 1) := by decide +kernel
theorem dX8_channel_153 : decode cX8_channel 153 = .ok (.i2l, 1) := by decide +kernel
theorem dX8_channel_154 : decode cX8_channel 154 = .ok (.aload_n 0, 1) := by decide +kernel
theorem dX8_channel_155 : decode cX8_channel 155 = .ok (.getfield 60, 3) := by decide +kernel
theorem dX8_channel_158 : decode cX8_channel 158 = .ok (.iload 8, 2) := by decide +kernel
theorem dX8_channel_160 : decode cX8_channel 160 = .ok (.laload, 1) := by decide +kernel
theorem dX8_channel_161 : decode cX8_channel 161 = .ok (.lmul, 1) := by decide +kernel
theorem dX8_channel_162 : decode cX8_channel 162 = .ok (.ladd, 1) := by decide +kernel
theorem dX8_channel_163 : decode cX8_channel 163 = .ok (.lastore, 1) := by decide +kernel
theorem dX8_channel_164 : decode cX8_channel 164 = .ok (.aload_n 0, 1) := by decide +kernel
theorem dX8_channel_165 : decode cX8_channel 165 = .ok (.getfield 64, 3) := by decide +kernel
theorem dX8_channel_168 : decode cX8_channel 168 = .ok (.iload 8, 2) := by decide +kernel
theorem dX8_channel_170 : decode cX8_channel 170 = .ok (.bipush 8, 2) := by decide +kernel
theorem dX8_channel_172 : decode cX8_channel 172 = .ok (.if_icmp .ne 8, 3) := by decide +kernel
theorem dX8_channel_175 : decode cX8_channel 175 = .ok (.bipush 8, 2) := by decide +kernel
theorem dX8_channel_177 : decode cX8_channel 177 = .ok (.goto 7, 3) := by decide +kernel
theorem dX8_channel_180 : decode cX8_channel 180 = .ok (.iload 8, 2) := by decide +kernel
theorem dX8_channel_182 : decode cX8_channel 182 = .ok (.iconst 1, 1) := by decide +kernel
theorem dX8_channel_183 : decode cX8_channel 183 = .ok (.iadd, 1) := by decide +kernel
theorem dX8_channel_184 : decode cX8_channel 184 = .ok (.dup2, 1) := by decide +kernel
theorem dX8_channel_185 : decode cX8_channel 185 = .ok (.laload, 1) := by decide +kernel
theorem dX8_channel_186 : decode cX8_channel 186 = .ok (.iload 4, 2) := by decide +kernel
theorem dX8_channel_188 : decode cX8_channel 188 = .ok (.i2l, 1) := by decide +kernel
theorem dX8_channel_189 : decode cX8_channel 189 = .ok (.aload_n 0, 1) := by decide +kernel
theorem dX8_channel_190 : decode cX8_channel 190 = .ok (.getfield 60, 3) := by decide +kernel
theorem dX8_channel_193 : decode cX8_channel 193 = .ok (.iload 8, 2) := by decide +kernel
theorem dX8_channel_195 : decode cX8_channel 195 = .ok (.laload, 1) := by decide +kernel
theorem dX8_channel_196 : decode cX8_channel 196 = .ok (.lmul, 1) := by decide +kernel
theorem dX8_channel_197 : decode cX8_channel 197 = .ok (.ladd, 1) := by decide +kernel
theorem dX8_channel_198 : decode cX8_channel 198 = .ok (.lastore, 1) := by decide +kernel
theorem dX8_channel_199 : decode cX8_channel 199 = .ok (.aload_n 0, 1) := by decide +kernel
theorem dX8_channel_200 : decode cX8_channel 200 = .ok (.getfield 64, 3) := by decide +kernel
theorem dX8_channel_203 : decode cX8_channel 203 = .ok (.iload 8, 2) := by decide +kernel
theorem dX8_channel_205 : decode cX8_channel 205 = .ok (.dup2, 1) := by decide +kernel
theorem dX8_channel_206 : decode cX8_channel 206 = .ok (.laload, 1) := by decide +kernel
theorem dX8_channel_207 : decode cX8_channel 207 = .ok (.bipush 10, 2) := by decide +kernel
theorem dX8_channel_209 : decode cX8_channel 209 = .ok (.iload_n 3, 1) := by decide +kernel
theorem dX8_channel_210 : decode cX8_channel 210 = .ok (.isub, 1) := by decide +kernel
theorem dX8_channel_211 : decode cX8_channel 211 = .ok (.iload 4, 2) := by decide +kernel
theorem dX8_channel_213 : decode cX8_channel 213 = .ok (.isub, 1) := by decide +kernel
theorem dX8_channel_214 : decode cX8_channel 214 = .ok (.i2l, 1) := by decide +kernel
theorem dX8_channel_215 : decode cX8_channel 215 = .ok (.aload_n 0, 1) := by decide +kernel
theorem dX8_channel_216 : decode cX8_channel 216 = .ok (.getfield 60, 3) := by decide +kernel
theorem dX8_channel_219 : decode cX8_channel 219 = .ok (.iload 8, 2) := by decide +kernel
theorem dX8_channel_221 : decode cX8_channel 221 = .ok (.laload, 1) := by decide +kernel
theorem dX8_channel_222 : decode cX8_channel 222 = .ok (.lmul, 1) := by decide +kernel
theorem dX8_channel_223 : decode cX8_channel 223 = .ok (.ladd, 1) := by decide +kernel
theorem dX8_channel_224 : decode cX8_channel 224 = .ok (.lastore, 1) := by decide +kernel
theorem dX8_channel_225 : decode cX8_channel 225 = .ok (.iinc 8 1, 3) := by decide +kernel
theorem dX8_channel_228 : decode cX8_channel 228 = .ok (.goto (-103), 3) := by decide +kernel
theorem dX8_channel_231 : decode cX8_channel 231 = .ok (.iconst 0, 1) := by decide +kernel
theorem dX8_channel_232 : decode cX8_channel 232 = .ok (.istore 8, 2) := by decide +kernel
theorem dX8_channel_234 : decode cX8_channel 234 = .ok (.iload 8, 2) := by decide +kernel
theorem dX8_channel_236 : decode cX8_channel 236 = .ok (.bipush 10, 2) := by decide +kernel
theorem dX8_channel_238 : decode cX8_channel 238 = .ok (.if_icmp .ge 23, 3) := by decide +kernel
theorem dX8_channel_241 : decode cX8_channel 241 = .ok (.aload_n 0, 1) := by decide +kernel
theorem dX8_channel_242 : decode cX8_channel 242 = .ok (.getfield 60, 3) := by decide +kernel
theorem dX8_channel_245 : decode cX8_channel 245 = .ok (.iload 8, 2) := by decide +kernel
theorem dX8_channel_247 : decode cX8_channel 247 = .ok (.aload_n 0, 1) := by decide +kernel
theorem dX8_channel_248 : decode cX8_channel 248 = .ok (.getfield 64, 3) := by decide +kernel
theorem dX8_channel_251 : decode cX8_channel 251 = .ok (.iload 8, 2) := by decide +kernel
theorem dX8_channel_253 : decode cX8_channel 253 = .ok (.laload, 1) := by decide +kernel
theorem dX8_channel_254 : decode cX8_channel 254 = .ok (.lastore, 1) := by decide +kernel
theorem dX8_channel_255 : decode cX8_channel 255 = .ok (.iinc 8 1, 3) := by decide +kernel
theorem dX8_channel_258 : decode cX8_channel 258 = .ok (.goto (-24), 3) := by decide +kernel
theorem dX8_channel_261 : decode cX8_channel 261 = .ok (.iinc 7 1, 3) := by decide +kernel
theorem dX8_channel_264 : decode cX8_channel 264 = .ok (.goto (-173), 3) := by decide +kernel
theorem dX8_channel_267 : decode cX8_channel 267 = .ok (.aload_n 0, 1) := by decide +kernel
theorem dX8_channel_268 : decode cX8_channel 268 = .ok (.getfield 60, 3) := by decide +kernel
theorem dX8_channel_271 : decode cX8_channel 271 = .ok (.iload_n 2, 1) := by decide +kernel
theorem dX8_channel_272 : decode cX8_channel 272 = .ok (.laload, 1) := by decide +kernel
theorem dX8_channel_273 : decode cX8_channel 273 = .ok (.iload 5, 2) := by decide +kernel
theorem dX8_channel_275 : decode cX8_channel 275 = .ok (.invokestatic 211, 3) := by decide +kernel
theorem dX8_channel_278 : decode cX8_channel 278 = .ok (.i2l, 1) := by decide +kernel
theorem dX8_channel_279 : decode cX8_channel 279 = .ok (.iload 6, 2) := by decide +kernel
theorem dX8_channel_281 : decode cX8_channel 281 = .ok (.invokestatic 234, 3) := by decide +kernel
theorem dX8_channel_284 : decode cX8_channel 284 = .ok (.ireturn, 1) := by decide +kernel
theorem dX8_sticks_0 : decode cX8_sticks 0 = .ok (.aload_n 0, 1) := by decide +kernel
theorem dX8_sticks_1 : decode cX8_sticks 1 = .ok (.iconst 0, 1) := by decide +kernel
theorem dX8_sticks_2 : decode cX8_sticks 2 = .ok (.putfield 67, 3) := by decide +kernel
theorem dX8_sticks_5 : decode cX8_sticks 5 = .ok (.iload_n 1, 1) := by decide +kernel
theorem dX8_sticks_6 : decode cX8_sticks 6 = .ok (.i2l, 1) := by decide +kernel
theorem dX8_sticks_7 : decode cX8_sticks 7 = .ok (.lconst 1, 1) := by decide +kernel
theorem dX8_sticks_8 : decode cX8_sticks 8 = .ok (.ldc2_w 238, 3) := by decide +kernel
theorem dX8_sticks_11 : decode cX8_sticks 11 = .ok (.invokestatic 73, 3) := by decide +kernel
theorem dX8_sticks_14 : decode cX8_sticks 14 = .ok (.ifCond .eq 27, 3) := by decide +kernel
theorem dX8_sticks_17 : decode cX8_sticks 17 = .ok (.iload_n 2, 1) := by decide +kernel
theorem dX8_sticks_18 : decode cX8_sticks 18 = .ok (.i2l, 1) := by decide +kernel
theorem dX8_sticks_19 : decode cX8_sticks 19 = .ok (.lconst 0, 1) := by decide +kernel
theorem dX8_sticks_20 : decode cX8_sticks 20 = .ok (.ldc2_w 227, 3) := by decide +kernel
theorem dX8_sticks_23 : decode cX8_sticks 23 = .ok (.invokestatic 73, 3) := by decide +kernel
theorem dX8_sticks_26 : decode cX8_sticks 26 = .ok (.ifCond .eq 15, 3) := by decide +kernel
theorem dX8_sticks_29 : decode cX8_sticks 29 = .ok (.iload_n 3, 1) := by decide +kernel
theorem dX8_sticks_30 : decode cX8_sticks 30 = .ok (.i2l, 1) := by decide +kernel
theorem dX8_sticks_31 : decode cX8_sticks 31 = .ok (.lconst 0, 1) := by decide +kernel
theorem dX8_sticks_32 : decode cX8_sticks 32 = .ok (.ldc2_w 77, 3) := by decide +kernel
theorem dX8_sticks_35 : decode cX8_sticks 35 = .ok (.invokestatic 73, 3) := by decide +kernel
theorem dX8_sticks_38 : decode cX8_sticks 38 = .ok (.ifCond .ne 6, 3) := by decide +kernel
theorem dX8_sticks_41 : decode cX8_sticks 41 = .ok (.bipush (-2), 2) := by decide +kernel
theorem dX8_sticks_43 : decode cX8_sticks 43 = .ok (.ireturn, 1) := by decide +kernel
theorem dX8_sticks_44 : decode cX8_sticks 44 = .ok (.iload_n 2, 1) := by decide +kernel
theorem dX8_sticks_45 : decode cX8_sticks 45 = .ok (.iload_n 3, 1) := by decide +kernel
theorem dX8_sticks_46 : decode cX8_sticks 46 = .ok (.if_icmp .ge 7, 3) := by decide +kernel
theorem dX8_sticks_49 : decode cX8_sticks 49 = .ok (.iconst 0, 1) := by decide +kernel
theorem dX8_sticks_50 : decode cX8_sticks 50 = .ok (.goto 6, 3) := by decide +kernel
theorem dX8_sticks_53 : decode cX8_sticks 53 = .ok (.iload_n 2, 1) := by decide +kernel
theorem dX8_sticks_54 : decode cX8_sticks 54 = .ok (.iload_n 3, 1) := by decide +kernel
theorem dX8_sticks_55 : decode cX8_sticks 55 = .ok (.isub, 1) := by decide +kernel
theorem dX8_sticks_56 : decode cX8_sticks 56 = .ok (.istore 5, 2) := by decide +kernel
theorem dX8_sticks_58 : decode cX8_sticks 58 = .ok (.lconst 0, 1) := by decide +kernel
theorem dX8_sticks_59 : decode cX8_sticks 59 = .ok (.lstore 6, 2) := by decide +kernel
theorem dX8_sticks_61 : decode cX8_sticks 61 = .ok (.iconst 0, 1) := by decide +kernel
theorem dX8_sticks_62 : decode cX8_sticks 62 = .ok (.istore 8, 2) := by decide +kernel
theorem dX8_sticks_64 : decode cX8_sticks 64 = .ok (.iload 8, 2) := by decide +kernel
theorem dX8_sticks_66 : decode cX8_sticks 66 = .ok (.iconst 1, 1) := by decide +kernel
theorem dX8_sticks_67 : decode cX8_sticks 67 = .ok (.iload_n 1, 1) := by decide +kernel
theorem dX8_sticks_68 : decode cX8_sticks 68 = .ok (.ishl, 1) := by decide +kernel
theorem dX8_sticks_69 : decode cX8_sticks 69 = .ok (.if_icmp .ge 96, 3) := by decide +kernel
theorem dX8_sticks_72 : decode cX8_sticks 72 = .ok (.lconst 1, 1) := by decide +kernel
theorem dX8_sticks_73 : decode cX8_sticks 73 = .ok (.lstore 9, 2) := by decide +kernel
theorem dX8_sticks_75 : decode cX8_sticks 75 = .ok (.iconst 0, 1) := by decide +kernel
theorem dX8_sticks_76 : decode cX8_sticks 76 = .ok (.istore 11, 2) := by decide +kernel
theorem dX8_sticks_78 : decode cX8_sticks 78 = .ok (.iconst 0, 1) := by decide +kernel
theorem dX8_sticks_79 : decode cX8_sticks 79 = .ok (.istore 12, 2) := by decide +kernel
theorem dX8_sticks_81 : decode cX8_sticks 81 = .ok (.iload 12, 2) := by decide +kernel
theorem dX8_sticks_83 : decode cX8_sticks 83 = .ok (.iload_n 1, 1) := by decide +kernel
theorem dX8_sticks_84 : decode cX8_sticks 84 = .ok (.if_icmp .ge 56, 3) := by decide +kernel
theorem dX8_sticks_87 : decode cX8_sticks 87 = .ok (.lload 9, 2) := by decide +kernel
theorem dX8_sticks_89 : decode cX8_sticks 89 = .ok (.iload 8, 2) := by decide +kernel
theorem dX8_sticks_91 : decode cX8_sticks 91 = .ok (.iload 12, 2) := by decide +kernel
theorem dX8_sticks_93 : decode cX8_sticks 93 = .ok (.invokestatic 92, 3) := by decide +kernel
theorem dX8_sticks_96 : decode cX8_sticks 96 = .ok (.ifCond .eq 9, 3) := by decide +kernel
theorem dX8_sticks_99 : decode cX8_sticks 99 = .ok (.iload 5, 2) := by decide +kernel
theorem dX8_sticks_101 : decode cX8_sticks 101 = .ok (.i2l, 1) := by decide +kernel
theorem dX8_sticks_102 : decode cX8_sticks 102 = .ok (.goto 9, 3) := by decide +kernel
theorem dX8_sticks_105 : decode cX8_sticks 105 = .ok (.bipush 10, 2) := by decide +kernel
theorem dX8_sticks_107 : decode cX8_sticks 107 = .ok (.iload 5, 2) := by decide +kernel
theorem dX8_sticks_109 : decode cX8_sticks 109 = .ok (.isub, 1) := by decide +kernel
theorem dX8_sticks_110 : decode cX8_sticks 110 = .ok (.i2l, 1) := by decide +kernel
theorem dX8_sticks_111 : decode cX8_sticks 111 = .ok (.lmul, 1) := by decide +kernel
theorem dX8_sticks_112 : decode cX8_sticks 112 = .ok (.lstore 9, 2) := by decide +kernel
theorem dX8_sticks_114 : decode cX8_sticks 114 = .ok (.iload 11, 2) := by decide +kernel
theorem dX8_sticks_116 : decode cX8_sticks 116 = .ok (.iload 8, 2) := by decide +kernel
theorem dX8_sticks_118 : decode cX8_sticks 118 = .ok (.iload 12, 2) := by decide +kernel
theorem dX8_sticks_120 : decode cX8_sticks 120 = .ok (.invokestatic 92, 3) := by decide +kernel
theorem dX8_sticks_123 : decode cX8_sticks 123 = .ok (.ifCond .eq 7, 3) := by decide +kernel
theorem dX8_sticks_126 : decode cX8_sticks 126 = .ok (.iconst 1, 1) := by decide +kernel
theorem dX8_sticks_127 : decode cX8_sticks 127 = .ok (.goto 4, 3) := by decide +kernel
theorem dX8_sticks_130 : decode cX8_sticks 130 = .ok (.iconst 0, 1) := by decide +kernel
theorem dX8_sticks_131 : decode cX8_sticks 131 = .ok (.iadd, 1) := by decide +kernel
theorem dX8_sticks_132 : decode cX8_sticks 132 = .ok (.istore 11, 2) := by decide +kernel
theorem dX8_sticks_134 : decode cX8_sticks 134 = .ok (.iinc 12 1, 3) := by decide +kernel
theorem dX8_sticks_137 : decode cX8_sticks 137 = .ok (.goto (-56), 3) := by decide +kernel
theorem dX8_sticks_140 : decode cX8_sticks 140 = .ok (.lload 6, 2) := by decide +kernel
theorem dX8_sticks_142 : decode cX8_sticks 142 = .ok (.iconst 2, 1) := by decide +kernel
theorem dX8_sticks_143 : decode cX8_sticks 143 = .ok (.iload 11, 2) := by decide +kernel
theorem dX8_sticks_145 : decode cX8_sticks 145 = .ok (.imul, 1) := by decide +kernel
theorem dX8_sticks_146 : decode cX8_sticks 146 = .ok (.iload_n 1, 1) := by decide +kernel
theorem dX8_sticks_147 : decode cX8_sticks 147 = .ok (.if_icmp .le 8, 3) := by decide +kernel
theorem dX8_sticks_150 : decode cX8_sticks 150 = .ok (.lload 9, 2) := by decide +kernel
theorem dX8_sticks_152 : decode cX8_sticks 152 = .ok (.goto 4, 3) := by decide +kernel
theorem dX8_sticks_155 : decode cX8_sticks 155 = .ok (.lconst 0, 1) := by decide +kernel
theorem dX8_sticks_156 : decode cX8_sticks 156 = .ok (.ladd, 1) := by decide +kernel
theorem dX8_sticks_157 : decode cX8_sticks 157 = .ok (.lstore 6, 2) := by decide +kernel
theorem dX8_sticks_159 : decode cX8_sticks 159 = .ok (.iinc 8 1, 3) := by decide +kernel
theorem dX8_sticks_162 : decode cX8_sticks 162 = .ok (.goto (-98), 3) := by decide +kernel
theorem dX8_sticks_165 : decode cX8_sticks 165 = .ok (.lload 6, 2) := by decide +kernel
theorem dX8_sticks_167 : decode cX8_sticks 167 = .ok (.iload_n 1, 1) := by decide +kernel
theorem dX8_sticks_168 : decode cX8_sticks 168 = .ok (.invokestatic 211, 3) := by decide +kernel
theorem dX8_sticks_171 : decode cX8_sticks 171 = .ok (.i2l, 1) := by decide +kernel
theorem dX8_sticks_172 : decode cX8_sticks 172 = .ok (.iload 4, 2) := by decide +kernel
theorem dX8_sticks_174 : decode cX8_sticks 174 = .ok (.invokestatic 234, 3) := by decide +kernel
theorem dX8_sticks_177 : decode cX8_sticks 177 = .ok (.ireturn, 1) := by decide +kernel
theorem dX8_wind_0 : decode cX8_wind 0 = .ok (.aload_n 0, 1) := by decide +kernel
theorem dX8_wind_1 : decode cX8_wind 1 = .ok (.iconst 0, 1) := by decide +kernel
theorem dX8_wind_2 : decode cX8_wind 2 = .ok (.putfield 67, 3) := by decide +kernel
theorem dX8_wind_5 : decode cX8_wind 5 = .ok (.aload_n 0, 1) := by decide +kernel
theorem dX8_wind_6 : decode cX8_wind 6 = .ok (.iload_n 1, 1) := by decide +kernel
theorem dX8_wind_7 : decode cX8_wind 7 = .ok (.invokevirtual 174, 3) := by decide +kernel
theorem dX8_wind_10 : decode cX8_wind 10 = .ok (.ifCond .eq 5, 3) := by decide +kernel
theorem dX8_wind_13 : decode cX8_wind 13 = .ok (.iconst (-1), 1) := by decide +kernel
theorem dX8_wind_14 : decode cX8_wind 14 = .ok (.ireturn, 1) := by decide +kernel
theorem dX8_wind_15 : decode cX8_wind 15 = .ok (.iload_n 2, 1) := by decide +kernel
theorem dX8_wind_16 : decode cX8_wind 16 = .ok (.i2l, 1) := by decide +kernel
theorem dX8_wind_17 : decode cX8_wind 17 = .ok (.lconst 0, 1) := by decide +kernel
theorem dX8_wind_18 : decode cX8_wind 18 = .ok (.ldc2_w 177, 3) := by decide +kernel
theorem dX8_wind_21 : decode cX8_wind 21 = .ok (.invokestatic 73, 3) := by decide +kernel
theorem dX8_wind_24 : decode cX8_wind 24 = .ok (.ifCond .eq 12, 3) := by decide +kernel
theorem dX8_wind_27 : decode cX8_wind 27 = .ok (.iload_n 3, 1) := by decide +kernel
theorem dX8_wind_28 : decode cX8_wind 28 = .ok (.iload 4, 2) := by decide +kernel
theorem dX8_wind_30 : decode cX8_wind 30 = .ok (.invokestatic 229, 3) := by decide +kernel
theorem dX8_wind_33 : decode cX8_wind 33 = .ok (.ifCond .eq 6, 3) := by decide +kernel
theorem dX8_wind_36 : decode cX8_wind 36 = .ok (.bipush (-2), 2) := by decide +kernel
theorem dX8_wind_38 : decode cX8_wind 38 = .ok (.ireturn, 1) := by decide +kernel
theorem dX8_wind_39 : decode cX8_wind 39 = .ok (.aload_n 0, 1) := by decide +kernel
theorem dX8_wind_40 : decode cX8_wind 40 = .ok (.iload_n 1, 1) := by decide +kernel
theorem dX8_wind_41 : decode cX8_wind 41 = .ok (.iconst 0, 1) := by decide +kernel
theorem dX8_wind_42 : decode cX8_wind 42 = .ok (.iload_n 2, 1) := by decide +kernel
theorem dX8_wind_43 : decode cX8_wind 43 = .ok (.iconst 1, 1) := by decide +kernel
theorem dX8_wind_44 : decode cX8_wind 44 = .ok (.aload_n 0, 1) := by decide +kernel
theorem dX8_wind_45 : decode cX8_wind 45 = .ok (.getfield 139, 3) := by decide +kernel
theorem dX8_wind_48 : decode cX8_wind 48 = .ok (.ifCond .ne 7, 3) := by decide +kernel
theorem dX8_wind_51 : decode cX8_wind 51 = .ok (.iconst 0, 1) := by decide +kernel
theorem dX8_wind_52 : decode cX8_wind 52 = .ok (.goto 9, 3) := by decide +kernel
theorem dX8_wind_55 : decode cX8_wind 55 = .ok (.aload_n 0, 1) := by decide +kernel
theorem dX8_wind_56 : decode cX8_wind 56 = .ok (.getfield 139, 3) := by decide +kernel
theorem dX8_wind_59 : decode cX8_wind 59 = .ok (.iconst 1, 1) := by decide +kernel
theorem dX8_wind_60 : decode cX8_wind 60 = .ok (.isub, 1) := by decide +kernel
theorem dX8_wind_61 : decode cX8_wind 61 = .ok (.invokevirtual 205, 3) := by decide +kernel
theorem dX8_wind_64 : decode cX8_wind 64 = .ok (.bipush (-9), 2) := by decide +kernel
theorem dX8_wind_66 : decode cX8_wind 66 = .ok (.if_icmp .ne 7, 3) := by decide +kernel
theorem dX8_wind_69 : decode cX8_wind 69 = .ok (.iconst 0, 1) := by decide +kernel
theorem dX8_wind_70 : decode cX8_wind 70 = .ok (.goto 4, 3) := by decide +kernel
theorem dX8_wind_73 : decode cX8_wind 73 = .ok (.iload_n 3, 1) := by decide +kernel
theorem dX8_wind_74 : decode cX8_wind 74 = .ok (.istore 6, 2) := by decide +kernel
theorem dX8_wind_76 : decode cX8_wind 76 = .ok (.aload_n 0, 1) := by decide +kernel
theorem dX8_wind_77 : decode cX8_wind 77 = .ok (.iload_n 1, 1) := by decide +kernel
theorem dX8_wind_78 : decode cX8_wind 78 = .ok (.iconst 0, 1) := by decide +kernel
theorem dX8_wind_79 : decode cX8_wind 79 = .ok (.iload_n 2, 1) := by decide +kernel
theorem dX8_wind_80 : decode cX8_wind 80 = .ok (.iconst 1, 1) := by decide +kernel
theorem dX8_wind_81 : decode cX8_wind 81 = .ok (.aload_n 0, 1) := by decide +kernel
theorem dX8_wind_82 : decode cX8_wind 82 = .ok (.getfield 139, 3) := by decide +kernel
theorem dX8_wind_85 : decode cX8_wind 85 = .ok (.bipush 40, 2) := by decide +kernel
theorem dX8_wind_87 : decode cX8_wind 87 = .ok (.if_icmp .ne 8, 3) := by decide +kernel
theorem dX8_wind_90 : decode cX8_wind 90 = .ok (.bipush 40, 2) := by decide +kernel
theorem dX8_wind_92 : decode cX8_wind 92 = .ok (.goto 9, 3) := by decide +kernel
theorem dX8_wind_95 : decode cX8_wind 95 = .ok (.aload_n 0, 1) := by decide +kernel
theorem dX8_wind_96 : decode cX8_wind 96 = .ok (.getfield 139, 3) := by decide +kernel
theorem dX8_wind_99 : decode cX8_wind 99 = .ok (.iconst 1, 1) := by decide +kernel
theorem dX8_wind_100 : decode cX8_wind 100 = .ok (.iadd, 1) := by decide +kernel
theorem dX8_wind_101 : decode cX8_wind 101 = .ok (.invokevirtual 205, 3) := by decide +kernel
theorem dX8_wind_104 : decode cX8_wind 104 = .ok (.bipush (-9), 2) := by decide +kernel
theorem dX8_wind_106 : decode cX8_wind 106 = .ok (.if_icmp .ne 7, 3) := by decide +kernel
theorem dX8_wind_109 : decode cX8_wind 109 = .ok (.iconst 0, 1) := by decide +kernel
theorem dX8_wind_110 : decode cX8_wind 110 = .ok (.goto 5, 3) := by decide +kernel
theorem dX8_wind_113 : decode cX8_wind 113 = .ok (.iload 4, 2) := by decide +kernel
theorem dX8_wind_115 : decode cX8_wind 115 = .ok (.istore 7, 2) := by decide +kernel
theorem dX8_wind_117 : decode cX8_wind 117 = .ok (.aload_n 0, 1) := by decide +kernel
theorem dX8_wind_118 : decode cX8_wind 118 = .ok (.iload_n 1, 1) := by decide +kernel
theorem dX8_wind_119 : decode cX8_wind 119 = .ok (.iconst 0, 1) := by decide +kernel
theorem dX8_wind_120 : decode cX8_wind 120 = .ok (.iload_n 2, 1) := by decide +kernel
theorem dX8_wind_121 : decode cX8_wind 121 = .ok (.iconst 1, 1) := by decide +kernel
theorem dX8_wind_122 : decode cX8_wind 122 = .ok (.aload_n 0, 1) := by decide +kernel
theorem dX8_wind_123 : decode cX8_wind 123 = .ok (.getfield 139, 3) := by decide +kernel
theorem dX8_wind_126 : decode cX8_wind 126 = .ok (.invokevirtual 205, 3) := by decide +kernel
theorem dX8_wind_129 : decode cX8_wind 129 = .ok (.bipush (-9), 2) := by decide +kernel
theorem dX8_wind_131 : decode cX8_wind 131 = .ok (.if_icmp .ne 7, 3) := by decide +kernel
theorem dX8_wind_134 : decode cX8_wind 134 = .ok (.iconst 0, 1) := by decide +kernel
theorem dX8_wind_135 : decode cX8_wind 135 = .ok (.goto 10, 3) := by decide +kernel
theorem dX8_wind_138 : decode cX8_wind 138 = .ok (.bipush 10, 2) := by decide +kernel
theorem dX8_wind_140 : decode cX8_wind 140 = .ok (.iload_n 3, 1) := by decide +kernel
theorem dX8_wind_141 : decode cX8_wind 141 = .ok (.isub, 1) := by decide +kernel
theorem dX8_wind_142 : decode cX8_wind 142 = .ok (.iload 4, 2) := by decide +kernel
theorem dX8_wind_144 : decode cX8_wind 144 = .ok (.isub, 1) := by decide +kernel
theorem dX8_wind_145 : decode cX8_wind 145 = .ok (.istore 8, 2) := by decide +kernel
theorem dX8_wind_147 : decode cX8_wind 147 = .ok (.iload 6, 2) := by decide +kernel
theorem dX8_wind_149 : decode cX8_wind 149 = .ok (.iload 7, 2) := by decide +kernel
theorem dX8_wind_151 : decode cX8_wind 151 = .ok (.iadd, 1) := by decide +kernel
theorem dX8_wind_152 : decode cX8_wind 152 = .ok (.iload 8, 2) := by decide +kernel
theorem dX8_wind_154 : decode cX8_wind 154 = .ok (.iadd, 1) := by decide +kernel
theorem dX8_wind_155 : decode cX8_wind 155 = .ok (.i2l, 1) := by decide +kernel
theorem dX8_wind_156 : decode cX8_wind 156 = .ok (.ldc2_w 227, 3) := by decide +kernel
theorem dX8_wind_159 : decode cX8_wind 159 = .ok (.iload 5, 2) := by decide +kernel
theorem dX8_wind_161 : decode cX8_wind 161 = .ok (.invokestatic 234, 3) := by decide +kernel
theorem dX8_wind_164 : decode cX8_wind 164 = .ok (.ireturn, 1) := by decide +kernel
theorem dX8_seed_0 : decode cX8_seed 0 = .ok (.aload_n 0, 1) := by decide +kernel
theorem dX8_seed_1 : decode cX8_seed 1 = .ok (.iconst 0, 1) := by decide +kernel
theorem dX8_seed_2 : decode cX8_seed 2 = .ok (.putfield 67, 3) := by decide +kernel
theorem dX8_seed_5 : decode cX8_seed 5 = .ok (.aload_n 0, 1) := by decide +kernel
theorem dX8_seed_6 : decode cX8_seed 6 = .ok (.getfield 240, 3) := by decide +kernel
theorem dX8_seed_9 : decode cX8_seed 9 = .ok (.lstore_n 3, 1) := by decide +kernel
theorem dX8_seed_10 : decode cX8_seed 10 = .ok (.aload_n 0, 1) := by decide +kernel
theorem dX8_seed_11 : decode cX8_seed 11 = .ok (.lload_n 1, 1) := by decide +kernel
theorem dX8_seed_12 : decode cX8_seed 12 = .ok (.putfield 240, 3) := by decide +kernel
theorem dX8_seed_15 : decode cX8_seed 15 = .ok (.lload_n 3, 1) := by decide +kernel
theorem dX8_seed_16 : decode cX8_seed 16 = .ok (.lreturn, 1) := by decide +kernel
theorem dX8_fog_0 : decode cX8_fog 0 = .ok (.aload_n 0, 1) := by decide +kernel
theorem dX8_fog_1 : decode cX8_fog 1 = .ok (.iconst 0, 1) := by decide +kernel
theorem dX8_fog_2 : decode cX8_fog 2 = .ok (.putfield 67, 3) := by decide +kernel
theorem dX8_fog_5 : decode cX8_fog 5 = .ok (.aload_n 0, 1) := by decide +kernel
theorem dX8_fog_6 : decode cX8_fog 6 = .ok (.iload_n 1, 1) := by decide +kernel
theorem dX8_fog_7 : decode cX8_fog 7 = .ok (.invokevirtual 174, 3) := by decide +kernel
theorem dX8_fog_10 : decode cX8_fog 10 = .ok (.ifCond .eq 5, 3) := by decide +kernel
theorem dX8_fog_13 : decode cX8_fog 13 = .ok (.iconst (-1), 1) := by decide +kernel
theorem dX8_fog_14 : decode cX8_fog 14 = .ok (.ireturn, 1) := by decide +kernel
theorem dX8_fog_15 : decode cX8_fog 15 = .ok (.iload_n 2, 1) := by decide +kernel
theorem dX8_fog_16 : decode cX8_fog 16 = .ok (.i2l, 1) := by decide +kernel
theorem dX8_fog_17 : decode cX8_fog 17 = .ok (.lconst 0, 1) := by decide +kernel
theorem dX8_fog_18 : decode cX8_fog 18 = .ok (.ldc2_w 177, 3) := by decide +kernel
theorem dX8_fog_21 : decode cX8_fog 21 = .ok (.invokestatic 73, 3) := by decide +kernel
theorem dX8_fog_24 : decode cX8_fog 24 = .ok (.ifCond .eq 23, 3) := by decide +kernel
theorem dX8_fog_27 : decode cX8_fog 27 = .ok (.iload_n 3, 1) := by decide +kernel
theorem dX8_fog_28 : decode cX8_fog 28 = .ok (.i2l, 1) := by decide +kernel
theorem dX8_fog_29 : decode cX8_fog 29 = .ok (.lconst 1, 1) := by decide +kernel
theorem dX8_fog_30 : decode cX8_fog 30 = .ok (.ldc2_w 244, 3) := by decide +kernel
theorem dX8_fog_33 : decode cX8_fog 33 = .ok (.invokestatic 73, 3) := by decide +kernel
theorem dX8_fog_36 : decode cX8_fog 36 = .ok (.ifCond .eq 11, 3) := by decide +kernel
theorem dX8_fog_39 : decode cX8_fog 39 = .ok (.iload_n 2, 1) := by decide +kernel
theorem dX8_fog_40 : decode cX8_fog 40 = .ok (.iload_n 3, 1) := by decide +kernel
theorem dX8_fog_41 : decode cX8_fog 41 = .ok (.iadd, 1) := by decide +kernel
theorem dX8_fog_42 : decode cX8_fog 42 = .ok (.bipush 40, 2) := by decide +kernel
theorem dX8_fog_44 : decode cX8_fog 44 = .ok (.if_icmp .le 6, 3) := by decide +kernel
theorem dX8_fog_47 : decode cX8_fog 47 = .ok (.bipush (-2), 2) := by decide +kernel
theorem dX8_fog_49 : decode cX8_fog 49 = .ok (.ireturn, 1) := by decide +kernel
theorem dX8_fog_50 : decode cX8_fog 50 = .ok (.aload_n 0, 1) := by decide +kernel
theorem dX8_fog_51 : decode cX8_fog 51 = .ok (.aload_n 0, 1) := by decide +kernel
theorem dX8_fog_52 : decode cX8_fog 52 = .ok (.getfield 139, 3) := by decide +kernel
theorem dX8_fog_55 : decode cX8_fog 55 = .ok (.putfield 182, 3) := by decide +kernel
theorem dX8_fog_58 : decode cX8_fog 58 = .ok (.aload_n 0, 1) := by decide +kernel
theorem dX8_fog_59 : decode cX8_fog 59 = .ok (.iconst 0, 1) := by decide +kernel
theorem dX8_fog_60 : decode cX8_fog 60 = .ok (.putfield 179, 3) := by decide +kernel
theorem dX8_fog_63 : decode cX8_fog 63 = .ok (.aload_n 0, 1) := by decide +kernel
theorem dX8_fog_64 : decode cX8_fog 64 = .ok (.iconst 0, 1) := by decide +kernel
theorem dX8_fog_65 : decode cX8_fog 65 = .ok (.putfield 193, 3) := by decide +kernel
theorem dX8_fog_68 : decode cX8_fog 68 = .ok (.iconst 0, 1) := by decide +kernel
theorem dX8_fog_69 : decode cX8_fog 69 = .ok (.istore 4, 2) := by decide +kernel
theorem dX8_fog_71 : decode cX8_fog 71 = .ok (.iload 4, 2) := by decide +kernel
theorem dX8_fog_73 : decode cX8_fog 73 = .ok (.iload_n 3, 1) := by decide +kernel
theorem dX8_fog_74 : decode cX8_fog 74 = .ok (.if_icmp .ge 62, 3) := by decide +kernel
theorem dX8_fog_77 : decode cX8_fog 77 = .ok (.aload_n 0, 1) := by decide +kernel
theorem dX8_fog_78 : decode cX8_fog 78 = .ok (.getfield 193, 3) := by decide +kernel
theorem dX8_fog_81 : decode cX8_fog 81 = .ok (.ifCond .ne 55, 3) := by decide +kernel
theorem dX8_fog_84 : decode cX8_fog 84 = .ok (.aload_n 0, 1) := by decide +kernel
theorem dX8_fog_85 : decode cX8_fog 85 = .ok (.aload_n 0, 1) := by decide +kernel
theorem dX8_fog_86 : decode cX8_fog 86 = .ok (.getfield 240, 3) := by decide +kernel
theorem dX8_fog_89 : decode cX8_fog 89 = .ok (.ldc2_w 246, 3) := by decide +kernel
theorem dX8_fog_92 : decode cX8_fog 92 = .ok (.lmul, 1) := by decide +kernel
theorem dX8_fog_93 : decode cX8_fog 93 = .ok (.ldc2_w 248, 3) := by decide +kernel
theorem dX8_fog_96 : decode cX8_fog 96 = .ok (.ladd, 1) := by decide +kernel
theorem dX8_fog_97 : decode cX8_fog 97 = .ok (.putfield 240, 3) := by decide +kernel
theorem dX8_fog_100 : decode cX8_fog 100 = .ok (.aload_n 0, 1) := by decide +kernel
theorem dX8_fog_101 : decode cX8_fog 101 = .ok (.iload_n 1, 1) := by decide +kernel
theorem dX8_fog_102 : decode cX8_fog 102 = .ok (.aload_n 0, 1) := by decide +kernel
theorem dX8_fog_103 : decode cX8_fog 103 = .ok (.getfield 240, 3) := by decide +kernel
theorem dX8_fog_106 : decode cX8_fog 106 = .ok (.bipush 33, 2) := by decide +kernel
theorem dX8_fog_108 : decode cX8_fog 108 = .ok (.lushr, 1) := by decide +kernel
theorem dX8_fog_109 : decode cX8_fog 109 = .ok (.ldc2_w 250, 3) := by decide +kernel
theorem dX8_fog_112 : decode cX8_fog 112 = .ok (.lrem, 1) := by decide +kernel
theorem dX8_fog_113 : decode cX8_fog 113 = .ok (.lconst 0, 1) := by decide +kernel
theorem dX8_fog_114 : decode cX8_fog 114 = .ok (.lcmp, 1) := by decide +kernel
theorem dX8_fog_115 : decode cX8_fog 115 = .ok (.ifCond .ne 7, 3) := by decide +kernel
theorem dX8_fog_118 : decode cX8_fog 118 = .ok (.iconst 2, 1) := by decide +kernel
theorem dX8_fog_119 : decode cX8_fog 119 = .ok (.goto 4, 3) := by decide +kernel
theorem dX8_fog_122 : decode cX8_fog 122 = .ok (.iconst 1, 1) := by decide +kernel
theorem dX8_fog_123 : decode cX8_fog 123 = .ok (.iload_n 2, 1) := by decide +kernel
theorem dX8_fog_124 : decode cX8_fog 124 = .ok (.iload 4, 2) := by decide +kernel
theorem dX8_fog_126 : decode cX8_fog 126 = .ok (.iadd, 1) := by decide +kernel
theorem dX8_fog_127 : decode cX8_fog 127 = .ok (.invokevirtual 201, 3) := by decide +kernel
theorem dX8_fog_130 : decode cX8_fog 130 = .ok (.iinc 4 1, 3) := by decide +kernel
theorem dX8_fog_133 : decode cX8_fog 133 = .ok (.goto (-62), 3) := by decide +kernel
theorem dX8_fog_136 : decode cX8_fog 136 = .ok (.aload_n 0, 1) := by decide +kernel
theorem dX8_fog_137 : decode cX8_fog 137 = .ok (.getfield 193, 3) := by decide +kernel
theorem dX8_fog_140 : decode cX8_fog 140 = .ok (.iconst 2, 1) := by decide +kernel
theorem dX8_fog_141 : decode cX8_fog 141 = .ok (.if_icmp .eq 11, 3) := by decide +kernel
theorem dX8_fog_144 : decode cX8_fog 144 = .ok (.aload_n 0, 1) := by decide +kernel
theorem dX8_fog_145 : decode cX8_fog 145 = .ok (.getfield 193, 3) := by decide +kernel
theorem dX8_fog_148 : decode cX8_fog 148 = .ok (.iconst 3, 1) := by decide +kernel
theorem dX8_fog_149 : decode cX8_fog 149 = .ok (.if_icmp .ne 8, 3) := by decide +kernel
theorem dX8_fog_152 : decode cX8_fog 152 = .ok (.bipush (-9), 2) := by decide +kernel
theorem dX8_fog_154 : decode cX8_fog 154 = .ok (.goto 7, 3) := by decide +kernel
theorem dX8_fog_157 : decode cX8_fog 157 = .ok (.aload_n 0, 1) := by decide +kernel
theorem dX8_fog_158 : decode cX8_fog 158 = .ok (.getfield 179, 3) := by decide +kernel
theorem dX8_fog_161 : decode cX8_fog 161 = .ok (.ireturn, 1) := by decide +kernel
theorem dX8_keep_0 : decode cX8_keep 0 = .ok (.aload_n 0, 1) := by decide +kernel
theorem dX8_keep_1 : decode cX8_keep 1 = .ok (.iconst 0, 1) := by decide +kernel
theorem dX8_keep_2 : decode cX8_keep 2 = .ok (.putfield 67, 3) := by decide +kernel
theorem dX8_keep_5 : decode cX8_keep 5 = .ok (.iload_n 1, 1) := by decide +kernel
theorem dX8_keep_6 : decode cX8_keep 6 = .ok (.i2l, 1) := by decide +kernel
theorem dX8_keep_7 : decode cX8_keep 7 = .ok (.lconst 0, 1) := by decide +kernel
theorem dX8_keep_8 : decode cX8_keep 8 = .ok (.lconst 1, 1) := by decide +kernel
theorem dX8_keep_9 : decode cX8_keep 9 = .ok (.invokestatic 73, 3) := by decide +kernel
theorem dX8_keep_12 : decode cX8_keep 12 = .ok (.ifCond .ne 5, 3) := by decide +kernel
theorem dX8_keep_15 : decode cX8_keep 15 = .ok (.iconst (-1), 1) := by decide +kernel
theorem dX8_keep_16 : decode cX8_keep 16 = .ok (.ireturn, 1) := by decide +kernel
theorem dX8_keep_17 : decode cX8_keep 17 = .ok (.aload_n 0, 1) := by decide +kernel
theorem dX8_keep_18 : decode cX8_keep 18 = .ok (.getfield 56, 3) := by decide +kernel
theorem dX8_keep_21 : decode cX8_keep 21 = .ok (.iload_n 1, 1) := by decide +kernel
theorem dX8_keep_22 : decode cX8_keep 22 = .ok (.iconst 1, 1) := by decide +kernel
theorem dX8_keep_23 : decode cX8_keep 23 = .ok (.bastore, 1) := by decide +kernel
theorem dX8_keep_24 : decode cX8_keep 24 = .ok (.iconst 0, 1) := by decide +kernel
theorem dX8_keep_25 : decode cX8_keep 25 = .ok (.istore_n 2, 1) := by decide +kernel
theorem dX8_keep_26 : decode cX8_keep 26 = .ok (.iload_n 2, 1) := by decide +kernel
theorem dX8_keep_27 : decode cX8_keep 27 = .ok (.bipush 16, 2) := by decide +kernel
theorem dX8_keep_29 : decode cX8_keep 29 = .ok (.if_icmp .ge 26, 3) := by decide +kernel
theorem dX8_keep_32 : decode cX8_keep 32 = .ok (.aload_n 0, 1) := by decide +kernel
theorem dX8_keep_33 : decode cX8_keep 33 = .ok (.getfield 53, 3) := by decide +kernel
theorem dX8_keep_36 : decode cX8_keep 36 = .ok (.bipush 16, 2) := by decide +kernel
theorem dX8_keep_38 : decode cX8_keep 38 = .ok (.iload_n 1, 1) := by decide +kernel
theorem dX8_keep_39 : decode cX8_keep 39 = .ok (.imul, 1) := by decide +kernel
theorem dX8_keep_40 : decode cX8_keep 40 = .ok (.iload_n 2, 1) := by decide +kernel
theorem dX8_keep_41 : decode cX8_keep 41 = .ok (.iadd, 1) := by decide +kernel
theorem dX8_keep_42 : decode cX8_keep 42 = .ok (.aload_n 0, 1) := by decide +kernel
theorem dX8_keep_43 : decode cX8_keep 43 = .ok (.getfield 47, 3) := by decide +kernel
theorem dX8_keep_46 : decode cX8_keep 46 = .ok (.iload_n 2, 1) := by decide +kernel
theorem dX8_keep_47 : decode cX8_keep 47 = .ok (.iaload, 1) := by decide +kernel
theorem dX8_keep_48 : decode cX8_keep 48 = .ok (.iastore, 1) := by decide +kernel
theorem dX8_keep_49 : decode cX8_keep 49 = .ok (.iinc 2 1, 3) := by decide +kernel
theorem dX8_keep_52 : decode cX8_keep 52 = .ok (.goto (-26), 3) := by decide +kernel
theorem dX8_keep_55 : decode cX8_keep 55 = .ok (.aload_n 0, 1) := by decide +kernel
theorem dX8_keep_56 : decode cX8_keep 56 = .ok (.getfield 47, 3) := by decide +kernel
theorem dX8_keep_59 : decode cX8_keep 59 = .ok (.bipush 15, 2) := by decide +kernel
theorem dX8_keep_61 : decode cX8_keep 61 = .ok (.iaload, 1) := by decide +kernel
theorem dX8_keep_62 : decode cX8_keep 62 = .ok (.ireturn, 1) := by decide +kernel
theorem dX8_again_0 : decode cX8_again 0 = .ok (.aload_n 0, 1) := by decide +kernel
theorem dX8_again_1 : decode cX8_again 1 = .ok (.iconst 0, 1) := by decide +kernel
theorem dX8_again_2 : decode cX8_again 2 = .ok (.putfield 67, 3) := by decide +kernel
theorem dX8_again_5 : decode cX8_again 5 = .ok (.iload_n 1, 1) := by decide +kernel
theorem dX8_again_6 : decode cX8_again 6 = .ok (.i2l, 1) := by decide +kernel
theorem dX8_again_7 : decode cX8_again 7 = .ok (.lconst 0, 1) := by decide +kernel
theorem dX8_again_8 : decode cX8_again 8 = .ok (.lconst 1, 1) := by decide +kernel
theorem dX8_again_9 : decode cX8_again 9 = .ok (.invokestatic 73, 3) := by decide +kernel
theorem dX8_again_12 : decode cX8_again 12 = .ok (.ifCond .ne 5, 3) := by decide +kernel
theorem dX8_again_15 : decode cX8_again 15 = .ok (.iconst (-1), 1) := by decide +kernel
theorem dX8_again_16 : decode cX8_again 16 = .ok (.ireturn, 1) := by decide +kernel
theorem dX8_again_17 : decode cX8_again 17 = .ok (.aload_n 0, 1) := by decide +kernel
theorem dX8_again_18 : decode cX8_again 18 = .ok (.getfield 56, 3) := by decide +kernel
theorem dX8_again_21 : decode cX8_again 21 = .ok (.iload_n 1, 1) := by decide +kernel
theorem dX8_again_22 : decode cX8_again 22 = .ok (.baload, 1) := by decide +kernel
theorem dX8_again_23 : decode cX8_again 23 = .ok (.ifCond .ne 6, 3) := by decide +kernel
theorem dX8_again_26 : decode cX8_again 26 = .ok (.bipush (-3), 2) := by decide +kernel
theorem dX8_again_28 : decode cX8_again 28 = .ok (.ireturn, 1) := by decide +kernel
theorem dX8_again_29 : decode cX8_again 29 = .ok (.iconst 0, 1) := by decide +kernel
theorem dX8_again_30 : decode cX8_again 30 = .ok (.istore_n 2, 1) := by decide +kernel
theorem dX8_again_31 : decode cX8_again 31 = .ok (.iload_n 2, 1) := by decide +kernel
theorem dX8_again_32 : decode cX8_again 32 = .ok (.bipush 16, 2) := by decide +kernel
theorem dX8_again_34 : decode cX8_again 34 = .ok (.if_icmp .ge 26, 3) := by decide +kernel
theorem dX8_again_37 : decode cX8_again 37 = .ok (.aload_n 0, 1) := by decide +kernel
theorem dX8_again_38 : decode cX8_again 38 = .ok (.getfield 47, 3) := by decide +kernel
theorem dX8_again_41 : decode cX8_again 41 = .ok (.iload_n 2, 1) := by decide +kernel
theorem dX8_again_42 : decode cX8_again 42 = .ok (.aload_n 0, 1) := by decide +kernel
theorem dX8_again_43 : decode cX8_again 43 = .ok (.getfield 53, 3) := by decide +kernel
theorem dX8_again_46 : decode cX8_again 46 = .ok (.bipush 16, 2) := by decide +kernel
theorem dX8_again_48 : decode cX8_again 48 = .ok (.iload_n 1, 1) := by decide +kernel
theorem dX8_again_49 : decode cX8_again 49 = .ok (.imul, 1) := by decide +kernel
theorem dX8_again_50 : decode cX8_again 50 = .ok (.iload_n 2, 1) := by decide +kernel
theorem dX8_again_51 : decode cX8_again 51 = .ok (.iadd, 1) := by decide +kernel
theorem dX8_again_52 : decode cX8_again 52 = .ok (.iaload, 1) := by decide +kernel
theorem dX8_again_53 : decode cX8_again 53 = .ok (.iastore, 1) := by decide +kernel
theorem dX8_again_54 : decode cX8_again 54 = .ok (.iinc 2 1, 3) := by decide +kernel
theorem dX8_again_57 : decode cX8_again 57 = .ok (.goto (-26), 3) := by decide +kernel
theorem dX8_again_60 : decode cX8_again 60 = .ok (.aload_n 0, 1) := by decide +kernel
theorem dX8_again_61 : decode cX8_again 61 = .ok (.iconst 0, 1) := by decide +kernel
theorem dX8_again_62 : decode cX8_again 62 = .ok (.putfield 151, 3) := by decide +kernel
theorem dX8_again_65 : decode cX8_again 65 = .ok (.aload_n 0, 1) := by decide +kernel
theorem dX8_again_66 : decode cX8_again 66 = .ok (.getfield 47, 3) := by decide +kernel
theorem dX8_again_69 : decode cX8_again 69 = .ok (.bipush 15, 2) := by decide +kernel
theorem dX8_again_71 : decode cX8_again 71 = .ok (.iaload, 1) := by decide +kernel
theorem dX8_again_72 : decode cX8_again 72 = .ok (.ireturn, 1) := by decide +kernel
