theorem dX0_init_0 : decode cX0_init 0 = .ok (.aload_n 0, 1) := by decide +kernel
theorem dX0_init_1 : decode cX0_init 1 = .ok (.invokespecial 3, 3) := by decide +kernel
theorem dX0_init_4 : decode cX0_init 4 = .ok (.aload_n 0, 1) := by decide +kernel
theorem dX0_init_5 : decode cX0_init 5 = .ok (.new 9, 3) := by decide +kernel
theorem dX0_init_8 : decode cX0_init 8 = .ok (.dup, 1) := by decide +kernel
theorem dX0_init_9 : decode cX0_init 9 = .ok (.bipush 16, 2) := by decide +kernel
theorem dX0_init_11 : decode cX0_init 11 = .ok (.invokespecial 11, 3) := by decide +kernel
theorem dX0_init_14 : decode cX0_init 14 = .ok (.putfield 14, 3) := by decide +kernel
theorem dX0_init_17 : decode cX0_init 17 = .ok (.return_, 1) := by decide +kernel
theorem dX0_clear_0 : decode cX0_clear 0 = .ok (.aload_n 0, 1) := by decide +kernel
theorem dX0_clear_1 : decode cX0_clear 1 = .ok (.iconst 0, 1) := by decide +kernel
theorem dX0_clear_2 : decode cX0_clear 2 = .ok (.putfield 20, 3) := by decide +kernel
theorem dX0_clear_5 : decode cX0_clear 5 = .ok (.aload_n 0, 1) := by decide +kernel
theorem dX0_clear_6 : decode cX0_clear 6 = .ok (.iconst 0, 1) := by decide +kernel
theorem dX0_clear_7 : decode cX0_clear 7 = .ok (.putfield 24, 3) := by decide +kernel
theorem dX0_clear_10 : decode cX0_clear 10 = .ok (.return_, 1) := by decide +kernel
theorem dX0_remember_0 : decode cX0_remember 0 = .ok (.aload_n 0, 1) := by decide +kernel
theorem dX0_remember_1 : decode cX0_remember 1 = .ok (.getfield 14, 3) := by decide +kernel
theorem dX0_remember_4 : decode cX0_remember 4 = .ok (.aload_n 0, 1) := by decide +kernel
theorem dX0_remember_5 : decode cX0_remember 5 = .ok (.getfield 20, 3) := by decide +kernel
theorem dX0_remember_8 : decode cX0_remember 8 = .ok (.aload_n 1, 1) := by decide +kernel
theorem dX0_remember_9 : decode cX0_remember 9 = .ok (.invokevirtual 27, 3) := by decide +kernel
theorem dX0_remember_12 : decode cX0_remember 12 = .ok (.aload_n 0, 1) := by decide +kernel
theorem dX0_remember_13 : decode cX0_remember 13 = .ok (.aload_n 0, 1) := by decide +kernel
theorem dX0_remember_14 : decode cX0_remember 14 = .ok (.getfield 20, 3) := by decide +kernel
theorem dX0_remember_17 : decode cX0_remember 17 = .ok (.iconst 1, 1) := by decide +kernel
theorem dX0_remember_18 : decode cX0_remember 18 = .ok (.iadd, 1) := by decide +kernel
theorem dX0_remember_19 : decode cX0_remember 19 = .ok (.bipush 16, 2) := by decide +kernel
theorem dX0_remember_21 : decode cX0_remember 21 = .ok (.if_icmp .ge 12, 3) := by decide +kernel
theorem dX0_remember_24 : decode cX0_remember 24 = .ok (.aload_n 0, 1) := by decide +kernel
theorem dX0_remember_25 : decode cX0_remember 25 = .ok (.getfield 20, 3) := by decide +kernel
theorem dX0_remember_28 : decode cX0_remember 28 = .ok (.iconst 1, 1) := by decide +kernel
theorem dX0_remember_29 : decode cX0_remember 29 = .ok (.iadd, 1) := by decide +kernel
theorem dX0_remember_30 : decode cX0_remember 30 = .ok (.goto 4, 3) := by decide +kernel
theorem dX0_remember_33 : decode cX0_remember 33 = .ok (.iconst 0, 1) := by decide +kernel
theorem dX0_remember_34 : decode cX0_remember 34 = .ok (.putfield 20, 3) := by decide +kernel
theorem dX0_remember_37 : decode cX0_remember 37 = .ok (.aload_n 0, 1) := by decide +kernel
theorem dX0_remember_38 : decode cX0_remember 38 = .ok (.getfield 24, 3) := by decide +kernel
theorem dX0_remember_41 : decode cX0_remember 41 = .ok (.bipush 16, 2) := by decide +kernel
theorem dX0_remember_43 : decode cX0_remember 43 = .ok (.if_icmp .ge 13, 3) := by decide +kernel
theorem dX0_remember_46 : decode cX0_remember 46 = .ok (.aload_n 0, 1) := by decide +kernel
theorem dX0_remember_47 : decode cX0_remember 47 = .ok (.dup, 1) := by decide +kernel
theorem dX0_remember_48 : decode cX0_remember 48 = .ok (.getfield 24, 3) := by decide +kernel
theorem dX0_remember_51 : decode cX0_remember 51 = .ok (.iconst 1, 1) := by decide +kernel
theorem dX0_remember_52 : decode cX0_remember 52 = .ok (.iadd, 1) := by decide +kernel
theorem dX0_remember_53 : decode cX0_remember 53 = .ok (.putfield 24, 3) := by decide +kernel
theorem dX0_remember_56 : decode cX0_remember 56 = .ok (.return_, 1) := by decide +kernel
theorem dX0_takeBack_0 : decode cX0_takeBack 0 = .ok (.aload_n 0, 1) := by decide +kernel
theorem dX0_takeBack_1 : decode cX0_takeBack 1 = .ok (.getfield 24, 3) := by decide +kernel
theorem dX0_takeBack_4 : decode cX0_takeBack 4 = .ok (.ifCond .gt 4, 3) := by decide +kernel
theorem dX0_takeBack_7 : decode cX0_takeBack 7 = .ok (.return_, 1) := by decide +kernel
theorem dX0_takeBack_8 : decode cX0_takeBack 8 = .ok (.aload_n 0, 1) := by decide +kernel
theorem dX0_takeBack_9 : decode cX0_takeBack 9 = .ok (.aload_n 0, 1) := by decide +kernel
theorem dX0_takeBack_10 : decode cX0_takeBack 10 = .ok (.getfield 20, 3) := by decide +kernel
theorem dX0_takeBack_13 : decode cX0_takeBack 13 = .ok (.ifCond .le 12, 3) := by decide +kernel
theorem dX0_takeBack_16 : decode cX0_takeBack 16 = .ok (.aload_n 0, 1) := by decide +kernel
theorem dX0_takeBack_17 : decode cX0_takeBack 17 = .ok (.getfield 20, 3) := by decide +kernel
theorem dX0_takeBack_20 : decode cX0_takeBack 20 = .ok (.iconst 1, 1) := by decide +kernel
theorem dX0_takeBack_21 : decode cX0_takeBack 21 = .ok (.isub, 1) := by decide +kernel
theorem dX0_takeBack_22 : decode cX0_takeBack 22 = .ok (.goto 5, 3) := by decide +kernel
theorem dX0_takeBack_25 : decode cX0_takeBack 25 = .ok (.bipush 15, 2) := by decide +kernel
theorem dX0_takeBack_27 : decode cX0_takeBack 27 = .ok (.putfield 20, 3) := by decide +kernel
theorem dX0_takeBack_30 : decode cX0_takeBack 30 = .ok (.aload_n 0, 1) := by decide +kernel
theorem dX0_takeBack_31 : decode cX0_takeBack 31 = .ok (.dup, 1) := by decide +kernel
theorem dX0_takeBack_32 : decode cX0_takeBack 32 = .ok (.getfield 24, 3) := by decide +kernel
theorem dX0_takeBack_35 : decode cX0_takeBack 35 = .ok (.iconst 1, 1) := by decide +kernel
theorem dX0_takeBack_36 : decode cX0_takeBack 36 = .ok (.isub, 1) := by decide +kernel
theorem dX0_takeBack_37 : decode cX0_takeBack 37 = .ok (.putfield 24, 3) := by decide +kernel
theorem dX0_takeBack_40 : decode cX0_takeBack 40 = .ok (.aload_n 0, 1) := by decide +kernel
theorem dX0_takeBack_41 : decode cX0_takeBack 41 = .ok (.getfield 14, 3) := by decide +kernel
theorem dX0_takeBack_44 : decode cX0_takeBack 44 = .ok (.aload_n 0, 1) := by decide +kernel
theorem dX0_takeBack_45 : decode cX0_takeBack 45 = .ok (.getfield 20, 3) := by decide +kernel
theorem dX0_takeBack_48 : decode cX0_takeBack 48 = .ok (.aload_n 1, 1) := by decide +kernel
theorem dX0_takeBack_49 : decode cX0_takeBack 49 = .ok (.invokevirtual 31, 3) := by decide +kernel
theorem dX0_takeBack_52 : decode cX0_takeBack 52 = .ok (.return_, 1) := by decide +kernel
theorem dX1_init_0 : decode cX1_init 0 = .ok (.aload_n 0, 1) := by decide +kernel
theorem dX1_init_1 : decode cX1_init 1 = .ok (.invokespecial 3, 3) := by decide +kernel
theorem dX1_init_4 : decode cX1_init 4 = .ok (.aload_n 0, 1) := by decide +kernel
theorem dX1_init_5 : decode cX1_init 5 = .ok (.bipush 10, 2) := by decide +kernel
theorem dX1_init_7 : decode cX1_init 7 = .ok (.newarray .int, 2) := by decide +kernel
theorem dX1_init_9 : decode cX1_init 9 = .ok (.putfield 9, 3) := by decide +kernel
theorem dX1_init_12 : decode cX1_init 12 = .ok (.aload_n 0, 1) := by decide +kernel
theorem dX1_init_13 : decode cX1_init 13 = .ok (.bipush 10, 2) := by decide +kernel
theorem dX1_init_15 : decode cX1_init 15 = .ok (.newarray .boolean, 2) := by decide +kernel
theorem dX1_init_17 : decode cX1_init 17 = .ok (.putfield 15, 3) := by decide +kernel
theorem dX1_init_20 : decode cX1_init 20 = .ok (.aload_n 0, 1) := by decide +kernel
theorem dX1_init_21 : decode cX1_init 21 = .ok (.bipush 10, 2) := by decide +kernel
theorem dX1_init_23 : decode cX1_init 23 = .ok (.newarray .int, 2) := by decide +kernel
theorem dX1_init_25 : decode cX1_init 25 = .ok (.putfield 19, 3) := by decide +kernel
theorem dX1_init_28 : decode cX1_init 28 = .ok (.aload_n 0, 1) := by decide +kernel
theorem dX1_init_29 : decode cX1_init 29 = .ok (.iconst 5, 1) := by decide +kernel
theorem dX1_init_30 : decode cX1_init 30 = .ok (.newarray .int, 2) := by decide +kernel
theorem dX1_init_32 : decode cX1_init 32 = .ok (.putfield 22, 3) := by decide +kernel
theorem dX1_init_35 : decode cX1_init 35 = .ok (.aload_n 0, 1) := by decide +kernel
theorem dX1_init_36 : decode cX1_init 36 = .ok (.iconst 5, 1) := by decide +kernel
theorem dX1_init_37 : decode cX1_init 37 = .ok (.newarray .int, 2) := by decide +kernel
theorem dX1_init_39 : decode cX1_init 39 = .ok (.putfield 25, 3) := by decide +kernel
theorem dX1_init_42 : decode cX1_init 42 = .ok (.aload_n 0, 1) := by decide +kernel
theorem dX1_init_43 : decode cX1_init 43 = .ok (.iconst 1, 1) := by decide +kernel
theorem dX1_init_44 : decode cX1_init 44 = .ok (.putfield 28, 3) := by decide +kernel
theorem dX1_init_47 : decode cX1_init 47 = .ok (.return_, 1) := by decide +kernel
theorem dX1_clear_0 : decode cX1_clear 0 = .ok (.iconst 0, 1) := by decide +kernel
theorem dX1_clear_1 : decode cX1_clear 1 = .ok (.istore_n 1, 1) := by decide +kernel
theorem dX1_clear_2 : decode cX1_clear 2 = .ok (.iload_n 1, 1) := by decide +kernel
theorem dX1_clear_3 : decode cX1_clear 3 = .ok (.bipush 10, 2) := by decide +kernel
theorem dX1_clear_5 : decode cX1_clear 5 = .ok (.if_icmp .ge 30, 3) := by decide +kernel
theorem dX1_clear_8 : decode cX1_clear 8 = .ok (.aload_n 0, 1) := by decide +kernel
theorem dX1_clear_9 : decode cX1_clear 9 = .ok (.getfield 9, 3) := by decide +kernel
theorem dX1_clear_12 : decode cX1_clear 12 = .ok (.iload_n 1, 1) := by decide +kernel
theorem dX1_clear_13 : decode cX1_clear 13 = .ok (.iconst 0, 1) := by decide +kernel
theorem dX1_clear_14 : decode cX1_clear 14 = .ok (.iastore, 1) := by decide +kernel
theorem dX1_clear_15 : decode cX1_clear 15 = .ok (.aload_n 0, 1) := by decide +kernel
theorem dX1_clear_16 : decode cX1_clear 16 = .ok (.getfield 15, 3) := by decide +kernel
theorem dX1_clear_19 : decode cX1_clear 19 = .ok (.iload_n 1, 1) := by decide +kernel
theorem dX1_clear_20 : decode cX1_clear 20 = .ok (.iconst 0, 1) := by decide +kernel
theorem dX1_clear_21 : decode cX1_clear 21 = .ok (.bastore, 1) := by decide +kernel
theorem dX1_clear_22 : decode cX1_clear 22 = .ok (.aload_n 0, 1) := by decide +kernel
theorem dX1_clear_23 : decode cX1_clear 23 = .ok (.getfield 19, 3) := by decide +kernel
theorem dX1_clear_26 : decode cX1_clear 26 = .ok (.iload_n 1, 1) := by decide +kernel
theorem dX1_clear_27 : decode cX1_clear 27 = .ok (.iconst 0, 1) := by decide +kernel
theorem dX1_clear_28 : decode cX1_clear 28 = .ok (.iastore, 1) := by decide +kernel
theorem dX1_clear_29 : decode cX1_clear 29 = .ok (.iinc 1 1, 3) := by decide +kernel
theorem dX1_clear_32 : decode cX1_clear 32 = .ok (.goto (-30), 3) := by decide +kernel
theorem dX1_clear_35 : decode cX1_clear 35 = .ok (.aload_n 0, 1) := by decide +kernel
theorem dX1_clear_36 : decode cX1_clear 36 = .ok (.iconst 0, 1) := by decide +kernel
theorem dX1_clear_37 : decode cX1_clear 37 = .ok (.putfield 32, 3) := by decide +kernel
theorem dX1_clear_40 : decode cX1_clear 40 = .ok (.aload_n 0, 1) := by decide +kernel
theorem dX1_clear_41 : decode cX1_clear 41 = .ok (.iconst 0, 1) := by decide +kernel
theorem dX1_clear_42 : decode cX1_clear 42 = .ok (.putfield 35, 3) := by decide +kernel
theorem dX1_clear_45 : decode cX1_clear 45 = .ok (.aload_n 0, 1) := by decide +kernel
theorem dX1_clear_46 : decode cX1_clear 46 = .ok (.iconst 0, 1) := by decide +kernel
theorem dX1_clear_47 : decode cX1_clear 47 = .ok (.putfield 38, 3) := by decide +kernel
theorem dX1_clear_50 : decode cX1_clear 50 = .ok (.return_, 1) := by decide +kernel
theorem dX1_setHeight_0 : decode cX1_setHeight 0 = .ok (.iload_n 1, 1) := by decide +kernel
theorem dX1_setHeight_1 : decode cX1_setHeight 1 = .ok (.invokestatic 41, 3) := by decide +kernel
theorem dX1_setHeight_4 : decode cX1_setHeight 4 = .ok (.ifCond .eq 10, 3) := by decide +kernel
theorem dX1_setHeight_7 : decode cX1_setHeight 7 = .ok (.aload_n 0, 1) := by decide +kernel
theorem dX1_setHeight_8 : decode cX1_setHeight 8 = .ok (.getfield 9, 3) := by decide +kernel
theorem dX1_setHeight_11 : decode cX1_setHeight 11 = .ok (.iload_n 1, 1) := by decide +kernel
theorem dX1_setHeight_12 : decode cX1_setHeight 12 = .ok (.iload_n 2, 1) := by decide +kernel
theorem dX1_setHeight_13 : decode cX1_setHeight 13 = .ok (.iastore, 1) := by decide +kernel
theorem dX1_setHeight_14 : decode cX1_setHeight 14 = .ok (.return_, 1) := by decide +kernel
theorem dX1_addWalker_0 : decode cX1_addWalker 0 = .ok (.aload_n 0, 1) := by decide +kernel
theorem dX1_addWalker_1 : decode cX1_addWalker 1 = .ok (.getfield 32, 3) := by decide +kernel
theorem dX1_addWalker_4 : decode cX1_addWalker 4 = .ok (.ifCond .lt 11, 3) := by decide +kernel
theorem dX1_addWalker_7 : decode cX1_addWalker 7 = .ok (.aload_n 0, 1) := by decide +kernel
theorem dX1_addWalker_8 : decode cX1_addWalker 8 = .ok (.getfield 32, 3) := by decide +kernel
theorem dX1_addWalker_11 : decode cX1_addWalker 11 = .ok (.iconst 5, 1) := by decide +kernel
theorem dX1_addWalker_12 : decode cX1_addWalker 12 = .ok (.if_icmp .lt 4, 3) := by decide +kernel
theorem dX1_addWalker_15 : decode cX1_addWalker 15 = .ok (.return_, 1) := by decide +kernel
theorem dX1_addWalker_16 : decode cX1_addWalker 16 = .ok (.aload_n 0, 1) := by decide +kernel
theorem dX1_addWalker_17 : decode cX1_addWalker 17 = .ok (.getfield 22, 3) := by decide +kernel
theorem dX1_addWalker_20 : decode cX1_addWalker 20 = .ok (.aload_n 0, 1) := by decide +kernel
theorem dX1_addWalker_21 : decode cX1_addWalker 21 = .ok (.getfield 32, 3) := by decide +kernel
theorem dX1_addWalker_24 : decode cX1_addWalker 24 = .ok (.iload_n 1, 1) := by decide +kernel
theorem dX1_addWalker_25 : decode cX1_addWalker 25 = .ok (.iastore, 1) := by decide +kernel
theorem dX1_addWalker_26 : decode cX1_addWalker 26 = .ok (.aload_n 0, 1) := by decide +kernel
theorem dX1_addWalker_27 : decode cX1_addWalker 27 = .ok (.getfield 25, 3) := by decide +kernel
theorem dX1_addWalker_30 : decode cX1_addWalker 30 = .ok (.aload_n 0, 1) := by decide +kernel
theorem dX1_addWalker_31 : decode cX1_addWalker 31 = .ok (.getfield 32, 3) := by decide +kernel
theorem dX1_addWalker_34 : decode cX1_addWalker 34 = .ok (.iload_n 2, 1) := by decide +kernel
theorem dX1_addWalker_35 : decode cX1_addWalker 35 = .ok (.iastore, 1) := by decide +kernel
theorem dX1_addWalker_36 : decode cX1_addWalker 36 = .ok (.aload_n 0, 1) := by decide +kernel
theorem dX1_addWalker_37 : decode cX1_addWalker 37 = .ok (.dup, 1) := by decide +kernel
theorem dX1_addWalker_38 : decode cX1_addWalker 38 = .ok (.getfield 32, 3) := by decide +kernel
theorem dX1_addWalker_41 : decode cX1_addWalker 41 = .ok (.iconst 1, 1) := by decide +kernel
theorem dX1_addWalker_42 : decode cX1_addWalker 42 = .ok (.iadd, 1) := by decide +kernel
theorem dX1_addWalker_43 : decode cX1_addWalker 43 = .ok (.putfield 32, 3) := by decide +kernel
theorem dX1_addWalker_46 : decode cX1_addWalker 46 = .ok (.return_, 1) := by decide +kernel
theorem dX1_addTower_0 : decode cX1_addTower 0 = .ok (.iload_n 1, 1) := by decide +kernel
theorem dX1_addTower_1 : decode cX1_addTower 1 = .ok (.invokestatic 41, 3) := by decide +kernel
theorem dX1_addTower_4 : decode cX1_addTower 4 = .ok (.ifCond .ne 4, 3) := by decide +kernel
theorem dX1_addTower_7 : decode cX1_addTower 7 = .ok (.return_, 1) := by decide +kernel
theorem dX1_addTower_8 : decode cX1_addTower 8 = .ok (.aload_n 0, 1) := by decide +kernel
theorem dX1_addTower_9 : decode cX1_addTower 9 = .ok (.getfield 19, 3) := by decide +kernel
theorem dX1_addTower_12 : decode cX1_addTower 12 = .ok (.iload_n 1, 1) := by decide +kernel
theorem dX1_addTower_13 : decode cX1_addTower 13 = .ok (.iload_n 2, 1) := by decide +kernel
theorem dX1_addTower_14 : decode cX1_addTower 14 = .ok (.iastore, 1) := by decide +kernel
theorem dX1_addTower_15 : decode cX1_addTower 15 = .ok (.aload_n 0, 1) := by decide +kernel
theorem dX1_addTower_16 : decode cX1_addTower 16 = .ok (.dup, 1) := by decide +kernel
theorem dX1_addTower_17 : decode cX1_addTower 17 = .ok (.getfield 35, 3) := by decide +kernel
theorem dX1_addTower_20 : decode cX1_addTower 20 = .ok (.iconst 1, 1) := by decide +kernel
theorem dX1_addTower_21 : decode cX1_addTower 21 = .ok (.iadd, 1) := by decide +kernel
theorem dX1_addTower_22 : decode cX1_addTower 22 = .ok (.putfield 35, 3) := by decide +kernel
theorem dX1_addTower_25 : decode cX1_addTower 25 = .ok (.return_, 1) := by decide +kernel
theorem dX1_addSoft_0 : decode cX1_addSoft 0 = .ok (.iload_n 1, 1) := by decide +kernel
theorem dX1_addSoft_1 : decode cX1_addSoft 1 = .ok (.invokestatic 41, 3) := by decide +kernel
theorem dX1_addSoft_4 : decode cX1_addSoft 4 = .ok (.ifCond .ne 4, 3) := by decide +kernel
theorem dX1_addSoft_7 : decode cX1_addSoft 7 = .ok (.return_, 1) := by decide +kernel
theorem dX1_addSoft_8 : decode cX1_addSoft 8 = .ok (.aload_n 0, 1) := by decide +kernel
theorem dX1_addSoft_9 : decode cX1_addSoft 9 = .ok (.getfield 15, 3) := by decide +kernel
theorem dX1_addSoft_12 : decode cX1_addSoft 12 = .ok (.iload_n 1, 1) := by decide +kernel
theorem dX1_addSoft_13 : decode cX1_addSoft 13 = .ok (.iconst 1, 1) := by decide +kernel
theorem dX1_addSoft_14 : decode cX1_addSoft 14 = .ok (.bastore, 1) := by decide +kernel
theorem dX1_addSoft_15 : decode cX1_addSoft 15 = .ok (.aload_n 0, 1) := by decide +kernel
theorem dX1_addSoft_16 : decode cX1_addSoft 16 = .ok (.dup, 1) := by decide +kernel
theorem dX1_addSoft_17 : decode cX1_addSoft 17 = .ok (.getfield 38, 3) := by decide +kernel
theorem dX1_addSoft_20 : decode cX1_addSoft 20 = .ok (.iconst 1, 1) := by decide +kernel
theorem dX1_addSoft_21 : decode cX1_addSoft 21 = .ok (.iadd, 1) := by decide +kernel
theorem dX1_addSoft_22 : decode cX1_addSoft 22 = .ok (.putfield 38, 3) := by decide +kernel
theorem dX1_addSoft_25 : decode cX1_addSoft 25 = .ok (.return_, 1) := by decide +kernel
theorem dX1_heightOf_0 : decode cX1_heightOf 0 = .ok (.iload_n 1, 1) := by decide +kernel
theorem dX1_heightOf_1 : decode cX1_heightOf 1 = .ok (.invokestatic 41, 3) := by decide +kernel
theorem dX1_heightOf_4 : decode cX1_heightOf 4 = .ok (.ifCond .eq 12, 3) := by decide +kernel
theorem dX1_heightOf_7 : decode cX1_heightOf 7 = .ok (.aload_n 0, 1) := by decide +kernel
theorem dX1_heightOf_8 : decode cX1_heightOf 8 = .ok (.getfield 9, 3) := by decide +kernel
theorem dX1_heightOf_11 : decode cX1_heightOf 11 = .ok (.iload_n 1, 1) := by decide +kernel
theorem dX1_heightOf_12 : decode cX1_heightOf 12 = .ok (.iaload, 1) := by decide +kernel
theorem dX1_heightOf_13 : decode cX1_heightOf 13 = .ok (.goto 4, 3) := by decide +kernel
theorem dX1_heightOf_16 : decode cX1_heightOf 16 = .ok (.iconst 0, 1) := by decide +kernel
theorem dX1_heightOf_17 : decode cX1_heightOf 17 = .ok (.ireturn, 1) := by decide +kernel
theorem dX1_isSoft_0 : decode cX1_isSoft 0 = .ok (.iload_n 1, 1) := by decide +kernel
theorem dX1_isSoft_1 : decode cX1_isSoft 1 = .ok (.invokestatic 41, 3) := by decide +kernel
theorem dX1_isSoft_4 : decode cX1_isSoft 4 = .ok (.ifCond .eq 16, 3) := by decide +kernel
theorem dX1_isSoft_7 : decode cX1_isSoft 7 = .ok (.aload_n 0, 1) := by decide +kernel
theorem dX1_isSoft_8 : decode cX1_isSoft 8 = .ok (.getfield 15, 3) := by decide +kernel
theorem dX1_isSoft_11 : decode cX1_isSoft 11 = .ok (.iload_n 1, 1) := by decide +kernel
theorem dX1_isSoft_12 : decode cX1_isSoft 12 = .ok (.baload, 1) := by decide +kernel
theorem dX1_isSoft_13 : decode cX1_isSoft 13 = .ok (.ifCond .eq 7, 3) := by decide +kernel
theorem dX1_isSoft_16 : decode cX1_isSoft 16 = .ok (.iconst 1, 1) := by decide +kernel
theorem dX1_isSoft_17 : decode cX1_isSoft 17 = .ok (.goto 4, 3) := by decide +kernel
theorem dX1_isSoft_20 : decode cX1_isSoft 20 = .ok (.iconst 0, 1) := by decide +kernel
theorem dX1_isSoft_21 : decode cX1_isSoft 21 = .ok (.ireturn, 1) := by decide +kernel
theorem dX1_holdOf_0 : decode cX1_holdOf 0 = .ok (.iload_n 1, 1) := by decide +kernel
theorem dX1_holdOf_1 : decode cX1_holdOf 1 = .ok (.invokestatic 41, 3) := by decide +kernel
theorem dX1_holdOf_4 : decode cX1_holdOf 4 = .ok (.ifCond .eq 12, 3) := by decide +kernel
theorem dX1_holdOf_7 : decode cX1_holdOf 7 = .ok (.aload_n 0, 1) := by decide +kernel
theorem dX1_holdOf_8 : decode cX1_holdOf 8 = .ok (.getfield 19, 3) := by decide +kernel
theorem dX1_holdOf_11 : decode cX1_holdOf 11 = .ok (.iload_n 1, 1) := by decide +kernel
theorem dX1_holdOf_12 : decode cX1_holdOf 12 = .ok (.iaload, 1) := by decide +kernel
theorem dX1_holdOf_13 : decode cX1_holdOf 13 = .ok (.goto 4, 3) := by decide +kernel
theorem dX1_holdOf_16 : decode cX1_holdOf 16 = .ok (.iconst 0, 1) := by decide +kernel
theorem dX1_holdOf_17 : decode cX1_holdOf 17 = .ok (.ireturn, 1) := by decide +kernel
theorem dX1_paceOf_0 : decode cX1_paceOf 0 = .ok (.iload_n 1, 1) := by decide +kernel
theorem dX1_paceOf_1 : decode cX1_paceOf 1 = .ok (.ifCond .lt 17, 3) := by decide +kernel
theorem dX1_paceOf_4 : decode cX1_paceOf 4 = .ok (.iload_n 1, 1) := by decide +kernel
theorem dX1_paceOf_5 : decode cX1_paceOf 5 = .ok (.iconst 5, 1) := by decide +kernel
theorem dX1_paceOf_6 : decode cX1_paceOf 6 = .ok (.if_icmp .ge 12, 3) := by decide +kernel
theorem dX1_paceOf_9 : decode cX1_paceOf 9 = .ok (.aload_n 0, 1) := by decide +kernel
theorem dX1_paceOf_10 : decode cX1_paceOf 10 = .ok (.getfield 22, 3) := by decide +kernel
theorem dX1_paceOf_13 : decode cX1_paceOf 13 = .ok (.iload_n 1, 1) := by decide +kernel
theorem dX1_paceOf_14 : decode cX1_paceOf 14 = .ok (.iaload, 1) := by decide +kernel
theorem dX1_paceOf_15 : decode cX1_paceOf 15 = .ok (.goto 4, 3) := by decide +kernel
theorem dX1_paceOf_18 : decode cX1_paceOf 18 = .ok (.iconst 0, 1) := by decide +kernel
theorem dX1_paceOf_19 : decode cX1_paceOf 19 = .ok (.ireturn, 1) := by decide +kernel
theorem dX1_wadeOf_0 : decode cX1_wadeOf 0 = .ok (.iload_n 1, 1) := by decide +kernel
theorem dX1_wadeOf_1 : decode cX1_wadeOf 1 = .ok (.ifCond .lt 17, 3) := by decide +kernel
theorem dX1_wadeOf_4 : decode cX1_wadeOf 4 = .ok (.iload_n 1, 1) := by decide +kernel
theorem dX1_wadeOf_5 : decode cX1_wadeOf 5 = .ok (.iconst 5, 1) := by decide +kernel
theorem dX1_wadeOf_6 : decode cX1_wadeOf 6 = .ok (.if_icmp .ge 12, 3) := by decide +kernel
theorem dX1_wadeOf_9 : decode cX1_wadeOf 9 = .ok (.aload_n 0, 1) := by decide +kernel
theorem dX1_wadeOf_10 : decode cX1_wadeOf 10 = .ok (.getfield 25, 3) := by decide +kernel
theorem dX1_wadeOf_13 : decode cX1_wadeOf 13 = .ok (.iload_n 1, 1) := by decide +kernel
theorem dX1_wadeOf_14 : decode cX1_wadeOf 14 = .ok (.iaload, 1) := by decide +kernel
theorem dX1_wadeOf_15 : decode cX1_wadeOf 15 = .ok (.goto 4, 3) := by decide +kernel
theorem dX1_wadeOf_18 : decode cX1_wadeOf 18 = .ok (.iconst 0, 1) := by decide +kernel
theorem dX1_wadeOf_19 : decode cX1_wadeOf 19 = .ok (.ireturn, 1) := by decide +kernel
theorem dX1_water_0 : decode cX1_water 0 = .ok (.iload_n 1, 1) := by decide +kernel
theorem dX1_water_1 : decode cX1_water 1 = .ok (.iload_n 2, 1) := by decide +kernel
theorem dX1_water_2 : decode cX1_water 2 = .ok (.if_icmp .ge 9, 3) := by decide +kernel
theorem dX1_water_5 : decode cX1_water 5 = .ok (.iload_n 2, 1) := by decide +kernel
theorem dX1_water_6 : decode cX1_water 6 = .ok (.iload_n 1, 1) := by decide +kernel
theorem dX1_water_7 : decode cX1_water 7 = .ok (.isub, 1) := by decide +kernel
theorem dX1_water_8 : decode cX1_water 8 = .ok (.goto 6, 3) := by decide +kernel
theorem dX1_water_11 : decode cX1_water 11 = .ok (.iload_n 1, 1) := by decide +kernel
theorem dX1_water_12 : decode cX1_water 12 = .ok (.iload_n 2, 1) := by decide +kernel
theorem dX1_water_13 : decode cX1_water 13 = .ok (.isub, 1) := by decide +kernel
theorem dX1_water_14 : decode cX1_water 14 = .ok (.istore_n 3, 1) := by decide +kernel
theorem dX1_water_15 : decode cX1_water 15 = .ok (.aload_n 0, 1) := by decide +kernel
theorem dX1_water_16 : decode cX1_water 16 = .ok (.getfield 45, 3) := by decide +kernel
theorem dX1_water_19 : decode cX1_water 19 = .ok (.aload_n 0, 1) := by decide +kernel
theorem dX1_water_20 : decode cX1_water 20 = .ok (.getfield 28, 3) := by decide +kernel
theorem dX1_water_23 : decode cX1_water 23 = .ok (.iload_n 3, 1) := by decide +kernel
theorem dX1_water_24 : decode cX1_water 24 = .ok (.imul, 1) := by decide +kernel
theorem dX1_water_25 : decode cX1_water 25 = .ok (.iadd, 1) := by decide +kernel
theorem dX1_water_26 : decode cX1_water 26 = .ok (.istore 4, 2) := by decide +kernel
theorem dX1_water_28 : decode cX1_water 28 = .ok (.iload 4, 2) := by decide +kernel
theorem dX1_water_30 : decode cX1_water 30 = .ok (.bipush 9, 2) := by decide +kernel
theorem dX1_water_32 : decode cX1_water 32 = .ok (.if_icmp .ge 8, 3) := by decide +kernel
theorem dX1_water_35 : decode cX1_water 35 = .ok (.iload 4, 2) := by decide +kernel
theorem dX1_water_37 : decode cX1_water 37 = .ok (.goto 5, 3) := by decide +kernel
theorem dX1_water_40 : decode cX1_water 40 = .ok (.bipush 9, 2) := by decide +kernel
theorem dX1_water_42 : decode cX1_water 42 = .ok (.ireturn, 1) := by decide +kernel
theorem dX1_depth_0 : decode cX1_depth 0 = .ok (.iload_n 1, 1) := by decide +kernel
theorem dX1_depth_1 : decode cX1_depth 1 = .ok (.ifCond .le 19, 3) := by decide +kernel
theorem dX1_depth_4 : decode cX1_depth 4 = .ok (.iload_n 1, 1) := by decide +kernel
theorem dX1_depth_5 : decode cX1_depth 5 = .ok (.bipush 9, 2) := by decide +kernel
theorem dX1_depth_7 : decode cX1_depth 7 = .ok (.if_icmp .ge 13, 3) := by decide +kernel
theorem dX1_depth_10 : decode cX1_depth 10 = .ok (.iload_n 2, 1) := by decide +kernel
theorem dX1_depth_11 : decode cX1_depth 11 = .ok (.aload_n 0, 1) := by decide +kernel
theorem dX1_depth_12 : decode cX1_depth 12 = .ok (.getfield 9, 3) := by decide +kernel
theorem dX1_depth_15 : decode cX1_depth 15 = .ok (.iload_n 1, 1) := by decide +kernel
theorem dX1_depth_16 : decode cX1_depth 16 = .ok (.iaload, 1) := by decide +kernel
theorem dX1_depth_17 : decode cX1_depth 17 = .ok (.if_icmp .gt 5, 3) := by decide +kernel
theorem dX1_depth_20 : decode cX1_depth 20 = .ok (.iconst 0, 1) := by decide +kernel
theorem dX1_depth_21 : decode cX1_depth 21 = .ok (.ireturn, 1) := by decide +kernel
theorem dX1_depth_22 : decode cX1_depth 22 = .ok (.iload_n 2, 1) := by decide +kernel
theorem dX1_depth_23 : decode cX1_depth 23 = .ok (.aload_n 0, 1) := by decide +kernel
theorem dX1_depth_24 : decode cX1_depth 24 = .ok (.getfield 9, 3) := by decide +kernel
theorem dX1_depth_27 : decode cX1_depth 27 = .ok (.iload_n 1, 1) := by decide +kernel
theorem dX1_depth_28 : decode cX1_depth 28 = .ok (.iaload, 1) := by decide +kernel
theorem dX1_depth_29 : decode cX1_depth 29 = .ok (.isub, 1) := by decide +kernel
theorem dX1_depth_30 : decode cX1_depth 30 = .ok (.ireturn, 1) := by decide +kernel
theorem dX2_init_0 : decode cX2_init 0 = .ok (.aload_n 0, 1) := by decide +kernel
theorem dX2_init_1 : decode cX2_init 1 = .ok (.invokespecial 5, 3) := by decide +kernel
theorem dX2_init_4 : decode cX2_init 4 = .ok (.aload_n 0, 1) := by decide +kernel
theorem dX2_init_5 : decode cX2_init 5 = .ok (.bipush 16, 2) := by decide +kernel
theorem dX2_init_7 : decode cX2_init 7 = .ok (.newarray .int, 2) := by decide +kernel
theorem dX2_init_9 : decode cX2_init 9 = .ok (.putfield 11, 3) := by decide +kernel
theorem dX2_init_12 : decode cX2_init 12 = .ok (.return_, 1) := by decide +kernel
theorem dX2_clear_0 : decode cX2_clear 0 = .ok (.iconst 0, 1) := by decide +kernel
theorem dX2_clear_1 : decode cX2_clear 1 = .ok (.istore_n 1, 1) := by decide +kernel
theorem dX2_clear_2 : decode cX2_clear 2 = .ok (.iload_n 1, 1) := by decide +kernel
theorem dX2_clear_3 : decode cX2_clear 3 = .ok (.bipush 16, 2) := by decide +kernel
theorem dX2_clear_5 : decode cX2_clear 5 = .ok (.if_icmp .ge 16, 3) := by decide +kernel
theorem dX2_clear_8 : decode cX2_clear 8 = .ok (.aload_n 0, 1) := by decide +kernel
theorem dX2_clear_9 : decode cX2_clear 9 = .ok (.getfield 11, 3) := by decide +kernel
theorem dX2_clear_12 : decode cX2_clear 12 = .ok (.iload_n 1, 1) := by decide +kernel
theorem dX2_clear_13 : decode cX2_clear 13 = .ok (.iconst 0, 1) := by decide +kernel
theorem dX2_clear_14 : decode cX2_clear 14 = .ok (.iastore, 1) := by decide +kernel
theorem dX2_clear_15 : decode cX2_clear 15 = .ok (.iinc 1 1, 3) := by decide +kernel
theorem dX2_clear_18 : decode cX2_clear 18 = .ok (.goto (-16), 3) := by decide +kernel
theorem dX2_clear_21 : decode cX2_clear 21 = .ok (.return_, 1) := by decide +kernel
theorem dX2_time_0 : decode cX2_time 0 = .ok (.aload_n 0, 1) := by decide +kernel
theorem dX2_time_1 : decode cX2_time 1 = .ok (.getfield 11, 3) := by decide +kernel
theorem dX2_time_4 : decode cX2_time 4 = .ok (.iconst 0, 1) := by decide +kernel
theorem dX2_time_5 : decode cX2_time 5 = .ok (.iaload, 1) := by decide +kernel
theorem dX2_time_6 : decode cX2_time 6 = .ok (.ireturn, 1) := by decide +kernel
theorem dX2_setTime_0 : decode cX2_setTime 0 = .ok (.aload_n 0, 1) := by decide +kernel
theorem dX2_setTime_1 : decode cX2_setTime 1 = .ok (.getfield 11, 3) := by decide +kernel
theorem dX2_setTime_4 : decode cX2_setTime 4 = .ok (.iconst 0, 1) := by decide +kernel
theorem dX2_setTime_5 : decode cX2_setTime 5 = .ok (.iload_n 1, 1) := by decide +kernel
theorem dX2_setTime_6 : decode cX2_setTime 6 = .ok (.iastore, 1) := by decide +kernel
theorem dX2_setTime_7 : decode cX2_setTime 7 = .ok (.return_, 1) := by decide +kernel
theorem dX2_cellOf_0 : decode cX2_cellOf 0 = .ok (.aload_n 0, 1) := by decide +kernel
theorem dX2_cellOf_1 : decode cX2_cellOf 1 = .ok (.iconst 1, 1) := by decide +kernel
theorem dX2_cellOf_2 : decode cX2_cellOf 2 = .ok (.iload_n 1, 1) := by decide +kernel
theorem dX2_cellOf_3 : decode cX2_cellOf 3 = .ok (.invokevirtual 15, 3) := by decide +kernel
theorem dX2_cellOf_6 : decode cX2_cellOf 6 = .ok (.ireturn, 1) := by decide +kernel
theorem dX2_setCell_0 : decode cX2_setCell 0 = .ok (.aload_n 0, 1) := by decide +kernel
theorem dX2_setCell_1 : decode cX2_setCell 1 = .ok (.iconst 1, 1) := by decide +kernel
theorem dX2_setCell_2 : decode cX2_setCell 2 = .ok (.iload_n 1, 1) := by decide +kernel
theorem dX2_setCell_3 : decode cX2_setCell 3 = .ok (.iload_n 2, 1) := by decide +kernel
theorem dX2_setCell_4 : decode cX2_setCell 4 = .ok (.invokevirtual 19, 3) := by decide +kernel
theorem dX2_setCell_7 : decode cX2_setCell 7 = .ok (.return_, 1) := by decide +kernel
theorem dX2_wayOf_0 : decode cX2_wayOf 0 = .ok (.aload_n 0, 1) := by decide +kernel
theorem dX2_wayOf_1 : decode cX2_wayOf 1 = .ok (.bipush 6, 2) := by decide +kernel
theorem dX2_wayOf_3 : decode cX2_wayOf 3 = .ok (.iload_n 1, 1) := by decide +kernel
theorem dX2_wayOf_4 : decode cX2_wayOf 4 = .ok (.invokevirtual 15, 3) := by decide +kernel
theorem dX2_wayOf_7 : decode cX2_wayOf 7 = .ok (.ireturn, 1) := by decide +kernel
theorem dX2_setWay_0 : decode cX2_setWay 0 = .ok (.aload_n 0, 1) := by decide +kernel
theorem dX2_setWay_1 : decode cX2_setWay 1 = .ok (.bipush 6, 2) := by decide +kernel
theorem dX2_setWay_3 : decode cX2_setWay 3 = .ok (.iload_n 1, 1) := by decide +kernel
theorem dX2_setWay_4 : decode cX2_setWay 4 = .ok (.iload_n 2, 1) := by decide +kernel
theorem dX2_setWay_5 : decode cX2_setWay 5 = .ok (.invokevirtual 19, 3) := by decide +kernel
theorem dX2_setWay_8 : decode cX2_setWay 8 = .ok (.return_, 1) := by decide +kernel
theorem dX2_fateOf_0 : decode cX2_fateOf 0 = .ok (.aload_n 0, 1) := by decide +kernel
theorem dX2_fateOf_1 : decode cX2_fateOf 1 = .ok (.bipush 11, 2) := by decide +kernel
theorem dX2_fateOf_3 : decode cX2_fateOf 3 = .ok (.iload_n 1, 1) := by decide +kernel
theorem dX2_fateOf_4 : decode cX2_fateOf 4 = .ok (.invokevirtual 15, 3) := by decide +kernel
theorem dX2_fateOf_7 : decode cX2_fateOf 7 = .ok (.ireturn, 1) := by decide +kernel
theorem dX2_setFate_0 : decode cX2_setFate 0 = .ok (.aload_n 0, 1) := by decide +kernel
theorem dX2_setFate_1 : decode cX2_setFate 1 = .ok (.bipush 11, 2) := by decide +kernel
theorem dX2_setFate_3 : decode cX2_setFate 3 = .ok (.iload_n 1, 1) := by decide +kernel
theorem dX2_setFate_4 : decode cX2_setFate 4 = .ok (.iload_n 2, 1) := by decide +kernel
theorem dX2_setFate_5 : decode cX2_setFate 5 = .ok (.invokevirtual 19, 3) := by decide +kernel
theorem dX2_setFate_8 : decode cX2_setFate 8 = .ok (.return_, 1) := by decide +kernel
theorem dX2_allThat_0 : decode cX2_allThat 0 = .ok (.iconst 0, 1) := by decide +kernel
theorem dX2_allThat_1 : decode cX2_allThat 1 = .ok (.istore_n 3, 1) := by decide +kernel
theorem dX2_allThat_2 : decode cX2_allThat 2 = .ok (.iconst 0, 1) := by decide +kernel
theorem dX2_allThat_3 : decode cX2_allThat 3 = .ok (.istore 4, 2) := by decide +kernel
theorem dX2_allThat_5 : decode cX2_allThat 5 = .ok (.iload 4, 2) := by decide +kernel
theorem dX2_allThat_7 : decode cX2_allThat 7 = .ok (.iload_n 2, 1) := by decide +kernel
theorem dX2_allThat_8 : decode cX2_allThat 8 = .ok (.if_icmp .ge 32, 3) := by decide +kernel
theorem dX2_allThat_11 : decode cX2_allThat 11 = .ok (.iload 4, 2) := by decide +kernel
theorem dX2_allThat_13 : decode cX2_allThat 13 = .ok (.iconst 5, 1) := by decide +kernel
theorem dX2_allThat_14 : decode cX2_allThat 14 = .ok (.if_icmp .ge 26, 3) := by decide +kernel
theorem dX2_allThat_17 : decode cX2_allThat 17 = .ok (.aload_n 0, 1) := by decide +kernel
theorem dX2_allThat_18 : decode cX2_allThat 18 = .ok (.iload 4, 2) := by decide +kernel
theorem dX2_allThat_20 : decode cX2_allThat 20 = .ok (.invokevirtual 23, 3) := by decide +kernel
theorem dX2_allThat_23 : decode cX2_allThat 23 = .ok (.iload_n 1, 1) := by decide +kernel
theorem dX2_allThat_24 : decode cX2_allThat 24 = .ok (.if_icmp .ne 10, 3) := by decide +kernel
theorem dX2_allThat_27 : decode cX2_allThat 27 = .ok (.iload_n 3, 1) := by decide +kernel
theorem dX2_allThat_28 : decode cX2_allThat 28 = .ok (.iconst 1, 1) := by decide +kernel
theorem dX2_allThat_29 : decode cX2_allThat 29 = .ok (.iload 4, 2) := by decide +kernel
theorem dX2_allThat_31 : decode cX2_allThat 31 = .ok (.ishl, 1) := by decide +kernel
theorem dX2_allThat_32 : decode cX2_allThat 32 = .ok (.ior, 1) := by decide +kernel
theorem dX2_allThat_33 : decode cX2_allThat 33 = .ok (.istore_n 3, 1) := by decide +kernel
theorem dX2_allThat_34 : decode cX2_allThat 34 = .ok (.iinc 4 1, 3) := by decide +kernel
theorem dX2_allThat_37 : decode cX2_allThat 37 = .ok (.goto (-32), 3) := by decide +kernel
theorem dX2_allThat_40 : decode cX2_allThat 40 = .ok (.iload_n 3, 1) := by decide +kernel
theorem dX2_allThat_41 : decode cX2_allThat 41 = .ok (.ireturn, 1) := by decide +kernel
theorem dX2_countOn_0 : decode cX2_countOn 0 = .ok (.iconst 0, 1) := by decide +kernel
theorem dX2_countOn_1 : decode cX2_countOn 1 = .ok (.istore_n 3, 1) := by decide +kernel
theorem dX2_countOn_2 : decode cX2_countOn 2 = .ok (.iconst 0, 1) := by decide +kernel
theorem dX2_countOn_3 : decode cX2_countOn 3 = .ok (.istore 4, 2) := by decide +kernel
theorem dX2_countOn_5 : decode cX2_countOn 5 = .ok (.iload 4, 2) := by decide +kernel
theorem dX2_countOn_7 : decode cX2_countOn 7 = .ok (.iconst 5, 1) := by decide +kernel
theorem dX2_countOn_8 : decode cX2_countOn 8 = .ok (.if_icmp .ge 31, 3) := by decide +kernel
theorem dX2_countOn_11 : decode cX2_countOn 11 = .ok (.iload_n 2, 1) := by decide +kernel
theorem dX2_countOn_12 : decode cX2_countOn 12 = .ok (.iload 4, 2) := by decide +kernel
theorem dX2_countOn_14 : decode cX2_countOn 14 = .ok (.ishr, 1) := by decide +kernel
theorem dX2_countOn_15 : decode cX2_countOn 15 = .ok (.iconst 1, 1) := by decide +kernel
theorem dX2_countOn_16 : decode cX2_countOn 16 = .ok (.iand, 1) := by decide +kernel
theorem dX2_countOn_17 : decode cX2_countOn 17 = .ok (.ifCond .eq 16, 3) := by decide +kernel
theorem dX2_countOn_20 : decode cX2_countOn 20 = .ok (.aload_n 0, 1) := by decide +kernel
theorem dX2_countOn_21 : decode cX2_countOn 21 = .ok (.iload 4, 2) := by decide +kernel
theorem dX2_countOn_23 : decode cX2_countOn 23 = .ok (.invokevirtual 27, 3) := by decide +kernel
theorem dX2_countOn_26 : decode cX2_countOn 26 = .ok (.iload_n 1, 1) := by decide +kernel
theorem dX2_countOn_27 : decode cX2_countOn 27 = .ok (.if_icmp .ne 6, 3) := by decide +kernel
theorem dX2_countOn_30 : decode cX2_countOn 30 = .ok (.iinc 3 1, 3) := by decide +kernel
theorem dX2_countOn_33 : decode cX2_countOn 33 = .ok (.iinc 4 1, 3) := by decide +kernel
theorem dX2_countOn_36 : decode cX2_countOn 36 = .ok (.goto (-31), 3) := by decide +kernel
theorem dX2_countOn_39 : decode cX2_countOn 39 = .ok (.iload_n 3, 1) := by decide +kernel
theorem dX2_countOn_40 : decode cX2_countOn 40 = .ok (.ireturn, 1) := by decide +kernel
theorem dX2_valueOf_0 : decode cX2_valueOf 0 = .ok (.iload_n 2, 1) := by decide +kernel
theorem dX2_valueOf_1 : decode cX2_valueOf 1 = .ok (.ifCond .lt 19, 3) := by decide +kernel
theorem dX2_valueOf_4 : decode cX2_valueOf 4 = .ok (.iload_n 2, 1) := by decide +kernel
theorem dX2_valueOf_5 : decode cX2_valueOf 5 = .ok (.iconst 5, 1) := by decide +kernel
theorem dX2_valueOf_6 : decode cX2_valueOf 6 = .ok (.if_icmp .ge 14, 3) := by decide +kernel
theorem dX2_valueOf_9 : decode cX2_valueOf 9 = .ok (.aload_n 0, 1) := by decide +kernel
theorem dX2_valueOf_10 : decode cX2_valueOf 10 = .ok (.getfield 11, 3) := by decide +kernel
theorem dX2_valueOf_13 : decode cX2_valueOf 13 = .ok (.iload_n 1, 1) := by decide +kernel
theorem dX2_valueOf_14 : decode cX2_valueOf 14 = .ok (.iload_n 2, 1) := by decide +kernel
theorem dX2_valueOf_15 : decode cX2_valueOf 15 = .ok (.iadd, 1) := by decide +kernel
theorem dX2_valueOf_16 : decode cX2_valueOf 16 = .ok (.iaload, 1) := by decide +kernel
theorem dX2_valueOf_17 : decode cX2_valueOf 17 = .ok (.goto 4, 3) := by decide +kernel
theorem dX2_valueOf_20 : decode cX2_valueOf 20 = .ok (.iconst 0, 1) := by decide +kernel
theorem dX2_valueOf_21 : decode cX2_valueOf 21 = .ok (.ireturn, 1) := by decide +kernel
theorem dX2_setValue_0 : decode cX2_setValue 0 = .ok (.iload_n 2, 1) := by decide +kernel
theorem dX2_setValue_1 : decode cX2_setValue 1 = .ok (.ifCond .lt 17, 3) := by decide +kernel
theorem dX2_setValue_4 : decode cX2_setValue 4 = .ok (.iload_n 2, 1) := by decide +kernel
theorem dX2_setValue_5 : decode cX2_setValue 5 = .ok (.iconst 5, 1) := by decide +kernel
theorem dX2_setValue_6 : decode cX2_setValue 6 = .ok (.if_icmp .ge 12, 3) := by decide +kernel
theorem dX2_setValue_9 : decode cX2_setValue 9 = .ok (.aload_n 0, 1) := by decide +kernel
theorem dX2_setValue_10 : decode cX2_setValue 10 = .ok (.getfield 11, 3) := by decide +kernel
theorem dX2_setValue_13 : decode cX2_setValue 13 = .ok (.iload_n 1, 1) := by decide +kernel
theorem dX2_setValue_14 : decode cX2_setValue 14 = .ok (.iload_n 2, 1) := by decide +kernel
theorem dX2_setValue_15 : decode cX2_setValue 15 = .ok (.iadd, 1) := by decide +kernel
theorem dX2_setValue_16 : decode cX2_setValue 16 = .ok (.iload_n 3, 1) := by decide +kernel
theorem dX2_setValue_17 : decode cX2_setValue 17 = .ok (.iastore, 1) := by decide +kernel
theorem dX2_setValue_18 : decode cX2_setValue 18 = .ok (.return_, 1) := by decide +kernel
theorem dX3_init_0 : decode cX3_init 0 = .ok (.aload_n 0, 1) := by decide +kernel
theorem dX3_init_1 : decode cX3_init 1 = .ok (.invokespecial 1, 3) := by decide +kernel
theorem dX3_init_4 : decode cX3_init 4 = .ok (.aload_n 0, 1) := by decide +kernel
theorem dX3_init_5 : decode cX3_init 5 = .ok (.iconst 0, 1) := by decide +kernel
theorem dX3_init_6 : decode cX3_init 6 = .ok (.iload_n 1, 1) := by decide +kernel
theorem dX3_init_7 : decode cX3_init 7 = .ok (.invokestatic 7, 3) := by decide +kernel
theorem dX3_init_10 : decode cX3_init 10 = .ok (.putfield 13, 3) := by decide +kernel
theorem dX3_init_13 : decode cX3_init 13 = .ok (.aload_n 0, 1) := by decide +kernel
theorem dX3_init_14 : decode cX3_init 14 = .ok (.aload_n 0, 1) := by decide +kernel
theorem dX3_init_15 : decode cX3_init 15 = .ok (.getfield 13, 3) := by decide +kernel
theorem dX3_init_18 : decode cX3_init 18 = .ok (.bipush 16, 2) := by decide +kernel
theorem dX3_init_20 : decode cX3_init 20 = .ok (.imul, 1) := by decide +kernel
theorem dX3_init_21 : decode cX3_init 21 = .ok (.newarray .int, 2) := by decide +kernel
theorem dX3_init_23 : decode cX3_init 23 = .ok (.putfield 21, 3) := by decide +kernel
theorem dX3_init_26 : decode cX3_init 26 = .ok (.return_, 1) := by decide +kernel
theorem dX3_put_0 : decode cX3_put 0 = .ok (.iload_n 1, 1) := by decide +kernel
theorem dX3_put_1 : decode cX3_put 1 = .ok (.ifCond .lt 11, 3) := by decide +kernel
theorem dX3_put_4 : decode cX3_put 4 = .ok (.iload_n 1, 1) := by decide +kernel
theorem dX3_put_5 : decode cX3_put 5 = .ok (.aload_n 0, 1) := by decide +kernel
theorem dX3_put_6 : decode cX3_put 6 = .ok (.getfield 13, 3) := by decide +kernel
theorem dX3_put_9 : decode cX3_put 9 = .ok (.if_icmp .lt 4, 3) := by decide +kernel
theorem dX3_put_12 : decode cX3_put 12 = .ok (.return_, 1) := by decide +kernel
theorem dX3_put_13 : decode cX3_put 13 = .ok (.aload_n 2, 1) := by decide +kernel
theorem dX3_put_14 : decode cX3_put 14 = .ok (.getfield 25, 3) := by decide +kernel
theorem dX3_put_17 : decode cX3_put 17 = .ok (.iconst 0, 1) := by decide +kernel
theorem dX3_put_18 : decode cX3_put 18 = .ok (.aload_n 0, 1) := by decide +kernel
theorem dX3_put_19 : decode cX3_put 19 = .ok (.getfield 21, 3) := by decide +kernel
theorem dX3_put_22 : decode cX3_put 22 = .ok (.iload_n 1, 1) := by decide +kernel
theorem dX3_put_23 : decode cX3_put 23 = .ok (.bipush 16, 2) := by decide +kernel
theorem dX3_put_25 : decode cX3_put 25 = .ok (.imul, 1) := by decide +kernel
theorem dX3_put_26 : decode cX3_put 26 = .ok (.bipush 16, 2) := by decide +kernel
theorem dX3_put_28 : decode cX3_put 28 = .ok (.invokestatic 28, 3) := by decide +kernel
theorem dX3_put_31 : decode cX3_put 31 = .ok (.return_, 1) := by decide +kernel
theorem dX3_take_0 : decode cX3_take 0 = .ok (.iload_n 1, 1) := by decide +kernel
theorem dX3_take_1 : decode cX3_take 1 = .ok (.ifCond .lt 11, 3) := by decide +kernel
theorem dX3_take_4 : decode cX3_take 4 = .ok (.iload_n 1, 1) := by decide +kernel
theorem dX3_take_5 : decode cX3_take 5 = .ok (.aload_n 0, 1) := by decide +kernel
theorem dX3_take_6 : decode cX3_take 6 = .ok (.getfield 13, 3) := by decide +kernel
theorem dX3_take_9 : decode cX3_take 9 = .ok (.if_icmp .lt 4, 3) := by decide +kernel
theorem dX3_take_12 : decode cX3_take 12 = .ok (.return_, 1) := by decide +kernel
theorem dX3_take_13 : decode cX3_take 13 = .ok (.aload_n 0, 1) := by decide +kernel
theorem dX3_take_14 : decode cX3_take 14 = .ok (.getfield 21, 3) := by decide +kernel
theorem dX3_take_17 : decode cX3_take 17 = .ok (.iload_n 1, 1) := by decide +kernel
theorem dX3_take_18 : decode cX3_take 18 = .ok (.bipush 16, 2) := by decide +kernel
theorem dX3_take_20 : decode cX3_take 20 = .ok (.imul, 1) := by decide +kernel
theorem dX3_take_21 : decode cX3_take 21 = .ok (.aload_n 2, 1) := by decide +kernel
theorem dX3_take_22 : decode cX3_take 22 = .ok (.getfield 25, 3) := by decide +kernel
theorem dX3_take_25 : decode cX3_take 25 = .ok (.iconst 0, 1) := by decide +kernel
theorem dX3_take_26 : decode cX3_take 26 = .ok (.bipush 16, 2) := by decide +kernel
theorem dX3_take_28 : decode cX3_take 28 = .ok (.invokestatic 28, 3) := by decide +kernel
theorem dX3_take_31 : decode cX3_take 31 = .ok (.return_, 1) := by decide +kernel
theorem dX4_init_0 : decode cX4_init 0 = .ok (.aload_n 0, 1) := by decide +kernel
theorem dX4_init_1 : decode cX4_init 1 = .ok (.invokespecial 3, 3) := by decide +kernel
theorem dX4_init_4 : decode cX4_init 4 = .ok (.aload_n 0, 1) := by decide +kernel
theorem dX4_init_5 : decode cX4_init 5 = .ok (.bipush 56, 2) := by decide +kernel
theorem dX4_init_7 : decode cX4_init 7 = .ok (.newarray .int, 2) := by decide +kernel
theorem dX4_init_9 : decode cX4_init 9 = .ok (.putfield 9, 3) := by decide +kernel
theorem dX4_init_12 : decode cX4_init 12 = .ok (.return_, 1) := by decide +kernel
theorem dX4_append_0 : decode cX4_append 0 = .ok (.aload_n 0, 1) := by decide +kernel
theorem dX4_append_1 : decode cX4_append 1 = .ok (.getfield 15, 3) := by decide +kernel
theorem dX4_append_4 : decode cX4_append 4 = .ok (.ifCond .lt 12, 3) := by decide +kernel
theorem dX4_append_7 : decode cX4_append 7 = .ok (.aload_n 0, 1) := by decide +kernel
theorem dX4_append_8 : decode cX4_append 8 = .ok (.getfield 15, 3) := by decide +kernel
theorem dX4_append_11 : decode cX4_append 11 = .ok (.bipush 56, 2) := by decide +kernel
theorem dX4_append_13 : decode cX4_append 13 = .ok (.if_icmp .lt 4, 3) := by decide +kernel
theorem dX4_append_16 : decode cX4_append 16 = .ok (.return_, 1) := by decide +kernel
theorem dX4_append_17 : decode cX4_append 17 = .ok (.aload_n 0, 1) := by decide +kernel
theorem dX4_append_18 : decode cX4_append 18 = .ok (.getfield 9, 3) := by decide +kernel
theorem dX4_append_21 : decode cX4_append 21 = .ok (.aload_n 0, 1) := by decide +kernel
theorem dX4_append_22 : decode cX4_append 22 = .ok (.getfield 15, 3) := by decide +kernel
theorem dX4_append_25 : decode cX4_append 25 = .ok (.iload_n 1, 1) := by decide +kernel
theorem dX4_append_26 : decode cX4_append 26 = .ok (.iastore, 1) := by decide +kernel
theorem dX4_append_27 : decode cX4_append 27 = .ok (.aload_n 0, 1) := by decide +kernel
theorem dX4_append_28 : decode cX4_append 28 = .ok (.dup, 1) := by decide +kernel
theorem dX4_append_29 : decode cX4_append 29 = .ok (.getfield 15, 3) := by decide +kernel
theorem dX4_append_32 : decode cX4_append 32 = .ok (.iconst 1, 1) := by decide +kernel
theorem dX4_append_33 : decode cX4_append 33 = .ok (.iadd, 1) := by decide +kernel
theorem dX4_append_34 : decode cX4_append 34 = .ok (.putfield 15, 3) := by decide +kernel
theorem dX4_append_37 : decode cX4_append 37 = .ok (.return_, 1) := by decide +kernel
theorem dX4_empty_0 : decode cX4_empty 0 = .ok (.aload_n 0, 1) := by decide +kernel
theorem dX4_empty_1 : decode cX4_empty 1 = .ok (.iconst 0, 1) := by decide +kernel
theorem dX4_empty_2 : decode cX4_empty 2 = .ok (.putfield 15, 3) := by decide +kernel
theorem dX4_empty_5 : decode cX4_empty 5 = .ok (.return_, 1) := by decide +kernel
theorem dX4_readInto_0 : decode cX4_readInto 0 = .ok (.aload_n 0, 1) := by decide +kernel
theorem dX4_readInto_1 : decode cX4_readInto 1 = .ok (.iconst 0, 1) := by decide +kernel
theorem dX4_readInto_2 : decode cX4_readInto 2 = .ok (.putfield 19, 3) := by decide +kernel
theorem dX4_readInto_5 : decode cX4_readInto 5 = .ok (.aload_n 0, 1) := by decide +kernel
theorem dX4_readInto_6 : decode cX4_readInto 6 = .ok (.iconst 0, 1) := by decide +kernel
theorem dX4_readInto_7 : decode cX4_readInto 7 = .ok (.putfield 22, 3) := by decide +kernel
theorem dX4_readInto_10 : decode cX4_readInto 10 = .ok (.aload_n 1, 1) := by decide +kernel
theorem dX4_readInto_11 : decode cX4_readInto 11 = .ok (.invokevirtual 26, 3) := by decide +kernel
theorem dX4_readInto_14 : decode cX4_readInto 14 = .ok (.aload_n 0, 1) := by decide +kernel
theorem dX4_readInto_15 : decode cX4_readInto 15 = .ok (.aload_n 1, 1) := by decide +kernel
theorem dX4_readInto_16 : decode cX4_readInto 16 = .ok (.invokevirtual 31, 3) := by decide +kernel
theorem dX4_readInto_19 : decode cX4_readInto 19 = .ok (.iconst 0, 1) := by decide +kernel
theorem dX4_readInto_20 : decode cX4_readInto 20 = .ok (.istore_n 2, 1) := by decide +kernel
theorem dX4_readInto_21 : decode cX4_readInto 21 = .ok (.iload_n 2, 1) := by decide +kernel
theorem dX4_readInto_22 : decode cX4_readInto 22 = .ok (.bipush 56, 2) := by decide +kernel
theorem dX4_readInto_24 : decode cX4_readInto 24 = .ok (.if_icmp .ge 32, 3) := by decide +kernel
theorem dX4_readInto_27 : decode cX4_readInto 27 = .ok (.aload_n 0, 1) := by decide +kernel
theorem dX4_readInto_28 : decode cX4_readInto 28 = .ok (.getfield 22, 3) := by decide +kernel
theorem dX4_readInto_31 : decode cX4_readInto 31 = .ok (.ifCond .ne 25, 3) := by decide +kernel
theorem dX4_readInto_34 : decode cX4_readInto 34 = .ok (.aload_n 0, 1) := by decide +kernel
theorem dX4_readInto_35 : decode cX4_readInto 35 = .ok (.getfield 19, 3) := by decide +kernel
theorem dX4_readInto_38 : decode cX4_readInto 38 = .ok (.aload_n 0, 1) := by decide +kernel
theorem dX4_readInto_39 : decode cX4_readInto 39 = .ok (.getfield 15, 3) := by decide +kernel
theorem dX4_readInto_42 : decode cX4_readInto 42 = .ok (.if_icmp .ge 14, 3) := by decide +kernel
theorem dX4_readInto_45 : decode cX4_readInto 45 = .ok (.aload_n 0, 1) := by decide +kernel
theorem dX4_readInto_46 : decode cX4_readInto 46 = .ok (.aload_n 1, 1) := by decide +kernel
theorem dX4_readInto_47 : decode cX4_readInto 47 = .ok (.invokevirtual 35, 3) := by decide +kernel
theorem dX4_readInto_50 : decode cX4_readInto 50 = .ok (.iinc 2 1, 3) := by decide +kernel
theorem dX4_readInto_53 : decode cX4_readInto 53 = .ok (.goto (-32), 3) := by decide +kernel
theorem dX4_readInto_56 : decode cX4_readInto 56 = .ok (.aload_n 0, 1) := by decide +kernel
theorem dX4_readInto_57 : decode cX4_readInto 57 = .ok (.getfield 22, 3) := by decide +kernel
theorem dX4_readInto_60 : decode cX4_readInto 60 = .ok (.ifCond .eq 10, 3) := by decide +kernel
theorem dX4_readInto_63 : decode cX4_readInto 63 = .ok (.aload_n 0, 1) := by decide +kernel
theorem dX4_readInto_64 : decode cX4_readInto 64 = .ok (.getfield 19, 3) := by decide +kernel
theorem dX4_readInto_67 : decode cX4_readInto 67 = .ok (.goto 5, 3) := by decide +kernel
theorem dX4_readInto_70 : decode cX4_readInto 70 = .ok (.bipush (-9), 2) := by decide +kernel
theorem dX4_readInto_72 : decode cX4_readInto 72 = .ok (.ireturn, 1) := by decide +kernel
theorem dX4_readHead_0 : decode cX4_readHead 0 = .ok (.aload_n 0, 1) := by decide +kernel
theorem dX4_readHead_1 : decode cX4_readHead 1 = .ok (.invokevirtual 38, 3) := by decide +kernel
theorem dX4_readHead_4 : decode cX4_readHead 4 = .ok (.bipush 66, 2) := by decide +kernel
theorem dX4_readHead_6 : decode cX4_readHead 6 = .ok (.if_icmp .ne 16, 3) := by decide +kernel
theorem dX4_readHead_9 : decode cX4_readHead 9 = .ok (.aload_n 0, 1) := by decide +kernel
theorem dX4_readHead_10 : decode cX4_readHead 10 = .ok (.dup, 1) := by decide +kernel
theorem dX4_readHead_11 : decode cX4_readHead 11 = .ok (.getfield 19, 3) := by decide +kernel
theorem dX4_readHead_14 : decode cX4_readHead 14 = .ok (.iconst 1, 1) := by decide +kernel
theorem dX4_readHead_15 : decode cX4_readHead 15 = .ok (.iadd, 1) := by decide +kernel
theorem dX4_readHead_16 : decode cX4_readHead 16 = .ok (.putfield 19, 3) := by decide +kernel
theorem dX4_readHead_19 : decode cX4_readHead 19 = .ok (.goto 8, 3) := by decide +kernel
theorem dX4_readHead_22 : decode cX4_readHead 22 = .ok (.aload_n 0, 1) := by decide +kernel
theorem dX4_readHead_23 : decode cX4_readHead 23 = .ok (.iconst 1, 1) := by decide +kernel
theorem dX4_readHead_24 : decode cX4_readHead 24 = .ok (.putfield 22, 3) := by decide +kernel
theorem dX4_readHead_27 : decode cX4_readHead 27 = .ok (.iconst 0, 1) := by decide +kernel
theorem dX4_readHead_28 : decode cX4_readHead 28 = .ok (.istore_n 2, 1) := by decide +kernel
theorem dX4_readHead_29 : decode cX4_readHead 29 = .ok (.iload_n 2, 1) := by decide +kernel
theorem dX4_readHead_30 : decode cX4_readHead 30 = .ok (.bipush 9, 2) := by decide +kernel
theorem dX4_readHead_32 : decode cX4_readHead 32 = .ok (.if_icmp .gt 21, 3) := by decide +kernel
theorem dX4_readHead_35 : decode cX4_readHead 35 = .ok (.aload_n 1, 1) := by decide +kernel
theorem dX4_readHead_36 : decode cX4_readHead 36 = .ok (.iload_n 2, 1) := by decide +kernel
theorem dX4_readHead_37 : decode cX4_readHead 37 = .ok (.aload_n 0, 1) := by decide +kernel
theorem dX4_readHead_38 : decode cX4_readHead 38 = .ok (.iconst 0, 1) := by decide +kernel
theorem dX4_readHead_39 : decode cX4_readHead 39 = .ok (.bipush 9, 2) := by decide +kernel
theorem dX4_readHead_41 : decode cX4_readHead 41 = .ok (.invokevirtual 42, 3) := by decide +kernel
theorem dX4_readHead_44 : decode cX4_readHead 44 = .ok (.invokevirtual 46, 3) := by decide +kernel
theorem dX4_readHead_47 : decode cX4_readHead 47 = .ok (.iinc 2 1, 3) := by decide +kernel
theorem dX4_readHead_50 : decode cX4_readHead 50 = .ok (.goto (-21), 3) := by decide +kernel
theorem dX4_readHead_53 : decode cX4_readHead 53 = .ok (.aload_n 0, 1) := by decide +kernel
theorem dX4_readHead_54 : decode cX4_readHead 54 = .ok (.iconst 0, 1) := by decide +kernel
theorem dX4_readHead_55 : decode cX4_readHead 55 = .ok (.iconst 4, 1) := by decide +kernel
theorem dX4_readHead_56 : decode cX4_readHead 56 = .ok (.invokevirtual 42, 3) := by decide +kernel
theorem dX4_readHead_59 : decode cX4_readHead 59 = .ok (.istore_n 2, 1) := by decide +kernel
theorem dX4_readHead_60 : decode cX4_readHead 60 = .ok (.aload_n 1, 1) := by decide +kernel
theorem dX4_readHead_61 : decode cX4_readHead 61 = .ok (.bipush 10, 2) := by decide +kernel
theorem dX4_readHead_63 : decode cX4_readHead 63 = .ok (.iload_n 2, 1) := by decide +kernel
theorem dX4_readHead_64 : decode cX4_readHead 64 = .ok (.imul, 1) := by decide +kernel
theorem dX4_readHead_65 : decode cX4_readHead 65 = .ok (.aload_n 0, 1) := by decide +kernel
theorem dX4_readHead_66 : decode cX4_readHead 66 = .ok (.iconst 0, 1) := by decide +kernel
theorem dX4_readHead_67 : decode cX4_readHead 67 = .ok (.iload_n 2, 1) := by decide +kernel
theorem dX4_readHead_68 : decode cX4_readHead 68 = .ok (.iconst 4, 1) := by decide +kernel
theorem dX4_readHead_69 : decode cX4_readHead 69 = .ok (.if_icmp .ne 7, 3) := by decide +kernel
theorem dX4_readHead_72 : decode cX4_readHead 72 = .ok (.iconst 0, 1) := by decide +kernel
theorem dX4_readHead_73 : decode cX4_readHead 73 = .ok (.goto 5, 3) := by decide +kernel
theorem dX4_readHead_76 : decode cX4_readHead 76 = .ok (.bipush 9, 2) := by decide +kernel
theorem dX4_readHead_78 : decode cX4_readHead 78 = .ok (.invokevirtual 42, 3) := by decide +kernel
theorem dX4_readHead_81 : decode cX4_readHead 81 = .ok (.iadd, 1) := by decide +kernel
theorem dX4_readHead_82 : decode cX4_readHead 82 = .ok (.putfield 50, 3) := by decide +kernel
theorem dX4_readHead_85 : decode cX4_readHead 85 = .ok (.aload_n 1, 1) := by decide +kernel
theorem dX4_readHead_86 : decode cX4_readHead 86 = .ok (.aload_n 0, 1) := by decide +kernel
theorem dX4_readHead_87 : decode cX4_readHead 87 = .ok (.iconst 1, 1) := by decide +kernel
theorem dX4_readHead_88 : decode cX4_readHead 88 = .ok (.iconst 3, 1) := by decide +kernel
theorem dX4_readHead_89 : decode cX4_readHead 89 = .ok (.invokevirtual 42, 3) := by decide +kernel
theorem dX4_readHead_92 : decode cX4_readHead 92 = .ok (.putfield 53, 3) := by decide +kernel
theorem dX4_readHead_95 : decode cX4_readHead 95 = .ok (.aload_n 1, 1) := by decide +kernel
theorem dX4_readHead_96 : decode cX4_readHead 96 = .ok (.aload_n 0, 1) := by decide +kernel
theorem dX4_readHead_97 : decode cX4_readHead 97 = .ok (.iconst 0, 1) := by decide +kernel
theorem dX4_readHead_98 : decode cX4_readHead 98 = .ok (.bipush 9, 2) := by decide +kernel
theorem dX4_readHead_100 : decode cX4_readHead 100 = .ok (.invokevirtual 42, 3) := by decide +kernel
theorem dX4_readHead_103 : decode cX4_readHead 103 = .ok (.putfield 56, 3) := by decide +kernel
theorem dX4_readHead_106 : decode cX4_readHead 106 = .ok (.return_, 1) := by decide +kernel
theorem dX4_readPart_0 : decode cX4_readPart 0 = .ok (.aload_n 0, 1) := by decide +kernel
theorem dX4_readPart_1 : decode cX4_readPart 1 = .ok (.invokevirtual 38, 3) := by decide +kernel
theorem dX4_readPart_4 : decode cX4_readPart 4 = .ok (.istore_n 2, 1) := by decide +kernel
theorem dX4_readPart_5 : decode cX4_readPart 5 = .ok (.iload_n 2, 1) := by decide +kernel
theorem dX4_readPart_6 : decode cX4_readPart 6 = .ok (.bipush 87, 2) := by decide +kernel
theorem dX4_readPart_8 : decode cX4_readPart 8 = .ok (.if_icmp .ne 19, 3) := by decide +kernel
theorem dX4_readPart_11 : decode cX4_readPart 11 = .ok (.aload_n 1, 1) := by decide +kernel
theorem dX4_readPart_12 : decode cX4_readPart 12 = .ok (.getfield 59, 3) := by decide +kernel
theorem dX4_readPart_15 : decode cX4_readPart 15 = .ok (.iconst 5, 1) := by decide +kernel
theorem dX4_readPart_16 : decode cX4_readPart 16 = .ok (.if_icmp .ge 11, 3) := by decide +kernel
theorem dX4_readPart_19 : decode cX4_readPart 19 = .ok (.aload_n 0, 1) := by decide +kernel
theorem dX4_readPart_20 : decode cX4_readPart 20 = .ok (.aload_n 1, 1) := by decide +kernel
theorem dX4_readPart_21 : decode cX4_readPart 21 = .ok (.invokevirtual 62, 3) := by decide +kernel
theorem dX4_readPart_24 : decode cX4_readPart 24 = .ok (.goto 53, 3) := by decide +kernel
theorem dX4_readPart_27 : decode cX4_readPart 27 = .ok (.iload_n 2, 1) := by decide +kernel
theorem dX4_readPart_28 : decode cX4_readPart 28 = .ok (.bipush 84, 2) := by decide +kernel
theorem dX4_readPart_30 : decode cX4_readPart 30 = .ok (.if_icmp .ne 19, 3) := by decide +kernel
theorem dX4_readPart_33 : decode cX4_readPart 33 = .ok (.aload_n 1, 1) := by decide +kernel
theorem dX4_readPart_34 : decode cX4_readPart 34 = .ok (.getfield 65, 3) := by decide +kernel
theorem dX4_readPart_37 : decode cX4_readPart 37 = .ok (.iconst 2, 1) := by decide +kernel
theorem dX4_readPart_38 : decode cX4_readPart 38 = .ok (.if_icmp .ge 11, 3) := by decide +kernel
theorem dX4_readPart_41 : decode cX4_readPart 41 = .ok (.aload_n 0, 1) := by decide +kernel
theorem dX4_readPart_42 : decode cX4_readPart 42 = .ok (.aload_n 1, 1) := by decide +kernel
theorem dX4_readPart_43 : decode cX4_readPart 43 = .ok (.invokevirtual 68, 3) := by decide +kernel
theorem dX4_readPart_46 : decode cX4_readPart 46 = .ok (.goto 31, 3) := by decide +kernel
theorem dX4_readPart_49 : decode cX4_readPart 49 = .ok (.iload_n 2, 1) := by decide +kernel
theorem dX4_readPart_50 : decode cX4_readPart 50 = .ok (.bipush 83, 2) := by decide +kernel
theorem dX4_readPart_52 : decode cX4_readPart 52 = .ok (.if_icmp .ne 20, 3) := by decide +kernel
theorem dX4_readPart_55 : decode cX4_readPart 55 = .ok (.aload_n 1, 1) := by decide +kernel
theorem dX4_readPart_56 : decode cX4_readPart 56 = .ok (.getfield 71, 3) := by decide +kernel
theorem dX4_readPart_59 : decode cX4_readPart 59 = .ok (.bipush 8, 2) := by decide +kernel
theorem dX4_readPart_61 : decode cX4_readPart 61 = .ok (.if_icmp .ge 11, 3) := by decide +kernel
theorem dX4_readPart_64 : decode cX4_readPart 64 = .ok (.aload_n 0, 1) := by decide +kernel
theorem dX4_readPart_65 : decode cX4_readPart 65 = .ok (.aload_n 1, 1) := by decide +kernel
theorem dX4_readPart_66 : decode cX4_readPart 66 = .ok (.invokevirtual 74, 3) := by decide +kernel
theorem dX4_readPart_69 : decode cX4_readPart 69 = .ok (.goto 8, 3) := by decide +kernel
theorem dX4_readPart_72 : decode cX4_readPart 72 = .ok (.aload_n 0, 1) := by decide +kernel
theorem dX4_readPart_73 : decode cX4_readPart 73 = .ok (.iconst 1, 1) := by decide +kernel
theorem dX4_readPart_74 : decode cX4_readPart 74 = .ok (.putfield 22, 3) := by decide +kernel
theorem dX4_readPart_77 : decode cX4_readPart 77 = .ok (.return_, 1) := by decide +kernel
theorem dX4_readWalker_0 : decode cX4_readWalker 0 = .ok (.aload_n 0, 1) := by decide +kernel
theorem dX4_readWalker_1 : decode cX4_readWalker 1 = .ok (.dup, 1) := by decide +kernel
theorem dX4_readWalker_2 : decode cX4_readWalker 2 = .ok (.getfield 19, 3) := by decide +kernel
theorem dX4_readWalker_5 : decode cX4_readWalker 5 = .ok (.iconst 1, 1) := by decide +kernel
theorem dX4_readWalker_6 : decode cX4_readWalker 6 = .ok (.iadd, 1) := by decide +kernel
theorem dX4_readWalker_7 : decode cX4_readWalker 7 = .ok (.putfield 19, 3) := by decide +kernel
theorem dX4_readWalker_10 : decode cX4_readWalker 10 = .ok (.aload_n 0, 1) := by decide +kernel
theorem dX4_readWalker_11 : decode cX4_readWalker 11 = .ok (.iconst 1, 1) := by decide +kernel
theorem dX4_readWalker_12 : decode cX4_readWalker 12 = .ok (.iconst 3, 1) := by decide +kernel
theorem dX4_readWalker_13 : decode cX4_readWalker 13 = .ok (.invokevirtual 42, 3) := by decide +kernel
theorem dX4_readWalker_16 : decode cX4_readWalker 16 = .ok (.istore_n 2, 1) := by decide +kernel
theorem dX4_readWalker_17 : decode cX4_readWalker 17 = .ok (.aload_n 0, 1) := by decide +kernel
theorem dX4_readWalker_18 : decode cX4_readWalker 18 = .ok (.iconst 0, 1) := by decide +kernel
theorem dX4_readWalker_19 : decode cX4_readWalker 19 = .ok (.iconst 5, 1) := by decide +kernel
theorem dX4_readWalker_20 : decode cX4_readWalker 20 = .ok (.invokevirtual 42, 3) := by decide +kernel
theorem dX4_readWalker_23 : decode cX4_readWalker 23 = .ok (.istore_n 3, 1) := by decide +kernel
theorem dX4_readWalker_24 : decode cX4_readWalker 24 = .ok (.aload_n 0, 1) := by decide +kernel
theorem dX4_readWalker_25 : decode cX4_readWalker 25 = .ok (.getfield 22, 3) := by decide +kernel
theorem dX4_readWalker_28 : decode cX4_readWalker 28 = .ok (.ifCond .ne 9, 3) := by decide +kernel
theorem dX4_readWalker_31 : decode cX4_readWalker 31 = .ok (.aload_n 1, 1) := by decide +kernel
theorem dX4_readWalker_32 : decode cX4_readWalker 32 = .ok (.iload_n 2, 1) := by decide +kernel
theorem dX4_readWalker_33 : decode cX4_readWalker 33 = .ok (.iload_n 3, 1) := by decide +kernel
theorem dX4_readWalker_34 : decode cX4_readWalker 34 = .ok (.invokevirtual 77, 3) := by decide +kernel
theorem dX4_readWalker_37 : decode cX4_readWalker 37 = .ok (.return_, 1) := by decide +kernel
theorem dX4_readTower_0 : decode cX4_readTower 0 = .ok (.aload_n 0, 1) := by decide +kernel
theorem dX4_readTower_1 : decode cX4_readTower 1 = .ok (.dup, 1) := by decide +kernel
theorem dX4_readTower_2 : decode cX4_readTower 2 = .ok (.getfield 19, 3) := by decide +kernel
theorem dX4_readTower_5 : decode cX4_readTower 5 = .ok (.iconst 1, 1) := by decide +kernel
theorem dX4_readTower_6 : decode cX4_readTower 6 = .ok (.iadd, 1) := by decide +kernel
theorem dX4_readTower_7 : decode cX4_readTower 7 = .ok (.putfield 19, 3) := by decide +kernel
theorem dX4_readTower_10 : decode cX4_readTower 10 = .ok (.aload_n 1, 1) := by decide +kernel
theorem dX4_readTower_11 : decode cX4_readTower 11 = .ok (.aload_n 0, 1) := by decide +kernel
theorem dX4_readTower_12 : decode cX4_readTower 12 = .ok (.invokevirtual 38, 3) := by decide +kernel
theorem dX4_readTower_15 : decode cX4_readTower 15 = .ok (.bipush 48, 2) := by decide +kernel
theorem dX4_readTower_17 : decode cX4_readTower 17 = .ok (.isub, 1) := by decide +kernel
theorem dX4_readTower_18 : decode cX4_readTower 18 = .ok (.invokevirtual 80, 3) := by decide +kernel
theorem dX4_readTower_21 : decode cX4_readTower 21 = .ok (.ifCond .le 8, 3) := by decide +kernel
theorem dX4_readTower_24 : decode cX4_readTower 24 = .ok (.aload_n 0, 1) := by decide +kernel
theorem dX4_readTower_25 : decode cX4_readTower 25 = .ok (.iconst 1, 1) := by decide +kernel
theorem dX4_readTower_26 : decode cX4_readTower 26 = .ok (.putfield 22, 3) := by decide +kernel
theorem dX4_readTower_29 : decode cX4_readTower 29 = .ok (.aload_n 0, 1) := by decide +kernel
theorem dX4_readTower_30 : decode cX4_readTower 30 = .ok (.iconst 1, 1) := by decide +kernel
theorem dX4_readTower_31 : decode cX4_readTower 31 = .ok (.bipush 8, 2) := by decide +kernel
theorem dX4_readTower_33 : decode cX4_readTower 33 = .ok (.invokevirtual 42, 3) := by decide +kernel
theorem dX4_readTower_36 : decode cX4_readTower 36 = .ok (.istore_n 2, 1) := by decide +kernel
theorem dX4_readTower_37 : decode cX4_readTower 37 = .ok (.aload_n 0, 1) := by decide +kernel
theorem dX4_readTower_38 : decode cX4_readTower 38 = .ok (.iconst 1, 1) := by decide +kernel
theorem dX4_readTower_39 : decode cX4_readTower 39 = .ok (.iconst 4, 1) := by decide +kernel
theorem dX4_readTower_40 : decode cX4_readTower 40 = .ok (.invokevirtual 42, 3) := by decide +kernel
theorem dX4_readTower_43 : decode cX4_readTower 43 = .ok (.istore_n 3, 1) := by decide +kernel
theorem dX4_readTower_44 : decode cX4_readTower 44 = .ok (.aload_n 0, 1) := by decide +kernel
theorem dX4_readTower_45 : decode cX4_readTower 45 = .ok (.getfield 22, 3) := by decide +kernel
theorem dX4_readTower_48 : decode cX4_readTower 48 = .ok (.ifCond .ne 9, 3) := by decide +kernel
theorem dX4_readTower_51 : decode cX4_readTower 51 = .ok (.aload_n 1, 1) := by decide +kernel
theorem dX4_readTower_52 : decode cX4_readTower 52 = .ok (.iload_n 2, 1) := by decide +kernel
theorem dX4_readTower_53 : decode cX4_readTower 53 = .ok (.iload_n 3, 1) := by decide +kernel
theorem dX4_readTower_54 : decode cX4_readTower 54 = .ok (.invokevirtual 84, 3) := by decide +kernel
theorem dX4_readTower_57 : decode cX4_readTower 57 = .ok (.return_, 1) := by decide +kernel
theorem dX4_readSoft_0 : decode cX4_readSoft 0 = .ok (.aload_n 0, 1) := by decide +kernel
theorem dX4_readSoft_1 : decode cX4_readSoft 1 = .ok (.dup, 1) := by decide +kernel
theorem dX4_readSoft_2 : decode cX4_readSoft 2 = .ok (.getfield 19, 3) := by decide +kernel
theorem dX4_readSoft_5 : decode cX4_readSoft 5 = .ok (.iconst 1, 1) := by decide +kernel
theorem dX4_readSoft_6 : decode cX4_readSoft 6 = .ok (.iadd, 1) := by decide +kernel
theorem dX4_readSoft_7 : decode cX4_readSoft 7 = .ok (.putfield 19, 3) := by decide +kernel
theorem dX4_readSoft_10 : decode cX4_readSoft 10 = .ok (.aload_n 1, 1) := by decide +kernel
theorem dX4_readSoft_11 : decode cX4_readSoft 11 = .ok (.aload_n 0, 1) := by decide +kernel
theorem dX4_readSoft_12 : decode cX4_readSoft 12 = .ok (.invokevirtual 38, 3) := by decide +kernel
theorem dX4_readSoft_15 : decode cX4_readSoft 15 = .ok (.bipush 48, 2) := by decide +kernel
theorem dX4_readSoft_17 : decode cX4_readSoft 17 = .ok (.isub, 1) := by decide +kernel
theorem dX4_readSoft_18 : decode cX4_readSoft 18 = .ok (.invokevirtual 87, 3) := by decide +kernel
theorem dX4_readSoft_21 : decode cX4_readSoft 21 = .ok (.ifCond .eq 8, 3) := by decide +kernel
theorem dX4_readSoft_24 : decode cX4_readSoft 24 = .ok (.aload_n 0, 1) := by decide +kernel
theorem dX4_readSoft_25 : decode cX4_readSoft 25 = .ok (.iconst 1, 1) := by decide +kernel
theorem dX4_readSoft_26 : decode cX4_readSoft 26 = .ok (.putfield 22, 3) := by decide +kernel
theorem dX4_readSoft_29 : decode cX4_readSoft 29 = .ok (.aload_n 0, 1) := by decide +kernel
theorem dX4_readSoft_30 : decode cX4_readSoft 30 = .ok (.iconst 1, 1) := by decide +kernel
theorem dX4_readSoft_31 : decode cX4_readSoft 31 = .ok (.bipush 8, 2) := by decide +kernel
theorem dX4_readSoft_33 : decode cX4_readSoft 33 = .ok (.invokevirtual 42, 3) := by decide +kernel
theorem dX4_readSoft_36 : decode cX4_readSoft 36 = .ok (.istore_n 2, 1) := by decide +kernel
theorem dX4_readSoft_37 : decode cX4_readSoft 37 = .ok (.aload_n 0, 1) := by decide +kernel
theorem dX4_readSoft_38 : decode cX4_readSoft 38 = .ok (.getfield 22, 3) := by decide +kernel
theorem dX4_readSoft_41 : decode cX4_readSoft 41 = .ok (.ifCond .ne 8, 3) := by decide +kernel
theorem dX4_readSoft_44 : decode cX4_readSoft 44 = .ok (.aload_n 1, 1) := by decide +kernel
theorem dX4_readSoft_45 : decode cX4_readSoft 45 = .ok (.iload_n 2, 1) := by decide +kernel
theorem dX4_readSoft_46 : decode cX4_readSoft 46 = .ok (.invokevirtual 91, 3) := by decide +kernel
theorem dX4_readSoft_49 : decode cX4_readSoft 49 = .ok (.return_, 1) := by decide +kernel
theorem dX4_letterHere_0 : decode cX4_letterHere 0 = .ok (.aload_n 0, 1) := by decide +kernel
theorem dX4_letterHere_1 : decode cX4_letterHere 1 = .ok (.getfield 19, 3) := by decide +kernel
theorem dX4_letterHere_4 : decode cX4_letterHere 4 = .ok (.ifCond .lt 35, 3) := by decide +kernel
theorem dX4_letterHere_7 : decode cX4_letterHere 7 = .ok (.aload_n 0, 1) := by decide +kernel
theorem dX4_letterHere_8 : decode cX4_letterHere 8 = .ok (.getfield 19, 3) := by decide +kernel
theorem dX4_letterHere_11 : decode cX4_letterHere 11 = .ok (.aload_n 0, 1) := by decide +kernel
theorem dX4_letterHere_12 : decode cX4_letterHere 12 = .ok (.getfield 15, 3) := by decide +kernel
theorem dX4_letterHere_15 : decode cX4_letterHere 15 = .ok (.if_icmp .ge 24, 3) := by decide +kernel
theorem dX4_letterHere_18 : decode cX4_letterHere 18 = .ok (.aload_n 0, 1) := by decide +kernel
theorem dX4_letterHere_19 : decode cX4_letterHere 19 = .ok (.getfield 19, 3) := by decide +kernel
theorem dX4_letterHere_22 : decode cX4_letterHere 22 = .ok (.bipush 56, 2) := by decide +kernel
theorem dX4_letterHere_24 : decode cX4_letterHere 24 = .ok (.if_icmp .ge 15, 3) := by decide +kernel
theorem dX4_letterHere_27 : decode cX4_letterHere 27 = .ok (.aload_n 0, 1) := by decide +kernel
theorem dX4_letterHere_28 : decode cX4_letterHere 28 = .ok (.getfield 9, 3) := by decide +kernel
theorem dX4_letterHere_31 : decode cX4_letterHere 31 = .ok (.aload_n 0, 1) := by decide +kernel
theorem dX4_letterHere_32 : decode cX4_letterHere 32 = .ok (.getfield 19, 3) := by decide +kernel
theorem dX4_letterHere_35 : decode cX4_letterHere 35 = .ok (.iaload, 1) := by decide +kernel
theorem dX4_letterHere_36 : decode cX4_letterHere 36 = .ok (.goto 4, 3) := by decide +kernel
theorem dX4_letterHere_39 : decode cX4_letterHere 39 = .ok (.iconst (-1), 1) := by decide +kernel
theorem dX4_letterHere_40 : decode cX4_letterHere 40 = .ok (.ireturn, 1) := by decide +kernel
theorem dX4_figure_0 : decode cX4_figure 0 = .ok (.aload_n 0, 1) := by decide +kernel
theorem dX4_figure_1 : decode cX4_figure 1 = .ok (.invokevirtual 38, 3) := by decide +kernel
theorem dX4_figure_4 : decode cX4_figure 4 = .ok (.bipush 48, 2) := by decide +kernel
theorem dX4_figure_6 : decode cX4_figure 6 = .ok (.isub, 1) := by decide +kernel
theorem dX4_figure_7 : decode cX4_figure 7 = .ok (.istore_n 3, 1) := by decide +kernel
theorem dX4_figure_8 : decode cX4_figure 8 = .ok (.iload_n 3, 1) := by decide +kernel
theorem dX4_figure_9 : decode cX4_figure 9 = .ok (.iload_n 1, 1) := by decide +kernel
theorem dX4_figure_10 : decode cX4_figure 10 = .ok (.if_icmp .lt 8, 3) := by decide +kernel
theorem dX4_figure_13 : decode cX4_figure 13 = .ok (.iload_n 3, 1) := by decide +kernel
theorem dX4_figure_14 : decode cX4_figure 14 = .ok (.iload_n 2, 1) := by decide +kernel
theorem dX4_figure_15 : decode cX4_figure 15 = .ok (.if_icmp .le 8, 3) := by decide +kernel
theorem dX4_figure_18 : decode cX4_figure 18 = .ok (.aload_n 0, 1) := by decide +kernel
theorem dX4_figure_19 : decode cX4_figure 19 = .ok (.iconst 1, 1) := by decide +kernel
theorem dX4_figure_20 : decode cX4_figure 20 = .ok (.putfield 22, 3) := by decide +kernel
theorem dX4_figure_23 : decode cX4_figure 23 = .ok (.aload_n 0, 1) := by decide +kernel
theorem dX4_figure_24 : decode cX4_figure 24 = .ok (.getfield 22, 3) := by decide +kernel
theorem dX4_figure_27 : decode cX4_figure 27 = .ok (.ifCond .eq 5, 3) := by decide +kernel
theorem dX4_figure_30 : decode cX4_figure 30 = .ok (.iload_n 1, 1) := by decide +kernel
theorem dX4_figure_31 : decode cX4_figure 31 = .ok (.ireturn, 1) := by decide +kernel
theorem dX4_figure_32 : decode cX4_figure 32 = .ok (.aload_n 0, 1) := by decide +kernel
theorem dX4_figure_33 : decode cX4_figure 33 = .ok (.dup, 1) := by decide +kernel
theorem dX4_figure_34 : decode cX4_figure 34 = .ok (.getfield 19, 3) := by decide +kernel
theorem dX4_figure_37 : decode cX4_figure 37 = .ok (.iconst 1, 1) := by decide +kernel
theorem dX4_figure_38 : decode cX4_figure 38 = .ok (.iadd, 1) := by decide +kernel
theorem dX4_figure_39 : decode cX4_figure 39 = .ok (.putfield 19, 3) := by decide +kernel
theorem dX4_figure_42 : decode cX4_figure 42 = .ok (.iload_n 3, 1) := by decide +kernel
theorem dX4_figure_43 : decode cX4_figure 43 = .ok (.ireturn, 1) := by decide +kernel
theorem dX5_init_0 : decode cX5_init 0 = .ok (.aload_n 0, 1) := by decide +kernel
theorem dX5_init_1 : decode cX5_init 1 = .ok (.invokespecial 3, 3) := by decide +kernel
theorem dX5_init_4 : decode cX5_init 4 = .ok (.return_, 1) := by decide +kernel
theorem dX5_begin_0 : decode cX5_begin 0 = .ok (.aload_n 0, 1) := by decide +kernel
theorem dX5_begin_1 : decode cX5_begin 1 = .ok (.aload_n 1, 1) := by decide +kernel
theorem dX5_begin_2 : decode cX5_begin 2 = .ok (.iload_n 2, 1) := by decide +kernel
theorem dX5_begin_3 : decode cX5_begin 3 = .ok (.invokevirtual 9, 3) := by decide +kernel
theorem dX5_begin_6 : decode cX5_begin 6 = .ok (.putfield 15, 3) := by decide +kernel
theorem dX5_begin_9 : decode cX5_begin 9 = .ok (.aload_n 0, 1) := by decide +kernel
theorem dX5_begin_10 : decode cX5_begin 10 = .ok (.aload_n 1, 1) := by decide +kernel
theorem dX5_begin_11 : decode cX5_begin 11 = .ok (.iload_n 2, 1) := by decide +kernel
theorem dX5_begin_12 : decode cX5_begin 12 = .ok (.invokevirtual 21, 3) := by decide +kernel
theorem dX5_begin_15 : decode cX5_begin 15 = .ok (.putfield 24, 3) := by decide +kernel
theorem dX5_begin_18 : decode cX5_begin 18 = .ok (.aload_n 0, 1) := by decide +kernel
theorem dX5_begin_19 : decode cX5_begin 19 = .ok (.aload_n 1, 1) := by decide +kernel
theorem dX5_begin_20 : decode cX5_begin 20 = .ok (.getfield 27, 3) := by decide +kernel
theorem dX5_begin_23 : decode cX5_begin 23 = .ok (.putfield 30, 3) := by decide +kernel
theorem dX5_begin_26 : decode cX5_begin 26 = .ok (.aload_n 0, 1) := by decide +kernel
theorem dX5_begin_27 : decode cX5_begin 27 = .ok (.iload_n 3, 1) := by decide +kernel
theorem dX5_begin_28 : decode cX5_begin 28 = .ok (.putfield 31, 3) := by decide +kernel
theorem dX5_begin_31 : decode cX5_begin 31 = .ok (.aload_n 0, 1) := by decide +kernel
theorem dX5_begin_32 : decode cX5_begin 32 = .ok (.iload 4, 2) := by decide +kernel
theorem dX5_begin_34 : decode cX5_begin 34 = .ok (.putfield 34, 3) := by decide +kernel
theorem dX5_begin_37 : decode cX5_begin 37 = .ok (.aload_n 0, 1) := by decide +kernel
theorem dX5_begin_38 : decode cX5_begin 38 = .ok (.iconst 0, 1) := by decide +kernel
theorem dX5_begin_39 : decode cX5_begin 39 = .ok (.putfield 37, 3) := by decide +kernel
theorem dX5_begin_42 : decode cX5_begin 42 = .ok (.return_, 1) := by decide +kernel
theorem dX5_isLost_0 : decode cX5_isLost 0 = .ok (.aload_n 0, 1) := by decide +kernel
theorem dX5_isLost_1 : decode cX5_isLost 1 = .ok (.getfield 37, 3) := by decide +kernel
theorem dX5_isLost_4 : decode cX5_isLost 4 = .ok (.iconst 2, 1) := by decide +kernel
theorem dX5_isLost_5 : decode cX5_isLost 5 = .ok (.if_icmp .eq 11, 3) := by decide +kernel
theorem dX5_isLost_8 : decode cX5_isLost 8 = .ok (.aload_n 0, 1) := by decide +kernel
theorem dX5_isLost_9 : decode cX5_isLost 9 = .ok (.getfield 37, 3) := by decide +kernel
theorem dX5_isLost_12 : decode cX5_isLost 12 = .ok (.iconst 3, 1) := by decide +kernel
theorem dX5_isLost_13 : decode cX5_isLost 13 = .ok (.if_icmp .ne 7, 3) := by decide +kernel
theorem dX5_isLost_16 : decode cX5_isLost 16 = .ok (.iconst 1, 1) := by decide +kernel
theorem dX5_isLost_17 : decode cX5_isLost 17 = .ok (.goto 4, 3) := by decide +kernel
theorem dX5_isLost_20 : decode cX5_isLost 20 = .ok (.iconst 0, 1) := by decide +kernel
theorem dX5_isLost_21 : decode cX5_isLost 21 = .ok (.ireturn, 1) := by decide +kernel
theorem dX5_move_0 : decode cX5_move 0 = .ok (.aload_n 0, 1) := by decide +kernel
theorem dX5_move_1 : decode cX5_move 1 = .ok (.getfield 31, 3) := by decide +kernel
theorem dX5_move_4 : decode cX5_move 4 = .ok (.istore_n 3, 1) := by decide +kernel
theorem dX5_move_5 : decode cX5_move 5 = .ok (.aload_n 1, 1) := by decide +kernel
theorem dX5_move_6 : decode cX5_move 6 = .ok (.aload_n 0, 1) := by decide +kernel
theorem dX5_move_7 : decode cX5_move 7 = .ok (.getfield 34, 3) := by decide +kernel
theorem dX5_move_10 : decode cX5_move 10 = .ok (.aload_n 0, 1) := by decide +kernel
theorem dX5_move_11 : decode cX5_move 11 = .ok (.getfield 30, 3) := by decide +kernel
theorem dX5_move_14 : decode cX5_move 14 = .ok (.invokevirtual 40, 3) := by decide +kernel
theorem dX5_move_17 : decode cX5_move 17 = .ok (.istore 4, 2) := by decide +kernel
theorem dX5_move_19 : decode cX5_move 19 = .ok (.iload_n 2, 1) := by decide +kernel
theorem dX5_move_20 : decode cX5_move 20 = .ok (.iconst 1, 1) := by decide +kernel
theorem dX5_move_21 : decode cX5_move 21 = .ok (.if_icmp .ne 11, 3) := by decide +kernel
theorem dX5_move_24 : decode cX5_move 24 = .ok (.aload_n 0, 1) := by decide +kernel
theorem dX5_move_25 : decode cX5_move 25 = .ok (.aload_n 1, 1) := by decide +kernel
theorem dX5_move_26 : decode cX5_move 26 = .ok (.iload 4, 2) := by decide +kernel
theorem dX5_move_28 : decode cX5_move 28 = .ok (.iconst 1, 1) := by decide +kernel
theorem dX5_move_29 : decode cX5_move 29 = .ok (.invokevirtual 44, 3) := by decide +kernel
theorem dX5_move_32 : decode cX5_move 32 = .ok (.iload_n 2, 1) := by decide +kernel
theorem dX5_move_33 : decode cX5_move 33 = .ok (.iconst 2, 1) := by decide +kernel
theorem dX5_move_34 : decode cX5_move 34 = .ok (.if_icmp .ne 11, 3) := by decide +kernel
theorem dX5_move_37 : decode cX5_move 37 = .ok (.aload_n 0, 1) := by decide +kernel
theorem dX5_move_38 : decode cX5_move 38 = .ok (.aload_n 1, 1) := by decide +kernel
theorem dX5_move_39 : decode cX5_move 39 = .ok (.iload 4, 2) := by decide +kernel
theorem dX5_move_41 : decode cX5_move 41 = .ok (.iconst (-1), 1) := by decide +kernel
theorem dX5_move_42 : decode cX5_move 42 = .ok (.invokevirtual 44, 3) := by decide +kernel
theorem dX5_move_45 : decode cX5_move 45 = .ok (.aload_n 0, 1) := by decide +kernel
theorem dX5_move_46 : decode cX5_move 46 = .ok (.dup, 1) := by decide +kernel
theorem dX5_move_47 : decode cX5_move 47 = .ok (.getfield 34, 3) := by decide +kernel
theorem dX5_move_50 : decode cX5_move 50 = .ok (.iconst 1, 1) := by decide +kernel
theorem dX5_move_51 : decode cX5_move 51 = .ok (.iadd, 1) := by decide +kernel
theorem dX5_move_52 : decode cX5_move 52 = .ok (.putfield 34, 3) := by decide +kernel
theorem dX5_move_55 : decode cX5_move 55 = .ok (.iload_n 2, 1) := by decide +kernel
theorem dX5_move_56 : decode cX5_move 56 = .ok (.iconst 1, 1) := by decide +kernel
theorem dX5_move_57 : decode cX5_move 57 = .ok (.if_icmp .ne 20, 3) := by decide +kernel
theorem dX5_move_60 : decode cX5_move 60 = .ok (.aload_n 0, 1) := by decide +kernel
theorem dX5_move_61 : decode cX5_move 61 = .ok (.getfield 31, 3) := by decide +kernel
theorem dX5_move_64 : decode cX5_move 64 = .ok (.bipush 9, 2) := by decide +kernel
theorem dX5_move_66 : decode cX5_move 66 = .ok (.if_icmp .ne 11, 3) := by decide +kernel
theorem dX5_move_69 : decode cX5_move 69 = .ok (.aload_n 0, 1) := by decide +kernel
theorem dX5_move_70 : decode cX5_move 70 = .ok (.iconst 1, 1) := by decide +kernel
theorem dX5_move_71 : decode cX5_move 71 = .ok (.putfield 37, 3) := by decide +kernel
theorem dX5_move_74 : decode cX5_move 74 = .ok (.goto 62, 3) := by decide +kernel
theorem dX5_move_77 : decode cX5_move 77 = .ok (.aload_n 1, 1) := by decide +kernel
theorem dX5_move_78 : decode cX5_move 78 = .ok (.aload_n 0, 1) := by decide +kernel
theorem dX5_move_79 : decode cX5_move 79 = .ok (.getfield 31, 3) := by decide +kernel
theorem dX5_move_82 : decode cX5_move 82 = .ok (.aload_n 1, 1) := by decide +kernel
theorem dX5_move_83 : decode cX5_move 83 = .ok (.aload_n 0, 1) := by decide +kernel
theorem dX5_move_84 : decode cX5_move 84 = .ok (.getfield 34, 3) := by decide +kernel
theorem dX5_move_87 : decode cX5_move 87 = .ok (.aload_n 0, 1) := by decide +kernel
theorem dX5_move_88 : decode cX5_move 88 = .ok (.getfield 30, 3) := by decide +kernel
theorem dX5_move_91 : decode cX5_move 91 = .ok (.invokevirtual 40, 3) := by decide +kernel
theorem dX5_move_94 : decode cX5_move 94 = .ok (.invokevirtual 48, 3) := by decide +kernel
theorem dX5_move_97 : decode cX5_move 97 = .ok (.aload_n 0, 1) := by decide +kernel
theorem dX5_move_98 : decode cX5_move 98 = .ok (.getfield 24, 3) := by decide +kernel
theorem dX5_move_101 : decode cX5_move 101 = .ok (.if_icmp .le 11, 3) := by decide +kernel
theorem dX5_move_104 : decode cX5_move 104 = .ok (.aload_n 0, 1) := by decide +kernel
theorem dX5_move_105 : decode cX5_move 105 = .ok (.iconst 2, 1) := by decide +kernel
theorem dX5_move_106 : decode cX5_move 106 = .ok (.putfield 37, 3) := by decide +kernel
theorem dX5_move_109 : decode cX5_move 109 = .ok (.goto 27, 3) := by decide +kernel
theorem dX5_move_112 : decode cX5_move 112 = .ok (.aload_n 0, 1) := by decide +kernel
theorem dX5_move_113 : decode cX5_move 113 = .ok (.getfield 31, 3) := by decide +kernel
theorem dX5_move_116 : decode cX5_move 116 = .ok (.iload_n 3, 1) := by decide +kernel
theorem dX5_move_117 : decode cX5_move 117 = .ok (.if_icmp .ne 19, 3) := by decide +kernel
theorem dX5_move_120 : decode cX5_move 120 = .ok (.aload_n 1, 1) := by decide +kernel
theorem dX5_move_121 : decode cX5_move 121 = .ok (.aload_n 0, 1) := by decide +kernel
theorem dX5_move_122 : decode cX5_move 122 = .ok (.getfield 31, 3) := by decide +kernel
theorem dX5_move_125 : decode cX5_move 125 = .ok (.invokevirtual 51, 3) := by decide +kernel
theorem dX5_move_128 : decode cX5_move 128 = .ok (.ifCond .eq 8, 3) := by decide +kernel
theorem dX5_move_131 : decode cX5_move 131 = .ok (.aload_n 0, 1) := by decide +kernel
theorem dX5_move_132 : decode cX5_move 132 = .ok (.iconst 3, 1) := by decide +kernel
theorem dX5_move_133 : decode cX5_move 133 = .ok (.putfield 37, 3) := by decide +kernel
theorem dX5_move_136 : decode cX5_move 136 = .ok (.return_, 1) := by decide +kernel
theorem dX5_goTillThere_0 : decode cX5_goTillThere 0 = .ok (.iload_n 2, 1) := by decide +kernel
theorem dX5_goTillThere_1 : decode cX5_goTillThere 1 = .ok (.iconst 1, 1) := by decide +kernel
theorem dX5_goTillThere_2 : decode cX5_goTillThere 2 = .ok (.if_icmp .ne 8, 3) := by decide +kernel
theorem dX5_goTillThere_5 : decode cX5_goTillThere 5 = .ok (.bipush 9, 2) := by decide +kernel
theorem dX5_goTillThere_7 : decode cX5_goTillThere 7 = .ok (.goto 4, 3) := by decide +kernel
theorem dX5_goTillThere_10 : decode cX5_goTillThere 10 = .ok (.iconst 0, 1) := by decide +kernel
theorem dX5_goTillThere_11 : decode cX5_goTillThere 11 = .ok (.istore_n 3, 1) := by decide +kernel
theorem dX5_goTillThere_12 : decode cX5_goTillThere 12 = .ok (.iconst 0, 1) := by decide +kernel
theorem dX5_goTillThere_13 : decode cX5_goTillThere 13 = .ok (.istore 4, 2) := by decide +kernel
theorem dX5_goTillThere_15 : decode cX5_goTillThere 15 = .ok (.iload 4, 2) := by decide +kernel
theorem dX5_goTillThere_17 : decode cX5_goTillThere 17 = .ok (.bipush 40, 2) := by decide +kernel
theorem dX5_goTillThere_19 : decode cX5_goTillThere 19 = .ok (.if_icmp .gt 47, 3) := by decide +kernel
theorem dX5_goTillThere_22 : decode cX5_goTillThere 22 = .ok (.aload_n 0, 1) := by decide +kernel
theorem dX5_goTillThere_23 : decode cX5_goTillThere 23 = .ok (.getfield 31, 3) := by decide +kernel
theorem dX5_goTillThere_26 : decode cX5_goTillThere 26 = .ok (.iload_n 3, 1) := by decide +kernel
theorem dX5_goTillThere_27 : decode cX5_goTillThere 27 = .ok (.if_icmp .ne 8, 3) := by decide +kernel
theorem dX5_goTillThere_30 : decode cX5_goTillThere 30 = .ok (.aload_n 0, 1) := by decide +kernel
theorem dX5_goTillThere_31 : decode cX5_goTillThere 31 = .ok (.getfield 34, 3) := by decide +kernel
theorem dX5_goTillThere_34 : decode cX5_goTillThere 34 = .ok (.ireturn, 1) := by decide +kernel
theorem dX5_goTillThere_35 : decode cX5_goTillThere 35 = .ok (.aload_n 0, 1) := by decide +kernel
theorem dX5_goTillThere_36 : decode cX5_goTillThere 36 = .ok (.getfield 37, 3) := by decide +kernel
theorem dX5_goTillThere_39 : decode cX5_goTillThere 39 = .ok (.ifCond .ne 12, 3) := by decide +kernel
theorem dX5_goTillThere_42 : decode cX5_goTillThere 42 = .ok (.aload_n 0, 1) := by decide +kernel
theorem dX5_goTillThere_43 : decode cX5_goTillThere 43 = .ok (.getfield 34, 3) := by decide +kernel
theorem dX5_goTillThere_46 : decode cX5_goTillThere 46 = .ok (.bipush 40, 2) := by decide +kernel
theorem dX5_goTillThere_48 : decode cX5_goTillThere 48 = .ok (.if_icmp .lt 6, 3) := by decide +kernel
theorem dX5_goTillThere_51 : decode cX5_goTillThere 51 = .ok (.bipush (-9), 2) := by decide +kernel
theorem dX5_goTillThere_53 : decode cX5_goTillThere 53 = .ok (.ireturn, 1) := by decide +kernel
theorem dX5_goTillThere_54 : decode cX5_goTillThere 54 = .ok (.aload_n 0, 1) := by decide +kernel
theorem dX5_goTillThere_55 : decode cX5_goTillThere 55 = .ok (.aload_n 1, 1) := by decide +kernel
theorem dX5_goTillThere_56 : decode cX5_goTillThere 56 = .ok (.iload_n 2, 1) := by decide +kernel
theorem dX5_goTillThere_57 : decode cX5_goTillThere 57 = .ok (.invokevirtual 55, 3) := by decide +kernel
theorem dX5_goTillThere_60 : decode cX5_goTillThere 60 = .ok (.iinc 4 1, 3) := by decide +kernel
theorem dX5_goTillThere_63 : decode cX5_goTillThere 63 = .ok (.goto (-48), 3) := by decide +kernel
theorem dX5_goTillThere_66 : decode cX5_goTillThere 66 = .ok (.bipush (-9), 2) := by decide +kernel
theorem dX5_goTillThere_68 : decode cX5_goTillThere 68 = .ok (.ireturn, 1) := by decide +kernel
theorem dX5_goAlong_0 : decode cX5_goAlong 0 = .ok (.aload_n 1, 1) := by decide +kernel
theorem dX5_goAlong_1 : decode cX5_goAlong 1 = .ok (.aload_n 0, 1) := by decide +kernel
theorem dX5_goAlong_2 : decode cX5_goAlong 2 = .ok (.getfield 31, 3) := by decide +kernel
theorem dX5_goAlong_5 : decode cX5_goAlong 5 = .ok (.iload_n 2, 1) := by decide +kernel
theorem dX5_goAlong_6 : decode cX5_goAlong 6 = .ok (.invokevirtual 48, 3) := by decide +kernel
theorem dX5_goAlong_9 : decode cX5_goAlong 9 = .ok (.ifCond .le 14, 3) := by decide +kernel
theorem dX5_goAlong_12 : decode cX5_goAlong 12 = .ok (.aload_n 0, 1) := by decide +kernel
theorem dX5_goAlong_13 : decode cX5_goAlong 13 = .ok (.getfield 15, 3) := by decide +kernel
theorem dX5_goAlong_16 : decode cX5_goAlong 16 = .ok (.iconst 1, 1) := by decide +kernel
theorem dX5_goAlong_17 : decode cX5_goAlong 17 = .ok (.iadd, 1) := by decide +kernel
theorem dX5_goAlong_18 : decode cX5_goAlong 18 = .ok (.iconst 2, 1) := by decide +kernel
theorem dX5_goAlong_19 : decode cX5_goAlong 19 = .ok (.idiv, 1) := by decide +kernel
theorem dX5_goAlong_20 : decode cX5_goAlong 20 = .ok (.goto 7, 3) := by decide +kernel
theorem dX5_goAlong_23 : decode cX5_goAlong 23 = .ok (.aload_n 0, 1) := by decide +kernel
theorem dX5_goAlong_24 : decode cX5_goAlong 24 = .ok (.getfield 15, 3) := by decide +kernel
theorem dX5_goAlong_27 : decode cX5_goAlong 27 = .ok (.istore 4, 2) := by decide +kernel
theorem dX5_goAlong_29 : decode cX5_goAlong 29 = .ok (.iconst 0, 1) := by decide +kernel
theorem dX5_goAlong_30 : decode cX5_goAlong 30 = .ok (.istore 5, 2) := by decide +kernel
theorem dX5_goAlong_32 : decode cX5_goAlong 32 = .ok (.iload 5, 2) := by decide +kernel
theorem dX5_goAlong_34 : decode cX5_goAlong 34 = .ok (.iload 4, 2) := by decide +kernel
theorem dX5_goAlong_36 : decode cX5_goAlong 36 = .ok (.if_icmp .ge 50, 3) := by decide +kernel
theorem dX5_goAlong_39 : decode cX5_goAlong 39 = .ok (.aload_n 0, 1) := by decide +kernel
theorem dX5_goAlong_40 : decode cX5_goAlong 40 = .ok (.getfield 31, 3) := by decide +kernel
theorem dX5_goAlong_43 : decode cX5_goAlong 43 = .ok (.iload_n 3, 1) := by decide +kernel
theorem dX5_goAlong_44 : decode cX5_goAlong 44 = .ok (.iadd, 1) := by decide +kernel
theorem dX5_goAlong_45 : decode cX5_goAlong 45 = .ok (.istore 6, 2) := by decide +kernel
theorem dX5_goAlong_47 : decode cX5_goAlong 47 = .ok (.iload 6, 2) := by decide +kernel
theorem dX5_goAlong_49 : decode cX5_goAlong 49 = .ok (.ifCond .lt 24, 3) := by decide +kernel
theorem dX5_goAlong_52 : decode cX5_goAlong 52 = .ok (.iload 6, 2) := by decide +kernel
theorem dX5_goAlong_54 : decode cX5_goAlong 54 = .ok (.bipush 9, 2) := by decide +kernel
theorem dX5_goAlong_56 : decode cX5_goAlong 56 = .ok (.if_icmp .gt 17, 3) := by decide +kernel
theorem dX5_goAlong_59 : decode cX5_goAlong 59 = .ok (.aload_n 1, 1) := by decide +kernel
theorem dX5_goAlong_60 : decode cX5_goAlong 60 = .ok (.iload 6, 2) := by decide +kernel
theorem dX5_goAlong_62 : decode cX5_goAlong 62 = .ok (.iload_n 2, 1) := by decide +kernel
theorem dX5_goAlong_63 : decode cX5_goAlong 63 = .ok (.invokevirtual 48, 3) := by decide +kernel
theorem dX5_goAlong_66 : decode cX5_goAlong 66 = .ok (.aload_n 0, 1) := by decide +kernel
theorem dX5_goAlong_67 : decode cX5_goAlong 67 = .ok (.getfield 24, 3) := by decide +kernel
theorem dX5_goAlong_70 : decode cX5_goAlong 70 = .ok (.if_icmp .le 4, 3) := by decide +kernel
theorem dX5_goAlong_73 : decode cX5_goAlong 73 = .ok (.return_, 1) := by decide +kernel
theorem dX5_goAlong_74 : decode cX5_goAlong 74 = .ok (.aload_n 0, 1) := by decide +kernel
theorem dX5_goAlong_75 : decode cX5_goAlong 75 = .ok (.iload 6, 2) := by decide +kernel
theorem dX5_goAlong_77 : decode cX5_goAlong 77 = .ok (.putfield 31, 3) := by decide +kernel
theorem dX5_goAlong_80 : decode cX5_goAlong 80 = .ok (.iinc 5 1, 3) := by decide +kernel
theorem dX5_goAlong_83 : decode cX5_goAlong 83 = .ok (.goto (-51), 3) := by decide +kernel
theorem dX5_goAlong_86 : decode cX5_goAlong 86 = .ok (.return_, 1) := by decide +kernel
theorem dX6_init_0 : decode cX6_init 0 = .ok (.aload_n 0, 1) := by decide +kernel
theorem dX6_init_1 : decode cX6_init 1 = .ok (.invokespecial 3, 3) := by decide +kernel
theorem dX6_init_4 : decode cX6_init 4 = .ok (.aload_n 0, 1) := by decide +kernel
theorem dX6_init_5 : decode cX6_init 5 = .ok (.bipush 10, 2) := by decide +kernel
theorem dX6_init_7 : decode cX6_init 7 = .ok (.newarray .int, 2) := by decide +kernel
theorem dX6_init_9 : decode cX6_init 9 = .ok (.putfield 9, 3) := by decide +kernel
theorem dX6_init_12 : decode cX6_init 12 = .ok (.aload_n 0, 1) := by decide +kernel
theorem dX6_init_13 : decode cX6_init 13 = .ok (.bipush 10, 2) := by decide +kernel
theorem dX6_init_15 : decode cX6_init 15 = .ok (.newarray .int, 2) := by decide +kernel
theorem dX6_init_17 : decode cX6_init 17 = .ok (.putfield 15, 3) := by decide +kernel
theorem dX6_init_20 : decode cX6_init 20 = .ok (.return_, 1) := by decide +kernel
theorem dX6_oddsAt_0 : decode cX6_oddsAt 0 = .ok (.iload_n 1, 1) := by decide +kernel
theorem dX6_oddsAt_1 : decode cX6_oddsAt 1 = .ok (.invokestatic 18, 3) := by decide +kernel
theorem dX6_oddsAt_4 : decode cX6_oddsAt 4 = .ok (.ifCond .eq 10, 3) := by decide +kernel
theorem dX6_oddsAt_7 : decode cX6_oddsAt 7 = .ok (.iload_n 2, 1) := by decide +kernel
theorem dX6_oddsAt_8 : decode cX6_oddsAt 8 = .ok (.invokestatic 18, 3) := by decide +kernel
theorem dX6_oddsAt_11 : decode cX6_oddsAt 11 = .ok (.ifCond .ne 5, 3) := by decide +kernel
theorem dX6_oddsAt_14 : decode cX6_oddsAt 14 = .ok (.iconst 0, 1) := by decide +kernel
theorem dX6_oddsAt_15 : decode cX6_oddsAt 15 = .ok (.ireturn, 1) := by decide +kernel
theorem dX6_oddsAt_16 : decode cX6_oddsAt 16 = .ok (.iconst 0, 1) := by decide +kernel
theorem dX6_oddsAt_17 : decode cX6_oddsAt 17 = .ok (.istore 6, 2) := by decide +kernel
theorem dX6_oddsAt_19 : decode cX6_oddsAt 19 = .ok (.iload 6, 2) := by decide +kernel
theorem dX6_oddsAt_21 : decode cX6_oddsAt 21 = .ok (.bipush 10, 2) := by decide +kernel
theorem dX6_oddsAt_23 : decode cX6_oddsAt 23 = .ok (.if_icmp .ge 27, 3) := by decide +kernel
theorem dX6_oddsAt_26 : decode cX6_oddsAt 26 = .ok (.aload_n 0, 1) := by decide +kernel
theorem dX6_oddsAt_27 : decode cX6_oddsAt 27 = .ok (.getfield 9, 3) := by decide +kernel
theorem dX6_oddsAt_30 : decode cX6_oddsAt 30 = .ok (.iload 6, 2) := by decide +kernel
theorem dX6_oddsAt_32 : decode cX6_oddsAt 32 = .ok (.iload 6, 2) := by decide +kernel
theorem dX6_oddsAt_34 : decode cX6_oddsAt 34 = .ok (.iload_n 1, 1) := by decide +kernel
theorem dX6_oddsAt_35 : decode cX6_oddsAt 35 = .ok (.if_icmp .ne 7, 3) := by decide +kernel
theorem dX6_oddsAt_38 : decode cX6_oddsAt 38 = .ok (.iconst 1, 1) := by decide +kernel
theorem dX6_oddsAt_39 : decode cX6_oddsAt 39 = .ok (.goto 4, 3) := by decide +kernel
theorem dX6_oddsAt_42 : decode cX6_oddsAt 42 = .ok (.iconst 0, 1) := by decide +kernel
theorem dX6_oddsAt_43 : decode cX6_oddsAt 43 = .ok (.iastore, 1) := by decide +kernel
theorem dX6_oddsAt_44 : decode cX6_oddsAt 44 = .ok (.iinc 6 1, 3) := by decide +kernel
theorem dX6_oddsAt_47 : decode cX6_oddsAt 47 = .ok (.goto (-28), 3) := by decide +kernel
theorem dX6_oddsAt_50 : decode cX6_oddsAt 50 = .ok (.iconst 0, 1) := by decide +kernel
theorem dX6_oddsAt_51 : decode cX6_oddsAt 51 = .ok (.istore 6, 2) := by decide +kernel
theorem dX6_oddsAt_53 : decode cX6_oddsAt 53 = .ok (.iload 6, 2) := by decide +kernel
theorem dX6_oddsAt_55 : decode cX6_oddsAt 55 = .ok (.iload 5, 2) := by decide +kernel
theorem dX6_oddsAt_57 : decode cX6_oddsAt 57 = .ok (.if_icmp .ge 16, 3) := by decide +kernel
theorem dX6_oddsAt_60 : decode cX6_oddsAt 60 = .ok (.aload_n 0, 1) := by decide +kernel
theorem dX6_oddsAt_61 : decode cX6_oddsAt 61 = .ok (.iload_n 3, 1) := by decide +kernel
theorem dX6_oddsAt_62 : decode cX6_oddsAt 62 = .ok (.iload 4, 2) := by decide +kernel
theorem dX6_oddsAt_64 : decode cX6_oddsAt 64 = .ok (.invokevirtual 22, 3) := by decide +kernel
theorem dX6_oddsAt_67 : decode cX6_oddsAt 67 = .ok (.iinc 6 1, 3) := by decide +kernel
theorem dX6_oddsAt_70 : decode cX6_oddsAt 70 = .ok (.goto (-17), 3) := by decide +kernel
theorem dX6_oddsAt_73 : decode cX6_oddsAt 73 = .ok (.aload_n 0, 1) := by decide +kernel
theorem dX6_oddsAt_74 : decode cX6_oddsAt 74 = .ok (.getfield 9, 3) := by decide +kernel
theorem dX6_oddsAt_77 : decode cX6_oddsAt 77 = .ok (.iload_n 2, 1) := by decide +kernel
theorem dX6_oddsAt_78 : decode cX6_oddsAt 78 = .ok (.iaload, 1) := by decide +kernel
theorem dX6_oddsAt_79 : decode cX6_oddsAt 79 = .ok (.ireturn, 1) := by decide +kernel
theorem dX6_wanderOn_0 : decode cX6_wanderOn 0 = .ok (.iconst 0, 1) := by decide +kernel
theorem dX6_wanderOn_1 : decode cX6_wanderOn 1 = .ok (.istore_n 3, 1) := by decide +kernel
theorem dX6_wanderOn_2 : decode cX6_wanderOn 2 = .ok (.iload_n 3, 1) := by decide +kernel
theorem dX6_wanderOn_3 : decode cX6_wanderOn 3 = .ok (.bipush 10, 2) := by decide +kernel
theorem dX6_wanderOn_5 : decode cX6_wanderOn 5 = .ok (.if_icmp .ge 16, 3) := by decide +kernel
theorem dX6_wanderOn_8 : decode cX6_wanderOn 8 = .ok (.aload_n 0, 1) := by decide +kernel
theorem dX6_wanderOn_9 : decode cX6_wanderOn 9 = .ok (.getfield 15, 3) := by decide +kernel
theorem dX6_wanderOn_12 : decode cX6_wanderOn 12 = .ok (.iload_n 3, 1) := by decide +kernel
theorem dX6_wanderOn_13 : decode cX6_wanderOn 13 = .ok (.iconst 0, 1) := by decide +kernel
theorem dX6_wanderOn_14 : decode cX6_wanderOn 14 = .ok (.iastore, 1) := by decide +kernel
theorem dX6_wanderOn_15 : decode cX6_wanderOn 15 = .ok (.iinc 3 1, 3) := by decide +kernel
theorem dX6_wanderOn_18 : decode cX6_wanderOn 18 = .ok (.goto (-16), 3) := by decide +kernel
theorem dX6_wanderOn_21 : decode cX6_wanderOn 21 = .ok (.iconst 1, 1) := by decide +kernel
theorem dX6_wanderOn_22 : decode cX6_wanderOn 22 = .ok (.istore_n 3, 1) := by decide +kernel
theorem dX6_wanderOn_23 : decode cX6_wanderOn 23 = .ok (.iload_n 3, 1) := by decide +kernel
theorem dX6_wanderOn_24 : decode cX6_wanderOn 24 = .ok (.bipush 9, 2) := by decide +kernel
theorem dX6_wanderOn_26 : decode cX6_wanderOn 26 = .ok (.if_icmp .ge 78, 3) := by decide +kernel
theorem dX6_wanderOn_29 : decode cX6_wanderOn 29 = .ok (.aload_n 0, 1) := by decide +kernel
theorem dX6_wanderOn_30 : decode cX6_wanderOn 30 = .ok (.getfield 15, 3) := by decide +kernel
theorem dX6_wanderOn_33 : decode cX6_wanderOn 33 = .ok (.iconst 1, 1) := by decide +kernel
theorem dX6_wanderOn_34 : decode cX6_wanderOn 34 = .ok (.iload_n 3, 1) := by decide +kernel
theorem dX6_wanderOn_35 : decode cX6_wanderOn 35 = .ok (.iconst 1, 1) := by decide +kernel
theorem dX6_wanderOn_36 : decode cX6_wanderOn 36 = .ok (.isub, 1) := by decide +kernel
theorem dX6_wanderOn_37 : decode cX6_wanderOn 37 = .ok (.invokestatic 26, 3) := by decide +kernel
theorem dX6_wanderOn_40 : decode cX6_wanderOn 40 = .ok (.dup2, 1) := by decide +kernel
theorem dX6_wanderOn_41 : decode cX6_wanderOn 41 = .ok (.iaload, 1) := by decide +kernel
theorem dX6_wanderOn_42 : decode cX6_wanderOn 42 = .ok (.aload_n 0, 1) := by decide +kernel
theorem dX6_wanderOn_43 : decode cX6_wanderOn 43 = .ok (.getfield 9, 3) := by decide +kernel
theorem dX6_wanderOn_46 : decode cX6_wanderOn 46 = .ok (.iload_n 3, 1) := by decide +kernel
theorem dX6_wanderOn_47 : decode cX6_wanderOn 47 = .ok (.iaload, 1) := by decide +kernel
theorem dX6_wanderOn_48 : decode cX6_wanderOn 48 = .ok (.iload_n 1, 1) := by decide +kernel
theorem dX6_wanderOn_49 : decode cX6_wanderOn 49 = .ok (.imul, 1) := by decide +kernel
theorem dX6_wanderOn_50 : decode cX6_wanderOn 50 = .ok (.iadd, 1) := by decide +kernel
theorem dX6_wanderOn_51 : decode cX6_wanderOn 51 = .ok (.iastore, 1) := by decide +kernel
theorem dX6_wanderOn_52 : decode cX6_wanderOn 52 = .ok (.aload_n 0, 1) := by decide +kernel
theorem dX6_wanderOn_53 : decode cX6_wanderOn 53 = .ok (.getfield 15, 3) := by decide +kernel
theorem dX6_wanderOn_56 : decode cX6_wanderOn 56 = .ok (.bipush 8, 2) := by decide +kernel
theorem dX6_wanderOn_58 : decode cX6_wanderOn 58 = .ok (.iload_n 3, 1) := by decide +kernel
theorem dX6_wanderOn_59 : decode cX6_wanderOn 59 = .ok (.iconst 1, 1) := by decide +kernel
theorem dX6_wanderOn_60 : decode cX6_wanderOn 60 = .ok (.iadd, 1) := by decide +kernel
theorem dX6_wanderOn_61 : decode cX6_wanderOn 61 = .ok (.invokestatic 32, 3) := by decide +kernel
theorem dX6_wanderOn_64 : decode cX6_wanderOn 64 = .ok (.dup2, 1) := by decide +kernel
theorem dX6_wanderOn_65 : decode cX6_wanderOn 65 = .ok (.iaload, 1) := by decide +kernel
theorem dX6_wanderOn_66 : decode cX6_wanderOn 66 = .ok (.aload_n 0, 1) := by decide +kernel
theorem dX6_wanderOn_67 : decode cX6_wanderOn 67 = .ok (.getfield 9, 3) := by decide +kernel
theorem dX6_wanderOn_70 : decode cX6_wanderOn 70 = .ok (.iload_n 3, 1) := by decide +kernel
theorem dX6_wanderOn_71 : decode cX6_wanderOn 71 = .ok (.iaload, 1) := by decide +kernel
theorem dX6_wanderOn_72 : decode cX6_wanderOn 72 = .ok (.iload_n 2, 1) := by decide +kernel
theorem dX6_wanderOn_73 : decode cX6_wanderOn 73 = .ok (.imul, 1) := by decide +kernel
theorem dX6_wanderOn_74 : decode cX6_wanderOn 74 = .ok (.iadd, 1) := by decide +kernel
theorem dX6_wanderOn_75 : decode cX6_wanderOn 75 = .ok (.iastore, 1) := by decide +kernel
theorem dX6_wanderOn_76 : decode cX6_wanderOn 76 = .ok (.aload_n 0, 1) := by decide +kernel
theorem dX6_wanderOn_77 : decode cX6_wanderOn 77 = .ok (.getfield 15, 3) := by decide +kernel
theorem dX6_wanderOn_80 : decode cX6_wanderOn 80 = .ok (.iload_n 3, 1) := by decide +kernel
theorem dX6_wanderOn_81 : decode cX6_wanderOn 81 = .ok (.dup2, 1) := by decide +kernel
theorem dX6_wanderOn_82 : decode cX6_wanderOn 82 = .ok (.iaload, 1) := by decide +kernel
theorem dX6_wanderOn_83 : decode cX6_wanderOn 83 = .ok (.aload_n 0, 1) := by decide +kernel
theorem dX6_wanderOn_84 : decode cX6_wanderOn 84 = .ok (.getfield 9, 3) := by decide +kernel
theorem dX6_wanderOn_87 : decode cX6_wanderOn 87 = .ok (.iload_n 3, 1) := by decide +kernel
theorem dX6_wanderOn_88 : decode cX6_wanderOn 88 = .ok (.iaload, 1) := by decide +kernel
theorem dX6_wanderOn_89 : decode cX6_wanderOn 89 = .ok (.bipush 10, 2) := by decide +kernel
theorem dX6_wanderOn_91 : decode cX6_wanderOn 91 = .ok (.iload_n 1, 1) := by decide +kernel
theorem dX6_wanderOn_92 : decode cX6_wanderOn 92 = .ok (.isub, 1) := by decide +kernel
theorem dX6_wanderOn_93 : decode cX6_wanderOn 93 = .ok (.iload_n 2, 1) := by decide +kernel
theorem dX6_wanderOn_94 : decode cX6_wanderOn 94 = .ok (.isub, 1) := by decide +kernel
theorem dX6_wanderOn_95 : decode cX6_wanderOn 95 = .ok (.imul, 1) := by decide +kernel
theorem dX6_wanderOn_96 : decode cX6_wanderOn 96 = .ok (.iadd, 1) := by decide +kernel
theorem dX6_wanderOn_97 : decode cX6_wanderOn 97 = .ok (.iastore, 1) := by decide +kernel
theorem dX6_wanderOn_98 : decode cX6_wanderOn 98 = .ok (.iinc 3 1, 3) := by decide +kernel
theorem dX6_wanderOn_101 : decode cX6_wanderOn 101 = .ok (.goto (-78), 3) := by decide +kernel
theorem dX6_wanderOn_104 : decode cX6_wanderOn 104 = .ok (.iconst 0, 1) := by decide +kernel
theorem dX6_wanderOn_105 : decode cX6_wanderOn 105 = .ok (.istore_n 3, 1) := by decide +kernel
theorem dX6_wanderOn_106 : decode cX6_wanderOn 106 = .ok (.iload_n 3, 1) := by decide +kernel
theorem dX6_wanderOn_107 : decode cX6_wanderOn 107 = .ok (.bipush 10, 2) := by decide +kernel
theorem dX6_wanderOn_109 : decode cX6_wanderOn 109 = .ok (.if_icmp .ge 21, 3) := by decide +kernel
theorem dX6_wanderOn_112 : decode cX6_wanderOn 112 = .ok (.aload_n 0, 1) := by decide +kernel
theorem dX6_wanderOn_113 : decode cX6_wanderOn 113 = .ok (.getfield 9, 3) := by decide +kernel
theorem dX6_wanderOn_116 : decode cX6_wanderOn 116 = .ok (.iload_n 3, 1) := by decide +kernel
theorem dX6_wanderOn_117 : decode cX6_wanderOn 117 = .ok (.aload_n 0, 1) := by decide +kernel
theorem dX6_wanderOn_118 : decode cX6_wanderOn 118 = .ok (.getfield 15, 3) := by decide +kernel
theorem dX6_wanderOn_121 : decode cX6_wanderOn 121 = .ok (.iload_n 3, 1) := by decide +kernel
theorem dX6_wanderOn_122 : decode cX6_wanderOn 122 = .ok (.iaload, 1) := by decide +kernel
theorem dX6_wanderOn_123 : decode cX6_wanderOn 123 = .ok (.iastore, 1) := by decide +kernel
theorem dX6_wanderOn_124 : decode cX6_wanderOn 124 = .ok (.iinc 3 1, 3) := by decide +kernel
theorem dX6_wanderOn_127 : decode cX6_wanderOn 127 = .ok (.goto (-21), 3) := by decide +kernel
theorem dX6_wanderOn_130 : decode cX6_wanderOn 130 = .ok (.return_, 1) := by decide +kernel
theorem dX7_init_0 : decode cX7_init 0 = .ok (.aload_n 0, 1) := by decide +kernel
theorem dX7_init_1 : decode cX7_init 1 = .ok (.invokespecial 1, 3) := by decide +kernel
theorem dX7_init_4 : decode cX7_init 4 = .ok (.aload_n 0, 1) := by decide +kernel
theorem dX7_init_5 : decode cX7_init 5 = .ok (.new 7, 3) := by decide +kernel
theorem dX7_init_8 : decode cX7_init 8 = .ok (.dup, 1) := by decide +kernel
theorem dX7_init_9 : decode cX7_init 9 = .ok (.invokespecial 9, 3) := by decide +kernel
theorem dX7_init_12 : decode cX7_init 12 = .ok (.putfield 10, 3) := by decide +kernel
theorem dX7_init_15 : decode cX7_init 15 = .ok (.aload_n 0, 1) := by decide +kernel
theorem dX7_init_16 : decode cX7_init 16 = .ok (.new 16, 3) := by decide +kernel
theorem dX7_init_19 : decode cX7_init 19 = .ok (.dup, 1) := by decide +kernel
theorem dX7_init_20 : decode cX7_init 20 = .ok (.invokespecial 18, 3) := by decide +kernel
theorem dX7_init_23 : decode cX7_init 23 = .ok (.putfield 19, 3) := by decide +kernel
theorem dX7_init_26 : decode cX7_init 26 = .ok (.aload_n 0, 1) := by decide +kernel
theorem dX7_init_27 : decode cX7_init 27 = .ok (.new 16, 3) := by decide +kernel
theorem dX7_init_30 : decode cX7_init 30 = .ok (.dup, 1) := by decide +kernel
theorem dX7_init_31 : decode cX7_init 31 = .ok (.invokespecial 18, 3) := by decide +kernel
theorem dX7_init_34 : decode cX7_init 34 = .ok (.putfield 23, 3) := by decide +kernel
theorem dX7_init_37 : decode cX7_init 37 = .ok (.aload_n 0, 1) := by decide +kernel
theorem dX7_init_38 : decode cX7_init 38 = .ok (.new 26, 3) := by decide +kernel
theorem dX7_init_41 : decode cX7_init 41 = .ok (.dup, 1) := by decide +kernel
theorem dX7_init_42 : decode cX7_init 42 = .ok (.invokespecial 28, 3) := by decide +kernel
theorem dX7_init_45 : decode cX7_init 45 = .ok (.putfield 29, 3) := by decide +kernel
theorem dX7_init_48 : decode cX7_init 48 = .ok (.aload_n 0, 1) := by decide +kernel
theorem dX7_init_49 : decode cX7_init 49 = .ok (.new 33, 3) := by decide +kernel
theorem dX7_init_52 : decode cX7_init 52 = .ok (.dup, 1) := by decide +kernel
theorem dX7_init_53 : decode cX7_init 53 = .ok (.invokespecial 35, 3) := by decide +kernel
theorem dX7_init_56 : decode cX7_init 56 = .ok (.putfield 36, 3) := by decide +kernel
theorem dX7_init_59 : decode cX7_init 59 = .ok (.aload_n 0, 1) := by decide +kernel
theorem dX7_init_60 : decode cX7_init 60 = .ok (.new 40, 3) := by decide +kernel
theorem dX7_init_63 : decode cX7_init 63 = .ok (.dup, 1) := by decide +kernel
theorem dX7_init_64 : decode cX7_init 64 = .ok (.iconst 2, 1) := by decide +kernel
theorem dX7_init_65 : decode cX7_init 65 = .ok (.invokespecial 42, 3) := by decide +kernel
theorem dX7_init_68 : decode cX7_init 68 = .ok (.putfield 45, 3) := by decide +kernel
theorem dX7_init_71 : decode cX7_init 71 = .ok (.aload_n 0, 1) := by decide +kernel
theorem dX7_init_72 : decode cX7_init 72 = .ok (.iconst 2, 1) := by decide +kernel
theorem dX7_init_73 : decode cX7_init 73 = .ok (.newarray .boolean, 2) := by decide +kernel
theorem dX7_init_75 : decode cX7_init 75 = .ok (.putfield 49, 3) := by decide +kernel
theorem dX7_init_78 : decode cX7_init 78 = .ok (.aload_n 0, 1) := by decide +kernel
theorem dX7_init_79 : decode cX7_init 79 = .ok (.new 53, 3) := by decide +kernel
theorem dX7_init_82 : decode cX7_init 82 = .ok (.dup, 1) := by decide +kernel
theorem dX7_init_83 : decode cX7_init 83 = .ok (.invokespecial 55, 3) := by decide +kernel
theorem dX7_init_86 : decode cX7_init 86 = .ok (.putfield 56, 3) := by decide +kernel
theorem dX7_init_89 : decode cX7_init 89 = .ok (.aload_n 0, 1) := by decide +kernel
theorem dX7_init_90 : decode cX7_init 90 = .ok (.new 60, 3) := by decide +kernel
theorem dX7_init_93 : decode cX7_init 93 = .ok (.dup, 1) := by decide +kernel
theorem dX7_init_94 : decode cX7_init 94 = .ok (.invokespecial 62, 3) := by decide +kernel
theorem dX7_init_97 : decode cX7_init 97 = .ok (.putfield 63, 3) := by decide +kernel
theorem dX7_init_100 : decode cX7_init 100 = .ok (.aload_n 0, 1) := by decide +kernel
theorem dX7_init_101 : decode cX7_init 101 = .ok (.lconst 0, 1) := by decide +kernel
theorem dX7_init_102 : decode cX7_init 102 = .ok (.putfield 67, 3) := by decide +kernel
theorem dX7_init_105 : decode cX7_init 105 = .ok (.return_, 1) := by decide +kernel
theorem dX7_write_0 : decode cX7_write 0 = .ok (.iload_n 1, 1) := by decide +kernel
theorem dX7_write_1 : decode cX7_write 1 = .ok (.ifCond .lt 10, 3) := by decide +kernel
theorem dX7_write_4 : decode cX7_write 4 = .ok (.iload_n 1, 1) := by decide +kernel
theorem dX7_write_5 : decode cX7_write 5 = .ok (.sipush 255, 3) := by decide +kernel
theorem dX7_write_8 : decode cX7_write 8 = .ok (.if_icmp .le 6, 3) := by decide +kernel
theorem dX7_write_11 : decode cX7_write 11 = .ok (.bipush (-2), 2) := by decide +kernel
theorem dX7_write_13 : decode cX7_write 13 = .ok (.ireturn, 1) := by decide +kernel
theorem dX7_write_14 : decode cX7_write 14 = .ok (.aload_n 0, 1) := by decide +kernel
theorem dX7_write_15 : decode cX7_write 15 = .ok (.getfield 10, 3) := by decide +kernel
theorem dX7_write_18 : decode cX7_write 18 = .ok (.getfield 71, 3) := by decide +kernel
theorem dX7_write_21 : decode cX7_write 21 = .ok (.bipush 56, 2) := by decide +kernel
theorem dX7_write_23 : decode cX7_write 23 = .ok (.if_icmp .lt 6, 3) := by decide +kernel
theorem dX7_write_26 : decode cX7_write 26 = .ok (.bipush (-4), 2) := by decide +kernel
theorem dX7_write_28 : decode cX7_write 28 = .ok (.ireturn, 1) := by decide +kernel
theorem dX7_write_29 : decode cX7_write 29 = .ok (.aload_n 0, 1) := by decide +kernel
theorem dX7_write_30 : decode cX7_write 30 = .ok (.getfield 10, 3) := by decide +kernel
theorem dX7_write_33 : decode cX7_write 33 = .ok (.iload_n 1, 1) := by decide +kernel
theorem dX7_write_34 : decode cX7_write 34 = .ok (.invokevirtual 75, 3) := by decide +kernel
theorem dX7_write_37 : decode cX7_write 37 = .ok (.aload_n 0, 1) := by decide +kernel
theorem dX7_write_38 : decode cX7_write 38 = .ok (.getfield 10, 3) := by decide +kernel
theorem dX7_write_41 : decode cX7_write 41 = .ok (.getfield 71, 3) := by decide +kernel
theorem dX7_write_44 : decode cX7_write 44 = .ok (.ireturn, 1) := by decide +kernel
theorem dX7_wipe_0 : decode cX7_wipe 0 = .ok (.aload_n 0, 1) := by decide +kernel
theorem dX7_wipe_1 : decode cX7_wipe 1 = .ok (.getfield 10, 3) := by decide +kernel
theorem dX7_wipe_4 : decode cX7_wipe 4 = .ok (.getfield 71, 3) := by decide +kernel
theorem dX7_wipe_7 : decode cX7_wipe 7 = .ok (.istore_n 1, 1) := by decide +kernel
theorem dX7_wipe_8 : decode cX7_wipe 8 = .ok (.aload_n 0, 1) := by decide +kernel
theorem dX7_wipe_9 : decode cX7_wipe 9 = .ok (.getfield 10, 3) := by decide +kernel
theorem dX7_wipe_12 : decode cX7_wipe 12 = .ok (.invokevirtual 78, 3) := by decide +kernel
theorem dX7_wipe_15 : decode cX7_wipe 15 = .ok (.iload_n 1, 1) := by decide +kernel
theorem dX7_wipe_16 : decode cX7_wipe 16 = .ok (.ireturn, 1) := by decide +kernel
theorem dX7_fault_0 : decode cX7_fault 0 = .ok (.aload_n 0, 1) := by decide +kernel
theorem dX7_fault_1 : decode cX7_fault 1 = .ok (.getfield 10, 3) := by decide +kernel
theorem dX7_fault_4 : decode cX7_fault 4 = .ok (.aload_n 0, 1) := by decide +kernel
theorem dX7_fault_5 : decode cX7_fault 5 = .ok (.getfield 23, 3) := by decide +kernel
theorem dX7_fault_8 : decode cX7_fault 8 = .ok (.invokevirtual 81, 3) := by decide +kernel
theorem dX7_fault_11 : decode cX7_fault 11 = .ok (.ireturn, 1) := by decide +kernel
theorem dX7_bay_0 : decode cX7_bay 0 = .ok (.aload_n 0, 1) := by decide +kernel
theorem dX7_bay_1 : decode cX7_bay 1 = .ok (.getfield 10, 3) := by decide +kernel
theorem dX7_bay_4 : decode cX7_bay 4 = .ok (.aload_n 0, 1) := by decide +kernel
theorem dX7_bay_5 : decode cX7_bay 5 = .ok (.getfield 23, 3) := by decide +kernel
theorem dX7_bay_8 : decode cX7_bay 8 = .ok (.invokevirtual 81, 3) := by decide +kernel
theorem dX7_bay_11 : decode cX7_bay 11 = .ok (.bipush (-9), 2) := by decide +kernel
theorem dX7_bay_13 : decode cX7_bay 13 = .ok (.if_icmp .eq 6, 3) := by decide +kernel
theorem dX7_bay_16 : decode cX7_bay 16 = .ok (.bipush (-3), 2) := by decide +kernel
theorem dX7_bay_18 : decode cX7_bay 18 = .ok (.ireturn, 1) := by decide +kernel
theorem dX7_bay_19 : decode cX7_bay 19 = .ok (.aload_n 0, 1) := by decide +kernel
theorem dX7_bay_20 : decode cX7_bay 20 = .ok (.getfield 10, 3) := by decide +kernel
theorem dX7_bay_23 : decode cX7_bay 23 = .ok (.aload_n 0, 1) := by decide +kernel
theorem dX7_bay_24 : decode cX7_bay 24 = .ok (.getfield 19, 3) := by decide +kernel
theorem dX7_bay_27 : decode cX7_bay 27 = .ok (.invokevirtual 81, 3) := by decide +kernel
theorem dX7_bay_30 : decode cX7_bay 30 = .ok (.pop, 1) := by decide +kernel
theorem dX7_bay_31 : decode cX7_bay 31 = .ok (.aload_n 0, 1) := by decide +kernel
theorem dX7_bay_32 : decode cX7_bay 32 = .ok (.getfield 29, 3) := by decide +kernel
theorem dX7_bay_35 : decode cX7_bay 35 = .ok (.invokevirtual 85, 3) := by decide +kernel
theorem dX7_bay_38 : decode cX7_bay 38 = .ok (.aload_n 0, 1) := by decide +kernel
theorem dX7_bay_39 : decode cX7_bay 39 = .ok (.getfield 36, 3) := by decide +kernel
theorem dX7_bay_42 : decode cX7_bay 42 = .ok (.invokevirtual 88, 3) := by decide +kernel
theorem dX7_bay_45 : decode cX7_bay 45 = .ok (.iconst 0, 1) := by decide +kernel
theorem dX7_bay_46 : decode cX7_bay 46 = .ok (.istore_n 1, 1) := by decide +kernel
theorem dX7_bay_47 : decode cX7_bay 47 = .ok (.iload_n 1, 1) := by decide +kernel
theorem dX7_bay_48 : decode cX7_bay 48 = .ok (.aload_n 0, 1) := by decide +kernel
theorem dX7_bay_49 : decode cX7_bay 49 = .ok (.getfield 49, 3) := by decide +kernel
theorem dX7_bay_52 : decode cX7_bay 52 = .ok (.arraylength, 1) := by decide +kernel
theorem dX7_bay_53 : decode cX7_bay 53 = .ok (.if_icmp .ge 16, 3) := by decide +kernel
theorem dX7_bay_56 : decode cX7_bay 56 = .ok (.aload_n 0, 1) := by decide +kernel
theorem dX7_bay_57 : decode cX7_bay 57 = .ok (.getfield 49, 3) := by decide +kernel
theorem dX7_bay_60 : decode cX7_bay 60 = .ok (.iload_n 1, 1) := by decide +kernel
theorem dX7_bay_61 : decode cX7_bay 61 = .ok (.iconst 0, 1) := by decide +kernel
theorem dX7_bay_62 : decode cX7_bay 62 = .ok (.bastore, 1) := by decide +kernel
theorem dX7_bay_63 : decode cX7_bay 63 = .ok (.iinc 1 1, 3) := by decide +kernel
theorem dX7_bay_66 : decode cX7_bay 66 = .ok (.goto (-19), 3) := by decide +kernel
theorem dX7_bay_69 : decode cX7_bay 69 = .ok (.bipush 10, 2) := by decide +kernel
theorem dX7_bay_71 : decode cX7_bay 71 = .ok (.aload_n 0, 1) := by decide +kernel
theorem dX7_bay_72 : decode cX7_bay 72 = .ok (.getfield 19, 3) := by decide +kernel
theorem dX7_bay_75 : decode cX7_bay 75 = .ok (.getfield 89, 3) := by decide +kernel
theorem dX7_bay_78 : decode cX7_bay 78 = .ok (.imul, 1) := by decide +kernel
theorem dX7_bay_79 : decode cX7_bay 79 = .ok (.aload_n 0, 1) := by decide +kernel
theorem dX7_bay_80 : decode cX7_bay 80 = .ok (.getfield 19, 3) := by decide +kernel
theorem dX7_bay_83 : decode cX7_bay 83 = .ok (.getfield 92, 3) := by decide +kernel
theorem dX7_bay_86 : decode cX7_bay 86 = .ok (.iadd, 1) := by decide +kernel
theorem dX7_bay_87 : decode cX7_bay 87 = .ok (.ireturn, 1) := by decide +kernel
theorem dX7_about_0 : decode cX7_about 0 = .ok (.iload_n 1, 1) := by decide +kernel
theorem dX7_about_1 : decode cX7_about 1 = .ok (.tableswitch 227 0 13 #[71, 79, 87, 95, 107, 115, 123, 131, 147, 163, 179, 195, 211, 219], 71) := by decide +kernel
theorem dX7_about_72 : decode cX7_about 72 = .ok (.aload_n 0, 1) := by decide +kernel
theorem dX7_about_73 : decode cX7_about 73 = .ok (.getfield 19, 3) := by decide +kernel
theorem dX7_about_76 : decode cX7_about 76 = .ok (.getfield 89, 3) := by decide +kernel
theorem dX7_about_79 : decode cX7_about 79 = .ok (.ireturn, 1) := by decide +kernel
theorem dX7_about_80 : decode cX7_about 80 = .ok (.aload_n 0, 1) := by decide +kernel
theorem dX7_about_81 : decode cX7_about 81 = .ok (.getfield 19, 3) := by decide +kernel
theorem dX7_about_84 : decode cX7_about 84 = .ok (.getfield 92, 3) := by decide +kernel
theorem dX7_about_87 : decode cX7_about 87 = .ok (.ireturn, 1) := by decide +kernel
theorem dX7_about_88 : decode cX7_about 88 = .ok (.aload_n 0, 1) := by decide +kernel
theorem dX7_about_89 : decode cX7_about 89 = .ok (.getfield 29, 3) := by decide +kernel
theorem dX7_about_92 : decode cX7_about 92 = .ok (.invokevirtual 95, 3) := by decide +kernel
theorem dX7_about_95 : decode cX7_about 95 = .ok (.ireturn, 1) := by decide +kernel
theorem dX7_about_96 : decode cX7_about 96 = .ok (.aload_n 0, 1) := by decide +kernel
theorem dX7_about_97 : decode cX7_about 97 = .ok (.aload_n 0, 1) := by decide +kernel
theorem dX7_about_98 : decode cX7_about 98 = .ok (.getfield 29, 3) := by decide +kernel
theorem dX7_about_101 : decode cX7_about 101 = .ok (.invokevirtual 95, 3) := by decide +kernel
theorem dX7_about_104 : decode cX7_about 104 = .ok (.invokevirtual 99, 3) := by decide +kernel
theorem dX7_about_107 : decode cX7_about 107 = .ok (.ireturn, 1) := by decide +kernel
theorem dX7_about_108 : decode cX7_about 108 = .ok (.aload_n 0, 1) := by decide +kernel
theorem dX7_about_109 : decode cX7_about 109 = .ok (.getfield 19, 3) := by decide +kernel
theorem dX7_about_112 : decode cX7_about 112 = .ok (.getfield 103, 3) := by decide +kernel
theorem dX7_about_115 : decode cX7_about 115 = .ok (.ireturn, 1) := by decide +kernel
theorem dX7_about_116 : decode cX7_about 116 = .ok (.aload_n 0, 1) := by decide +kernel
theorem dX7_about_117 : decode cX7_about 117 = .ok (.getfield 19, 3) := by decide +kernel
theorem dX7_about_120 : decode cX7_about 120 = .ok (.getfield 106, 3) := by decide +kernel
theorem dX7_about_123 : decode cX7_about 123 = .ok (.ireturn, 1) := by decide +kernel
theorem dX7_about_124 : decode cX7_about 124 = .ok (.aload_n 0, 1) := by decide +kernel
theorem dX7_about_125 : decode cX7_about 125 = .ok (.getfield 19, 3) := by decide +kernel
theorem dX7_about_128 : decode cX7_about 128 = .ok (.getfield 109, 3) := by decide +kernel
theorem dX7_about_131 : decode cX7_about 131 = .ok (.ireturn, 1) := by decide +kernel
theorem dX7_about_132 : decode cX7_about 132 = .ok (.aload_n 0, 1) := by decide +kernel
theorem dX7_about_133 : decode cX7_about 133 = .ok (.getfield 29, 3) := by decide +kernel
theorem dX7_about_136 : decode cX7_about 136 = .ok (.iconst 0, 1) := by decide +kernel
theorem dX7_about_137 : decode cX7_about 137 = .ok (.aload_n 0, 1) := by decide +kernel
theorem dX7_about_138 : decode cX7_about 138 = .ok (.getfield 19, 3) := by decide +kernel
theorem dX7_about_141 : decode cX7_about 141 = .ok (.getfield 89, 3) := by decide +kernel
theorem dX7_about_144 : decode cX7_about 144 = .ok (.invokevirtual 112, 3) := by decide +kernel
theorem dX7_about_147 : decode cX7_about 147 = .ok (.ireturn, 1) := by decide +kernel
theorem dX7_about_148 : decode cX7_about 148 = .ok (.aload_n 0, 1) := by decide +kernel
theorem dX7_about_149 : decode cX7_about 149 = .ok (.getfield 29, 3) := by decide +kernel
theorem dX7_about_152 : decode cX7_about 152 = .ok (.iconst 1, 1) := by decide +kernel
theorem dX7_about_153 : decode cX7_about 153 = .ok (.aload_n 0, 1) := by decide +kernel
theorem dX7_about_154 : decode cX7_about 154 = .ok (.getfield 19, 3) := by decide +kernel
theorem dX7_about_157 : decode cX7_about 157 = .ok (.getfield 89, 3) := by decide +kernel
theorem dX7_about_160 : decode cX7_about 160 = .ok (.invokevirtual 112, 3) := by decide +kernel
theorem dX7_about_163 : decode cX7_about 163 = .ok (.ireturn, 1) := by decide +kernel
theorem dX7_about_164 : decode cX7_about 164 = .ok (.aload_n 0, 1) := by decide +kernel
theorem dX7_about_165 : decode cX7_about 165 = .ok (.getfield 29, 3) := by decide +kernel
theorem dX7_about_168 : decode cX7_about 168 = .ok (.iconst 2, 1) := by decide +kernel
theorem dX7_about_169 : decode cX7_about 169 = .ok (.aload_n 0, 1) := by decide +kernel
theorem dX7_about_170 : decode cX7_about 170 = .ok (.getfield 19, 3) := by decide +kernel
theorem dX7_about_173 : decode cX7_about 173 = .ok (.getfield 89, 3) := by decide +kernel
theorem dX7_about_176 : decode cX7_about 176 = .ok (.invokevirtual 112, 3) := by decide +kernel
theorem dX7_about_179 : decode cX7_about 179 = .ok (.ireturn, 1) := by decide +kernel
theorem dX7_about_180 : decode cX7_about 180 = .ok (.aload_n 0, 1) := by decide +kernel
theorem dX7_about_181 : decode cX7_about 181 = .ok (.getfield 29, 3) := by decide +kernel
theorem dX7_about_184 : decode cX7_about 184 = .ok (.iconst 3, 1) := by decide +kernel
theorem dX7_about_185 : decode cX7_about 185 = .ok (.aload_n 0, 1) := by decide +kernel
theorem dX7_about_186 : decode cX7_about 186 = .ok (.getfield 19, 3) := by decide +kernel
theorem dX7_about_189 : decode cX7_about 189 = .ok (.getfield 89, 3) := by decide +kernel
theorem dX7_about_192 : decode cX7_about 192 = .ok (.invokevirtual 112, 3) := by decide +kernel
theorem dX7_about_195 : decode cX7_about 195 = .ok (.ireturn, 1) := by decide +kernel
theorem dX7_about_196 : decode cX7_about 196 = .ok (.aload_n 0, 1) := by decide +kernel
theorem dX7_about_197 : decode cX7_about 197 = .ok (.getfield 29, 3) := by decide +kernel
theorem dX7_about_200 : decode cX7_about 200 = .ok (.iconst 4, 1) := by decide +kernel
theorem dX7_about_201 : decode cX7_about 201 = .ok (.aload_n 0, 1) := by decide +kernel
theorem dX7_about_202 : decode cX7_about 202 = .ok (.getfield 19, 3) := by decide +kernel
theorem dX7_about_205 : decode cX7_about 205 = .ok (.getfield 89, 3) := by decide +kernel
theorem dX7_about_208 : decode cX7_about 208 = .ok (.invokevirtual 112, 3) := by decide +kernel
theorem dX7_about_211 : decode cX7_about 211 = .ok (.ireturn, 1) := by decide +kernel
theorem dX7_about_212 : decode cX7_about 212 = .ok (.aload_n 0, 1) := by decide +kernel
theorem dX7_about_213 : decode cX7_about 213 = .ok (.getfield 36, 3) := by decide +kernel
theorem dX7_about_216 : decode cX7_about 216 = .ok (.getfield 116, 3) := by decide +kernel
theorem dX7_about_219 : decode cX7_about 219 = .ok (.ireturn, 1) := by decide +kernel
theorem dX7_about_220 : decode cX7_about 220 = .ok (.aload_n 0, 1) := by decide +kernel
theorem dX7_about_221 : decode cX7_about 221 = .ok (.getfield 10, 3) := by decide +kernel
theorem dX7_about_224 : decode cX7_about 224 = .ok (.getfield 71, 3) := by decide +kernel
theorem dX7_about_227 : decode cX7_about 227 = .ok (.ireturn, 1) := by decide +kernel
theorem dX7_about_228 : decode cX7_about 228 = .ok (.bipush (-2), 2) := by decide +kernel
theorem dX7_about_230 : decode cX7_about 230 = .ok (.ireturn, 1) := by decide +kernel
theorem dX7_cell_0 : decode cX7_cell 0 = .ok (.iload_n 1, 1) := by decide +kernel
theorem dX7_cell_1 : decode cX7_cell 1 = .ok (.invokestatic 119, 3) := by decide +kernel
theorem dX7_cell_4 : decode cX7_cell 4 = .ok (.ifCond .ne 5, 3) := by decide +kernel
theorem dX7_cell_7 : decode cX7_cell 7 = .ok (.iconst (-1), 1) := by decide +kernel
theorem dX7_cell_8 : decode cX7_cell 8 = .ok (.ireturn, 1) := by decide +kernel
theorem dX7_cell_9 : decode cX7_cell 9 = .ok (.iload_n 2, 1) := by decide +kernel
theorem dX7_cell_10 : decode cX7_cell 10 = .ok (.tableswitch 95 0 4 #[34, 43, 63, 80, 89], 34) := by decide +kernel
theorem dX7_cell_44 : decode cX7_cell 44 = .ok (.aload_n 0, 1) := by decide +kernel
theorem dX7_cell_45 : decode cX7_cell 45 = .ok (.getfield 19, 3) := by decide +kernel
theorem dX7_cell_48 : decode cX7_cell 48 = .ok (.iload_n 1, 1) := by decide +kernel
theorem dX7_cell_49 : decode cX7_cell 49 = .ok (.invokevirtual 123, 3) := by decide +kernel
theorem dX7_cell_52 : decode cX7_cell 52 = .ok (.ireturn, 1) := by decide +kernel
theorem dX7_cell_53 : decode cX7_cell 53 = .ok (.aload_n 0, 1) := by decide +kernel
theorem dX7_cell_54 : decode cX7_cell 54 = .ok (.getfield 19, 3) := by decide +kernel
theorem dX7_cell_57 : decode cX7_cell 57 = .ok (.iload_n 1, 1) := by decide +kernel
theorem dX7_cell_58 : decode cX7_cell 58 = .ok (.aload_n 0, 1) := by decide +kernel
theorem dX7_cell_59 : decode cX7_cell 59 = .ok (.aload_n 0, 1) := by decide +kernel
theorem dX7_cell_60 : decode cX7_cell 60 = .ok (.getfield 29, 3) := by decide +kernel
theorem dX7_cell_63 : decode cX7_cell 63 = .ok (.invokevirtual 95, 3) := by decide +kernel
theorem dX7_cell_66 : decode cX7_cell 66 = .ok (.invokevirtual 99, 3) := by decide +kernel
theorem dX7_cell_69 : decode cX7_cell 69 = .ok (.invokevirtual 126, 3) := by decide +kernel
theorem dX7_cell_72 : decode cX7_cell 72 = .ok (.ireturn, 1) := by decide +kernel
theorem dX7_cell_73 : decode cX7_cell 73 = .ok (.aload_n 0, 1) := by decide +kernel
theorem dX7_cell_74 : decode cX7_cell 74 = .ok (.getfield 19, 3) := by decide +kernel
theorem dX7_cell_77 : decode cX7_cell 77 = .ok (.iload_n 1, 1) := by decide +kernel
theorem dX7_cell_78 : decode cX7_cell 78 = .ok (.invokevirtual 129, 3) := by decide +kernel
theorem dX7_cell_81 : decode cX7_cell 81 = .ok (.ifCond .eq 7, 3) := by decide +kernel
theorem dX7_cell_84 : decode cX7_cell 84 = .ok (.iconst 1, 1) := by decide +kernel
theorem dX7_cell_85 : decode cX7_cell 85 = .ok (.goto 4, 3) := by decide +kernel
theorem dX7_cell_88 : decode cX7_cell 88 = .ok (.iconst 0, 1) := by decide +kernel
theorem dX7_cell_89 : decode cX7_cell 89 = .ok (.ireturn, 1) := by decide +kernel
theorem dX7_cell_90 : decode cX7_cell 90 = .ok (.aload_n 0, 1) := by decide +kernel
theorem dX7_cell_91 : decode cX7_cell 91 = .ok (.getfield 19, 3) := by decide +kernel
theorem dX7_cell_94 : decode cX7_cell 94 = .ok (.iload_n 1, 1) := by decide +kernel
theorem dX7_cell_95 : decode cX7_cell 95 = .ok (.invokevirtual 132, 3) := by decide +kernel
theorem dX7_cell_98 : decode cX7_cell 98 = .ok (.ireturn, 1) := by decide +kernel
theorem dX7_cell_99 : decode cX7_cell 99 = .ok (.aload_n 0, 1) := by decide +kernel
theorem dX7_cell_100 : decode cX7_cell 100 = .ok (.iload_n 1, 1) := by decide +kernel
theorem dX7_cell_101 : decode cX7_cell 101 = .ok (.invokevirtual 135, 3) := by decide +kernel
theorem dX7_cell_104 : decode cX7_cell 104 = .ok (.ireturn, 1) := by decide +kernel
theorem dX7_cell_105 : decode cX7_cell 105 = .ok (.bipush (-2), 2) := by decide +kernel
theorem dX7_cell_107 : decode cX7_cell 107 = .ok (.ireturn, 1) := by decide +kernel
theorem dX7_walker_0 : decode cX7_walker 0 = .ok (.aload_n 0, 1) := by decide +kernel
theorem dX7_walker_1 : decode cX7_walker 1 = .ok (.iload_n 1, 1) := by decide +kernel
theorem dX7_walker_2 : decode cX7_walker 2 = .ok (.invokevirtual 138, 3) := by decide +kernel
theorem dX7_walker_5 : decode cX7_walker 5 = .ok (.ifCond .ne 5, 3) := by decide +kernel
theorem dX7_walker_8 : decode cX7_walker 8 = .ok (.iconst (-1), 1) := by decide +kernel
theorem dX7_walker_9 : decode cX7_walker 9 = .ok (.ireturn, 1) := by decide +kernel
theorem dX7_walker_10 : decode cX7_walker 10 = .ok (.iload_n 2, 1) := by decide +kernel
theorem dX7_walker_11 : decode cX7_walker 11 = .ok (.tableswitch 78 0 4 #[33, 42, 51, 60, 69], 33) := by decide +kernel
theorem dX7_walker_44 : decode cX7_walker 44 = .ok (.aload_n 0, 1) := by decide +kernel
theorem dX7_walker_45 : decode cX7_walker 45 = .ok (.getfield 19, 3) := by decide +kernel
theorem dX7_walker_48 : decode cX7_walker 48 = .ok (.iload_n 1, 1) := by decide +kernel
theorem dX7_walker_49 : decode cX7_walker 49 = .ok (.invokevirtual 141, 3) := by decide +kernel
theorem dX7_walker_52 : decode cX7_walker 52 = .ok (.ireturn, 1) := by decide +kernel
theorem dX7_walker_53 : decode cX7_walker 53 = .ok (.aload_n 0, 1) := by decide +kernel
theorem dX7_walker_54 : decode cX7_walker 54 = .ok (.getfield 19, 3) := by decide +kernel
theorem dX7_walker_57 : decode cX7_walker 57 = .ok (.iload_n 1, 1) := by decide +kernel
theorem dX7_walker_58 : decode cX7_walker 58 = .ok (.invokevirtual 144, 3) := by decide +kernel
theorem dX7_walker_61 : decode cX7_walker 61 = .ok (.ireturn, 1) := by decide +kernel
theorem dX7_walker_62 : decode cX7_walker 62 = .ok (.aload_n 0, 1) := by decide +kernel
theorem dX7_walker_63 : decode cX7_walker 63 = .ok (.getfield 29, 3) := by decide +kernel
theorem dX7_walker_66 : decode cX7_walker 66 = .ok (.iload_n 1, 1) := by decide +kernel
theorem dX7_walker_67 : decode cX7_walker 67 = .ok (.invokevirtual 147, 3) := by decide +kernel
theorem dX7_walker_70 : decode cX7_walker 70 = .ok (.ireturn, 1) := by decide +kernel
theorem dX7_walker_71 : decode cX7_walker 71 = .ok (.aload_n 0, 1) := by decide +kernel
theorem dX7_walker_72 : decode cX7_walker 72 = .ok (.getfield 29, 3) := by decide +kernel
theorem dX7_walker_75 : decode cX7_walker 75 = .ok (.iload_n 1, 1) := by decide +kernel
theorem dX7_walker_76 : decode cX7_walker 76 = .ok (.invokevirtual 150, 3) := by decide +kernel
theorem dX7_walker_79 : decode cX7_walker 79 = .ok (.ireturn, 1) := by decide +kernel
theorem dX7_walker_80 : decode cX7_walker 80 = .ok (.aload_n 0, 1) := by decide +kernel
theorem dX7_walker_81 : decode cX7_walker 81 = .ok (.getfield 29, 3) := by decide +kernel
theorem dX7_walker_84 : decode cX7_walker 84 = .ok (.iload_n 1, 1) := by decide +kernel
theorem dX7_walker_85 : decode cX7_walker 85 = .ok (.invokevirtual 153, 3) := by decide +kernel
theorem dX7_walker_88 : decode cX7_walker 88 = .ok (.ireturn, 1) := by decide +kernel
theorem dX7_walker_89 : decode cX7_walker 89 = .ok (.bipush (-2), 2) := by decide +kernel
theorem dX7_walker_91 : decode cX7_walker 91 = .ok (.ireturn, 1) := by decide +kernel
theorem dX7_deep_0 : decode cX7_deep 0 = .ok (.iload_n 1, 1) := by decide +kernel
theorem dX7_deep_1 : decode cX7_deep 1 = .ok (.invokestatic 119, 3) := by decide +kernel
theorem dX7_deep_4 : decode cX7_deep 4 = .ok (.ifCond .ne 5, 3) := by decide +kernel
theorem dX7_deep_7 : decode cX7_deep 7 = .ok (.iconst (-1), 1) := by decide +kernel
theorem dX7_deep_8 : decode cX7_deep 8 = .ok (.ireturn, 1) := by decide +kernel
theorem dX7_deep_9 : decode cX7_deep 9 = .ok (.iload_n 2, 1) := by decide +kernel
theorem dX7_deep_10 : decode cX7_deep 10 = .ok (.invokestatic 156, 3) := by decide +kernel
theorem dX7_deep_13 : decode cX7_deep 13 = .ok (.ifCond .ne 6, 3) := by decide +kernel
theorem dX7_deep_16 : decode cX7_deep 16 = .ok (.bipush (-2), 2) := by decide +kernel
theorem dX7_deep_18 : decode cX7_deep 18 = .ok (.ireturn, 1) := by decide +kernel
theorem dX7_deep_19 : decode cX7_deep 19 = .ok (.aload_n 0, 1) := by decide +kernel
theorem dX7_deep_20 : decode cX7_deep 20 = .ok (.getfield 19, 3) := by decide +kernel
theorem dX7_deep_23 : decode cX7_deep 23 = .ok (.iload_n 1, 1) := by decide +kernel
theorem dX7_deep_24 : decode cX7_deep 24 = .ok (.aload_n 0, 1) := by decide +kernel
theorem dX7_deep_25 : decode cX7_deep 25 = .ok (.iload_n 2, 1) := by decide +kernel
theorem dX7_deep_26 : decode cX7_deep 26 = .ok (.invokevirtual 99, 3) := by decide +kernel
theorem dX7_deep_29 : decode cX7_deep 29 = .ok (.invokevirtual 126, 3) := by decide +kernel
theorem dX7_deep_32 : decode cX7_deep 32 = .ok (.ireturn, 1) := by decide +kernel
theorem dX7_head_0 : decode cX7_head 0 = .ok (.aload_n 0, 1) := by decide +kernel
theorem dX7_head_1 : decode cX7_head 1 = .ok (.iload_n 1, 1) := by decide +kernel
theorem dX7_head_2 : decode cX7_head 2 = .ok (.invokevirtual 138, 3) := by decide +kernel
theorem dX7_head_5 : decode cX7_head 5 = .ok (.ifCond .ne 5, 3) := by decide +kernel
theorem dX7_head_8 : decode cX7_head 8 = .ok (.iconst (-1), 1) := by decide +kernel
theorem dX7_head_9 : decode cX7_head 9 = .ok (.ireturn, 1) := by decide +kernel
theorem dX7_head_10 : decode cX7_head 10 = .ok (.iload_n 2, 1) := by decide +kernel
theorem dX7_head_11 : decode cX7_head 11 = .ok (.ifCond .lt 8, 3) := by decide +kernel
theorem dX7_head_14 : decode cX7_head 14 = .ok (.iload_n 2, 1) := by decide +kernel
theorem dX7_head_15 : decode cX7_head 15 = .ok (.iconst 2, 1) := by decide +kernel
theorem dX7_head_16 : decode cX7_head 16 = .ok (.if_icmp .le 6, 3) := by decide +kernel
theorem dX7_head_19 : decode cX7_head 19 = .ok (.bipush (-2), 2) := by decide +kernel
theorem dX7_head_21 : decode cX7_head 21 = .ok (.ireturn, 1) := by decide +kernel
theorem dX7_head_22 : decode cX7_head 22 = .ok (.aload_n 0, 1) := by decide +kernel
theorem dX7_head_23 : decode cX7_head 23 = .ok (.getfield 29, 3) := by decide +kernel
theorem dX7_head_26 : decode cX7_head 26 = .ok (.iload_n 1, 1) := by decide +kernel
theorem dX7_head_27 : decode cX7_head 27 = .ok (.invokevirtual 150, 3) := by decide +kernel
theorem dX7_head_30 : decode cX7_head 30 = .ok (.istore_n 3, 1) := by decide +kernel
theorem dX7_head_31 : decode cX7_head 31 = .ok (.aload_n 0, 1) := by decide +kernel
theorem dX7_head_32 : decode cX7_head 32 = .ok (.iload_n 1, 1) := by decide +kernel
theorem dX7_head_33 : decode cX7_head 33 = .ok (.invokevirtual 159, 3) := by decide +kernel
theorem dX7_head_36 : decode cX7_head 36 = .ok (.ifCond .eq 8, 3) := by decide +kernel
theorem dX7_head_39 : decode cX7_head 39 = .ok (.iload_n 3, 1) := by decide +kernel
theorem dX7_head_40 : decode cX7_head 40 = .ok (.iload_n 2, 1) := by decide +kernel
theorem dX7_head_41 : decode cX7_head 41 = .ok (.if_icmp .ne 6, 3) := by decide +kernel
theorem dX7_head_44 : decode cX7_head 44 = .ok (.bipush (-3), 2) := by decide +kernel
theorem dX7_head_46 : decode cX7_head 46 = .ok (.ireturn, 1) := by decide +kernel
theorem dX7_head_47 : decode cX7_head 47 = .ok (.aload_n 0, 1) := by decide +kernel
theorem dX7_head_48 : decode cX7_head 48 = .ok (.getfield 36, 3) := by decide +kernel
theorem dX7_head_51 : decode cX7_head 51 = .ok (.aload_n 0, 1) := by decide +kernel
theorem dX7_head_52 : decode cX7_head 52 = .ok (.getfield 29, 3) := by decide +kernel
theorem dX7_head_55 : decode cX7_head 55 = .ok (.invokevirtual 162, 3) := by decide +kernel
theorem dX7_head_58 : decode cX7_head 58 = .ok (.aload_n 0, 1) := by decide +kernel
theorem dX7_head_59 : decode cX7_head 59 = .ok (.getfield 29, 3) := by decide +kernel
theorem dX7_head_62 : decode cX7_head 62 = .ok (.iload_n 1, 1) := by decide +kernel
theorem dX7_head_63 : decode cX7_head 63 = .ok (.iload_n 2, 1) := by decide +kernel
theorem dX7_head_64 : decode cX7_head 64 = .ok (.invokevirtual 166, 3) := by decide +kernel
theorem dX7_head_67 : decode cX7_head 67 = .ok (.iload_n 3, 1) := by decide +kernel
theorem dX7_head_68 : decode cX7_head 68 = .ok (.ireturn, 1) := by decide +kernel
theorem dX7_step_0 : decode cX7_step 0 = .ok (.aload_n 0, 1) := by decide +kernel
theorem dX7_step_1 : decode cX7_step 1 = .ok (.getfield 29, 3) := by decide +kernel
theorem dX7_step_4 : decode cX7_step 4 = .ok (.invokevirtual 95, 3) := by decide +kernel
theorem dX7_step_7 : decode cX7_step 7 = .ok (.bipush 40, 2) := by decide +kernel
theorem dX7_step_9 : decode cX7_step 9 = .ok (.if_icmp .lt 6, 3) := by decide +kernel
theorem dX7_step_12 : decode cX7_step 12 = .ok (.bipush (-3), 2) := by decide +kernel
theorem dX7_step_14 : decode cX7_step 14 = .ok (.ireturn, 1) := by decide +kernel
theorem dX7_step_15 : decode cX7_step 15 = .ok (.aload_n 0, 1) := by decide +kernel
theorem dX7_step_16 : decode cX7_step 16 = .ok (.getfield 36, 3) := by decide +kernel
theorem dX7_step_19 : decode cX7_step 19 = .ok (.aload_n 0, 1) := by decide +kernel
theorem dX7_step_20 : decode cX7_step 20 = .ok (.getfield 29, 3) := by decide +kernel
theorem dX7_step_23 : decode cX7_step 23 = .ok (.invokevirtual 162, 3) := by decide +kernel
theorem dX7_step_26 : decode cX7_step 26 = .ok (.iconst 0, 1) := by decide +kernel
theorem dX7_step_27 : decode cX7_step 27 = .ok (.istore_n 1, 1) := by decide +kernel
theorem dX7_step_28 : decode cX7_step 28 = .ok (.iconst 0, 1) := by decide +kernel
theorem dX7_step_29 : decode cX7_step 29 = .ok (.istore_n 2, 1) := by decide +kernel
theorem dX7_step_30 : decode cX7_step 30 = .ok (.iload_n 2, 1) := by decide +kernel
theorem dX7_step_31 : decode cX7_step 31 = .ok (.aload_n 0, 1) := by decide +kernel
theorem dX7_step_32 : decode cX7_step 32 = .ok (.getfield 19, 3) := by decide +kernel
theorem dX7_step_35 : decode cX7_step 35 = .ok (.getfield 89, 3) := by decide +kernel
theorem dX7_step_38 : decode cX7_step 38 = .ok (.if_icmp .ge 31, 3) := by decide +kernel
theorem dX7_step_41 : decode cX7_step 41 = .ok (.aload_n 0, 1) := by decide +kernel
theorem dX7_step_42 : decode cX7_step 42 = .ok (.iload_n 2, 1) := by decide +kernel
theorem dX7_step_43 : decode cX7_step 43 = .ok (.invokevirtual 159, 3) := by decide +kernel
theorem dX7_step_46 : decode cX7_step 46 = .ok (.ifCond .eq 17, 3) := by decide +kernel
theorem dX7_step_49 : decode cX7_step 49 = .ok (.aload_n 0, 1) := by decide +kernel
theorem dX7_step_50 : decode cX7_step 50 = .ok (.iload_n 2, 1) := by decide +kernel
theorem dX7_step_51 : decode cX7_step 51 = .ok (.invokevirtual 170, 3) := by decide +kernel
theorem dX7_step_54 : decode cX7_step 54 = .ok (.ifCond .eq 9, 3) := by decide +kernel
theorem dX7_step_57 : decode cX7_step 57 = .ok (.iload_n 1, 1) := by decide +kernel
theorem dX7_step_58 : decode cX7_step 58 = .ok (.iconst 1, 1) := by decide +kernel
theorem dX7_step_59 : decode cX7_step 59 = .ok (.iload_n 2, 1) := by decide +kernel
theorem dX7_step_60 : decode cX7_step 60 = .ok (.ishl, 1) := by decide +kernel
theorem dX7_step_61 : decode cX7_step 61 = .ok (.ior, 1) := by decide +kernel
theorem dX7_step_62 : decode cX7_step 62 = .ok (.istore_n 1, 1) := by decide +kernel
theorem dX7_step_63 : decode cX7_step 63 = .ok (.iinc 2 1, 3) := by decide +kernel
theorem dX7_step_66 : decode cX7_step 66 = .ok (.goto (-36), 3) := by decide +kernel
theorem dX7_step_69 : decode cX7_step 69 = .ok (.aload_n 0, 1) := by decide +kernel
theorem dX7_step_70 : decode cX7_step 70 = .ok (.getfield 29, 3) := by decide +kernel
theorem dX7_step_73 : decode cX7_step 73 = .ok (.aload_n 0, 1) := by decide +kernel
theorem dX7_step_74 : decode cX7_step 74 = .ok (.getfield 29, 3) := by decide +kernel
theorem dX7_step_77 : decode cX7_step 77 = .ok (.invokevirtual 95, 3) := by decide +kernel
theorem dX7_step_80 : decode cX7_step 80 = .ok (.iconst 1, 1) := by decide +kernel
theorem dX7_step_81 : decode cX7_step 81 = .ok (.iadd, 1) := by decide +kernel
theorem dX7_step_82 : decode cX7_step 82 = .ok (.invokevirtual 173, 3) := by decide +kernel
theorem dX7_step_85 : decode cX7_step 85 = .ok (.iload_n 1, 1) := by decide +kernel
theorem dX7_step_86 : decode cX7_step 86 = .ok (.ireturn, 1) := by decide +kernel
theorem dX7_climb_0 : decode cX7_climb 0 = .ok (.aload_n 0, 1) := by decide +kernel
theorem dX7_climb_1 : decode cX7_climb 1 = .ok (.iload_n 1, 1) := by decide +kernel
theorem dX7_climb_2 : decode cX7_climb 2 = .ok (.invokevirtual 138, 3) := by decide +kernel
theorem dX7_climb_5 : decode cX7_climb 5 = .ok (.ifCond .ne 5, 3) := by decide +kernel
theorem dX7_climb_8 : decode cX7_climb 8 = .ok (.iconst (-1), 1) := by decide +kernel
theorem dX7_climb_9 : decode cX7_climb 9 = .ok (.ireturn, 1) := by decide +kernel
theorem dX7_climb_10 : decode cX7_climb 10 = .ok (.aload_n 0, 1) := by decide +kernel
theorem dX7_climb_11 : decode cX7_climb 11 = .ok (.getfield 29, 3) := by decide +kernel
theorem dX7_climb_14 : decode cX7_climb 14 = .ok (.iload_n 1, 1) := by decide +kernel
theorem dX7_climb_15 : decode cX7_climb 15 = .ok (.invokevirtual 147, 3) := by decide +kernel
theorem dX7_climb_18 : decode cX7_climb 18 = .ok (.istore_n 2, 1) := by decide +kernel
theorem dX7_climb_19 : decode cX7_climb 19 = .ok (.aload_n 0, 1) := by decide +kernel
theorem dX7_climb_20 : decode cX7_climb 20 = .ok (.iload_n 1, 1) := by decide +kernel
theorem dX7_climb_21 : decode cX7_climb 21 = .ok (.invokevirtual 159, 3) := by decide +kernel
theorem dX7_climb_24 : decode cX7_climb 24 = .ok (.ifCond .eq 14, 3) := by decide +kernel
theorem dX7_climb_27 : decode cX7_climb 27 = .ok (.aload_n 0, 1) := by decide +kernel
theorem dX7_climb_28 : decode cX7_climb 28 = .ok (.getfield 19, 3) := by decide +kernel
theorem dX7_climb_31 : decode cX7_climb 31 = .ok (.iload_n 2, 1) := by decide +kernel
theorem dX7_climb_32 : decode cX7_climb 32 = .ok (.invokevirtual 132, 3) := by decide +kernel
theorem dX7_climb_35 : decode cX7_climb 35 = .ok (.ifCond .ne 6, 3) := by decide +kernel
theorem dX7_climb_38 : decode cX7_climb 38 = .ok (.bipush (-3), 2) := by decide +kernel
theorem dX7_climb_40 : decode cX7_climb 40 = .ok (.ireturn, 1) := by decide +kernel
theorem dX7_climb_41 : decode cX7_climb 41 = .ok (.aload_n 0, 1) := by decide +kernel
theorem dX7_climb_42 : decode cX7_climb 42 = .ok (.iload_n 2, 1) := by decide +kernel
theorem dX7_climb_43 : decode cX7_climb 43 = .ok (.invokevirtual 176, 3) := by decide +kernel
theorem dX7_climb_46 : decode cX7_climb 46 = .ok (.ifCond .gt 6, 3) := by decide +kernel
theorem dX7_climb_49 : decode cX7_climb 49 = .ok (.bipush (-4), 2) := by decide +kernel
theorem dX7_climb_51 : decode cX7_climb 51 = .ok (.ireturn, 1) := by decide +kernel
theorem dX7_climb_52 : decode cX7_climb 52 = .ok (.aload_n 0, 1) := by decide +kernel
theorem dX7_climb_53 : decode cX7_climb 53 = .ok (.getfield 36, 3) := by decide +kernel
theorem dX7_climb_56 : decode cX7_climb 56 = .ok (.aload_n 0, 1) := by decide +kernel
theorem dX7_climb_57 : decode cX7_climb 57 = .ok (.getfield 29, 3) := by decide +kernel
theorem dX7_climb_60 : decode cX7_climb 60 = .ok (.invokevirtual 162, 3) := by decide +kernel
theorem dX7_climb_63 : decode cX7_climb 63 = .ok (.aload_n 0, 1) := by decide +kernel
theorem dX7_climb_64 : decode cX7_climb 64 = .ok (.getfield 29, 3) := by decide +kernel
theorem dX7_climb_67 : decode cX7_climb 67 = .ok (.iload_n 1, 1) := by decide +kernel
theorem dX7_climb_68 : decode cX7_climb 68 = .ok (.iconst 4, 1) := by decide +kernel
theorem dX7_climb_69 : decode cX7_climb 69 = .ok (.invokevirtual 179, 3) := by decide +kernel
theorem dX7_climb_72 : decode cX7_climb 72 = .ok (.aload_n 0, 1) := by decide +kernel
theorem dX7_climb_73 : decode cX7_climb 73 = .ok (.iload_n 2, 1) := by decide +kernel
theorem dX7_climb_74 : decode cX7_climb 74 = .ok (.invokevirtual 135, 3) := by decide +kernel
theorem dX7_climb_77 : decode cX7_climb 77 = .ok (.ireturn, 1) := by decide +kernel
theorem dX7_undo_0 : decode cX7_undo 0 = .ok (.aload_n 0, 1) := by decide +kernel
theorem dX7_undo_1 : decode cX7_undo 1 = .ok (.getfield 36, 3) := by decide +kernel
theorem dX7_undo_4 : decode cX7_undo 4 = .ok (.getfield 116, 3) := by decide +kernel
theorem dX7_undo_7 : decode cX7_undo 7 = .ok (.ifCond .ne 6, 3) := by decide +kernel
theorem dX7_undo_10 : decode cX7_undo 10 = .ok (.bipush (-3), 2) := by decide +kernel
theorem dX7_undo_12 : decode cX7_undo 12 = .ok (.ireturn, 1) := by decide +kernel
theorem dX7_undo_13 : decode cX7_undo 13 = .ok (.aload_n 0, 1) := by decide +kernel
theorem dX7_undo_14 : decode cX7_undo 14 = .ok (.getfield 36, 3) := by decide +kernel
theorem dX7_undo_17 : decode cX7_undo 17 = .ok (.aload_n 0, 1) := by decide +kernel
theorem dX7_undo_18 : decode cX7_undo 18 = .ok (.getfield 29, 3) := by decide +kernel
theorem dX7_undo_21 : decode cX7_undo 21 = .ok (.invokevirtual 182, 3) := by decide +kernel
theorem dX7_undo_24 : decode cX7_undo 24 = .ok (.aload_n 0, 1) := by decide +kernel
theorem dX7_undo_25 : decode cX7_undo 25 = .ok (.getfield 36, 3) := by decide +kernel
theorem dX7_undo_28 : decode cX7_undo 28 = .ok (.getfield 116, 3) := by decide +kernel
theorem dX7_undo_31 : decode cX7_undo 31 = .ok (.ireturn, 1) := by decide +kernel
theorem dX7_gone_0 : decode cX7_gone 0 = .ok (.aload_n 0, 1) := by decide +kernel
theorem dX7_gone_1 : decode cX7_gone 1 = .ok (.iload_n 1, 1) := by decide +kernel
theorem dX7_gone_2 : decode cX7_gone 2 = .ok (.invokevirtual 138, 3) := by decide +kernel
theorem dX7_gone_5 : decode cX7_gone 5 = .ok (.ifCond .eq 10, 3) := by decide +kernel
theorem dX7_gone_8 : decode cX7_gone 8 = .ok (.iload_n 2, 1) := by decide +kernel
theorem dX7_gone_9 : decode cX7_gone 9 = .ok (.invokestatic 119, 3) := by decide +kernel
theorem dX7_gone_12 : decode cX7_gone 12 = .ok (.ifCond .ne 5, 3) := by decide +kernel
theorem dX7_gone_15 : decode cX7_gone 15 = .ok (.iconst (-1), 1) := by decide +kernel
theorem dX7_gone_16 : decode cX7_gone 16 = .ok (.ireturn, 1) := by decide +kernel
theorem dX7_gone_17 : decode cX7_gone 17 = .ok (.iload 4, 2) := by decide +kernel
theorem dX7_gone_19 : decode cX7_gone 19 = .ok (.iconst 1, 1) := by decide +kernel
theorem dX7_gone_20 : decode cX7_gone 20 = .ok (.if_icmp .lt 16, 3) := by decide +kernel
theorem dX7_gone_23 : decode cX7_gone 23 = .ok (.iload 4, 2) := by decide +kernel
theorem dX7_gone_25 : decode cX7_gone 25 = .ok (.iconst 2, 1) := by decide +kernel
theorem dX7_gone_26 : decode cX7_gone 26 = .ok (.if_icmp .gt 10, 3) := by decide +kernel
theorem dX7_gone_29 : decode cX7_gone 29 = .ok (.iload_n 3, 1) := by decide +kernel
theorem dX7_gone_30 : decode cX7_gone 30 = .ok (.invokestatic 156, 3) := by decide +kernel
theorem dX7_gone_33 : decode cX7_gone 33 = .ok (.ifCond .ne 6, 3) := by decide +kernel
theorem dX7_gone_36 : decode cX7_gone 36 = .ok (.bipush (-2), 2) := by decide +kernel
theorem dX7_gone_38 : decode cX7_gone 38 = .ok (.ireturn, 1) := by decide +kernel
theorem dX7_gone_39 : decode cX7_gone 39 = .ok (.aload_n 0, 1) := by decide +kernel
theorem dX7_gone_40 : decode cX7_gone 40 = .ok (.iload_n 1, 1) := by decide +kernel
theorem dX7_gone_41 : decode cX7_gone 41 = .ok (.iload_n 2, 1) := by decide +kernel
theorem dX7_gone_42 : decode cX7_gone 42 = .ok (.iload_n 3, 1) := by decide +kernel
theorem dX7_gone_43 : decode cX7_gone 43 = .ok (.iload 4, 2) := by decide +kernel
theorem dX7_gone_45 : decode cX7_gone 45 = .ok (.invokevirtual 185, 3) := by decide +kernel
theorem dX7_gone_48 : decode cX7_gone 48 = .ok (.ireturn, 1) := by decide +kernel
theorem dX7_latest_0 : decode cX7_latest 0 = .ok (.aload_n 0, 1) := by decide +kernel
theorem dX7_latest_1 : decode cX7_latest 1 = .ok (.iload_n 1, 1) := by decide +kernel
theorem dX7_latest_2 : decode cX7_latest 2 = .ok (.invokevirtual 138, 3) := by decide +kernel
theorem dX7_latest_5 : decode cX7_latest 5 = .ok (.ifCond .ne 5, 3) := by decide +kernel
theorem dX7_latest_8 : decode cX7_latest 8 = .ok (.iconst (-1), 1) := by decide +kernel
theorem dX7_latest_9 : decode cX7_latest 9 = .ok (.ireturn, 1) := by decide +kernel
theorem dX7_latest_10 : decode cX7_latest 10 = .ok (.bipush 40, 2) := by decide +kernel
theorem dX7_latest_12 : decode cX7_latest 12 = .ok (.istore_n 2, 1) := by decide +kernel
theorem dX7_latest_13 : decode cX7_latest 13 = .ok (.iload_n 2, 1) := by decide +kernel
theorem dX7_latest_14 : decode cX7_latest 14 = .ok (.ifCond .lt 24, 3) := by decide +kernel
theorem dX7_latest_17 : decode cX7_latest 17 = .ok (.aload_n 0, 1) := by decide +kernel
theorem dX7_latest_18 : decode cX7_latest 18 = .ok (.iload_n 1, 1) := by decide +kernel
theorem dX7_latest_19 : decode cX7_latest 19 = .ok (.iconst 0, 1) := by decide +kernel
theorem dX7_latest_20 : decode cX7_latest 20 = .ok (.iload_n 2, 1) := by decide +kernel
theorem dX7_latest_21 : decode cX7_latest 21 = .ok (.iconst 1, 1) := by decide +kernel
theorem dX7_latest_22 : decode cX7_latest 22 = .ok (.invokevirtual 185, 3) := by decide +kernel
theorem dX7_latest_25 : decode cX7_latest 25 = .ok (.bipush (-9), 2) := by decide +kernel
theorem dX7_latest_27 : decode cX7_latest 27 = .ok (.if_icmp .eq 5, 3) := by decide +kernel
theorem dX7_latest_30 : decode cX7_latest 30 = .ok (.iload_n 2, 1) := by decide +kernel
theorem dX7_latest_31 : decode cX7_latest 31 = .ok (.ireturn, 1) := by decide +kernel
theorem dX7_latest_32 : decode cX7_latest 32 = .ok (.iinc 2 (-1), 3) := by decide +kernel
theorem dX7_latest_35 : decode cX7_latest 35 = .ok (.goto (-22), 3) := by decide +kernel
theorem dX7_latest_38 : decode cX7_latest 38 = .ok (.bipush (-9), 2) := by decide +kernel
theorem dX7_latest_40 : decode cX7_latest 40 = .ok (.ireturn, 1) := by decide +kernel
theorem dX7_safest_0 : decode cX7_safest 0 = .ok (.aload_n 0, 1) := by decide +kernel
theorem dX7_safest_1 : decode cX7_safest 1 = .ok (.iload_n 1, 1) := by decide +kernel
theorem dX7_safest_2 : decode cX7_safest 2 = .ok (.invokevirtual 138, 3) := by decide +kernel
theorem dX7_safest_5 : decode cX7_safest 5 = .ok (.ifCond .ne 5, 3) := by decide +kernel
theorem dX7_safest_8 : decode cX7_safest 8 = .ok (.iconst (-1), 1) := by decide +kernel
theorem dX7_safest_9 : decode cX7_safest 9 = .ok (.ireturn, 1) := by decide +kernel
theorem dX7_safest_10 : decode cX7_safest 10 = .ok (.iload_n 2, 1) := by decide +kernel
theorem dX7_safest_11 : decode cX7_safest 11 = .ok (.ifCond .lt 8, 3) := by decide +kernel
theorem dX7_safest_14 : decode cX7_safest 14 = .ok (.iload_n 2, 1) := by decide +kernel
theorem dX7_safest_15 : decode cX7_safest 15 = .ok (.iconst 1, 1) := by decide +kernel
theorem dX7_safest_16 : decode cX7_safest 16 = .ok (.if_icmp .le 6, 3) := by decide +kernel
theorem dX7_safest_19 : decode cX7_safest 19 = .ok (.bipush (-2), 2) := by decide +kernel
theorem dX7_safest_21 : decode cX7_safest 21 = .ok (.ireturn, 1) := by decide +kernel
theorem dX7_safest_22 : decode cX7_safest 22 = .ok (.aload_n 0, 1) := by decide +kernel
theorem dX7_safest_23 : decode cX7_safest 23 = .ok (.iload_n 1, 1) := by decide +kernel
theorem dX7_safest_24 : decode cX7_safest 24 = .ok (.invokevirtual 159, 3) := by decide +kernel
theorem dX7_safest_27 : decode cX7_safest 27 = .ok (.ifCond .ne 6, 3) := by decide +kernel
theorem dX7_safest_30 : decode cX7_safest 30 = .ok (.bipush (-3), 2) := by decide +kernel
theorem dX7_safest_32 : decode cX7_safest 32 = .ok (.ireturn, 1) := by decide +kernel
theorem dX7_safest_33 : decode cX7_safest 33 = .ok (.aload_n 0, 1) := by decide +kernel
theorem dX7_safest_34 : decode cX7_safest 34 = .ok (.getfield 29, 3) := by decide +kernel
theorem dX7_safest_37 : decode cX7_safest 37 = .ok (.iload_n 1, 1) := by decide +kernel
theorem dX7_safest_38 : decode cX7_safest 38 = .ok (.invokevirtual 147, 3) := by decide +kernel
theorem dX7_safest_41 : decode cX7_safest 41 = .ok (.istore_n 3, 1) := by decide +kernel
theorem dX7_safest_42 : decode cX7_safest 42 = .ok (.aload_n 0, 1) := by decide +kernel
theorem dX7_safest_43 : decode cX7_safest 43 = .ok (.iload_n 1, 1) := by decide +kernel
theorem dX7_safest_44 : decode cX7_safest 44 = .ok (.iload_n 3, 1) := by decide +kernel
theorem dX7_safest_45 : decode cX7_safest 45 = .ok (.aload_n 0, 1) := by decide +kernel
theorem dX7_safest_46 : decode cX7_safest 46 = .ok (.getfield 29, 3) := by decide +kernel
theorem dX7_safest_49 : decode cX7_safest 49 = .ok (.invokevirtual 95, 3) := by decide +kernel
theorem dX7_safest_52 : decode cX7_safest 52 = .ok (.iconst 1, 1) := by decide +kernel
theorem dX7_safest_53 : decode cX7_safest 53 = .ok (.invokevirtual 185, 3) := by decide +kernel
theorem dX7_safest_56 : decode cX7_safest 56 = .ok (.istore 4, 2) := by decide +kernel
theorem dX7_safest_58 : decode cX7_safest 58 = .ok (.aload_n 0, 1) := by decide +kernel
theorem dX7_safest_59 : decode cX7_safest 59 = .ok (.iload_n 1, 1) := by decide +kernel
theorem dX7_safest_60 : decode cX7_safest 60 = .ok (.iload_n 3, 1) := by decide +kernel
theorem dX7_safest_61 : decode cX7_safest 61 = .ok (.aload_n 0, 1) := by decide +kernel
theorem dX7_safest_62 : decode cX7_safest 62 = .ok (.getfield 29, 3) := by decide +kernel
theorem dX7_safest_65 : decode cX7_safest 65 = .ok (.invokevirtual 95, 3) := by decide +kernel
theorem dX7_safest_68 : decode cX7_safest 68 = .ok (.iconst 2, 1) := by decide +kernel
theorem dX7_safest_69 : decode cX7_safest 69 = .ok (.invokevirtual 185, 3) := by decide +kernel
theorem dX7_safest_72 : decode cX7_safest 72 = .ok (.istore 5, 2) := by decide +kernel
theorem dX7_safest_74 : decode cX7_safest 74 = .ok (.aload_n 0, 1) := by decide +kernel
theorem dX7_safest_75 : decode cX7_safest 75 = .ok (.iload_n 3, 1) := by decide +kernel
theorem dX7_safest_76 : decode cX7_safest 76 = .ok (.invokevirtual 176, 3) := by decide +kernel
theorem dX7_safest_79 : decode cX7_safest 79 = .ok (.ifCond .le 13, 3) := by decide +kernel
theorem dX7_safest_82 : decode cX7_safest 82 = .ok (.aload_n 0, 1) := by decide +kernel
theorem dX7_safest_83 : decode cX7_safest 83 = .ok (.getfield 29, 3) := by decide +kernel
theorem dX7_safest_86 : decode cX7_safest 86 = .ok (.invokevirtual 95, 3) := by decide +kernel
theorem dX7_safest_89 : decode cX7_safest 89 = .ok (.goto 5, 3) := by decide +kernel
theorem dX7_safest_92 : decode cX7_safest 92 = .ok (.bipush (-9), 2) := by decide +kernel
theorem dX7_safest_94 : decode cX7_safest 94 = .ok (.istore 6, 2) := by decide +kernel
theorem dX7_safest_96 : decode cX7_safest 96 = .ok (.iload_n 2, 1) := by decide +kernel
theorem dX7_safest_97 : decode cX7_safest 97 = .ok (.ifCond .ne 15, 3) := by decide +kernel
theorem dX7_safest_100 : decode cX7_safest 100 = .ok (.iload 4, 2) := by decide +kernel
theorem dX7_safest_102 : decode cX7_safest 102 = .ok (.iload 5, 2) := by decide +kernel
theorem dX7_safest_104 : decode cX7_safest 104 = .ok (.iload 6, 2) := by decide +kernel
theorem dX7_safest_106 : decode cX7_safest 106 = .ok (.invokestatic 189, 3) := by decide +kernel
theorem dX7_safest_109 : decode cX7_safest 109 = .ok (.goto 12, 3) := by decide +kernel
theorem dX7_safest_112 : decode cX7_safest 112 = .ok (.iload 4, 2) := by decide +kernel
theorem dX7_safest_114 : decode cX7_safest 114 = .ok (.iload 5, 2) := by decide +kernel
theorem dX7_safest_116 : decode cX7_safest 116 = .ok (.iload 6, 2) := by decide +kernel
theorem dX7_safest_118 : decode cX7_safest 118 = .ok (.invokestatic 193, 3) := by decide +kernel
theorem dX7_safest_121 : decode cX7_safest 121 = .ok (.ireturn, 1) := by decide +kernel
theorem dX7_shells_0 : decode cX7_shells 0 = .ok (.aload_n 0, 1) := by decide +kernel
theorem dX7_shells_1 : decode cX7_shells 1 = .ok (.iload_n 1, 1) := by decide +kernel
theorem dX7_shells_2 : decode cX7_shells 2 = .ok (.invokevirtual 138, 3) := by decide +kernel
theorem dX7_shells_5 : decode cX7_shells 5 = .ok (.ifCond .ne 5, 3) := by decide +kernel
theorem dX7_shells_8 : decode cX7_shells 8 = .ok (.iconst (-1), 1) := by decide +kernel
theorem dX7_shells_9 : decode cX7_shells 9 = .ok (.ireturn, 1) := by decide +kernel
theorem dX7_shells_10 : decode cX7_shells 10 = .ok (.aload_n 0, 1) := by decide +kernel
theorem dX7_shells_11 : decode cX7_shells 11 = .ok (.iload_n 1, 1) := by decide +kernel
theorem dX7_shells_12 : decode cX7_shells 12 = .ok (.invokevirtual 159, 3) := by decide +kernel
theorem dX7_shells_15 : decode cX7_shells 15 = .ok (.ifCond .ne 6, 3) := by decide +kernel
theorem dX7_shells_18 : decode cX7_shells 18 = .ok (.bipush (-3), 2) := by decide +kernel
theorem dX7_shells_20 : decode cX7_shells 20 = .ok (.ireturn, 1) := by decide +kernel
theorem dX7_shells_21 : decode cX7_shells 21 = .ok (.aload_n 0, 1) := by decide +kernel
theorem dX7_shells_22 : decode cX7_shells 22 = .ok (.getfield 29, 3) := by decide +kernel
theorem dX7_shells_25 : decode cX7_shells 25 = .ok (.iload_n 1, 1) := by decide +kernel
theorem dX7_shells_26 : decode cX7_shells 26 = .ok (.invokevirtual 147, 3) := by decide +kernel
theorem dX7_shells_29 : decode cX7_shells 29 = .ok (.istore_n 2, 1) := by decide +kernel
theorem dX7_shells_30 : decode cX7_shells 30 = .ok (.bipush (-9), 2) := by decide +kernel
theorem dX7_shells_32 : decode cX7_shells 32 = .ok (.istore_n 3, 1) := by decide +kernel
theorem dX7_shells_33 : decode cX7_shells 33 = .ok (.iconst 0, 1) := by decide +kernel
theorem dX7_shells_34 : decode cX7_shells 34 = .ok (.istore 4, 2) := by decide +kernel
theorem dX7_shells_36 : decode cX7_shells 36 = .ok (.iload 4, 2) := by decide +kernel
theorem dX7_shells_38 : decode cX7_shells 38 = .ok (.bipush 40, 2) := by decide +kernel
theorem dX7_shells_40 : decode cX7_shells 40 = .ok (.aload_n 0, 1) := by decide +kernel
theorem dX7_shells_41 : decode cX7_shells 41 = .ok (.getfield 29, 3) := by decide +kernel
theorem dX7_shells_44 : decode cX7_shells 44 = .ok (.invokevirtual 95, 3) := by decide +kernel
theorem dX7_shells_47 : decode cX7_shells 47 = .ok (.isub, 1) := by decide +kernel
theorem dX7_shells_48 : decode cX7_shells 48 = .ok (.if_icmp .gt 56, 3) := by decide +kernel
theorem dX7_shells_51 : decode cX7_shells 51 = .ok (.aload_n 0, 1) := by decide +kernel
theorem dX7_shells_52 : decode cX7_shells 52 = .ok (.getfield 29, 3) := by decide +kernel
theorem dX7_shells_55 : decode cX7_shells 55 = .ok (.invokevirtual 95, 3) := by decide +kernel
theorem dX7_shells_58 : decode cX7_shells 58 = .ok (.iload 4, 2) := by decide +kernel
theorem dX7_shells_60 : decode cX7_shells 60 = .ok (.iadd, 1) := by decide +kernel
theorem dX7_shells_61 : decode cX7_shells 61 = .ok (.istore 5, 2) := by decide +kernel
theorem dX7_shells_63 : decode cX7_shells 63 = .ok (.iload 4, 2) := by decide +kernel
theorem dX7_shells_65 : decode cX7_shells 65 = .ok (.ifCond .le 19, 3) := by decide +kernel
theorem dX7_shells_68 : decode cX7_shells 68 = .ok (.aload_n 0, 1) := by decide +kernel
theorem dX7_shells_69 : decode cX7_shells 69 = .ok (.iload_n 1, 1) := by decide +kernel
theorem dX7_shells_70 : decode cX7_shells 70 = .ok (.iload_n 2, 1) := by decide +kernel
theorem dX7_shells_71 : decode cX7_shells 71 = .ok (.iload 5, 2) := by decide +kernel
theorem dX7_shells_73 : decode cX7_shells 73 = .ok (.iconst 1, 1) := by decide +kernel
theorem dX7_shells_74 : decode cX7_shells 74 = .ok (.isub, 1) := by decide +kernel
theorem dX7_shells_75 : decode cX7_shells 75 = .ok (.invokevirtual 196, 3) := by decide +kernel
theorem dX7_shells_78 : decode cX7_shells 78 = .ok (.ifCond .ne 6, 3) := by decide +kernel
theorem dX7_shells_81 : decode cX7_shells 81 = .ok (.goto 23, 3) := by decide +kernel
theorem dX7_shells_84 : decode cX7_shells 84 = .ok (.aload_n 0, 1) := by decide +kernel
theorem dX7_shells_85 : decode cX7_shells 85 = .ok (.iload_n 1, 1) := by decide +kernel
theorem dX7_shells_86 : decode cX7_shells 86 = .ok (.iload_n 2, 1) := by decide +kernel
theorem dX7_shells_87 : decode cX7_shells 87 = .ok (.iload 5, 2) := by decide +kernel
theorem dX7_shells_89 : decode cX7_shells 89 = .ok (.invokevirtual 200, 3) := by decide +kernel
theorem dX7_shells_92 : decode cX7_shells 92 = .ok (.ifCond .eq 6, 3) := by decide +kernel
theorem dX7_shells_95 : decode cX7_shells 95 = .ok (.iload 4, 2) := by decide +kernel
theorem dX7_shells_97 : decode cX7_shells 97 = .ok (.istore_n 3, 1) := by decide +kernel
theorem dX7_shells_98 : decode cX7_shells 98 = .ok (.iinc 4 1, 3) := by decide +kernel
theorem dX7_shells_101 : decode cX7_shells 101 = .ok (.goto (-65), 3) := by decide +kernel
theorem dX7_shells_104 : decode cX7_shells 104 = .ok (.iload_n 3, 1) := by decide +kernel
theorem dX7_shells_105 : decode cX7_shells 105 = .ok (.ireturn, 1) := by decide +kernel
theorem dX7_cut_0 : decode cX7_cut 0 = .ok (.aload_n 0, 1) := by decide +kernel
theorem dX7_cut_1 : decode cX7_cut 1 = .ok (.iload_n 1, 1) := by decide +kernel
theorem dX7_cut_2 : decode cX7_cut 2 = .ok (.invokevirtual 138, 3) := by decide +kernel
theorem dX7_cut_5 : decode cX7_cut 5 = .ok (.ifCond .ne 5, 3) := by decide +kernel
theorem dX7_cut_8 : decode cX7_cut 8 = .ok (.iconst (-1), 1) := by decide +kernel
theorem dX7_cut_9 : decode cX7_cut 9 = .ok (.ireturn, 1) := by decide +kernel
theorem dX7_cut_10 : decode cX7_cut 10 = .ok (.aload_n 0, 1) := by decide +kernel
theorem dX7_cut_11 : decode cX7_cut 11 = .ok (.getfield 29, 3) := by decide +kernel
theorem dX7_cut_14 : decode cX7_cut 14 = .ok (.invokevirtual 95, 3) := by decide +kernel
theorem dX7_cut_17 : decode cX7_cut 17 = .ok (.istore_n 2, 1) := by decide +kernel
theorem dX7_cut_18 : decode cX7_cut 18 = .ok (.iload_n 2, 1) := by decide +kernel
theorem dX7_cut_19 : decode cX7_cut 19 = .ok (.bipush 40, 2) := by decide +kernel
theorem dX7_cut_21 : decode cX7_cut 21 = .ok (.if_icmp .gt 59, 3) := by decide +kernel
theorem dX7_cut_24 : decode cX7_cut 24 = .ok (.aload_n 0, 1) := by decide +kernel
theorem dX7_cut_25 : decode cX7_cut 25 = .ok (.iload_n 2, 1) := by decide +kernel
theorem dX7_cut_26 : decode cX7_cut 26 = .ok (.invokevirtual 99, 3) := by decide +kernel
theorem dX7_cut_29 : decode cX7_cut 29 = .ok (.istore_n 3, 1) := by decide +kernel
theorem dX7_cut_30 : decode cX7_cut 30 = .ok (.aload_n 0, 1) := by decide +kernel
theorem dX7_cut_31 : decode cX7_cut 31 = .ok (.getfield 29, 3) := by decide +kernel
theorem dX7_cut_34 : decode cX7_cut 34 = .ok (.iload_n 1, 1) := by decide +kernel
theorem dX7_cut_35 : decode cX7_cut 35 = .ok (.invokevirtual 147, 3) := by decide +kernel
theorem dX7_cut_38 : decode cX7_cut 38 = .ok (.istore 4, 2) := by decide +kernel
theorem dX7_cut_40 : decode cX7_cut 40 = .ok (.iload 4, 2) := by decide +kernel
theorem dX7_cut_42 : decode cX7_cut 42 = .ok (.ifCond .le 32, 3) := by decide +kernel
theorem dX7_cut_45 : decode cX7_cut 45 = .ok (.aload_n 0, 1) := by decide +kernel
theorem dX7_cut_46 : decode cX7_cut 46 = .ok (.getfield 19, 3) := by decide +kernel
theorem dX7_cut_49 : decode cX7_cut 49 = .ok (.iload 4, 2) := by decide +kernel
theorem dX7_cut_51 : decode cX7_cut 51 = .ok (.iload_n 3, 1) := by decide +kernel
theorem dX7_cut_52 : decode cX7_cut 52 = .ok (.invokevirtual 126, 3) := by decide +kernel
theorem dX7_cut_55 : decode cX7_cut 55 = .ok (.aload_n 0, 1) := by decide +kernel
theorem dX7_cut_56 : decode cX7_cut 56 = .ok (.getfield 19, 3) := by decide +kernel
theorem dX7_cut_59 : decode cX7_cut 59 = .ok (.iload_n 1, 1) := by decide +kernel
theorem dX7_cut_60 : decode cX7_cut 60 = .ok (.invokevirtual 144, 3) := by decide +kernel
theorem dX7_cut_63 : decode cX7_cut 63 = .ok (.if_icmp .le 5, 3) := by decide +kernel
theorem dX7_cut_66 : decode cX7_cut 66 = .ok (.iload_n 2, 1) := by decide +kernel
theorem dX7_cut_67 : decode cX7_cut 67 = .ok (.ireturn, 1) := by decide +kernel
theorem dX7_cut_68 : decode cX7_cut 68 = .ok (.iinc 4 (-1), 3) := by decide +kernel
theorem dX7_cut_71 : decode cX7_cut 71 = .ok (.goto (-31), 3) := by decide +kernel
theorem dX7_cut_74 : decode cX7_cut 74 = .ok (.iinc 2 1, 3) := by decide +kernel
theorem dX7_cut_77 : decode cX7_cut 77 = .ok (.goto (-59), 3) := by decide +kernel
theorem dX7_cut_80 : decode cX7_cut 80 = .ok (.bipush (-9), 2) := by decide +kernel
theorem dX7_cut_82 : decode cX7_cut 82 = .ok (.ireturn, 1) := by decide +kernel
theorem dX7_judged_0 : decode cX7_judged 0 = .ok (.aload_n 0, 1) := by decide +kernel
theorem dX7_judged_1 : decode cX7_judged 1 = .ok (.iload_n 1, 1) := by decide +kernel
theorem dX7_judged_2 : decode cX7_judged 2 = .ok (.invokevirtual 138, 3) := by decide +kernel
theorem dX7_judged_5 : decode cX7_judged 5 = .ok (.ifCond .ne 5, 3) := by decide +kernel
theorem dX7_judged_8 : decode cX7_judged 8 = .ok (.iconst (-1), 1) := by decide +kernel
theorem dX7_judged_9 : decode cX7_judged 9 = .ok (.ireturn, 1) := by decide +kernel
theorem dX7_judged_10 : decode cX7_judged 10 = .ok (.iload_n 2, 1) := by decide +kernel
theorem dX7_judged_11 : decode cX7_judged 11 = .ok (.iconst 1, 1) := by decide +kernel
theorem dX7_judged_12 : decode cX7_judged 12 = .ok (.if_icmp .lt 23, 3) := by decide +kernel
theorem dX7_judged_15 : decode cX7_judged 15 = .ok (.iload_n 2, 1) := by decide +kernel
theorem dX7_judged_16 : decode cX7_judged 16 = .ok (.bipush 8, 2) := by decide +kernel
theorem dX7_judged_18 : decode cX7_judged 18 = .ok (.if_icmp .gt 17, 3) := by decide +kernel
theorem dX7_judged_21 : decode cX7_judged 21 = .ok (.iload_n 3, 1) := by decide +kernel
theorem dX7_judged_22 : decode cX7_judged 22 = .ok (.ifCond .lt 13, 3) := by decide +kernel
theorem dX7_judged_25 : decode cX7_judged 25 = .ok (.iload_n 3, 1) := by decide +kernel
theorem dX7_judged_26 : decode cX7_judged 26 = .ok (.bipush 10, 2) := by decide +kernel
theorem dX7_judged_28 : decode cX7_judged 28 = .ok (.iload_n 2, 1) := by decide +kernel
theorem dX7_judged_29 : decode cX7_judged 29 = .ok (.invokestatic 203, 3) := by decide +kernel
theorem dX7_judged_32 : decode cX7_judged 32 = .ok (.if_icmp .lt 6, 3) := by decide +kernel
theorem dX7_judged_35 : decode cX7_judged 35 = .ok (.bipush (-2), 2) := by decide +kernel
theorem dX7_judged_37 : decode cX7_judged 37 = .ok (.ireturn, 1) := by decide +kernel
theorem dX7_judged_38 : decode cX7_judged 38 = .ok (.aload_n 0, 1) := by decide +kernel
theorem dX7_judged_39 : decode cX7_judged 39 = .ok (.getfield 56, 3) := by decide +kernel
theorem dX7_judged_42 : decode cX7_judged 42 = .ok (.aload_n 0, 1) := by decide +kernel
theorem dX7_judged_43 : decode cX7_judged 43 = .ok (.getfield 19, 3) := by decide +kernel
theorem dX7_judged_46 : decode cX7_judged 46 = .ok (.iload_n 1, 1) := by decide +kernel
theorem dX7_judged_47 : decode cX7_judged 47 = .ok (.aload_n 0, 1) := by decide +kernel
theorem dX7_judged_48 : decode cX7_judged 48 = .ok (.getfield 29, 3) := by decide +kernel
theorem dX7_judged_51 : decode cX7_judged 51 = .ok (.iload_n 1, 1) := by decide +kernel
theorem dX7_judged_52 : decode cX7_judged 52 = .ok (.invokevirtual 147, 3) := by decide +kernel
theorem dX7_judged_55 : decode cX7_judged 55 = .ok (.aload_n 0, 1) := by decide +kernel
theorem dX7_judged_56 : decode cX7_judged 56 = .ok (.getfield 29, 3) := by decide +kernel
theorem dX7_judged_59 : decode cX7_judged 59 = .ok (.invokevirtual 95, 3) := by decide +kernel
theorem dX7_judged_62 : decode cX7_judged 62 = .ok (.invokevirtual 206, 3) := by decide +kernel
theorem dX7_judged_65 : decode cX7_judged 65 = .ok (.aload_n 0, 1) := by decide +kernel
theorem dX7_judged_66 : decode cX7_judged 66 = .ok (.getfield 56, 3) := by decide +kernel
theorem dX7_judged_69 : decode cX7_judged 69 = .ok (.aload_n 0, 1) := by decide +kernel
theorem dX7_judged_70 : decode cX7_judged 70 = .ok (.getfield 29, 3) := by decide +kernel
theorem dX7_judged_73 : decode cX7_judged 73 = .ok (.iload_n 1, 1) := by decide +kernel
theorem dX7_judged_74 : decode cX7_judged 74 = .ok (.invokevirtual 153, 3) := by decide +kernel
theorem dX7_judged_77 : decode cX7_judged 77 = .ok (.putfield 210, 3) := by decide +kernel
theorem dX7_judged_80 : decode cX7_judged 80 = .ok (.iconst 0, 1) := by decide +kernel
theorem dX7_judged_81 : decode cX7_judged 81 = .ok (.istore 4, 2) := by decide +kernel
theorem dX7_judged_83 : decode cX7_judged 83 = .ok (.iload 4, 2) := by decide +kernel
theorem dX7_judged_85 : decode cX7_judged 85 = .ok (.iload_n 2, 1) := by decide +kernel
theorem dX7_judged_86 : decode cX7_judged 86 = .ok (.if_icmp .ge 78, 3) := by decide +kernel
theorem dX7_judged_89 : decode cX7_judged 89 = .ok (.iload_n 3, 1) := by decide +kernel
theorem dX7_judged_90 : decode cX7_judged 90 = .ok (.iload_n 2, 1) := by decide +kernel
theorem dX7_judged_91 : decode cX7_judged 91 = .ok (.iconst 1, 1) := by decide +kernel
theorem dX7_judged_92 : decode cX7_judged 92 = .ok (.isub, 1) := by decide +kernel
theorem dX7_judged_93 : decode cX7_judged 93 = .ok (.iload 4, 2) := by decide +kernel
theorem dX7_judged_95 : decode cX7_judged 95 = .ok (.isub, 1) := by decide +kernel
theorem dX7_judged_96 : decode cX7_judged 96 = .ok (.invokestatic 213, 3) := by decide +kernel
theorem dX7_judged_99 : decode cX7_judged 99 = .ok (.istore 5, 2) := by decide +kernel
theorem dX7_judged_101 : decode cX7_judged 101 = .ok (.iload 5, 2) := by decide +kernel
theorem dX7_judged_103 : decode cX7_judged 103 = .ok (.iconst 2, 1) := by decide +kernel
theorem dX7_judged_104 : decode cX7_judged 104 = .ok (.if_icmp .gt 25, 3) := by decide +kernel
theorem dX7_judged_107 : decode cX7_judged 107 = .ok (.aload_n 0, 1) := by decide +kernel
theorem dX7_judged_108 : decode cX7_judged 108 = .ok (.getfield 56, 3) := by decide +kernel
theorem dX7_judged_111 : decode cX7_judged 111 = .ok (.getfield 210, 3) := by decide +kernel
theorem dX7_judged_114 : decode cX7_judged 114 = .ok (.ifCond .ne 15, 3) := by decide +kernel
theorem dX7_judged_117 : decode cX7_judged 117 = .ok (.aload_n 0, 1) := by decide +kernel
theorem dX7_judged_118 : decode cX7_judged 118 = .ok (.getfield 56, 3) := by decide +kernel
theorem dX7_judged_121 : decode cX7_judged 121 = .ok (.getfield 216, 3) := by decide +kernel
theorem dX7_judged_124 : decode cX7_judged 124 = .ok (.bipush 40, 2) := by decide +kernel
theorem dX7_judged_126 : decode cX7_judged 126 = .ok (.if_icmp .lt 6, 3) := by decide +kernel
theorem dX7_judged_129 : decode cX7_judged 129 = .ok (.iload 4, 2) := by decide +kernel
theorem dX7_judged_131 : decode cX7_judged 131 = .ok (.ireturn, 1) := by decide +kernel
theorem dX7_judged_132 : decode cX7_judged 132 = .ok (.aload_n 0, 1) := by decide +kernel
theorem dX7_judged_133 : decode cX7_judged 133 = .ok (.getfield 56, 3) := by decide +kernel
theorem dX7_judged_136 : decode cX7_judged 136 = .ok (.aload_n 0, 1) := by decide +kernel
theorem dX7_judged_137 : decode cX7_judged 137 = .ok (.getfield 19, 3) := by decide +kernel
theorem dX7_judged_140 : decode cX7_judged 140 = .ok (.iload 5, 2) := by decide +kernel
theorem dX7_judged_142 : decode cX7_judged 142 = .ok (.invokevirtual 219, 3) := by decide +kernel
theorem dX7_judged_145 : decode cX7_judged 145 = .ok (.aload_n 0, 1) := by decide +kernel
theorem dX7_judged_146 : decode cX7_judged 146 = .ok (.getfield 56, 3) := by decide +kernel
theorem dX7_judged_149 : decode cX7_judged 149 = .ok (.invokevirtual 223, 3) := by decide +kernel
theorem dX7_judged_152 : decode cX7_judged 152 = .ok (.ifCond .eq 6, 3) := by decide +kernel
theorem dX7_judged_155 : decode cX7_judged 155 = .ok (.iload 4, 2) := by decide +kernel
theorem dX7_judged_157 : decode cX7_judged 157 = .ok (.ireturn, 1) := by decide +kernel
theorem dX7_judged_158 : decode cX7_judged 158 = .ok (.iinc 4 1, 3) := by decide +kernel
theorem dX7_judged_161 : decode cX7_judged 161 = .ok (.goto (-78), 3) := by decide +kernel
theorem dX7_judged_164 : decode cX7_judged 164 = .ok (.bipush (-9), 2) := by decide +kernel
theorem dX7_judged_166 : decode cX7_judged 166 = .ok (.ireturn, 1) := by decide +kernel
theorem dX7_ahead_0 : decode cX7_ahead 0 = .ok (.aload_n 0, 1) := by decide +kernel
theorem dX7_ahead_1 : decode cX7_ahead 1 = .ok (.getfield 19, 3) := by decide +kernel
theorem dX7_ahead_4 : decode cX7_ahead 4 = .ok (.getfield 89, 3) := by decide +kernel
theorem dX7_ahead_7 : decode cX7_ahead 7 = .ok (.ifCond .ne 6, 3) := by decide +kernel
theorem dX7_ahead_10 : decode cX7_ahead 10 = .ok (.bipush (-3), 2) := by decide +kernel
theorem dX7_ahead_12 : decode cX7_ahead 12 = .ok (.ireturn, 1) := by decide +kernel
theorem dX7_ahead_13 : decode cX7_ahead 13 = .ok (.aload_n 0, 1) := by decide +kernel
theorem dX7_ahead_14 : decode cX7_ahead 14 = .ok (.invokevirtual 227, 3) := by decide +kernel
theorem dX7_ahead_17 : decode cX7_ahead 17 = .ok (.ireturn, 1) := by decide +kernel
theorem dX7_aheadOf_0 : decode cX7_aheadOf 0 = .ok (.aload_n 0, 1) := by decide +kernel
theorem dX7_aheadOf_1 : decode cX7_aheadOf 1 = .ok (.iload_n 1, 1) := by decide +kernel
theorem dX7_aheadOf_2 : decode cX7_aheadOf 2 = .ok (.invokevirtual 138, 3) := by decide +kernel
theorem dX7_aheadOf_5 : decode cX7_aheadOf 5 = .ok (.ifCond .ne 5, 3) := by decide +kernel
theorem dX7_aheadOf_8 : decode cX7_aheadOf 8 = .ok (.iconst (-1), 1) := by decide +kernel
theorem dX7_aheadOf_9 : decode cX7_aheadOf 9 = .ok (.ireturn, 1) := by decide +kernel
theorem dX7_aheadOf_10 : decode cX7_aheadOf 10 = .ok (.aload_n 0, 1) := by decide +kernel
theorem dX7_aheadOf_11 : decode cX7_aheadOf 11 = .ok (.invokevirtual 227, 3) := by decide +kernel
theorem dX7_aheadOf_14 : decode cX7_aheadOf 14 = .ok (.istore_n 2, 1) := by decide +kernel
theorem dX7_aheadOf_15 : decode cX7_aheadOf 15 = .ok (.iload_n 2, 1) := by decide +kernel
theorem dX7_aheadOf_16 : decode cX7_aheadOf 16 = .ok (.bipush (-9), 2) := by decide +kernel
theorem dX7_aheadOf_18 : decode cX7_aheadOf 18 = .ok (.if_icmp .ne 6, 3) := by decide +kernel
theorem dX7_aheadOf_21 : decode cX7_aheadOf 21 = .ok (.bipush (-9), 2) := by decide +kernel
theorem dX7_aheadOf_23 : decode cX7_aheadOf 23 = .ok (.ireturn, 1) := by decide +kernel
theorem dX7_aheadOf_24 : decode cX7_aheadOf 24 = .ok (.bipush 40, 2) := by decide +kernel
theorem dX7_aheadOf_26 : decode cX7_aheadOf 26 = .ok (.istore_n 3, 1) := by decide +kernel
theorem dX7_aheadOf_27 : decode cX7_aheadOf 27 = .ok (.iload_n 3, 1) := by decide +kernel
theorem dX7_aheadOf_28 : decode cX7_aheadOf 28 = .ok (.ifCond .lt 23, 3) := by decide +kernel
theorem dX7_aheadOf_31 : decode cX7_aheadOf 31 = .ok (.aload_n 0, 1) := by decide +kernel
theorem dX7_aheadOf_32 : decode cX7_aheadOf 32 = .ok (.iload_n 1, 1) := by decide +kernel
theorem dX7_aheadOf_33 : decode cX7_aheadOf 33 = .ok (.iconst 0, 1) := by decide +kernel
theorem dX7_aheadOf_34 : decode cX7_aheadOf 34 = .ok (.iload_n 3, 1) := by decide +kernel
theorem dX7_aheadOf_35 : decode cX7_aheadOf 35 = .ok (.iconst 1, 1) := by decide +kernel
theorem dX7_aheadOf_36 : decode cX7_aheadOf 36 = .ok (.invokevirtual 185, 3) := by decide +kernel
theorem dX7_aheadOf_39 : decode cX7_aheadOf 39 = .ok (.iload_n 2, 1) := by decide +kernel
theorem dX7_aheadOf_40 : decode cX7_aheadOf 40 = .ok (.if_icmp .ne 5, 3) := by decide +kernel
theorem dX7_aheadOf_43 : decode cX7_aheadOf 43 = .ok (.iload_n 3, 1) := by decide +kernel
theorem dX7_aheadOf_44 : decode cX7_aheadOf 44 = .ok (.ireturn, 1) := by decide +kernel
theorem dX7_aheadOf_45 : decode cX7_aheadOf 45 = .ok (.iinc 3 (-1), 3) := by decide +kernel
theorem dX7_aheadOf_48 : decode cX7_aheadOf 48 = .ok (.goto (-21), 3) := by decide +kernel
theorem dX7_aheadOf_51 : decode cX7_aheadOf 51 = .ok (.bipush (-9), 2) := by decide +kernel
theorem dX7_aheadOf_53 : decode cX7_aheadOf 53 = .ok (.ireturn, 1) := by decide +kernel
theorem dX7_saved_0 : decode cX7_saved 0 = .ok (.iconst 0, 1) := by decide +kernel
theorem dX7_saved_1 : decode cX7_saved 1 = .ok (.istore_n 1, 1) := by decide +kernel
theorem dX7_saved_2 : decode cX7_saved 2 = .ok (.iconst 0, 1) := by decide +kernel
theorem dX7_saved_3 : decode cX7_saved 3 = .ok (.istore_n 2, 1) := by decide +kernel
theorem dX7_saved_4 : decode cX7_saved 4 = .ok (.iconst 0, 1) := by decide +kernel
theorem dX7_saved_5 : decode cX7_saved 5 = .ok (.istore_n 3, 1) := by decide +kernel
theorem dX7_saved_6 : decode cX7_saved 6 = .ok (.iload_n 3, 1) := by decide +kernel
theorem dX7_saved_7 : decode cX7_saved 7 = .ok (.aload_n 0, 1) := by decide +kernel
theorem dX7_saved_8 : decode cX7_saved 8 = .ok (.getfield 19, 3) := by decide +kernel
theorem dX7_saved_11 : decode cX7_saved 11 = .ok (.getfield 89, 3) := by decide +kernel
theorem dX7_saved_14 : decode cX7_saved 14 = .ok (.if_icmp .ge 82, 3) := by decide +kernel
theorem dX7_saved_17 : decode cX7_saved 17 = .ok (.aload_n 0, 1) := by decide +kernel
theorem dX7_saved_18 : decode cX7_saved 18 = .ok (.getfield 29, 3) := by decide +kernel
theorem dX7_saved_21 : decode cX7_saved 21 = .ok (.iload_n 3, 1) := by decide +kernel
theorem dX7_saved_22 : decode cX7_saved 22 = .ok (.invokevirtual 153, 3) := by decide +kernel
theorem dX7_saved_25 : decode cX7_saved 25 = .ok (.istore 4, 2) := by decide +kernel
theorem dX7_saved_27 : decode cX7_saved 27 = .ok (.iload 4, 2) := by decide +kernel
theorem dX7_saved_29 : decode cX7_saved 29 = .ok (.iconst 1, 1) := by decide +kernel
theorem dX7_saved_30 : decode cX7_saved 30 = .ok (.if_icmp .eq 9, 3) := by decide +kernel
theorem dX7_saved_33 : decode cX7_saved 33 = .ok (.iload 4, 2) := by decide +kernel
theorem dX7_saved_35 : decode cX7_saved 35 = .ok (.iconst 4, 1) := by decide +kernel
theorem dX7_saved_36 : decode cX7_saved 36 = .ok (.if_icmp .ne 9, 3) := by decide +kernel
theorem dX7_saved_39 : decode cX7_saved 39 = .ok (.iinc 1 1, 3) := by decide +kernel
theorem dX7_saved_42 : decode cX7_saved 42 = .ok (.goto 48, 3) := by decide +kernel
theorem dX7_saved_45 : decode cX7_saved 45 = .ok (.iload 4, 2) := by decide +kernel
theorem dX7_saved_47 : decode cX7_saved 47 = .ok (.ifCond .ne 32, 3) := by decide +kernel
theorem dX7_saved_50 : decode cX7_saved 50 = .ok (.aload_n 0, 1) := by decide +kernel
theorem dX7_saved_51 : decode cX7_saved 51 = .ok (.iload_n 3, 1) := by decide +kernel
theorem dX7_saved_52 : decode cX7_saved 52 = .ok (.aload_n 0, 1) := by decide +kernel
theorem dX7_saved_53 : decode cX7_saved 53 = .ok (.getfield 29, 3) := by decide +kernel
theorem dX7_saved_56 : decode cX7_saved 56 = .ok (.iload_n 3, 1) := by decide +kernel
theorem dX7_saved_57 : decode cX7_saved 57 = .ok (.invokevirtual 147, 3) := by decide +kernel
theorem dX7_saved_60 : decode cX7_saved 60 = .ok (.aload_n 0, 1) := by decide +kernel
theorem dX7_saved_61 : decode cX7_saved 61 = .ok (.getfield 29, 3) := by decide +kernel
theorem dX7_saved_64 : decode cX7_saved 64 = .ok (.invokevirtual 95, 3) := by decide +kernel
theorem dX7_saved_67 : decode cX7_saved 67 = .ok (.invokevirtual 200, 3) := by decide +kernel
theorem dX7_saved_70 : decode cX7_saved 70 = .ok (.ifCond .eq 9, 3) := by decide +kernel
theorem dX7_saved_73 : decode cX7_saved 73 = .ok (.iinc 1 1, 3) := by decide +kernel
theorem dX7_saved_76 : decode cX7_saved 76 = .ok (.goto 14, 3) := by decide +kernel
theorem dX7_saved_79 : decode cX7_saved 79 = .ok (.iload 4, 2) := by decide +kernel
theorem dX7_saved_81 : decode cX7_saved 81 = .ok (.ifCond .ne 9, 3) := by decide +kernel
theorem dX7_saved_84 : decode cX7_saved 84 = .ok (.iload_n 2, 1) := by decide +kernel
theorem dX7_saved_85 : decode cX7_saved 85 = .ok (.iconst 1, 1) := by decide +kernel
theorem dX7_saved_86 : decode cX7_saved 86 = .ok (.iload_n 3, 1) := by decide +kernel
theorem dX7_saved_87 : decode cX7_saved 87 = .ok (.ishl, 1) := by decide +kernel
theorem dX7_saved_88 : decode cX7_saved 88 = .ok (.ior, 1) := by decide +kernel
theorem dX7_saved_89 : decode cX7_saved 89 = .ok (.istore_n 2, 1) := by decide +kernel
theorem dX7_saved_90 : decode cX7_saved 90 = .ok (.iinc 3 1, 3) := by decide +kernel
theorem dX7_saved_93 : decode cX7_saved 93 = .ok (.goto (-87), 3) := by decide +kernel
theorem dX7_saved_96 : decode cX7_saved 96 = .ok (.iconst 1, 1) := by decide +kernel
theorem dX7_saved_97 : decode cX7_saved 97 = .ok (.istore_n 3, 1) := by decide +kernel
theorem dX7_saved_98 : decode cX7_saved 98 = .ok (.iload_n 3, 1) := by decide +kernel
theorem dX7_saved_99 : decode cX7_saved 99 = .ok (.bipush 9, 2) := by decide +kernel
theorem dX7_saved_101 : decode cX7_saved 101 = .ok (.if_icmp .ge 29, 3) := by decide +kernel
theorem dX7_saved_104 : decode cX7_saved 104 = .ok (.iload_n 1, 1) := by decide +kernel
theorem dX7_saved_105 : decode cX7_saved 105 = .ok (.aload_n 0, 1) := by decide +kernel
theorem dX7_saved_106 : decode cX7_saved 106 = .ok (.iload_n 3, 1) := by decide +kernel
theorem dX7_saved_107 : decode cX7_saved 107 = .ok (.invokevirtual 176, 3) := by decide +kernel
theorem dX7_saved_110 : decode cX7_saved 110 = .ok (.aload_n 0, 1) := by decide +kernel
theorem dX7_saved_111 : decode cX7_saved 111 = .ok (.getfield 29, 3) := by decide +kernel
theorem dX7_saved_114 : decode cX7_saved 114 = .ok (.iload_n 3, 1) := by decide +kernel
theorem dX7_saved_115 : decode cX7_saved 115 = .ok (.iload_n 2, 1) := by decide +kernel
theorem dX7_saved_116 : decode cX7_saved 116 = .ok (.invokevirtual 230, 3) := by decide +kernel
theorem dX7_saved_119 : decode cX7_saved 119 = .ok (.invokestatic 233, 3) := by decide +kernel
theorem dX7_saved_122 : decode cX7_saved 122 = .ok (.iadd, 1) := by decide +kernel
theorem dX7_saved_123 : decode cX7_saved 123 = .ok (.istore_n 1, 1) := by decide +kernel
theorem dX7_saved_124 : decode cX7_saved 124 = .ok (.iinc 3 1, 3) := by decide +kernel
theorem dX7_saved_127 : decode cX7_saved 127 = .ok (.goto (-29), 3) := by decide +kernel
theorem dX7_saved_130 : decode cX7_saved 130 = .ok (.iload_n 1, 1) := by decide +kernel
theorem dX7_saved_131 : decode cX7_saved 131 = .ok (.ireturn, 1) := by decide +kernel
theorem dX7_channel_0 : decode cX7_channel 0 = .ok (.iload_n 1, 1) := by decide +kernel
theorem dX7_channel_1 : decode cX7_channel 1 = .ok (.invokestatic 238, 3) := by decide +kernel
theorem dX7_channel_4 : decode cX7_channel 4 = .ok (.ifCond .eq 30, 3) := by decide +kernel
theorem dX7_channel_7 : decode cX7_channel 7 = .ok (.iload_n 2, 1) := by decide +kernel
theorem dX7_channel_8 : decode cX7_channel 8 = .ok (.invokestatic 238, 3) := by decide +kernel
theorem dX7_channel_11 : decode cX7_channel 11 = .ok (.ifCond .eq 23, 3) := by decide +kernel
theorem dX7_channel_14 : decode cX7_channel 14 = .ok (.iload_n 3, 1) := by decide +kernel
theorem dX7_channel_15 : decode cX7_channel 15 = .ok (.iload 4, 2) := by decide +kernel
theorem dX7_channel_17 : decode cX7_channel 17 = .ok (.invokestatic 241, 3) := by decide +kernel
theorem dX7_channel_20 : decode cX7_channel 20 = .ok (.ifCond .eq 14, 3) := by decide +kernel
theorem dX7_channel_23 : decode cX7_channel 23 = .ok (.iload 5, 2) := by decide +kernel
theorem dX7_channel_25 : decode cX7_channel 25 = .ok (.ifCond .lt 9, 3) := by decide +kernel
theorem dX7_channel_28 : decode cX7_channel 28 = .ok (.iload 5, 2) := by decide +kernel
theorem dX7_channel_30 : decode cX7_channel 30 = .ok (.iconst 5, 1) := by decide +kernel
theorem dX7_channel_31 : decode cX7_channel 31 = .ok (.if_icmp .le 6, 3) := by decide +kernel
theorem dX7_channel_34 : decode cX7_channel 34 = .ok (.bipush (-2), 2) := by decide +kernel
theorem dX7_channel_36 : decode cX7_channel 36 = .ok (.ireturn, 1) := by decide +kernel
theorem dX7_channel_37 : decode cX7_channel 37 = .ok (.aload_n 0, 1) := by decide +kernel
theorem dX7_channel_38 : decode cX7_channel 38 = .ok (.getfield 63, 3) := by decide +kernel
theorem dX7_channel_41 : decode cX7_channel 41 = .ok (.iload_n 1, 1) := by decide +kernel
theorem dX7_channel_42 : decode cX7_channel 42 = .ok (.iload_n 2, 1) := by decide +kernel
theorem dX7_channel_43 : decode cX7_channel 43 = .ok (.iload_n 3, 1) := by decide +kernel
theorem dX7_channel_44 : decode cX7_channel 44 = .ok (.iload 4, 2) := by decide +kernel
theorem dX7_channel_46 : decode cX7_channel 46 = .ok (.iload 5, 2) := by decide +kernel
theorem dX7_channel_48 : decode cX7_channel 48 = .ok (.invokevirtual 245, 3) := by decide +kernel
theorem dX7_channel_51 : decode cX7_channel 51 = .ok (.bipush 10, 2) := by decide +kernel
theorem dX7_channel_53 : decode cX7_channel 53 = .ok (.iload 5, 2) := by decide +kernel
theorem dX7_channel_55 : decode cX7_channel 55 = .ok (.invokestatic 203, 3) := by decide +kernel
theorem dX7_channel_58 : decode cX7_channel 58 = .ok (.iload 6, 2) := by decide +kernel
theorem dX7_channel_60 : decode cX7_channel 60 = .ok (.invokestatic 249, 3) := by decide +kernel
theorem dX7_channel_63 : decode cX7_channel 63 = .ok (.ireturn, 1) := by decide +kernel
theorem dX7_sticks_0 : decode cX7_sticks 0 = .ok (.iload_n 1, 1) := by decide +kernel
theorem dX7_sticks_1 : decode cX7_sticks 1 = .ok (.iconst 1, 1) := by decide +kernel
theorem dX7_sticks_2 : decode cX7_sticks 2 = .ok (.if_icmp .lt 29, 3) := by decide +kernel
theorem dX7_sticks_5 : decode cX7_sticks 5 = .ok (.iload_n 1, 1) := by decide +kernel
theorem dX7_sticks_6 : decode cX7_sticks 6 = .ok (.bipush 6, 2) := by decide +kernel
theorem dX7_sticks_8 : decode cX7_sticks 8 = .ok (.if_icmp .gt 23, 3) := by decide +kernel
theorem dX7_sticks_11 : decode cX7_sticks 11 = .ok (.iload_n 2, 1) := by decide +kernel
theorem dX7_sticks_12 : decode cX7_sticks 12 = .ok (.ifCond .lt 19, 3) := by decide +kernel
theorem dX7_sticks_15 : decode cX7_sticks 15 = .ok (.iload_n 2, 1) := by decide +kernel
theorem dX7_sticks_16 : decode cX7_sticks 16 = .ok (.bipush 10, 2) := by decide +kernel
theorem dX7_sticks_18 : decode cX7_sticks 18 = .ok (.if_icmp .gt 13, 3) := by decide +kernel
theorem dX7_sticks_21 : decode cX7_sticks 21 = .ok (.iload_n 3, 1) := by decide +kernel
theorem dX7_sticks_22 : decode cX7_sticks 22 = .ok (.ifCond .lt 9, 3) := by decide +kernel
theorem dX7_sticks_25 : decode cX7_sticks 25 = .ok (.iload_n 3, 1) := by decide +kernel
theorem dX7_sticks_26 : decode cX7_sticks 26 = .ok (.bipush 9, 2) := by decide +kernel
theorem dX7_sticks_28 : decode cX7_sticks 28 = .ok (.if_icmp .le 6, 3) := by decide +kernel
theorem dX7_sticks_31 : decode cX7_sticks 31 = .ok (.bipush (-2), 2) := by decide +kernel
theorem dX7_sticks_33 : decode cX7_sticks 33 = .ok (.ireturn, 1) := by decide +kernel
theorem dX7_sticks_34 : decode cX7_sticks 34 = .ok (.iconst 0, 1) := by decide +kernel
theorem dX7_sticks_35 : decode cX7_sticks 35 = .ok (.iload_n 2, 1) := by decide +kernel
theorem dX7_sticks_36 : decode cX7_sticks 36 = .ok (.iload_n 3, 1) := by decide +kernel
theorem dX7_sticks_37 : decode cX7_sticks 37 = .ok (.isub, 1) := by decide +kernel
theorem dX7_sticks_38 : decode cX7_sticks 38 = .ok (.invokestatic 253, 3) := by decide +kernel
theorem dX7_sticks_41 : decode cX7_sticks 41 = .ok (.istore 5, 2) := by decide +kernel
theorem dX7_sticks_43 : decode cX7_sticks 43 = .ok (.iconst 0, 1) := by decide +kernel
theorem dX7_sticks_44 : decode cX7_sticks 44 = .ok (.istore 6, 2) := by decide +kernel
theorem dX7_sticks_46 : decode cX7_sticks 46 = .ok (.iload_n 1, 1) := by decide +kernel
theorem dX7_sticks_47 : decode cX7_sticks 47 = .ok (.iconst 2, 1) := by decide +kernel
theorem dX7_sticks_48 : decode cX7_sticks 48 = .ok (.idiv, 1) := by decide +kernel
theorem dX7_sticks_49 : decode cX7_sticks 49 = .ok (.iconst 1, 1) := by decide +kernel
theorem dX7_sticks_50 : decode cX7_sticks 50 = .ok (.iadd, 1) := by decide +kernel
theorem dX7_sticks_51 : decode cX7_sticks 51 = .ok (.istore 7, 2) := by decide +kernel
theorem dX7_sticks_53 : decode cX7_sticks 53 = .ok (.iload 7, 2) := by decide +kernel
theorem dX7_sticks_55 : decode cX7_sticks 55 = .ok (.iload_n 1, 1) := by decide +kernel
theorem dX7_sticks_56 : decode cX7_sticks 56 = .ok (.if_icmp .gt 41, 3) := by decide +kernel
theorem dX7_sticks_59 : decode cX7_sticks 59 = .ok (.iload 6, 2) := by decide +kernel
theorem dX7_sticks_61 : decode cX7_sticks 61 = .ok (.iload_n 1, 1) := by decide +kernel
theorem dX7_sticks_62 : decode cX7_sticks 62 = .ok (.iload 7, 2) := by decide +kernel
theorem dX7_sticks_64 : decode cX7_sticks 64 = .ok (.invokestatic 256, 3) := by decide +kernel
theorem dX7_sticks_67 : decode cX7_sticks 67 = .ok (.iload 5, 2) := by decide +kernel
theorem dX7_sticks_69 : decode cX7_sticks 69 = .ok (.iload 7, 2) := by decide +kernel
theorem dX7_sticks_71 : decode cX7_sticks 71 = .ok (.invokestatic 203, 3) := by decide +kernel
theorem dX7_sticks_74 : decode cX7_sticks 74 = .ok (.imul, 1) := by decide +kernel
theorem dX7_sticks_75 : decode cX7_sticks 75 = .ok (.bipush 10, 2) := by decide +kernel
theorem dX7_sticks_77 : decode cX7_sticks 77 = .ok (.iload 5, 2) := by decide +kernel
theorem dX7_sticks_79 : decode cX7_sticks 79 = .ok (.isub, 1) := by decide +kernel
theorem dX7_sticks_80 : decode cX7_sticks 80 = .ok (.iload_n 1, 1) := by decide +kernel
theorem dX7_sticks_81 : decode cX7_sticks 81 = .ok (.iload 7, 2) := by decide +kernel
theorem dX7_sticks_83 : decode cX7_sticks 83 = .ok (.isub, 1) := by decide +kernel
theorem dX7_sticks_84 : decode cX7_sticks 84 = .ok (.invokestatic 203, 3) := by decide +kernel
theorem dX7_sticks_87 : decode cX7_sticks 87 = .ok (.imul, 1) := by decide +kernel
theorem dX7_sticks_88 : decode cX7_sticks 88 = .ok (.iadd, 1) := by decide +kernel
theorem dX7_sticks_89 : decode cX7_sticks 89 = .ok (.istore 6, 2) := by decide +kernel
theorem dX7_sticks_91 : decode cX7_sticks 91 = .ok (.iinc 7 1, 3) := by decide +kernel
theorem dX7_sticks_94 : decode cX7_sticks 94 = .ok (.goto (-41), 3) := by decide +kernel
theorem dX7_sticks_97 : decode cX7_sticks 97 = .ok (.iload 6, 2) := by decide +kernel
theorem dX7_sticks_99 : decode cX7_sticks 99 = .ok (.bipush 10, 2) := by decide +kernel
theorem dX7_sticks_101 : decode cX7_sticks 101 = .ok (.iload_n 1, 1) := by decide +kernel
theorem dX7_sticks_102 : decode cX7_sticks 102 = .ok (.invokestatic 203, 3) := by decide +kernel
theorem dX7_sticks_105 : decode cX7_sticks 105 = .ok (.iload 4, 2) := by decide +kernel
theorem dX7_sticks_107 : decode cX7_sticks 107 = .ok (.invokestatic 249, 3) := by decide +kernel
theorem dX7_sticks_110 : decode cX7_sticks 110 = .ok (.ireturn, 1) := by decide +kernel
theorem dX7_wind_0 : decode cX7_wind 0 = .ok (.aload_n 0, 1) := by decide +kernel
theorem dX7_wind_1 : decode cX7_wind 1 = .ok (.iload_n 1, 1) := by decide +kernel
theorem dX7_wind_2 : decode cX7_wind 2 = .ok (.invokevirtual 138, 3) := by decide +kernel
theorem dX7_wind_5 : decode cX7_wind 5 = .ok (.ifCond .ne 5, 3) := by decide +kernel
theorem dX7_wind_8 : decode cX7_wind 8 = .ok (.iconst (-1), 1) := by decide +kernel
theorem dX7_wind_9 : decode cX7_wind 9 = .ok (.ireturn, 1) := by decide +kernel
theorem dX7_wind_10 : decode cX7_wind 10 = .ok (.iload_n 2, 1) := by decide +kernel
theorem dX7_wind_11 : decode cX7_wind 11 = .ok (.invokestatic 156, 3) := by decide +kernel
theorem dX7_wind_14 : decode cX7_wind 14 = .ok (.ifCond .eq 12, 3) := by decide +kernel
theorem dX7_wind_17 : decode cX7_wind 17 = .ok (.iload_n 3, 1) := by decide +kernel
theorem dX7_wind_18 : decode cX7_wind 18 = .ok (.iload 4, 2) := by decide +kernel
theorem dX7_wind_20 : decode cX7_wind 20 = .ok (.invokestatic 241, 3) := by decide +kernel
theorem dX7_wind_23 : decode cX7_wind 23 = .ok (.ifCond .ne 6, 3) := by decide +kernel
theorem dX7_wind_26 : decode cX7_wind 26 = .ok (.bipush (-2), 2) := by decide +kernel
theorem dX7_wind_28 : decode cX7_wind 28 = .ok (.ireturn, 1) := by decide +kernel
theorem dX7_wind_29 : decode cX7_wind 29 = .ok (.iconst 0, 1) := by decide +kernel
theorem dX7_wind_30 : decode cX7_wind 30 = .ok (.istore 6, 2) := by decide +kernel
theorem dX7_wind_32 : decode cX7_wind 32 = .ok (.aload_n 0, 1) := by decide +kernel
theorem dX7_wind_33 : decode cX7_wind 33 = .ok (.iload_n 1, 1) := by decide +kernel
theorem dX7_wind_34 : decode cX7_wind 34 = .ok (.iload_n 2, 1) := by decide +kernel
theorem dX7_wind_35 : decode cX7_wind 35 = .ok (.iconst 0, 1) := by decide +kernel
theorem dX7_wind_36 : decode cX7_wind 36 = .ok (.aload_n 0, 1) := by decide +kernel
theorem dX7_wind_37 : decode cX7_wind 37 = .ok (.getfield 19, 3) := by decide +kernel
theorem dX7_wind_40 : decode cX7_wind 40 = .ok (.getfield 103, 3) := by decide +kernel
theorem dX7_wind_43 : decode cX7_wind 43 = .ok (.iconst 1, 1) := by decide +kernel
theorem dX7_wind_44 : decode cX7_wind 44 = .ok (.isub, 1) := by decide +kernel
theorem dX7_wind_45 : decode cX7_wind 45 = .ok (.invokestatic 253, 3) := by decide +kernel
theorem dX7_wind_48 : decode cX7_wind 48 = .ok (.invokevirtual 259, 3) := by decide +kernel
theorem dX7_wind_51 : decode cX7_wind 51 = .ok (.ifCond .eq 9, 3) := by decide +kernel
theorem dX7_wind_54 : decode cX7_wind 54 = .ok (.iload 6, 2) := by decide +kernel
theorem dX7_wind_56 : decode cX7_wind 56 = .ok (.iload_n 3, 1) := by decide +kernel
theorem dX7_wind_57 : decode cX7_wind 57 = .ok (.iadd, 1) := by decide +kernel
theorem dX7_wind_58 : decode cX7_wind 58 = .ok (.istore 6, 2) := by decide +kernel
theorem dX7_wind_60 : decode cX7_wind 60 = .ok (.aload_n 0, 1) := by decide +kernel
theorem dX7_wind_61 : decode cX7_wind 61 = .ok (.iload_n 1, 1) := by decide +kernel
theorem dX7_wind_62 : decode cX7_wind 62 = .ok (.iload_n 2, 1) := by decide +kernel
theorem dX7_wind_63 : decode cX7_wind 63 = .ok (.bipush 40, 2) := by decide +kernel
theorem dX7_wind_65 : decode cX7_wind 65 = .ok (.aload_n 0, 1) := by decide +kernel
theorem dX7_wind_66 : decode cX7_wind 66 = .ok (.getfield 19, 3) := by decide +kernel
theorem dX7_wind_69 : decode cX7_wind 69 = .ok (.getfield 103, 3) := by decide +kernel
theorem dX7_wind_72 : decode cX7_wind 72 = .ok (.iconst 1, 1) := by decide +kernel
theorem dX7_wind_73 : decode cX7_wind 73 = .ok (.iadd, 1) := by decide +kernel
theorem dX7_wind_74 : decode cX7_wind 74 = .ok (.invokestatic 233, 3) := by decide +kernel
theorem dX7_wind_77 : decode cX7_wind 77 = .ok (.invokevirtual 259, 3) := by decide +kernel
theorem dX7_wind_80 : decode cX7_wind 80 = .ok (.ifCond .eq 10, 3) := by decide +kernel
theorem dX7_wind_83 : decode cX7_wind 83 = .ok (.iload 6, 2) := by decide +kernel
theorem dX7_wind_85 : decode cX7_wind 85 = .ok (.iload 4, 2) := by decide +kernel
theorem dX7_wind_87 : decode cX7_wind 87 = .ok (.iadd, 1) := by decide +kernel
theorem dX7_wind_88 : decode cX7_wind 88 = .ok (.istore 6, 2) := by decide +kernel
theorem dX7_wind_90 : decode cX7_wind 90 = .ok (.aload_n 0, 1) := by decide +kernel
theorem dX7_wind_91 : decode cX7_wind 91 = .ok (.iload_n 1, 1) := by decide +kernel
theorem dX7_wind_92 : decode cX7_wind 92 = .ok (.iload_n 2, 1) := by decide +kernel
theorem dX7_wind_93 : decode cX7_wind 93 = .ok (.aload_n 0, 1) := by decide +kernel
theorem dX7_wind_94 : decode cX7_wind 94 = .ok (.getfield 19, 3) := by decide +kernel
theorem dX7_wind_97 : decode cX7_wind 97 = .ok (.getfield 103, 3) := by decide +kernel
theorem dX7_wind_100 : decode cX7_wind 100 = .ok (.invokevirtual 259, 3) := by decide +kernel
theorem dX7_wind_103 : decode cX7_wind 103 = .ok (.ifCond .eq 15, 3) := by decide +kernel
theorem dX7_wind_106 : decode cX7_wind 106 = .ok (.iload 6, 2) := by decide +kernel
theorem dX7_wind_108 : decode cX7_wind 108 = .ok (.bipush 10, 2) := by decide +kernel
theorem dX7_wind_110 : decode cX7_wind 110 = .ok (.iload_n 3, 1) := by decide +kernel
theorem dX7_wind_111 : decode cX7_wind 111 = .ok (.isub, 1) := by decide +kernel
theorem dX7_wind_112 : decode cX7_wind 112 = .ok (.iload 4, 2) := by decide +kernel
theorem dX7_wind_114 : decode cX7_wind 114 = .ok (.isub, 1) := by decide +kernel
theorem dX7_wind_115 : decode cX7_wind 115 = .ok (.iadd, 1) := by decide +kernel
theorem dX7_wind_116 : decode cX7_wind 116 = .ok (.istore 6, 2) := by decide +kernel
theorem dX7_wind_118 : decode cX7_wind 118 = .ok (.iload 6, 2) := by decide +kernel
theorem dX7_wind_120 : decode cX7_wind 120 = .ok (.bipush 10, 2) := by decide +kernel
theorem dX7_wind_122 : decode cX7_wind 122 = .ok (.iload 5, 2) := by decide +kernel
theorem dX7_wind_124 : decode cX7_wind 124 = .ok (.invokestatic 249, 3) := by decide +kernel
theorem dX7_wind_127 : decode cX7_wind 127 = .ok (.ireturn, 1) := by decide +kernel
theorem dX7_seed_0 : decode cX7_seed 0 = .ok (.aload_n 0, 1) := by decide +kernel
theorem dX7_seed_1 : decode cX7_seed 1 = .ok (.getfield 67, 3) := by decide +kernel
theorem dX7_seed_4 : decode cX7_seed 4 = .ok (.lstore_n 3, 1) := by decide +kernel
theorem dX7_seed_5 : decode cX7_seed 5 = .ok (.aload_n 0, 1) := by decide +kernel
theorem dX7_seed_6 : decode cX7_seed 6 = .ok (.lload_n 1, 1) := by decide +kernel
theorem dX7_seed_7 : decode cX7_seed 7 = .ok (.putfield 67, 3) := by decide +kernel
theorem dX7_seed_10 : decode cX7_seed 10 = .ok (.lload_n 3, 1) := by decide +kernel
theorem dX7_seed_11 : decode cX7_seed 11 = .ok (.lreturn, 1) := by decide +kernel
theorem dX7_fog_0 : decode cX7_fog 0 = .ok (.aload_n 0, 1) := by decide +kernel
theorem dX7_fog_1 : decode cX7_fog 1 = .ok (.iload_n 1, 1) := by decide +kernel
theorem dX7_fog_2 : decode cX7_fog 2 = .ok (.invokevirtual 138, 3) := by decide +kernel
theorem dX7_fog_5 : decode cX7_fog 5 = .ok (.ifCond .ne 5, 3) := by decide +kernel
theorem dX7_fog_8 : decode cX7_fog 8 = .ok (.iconst (-1), 1) := by decide +kernel
theorem dX7_fog_9 : decode cX7_fog 9 = .ok (.ireturn, 1) := by decide +kernel
theorem dX7_fog_10 : decode cX7_fog 10 = .ok (.iload_n 2, 1) := by decide +kernel
theorem dX7_fog_11 : decode cX7_fog 11 = .ok (.invokestatic 156, 3) := by decide +kernel
theorem dX7_fog_14 : decode cX7_fog 14 = .ok (.ifCond .eq 22, 3) := by decide +kernel
theorem dX7_fog_17 : decode cX7_fog 17 = .ok (.iload_n 3, 1) := by decide +kernel
theorem dX7_fog_18 : decode cX7_fog 18 = .ok (.iconst 1, 1) := by decide +kernel
theorem dX7_fog_19 : decode cX7_fog 19 = .ok (.if_icmp .lt 17, 3) := by decide +kernel
theorem dX7_fog_22 : decode cX7_fog 22 = .ok (.iload_n 3, 1) := by decide +kernel
theorem dX7_fog_23 : decode cX7_fog 23 = .ok (.bipush 20, 2) := by decide +kernel
theorem dX7_fog_25 : decode cX7_fog 25 = .ok (.if_icmp .gt 11, 3) := by decide +kernel
theorem dX7_fog_28 : decode cX7_fog 28 = .ok (.iload_n 2, 1) := by decide +kernel
theorem dX7_fog_29 : decode cX7_fog 29 = .ok (.iload_n 3, 1) := by decide +kernel
theorem dX7_fog_30 : decode cX7_fog 30 = .ok (.iadd, 1) := by decide +kernel
theorem dX7_fog_31 : decode cX7_fog 31 = .ok (.bipush 40, 2) := by decide +kernel
theorem dX7_fog_33 : decode cX7_fog 33 = .ok (.if_icmp .le 6, 3) := by decide +kernel
theorem dX7_fog_36 : decode cX7_fog 36 = .ok (.bipush (-2), 2) := by decide +kernel
theorem dX7_fog_38 : decode cX7_fog 38 = .ok (.ireturn, 1) := by decide +kernel
theorem dX7_fog_39 : decode cX7_fog 39 = .ok (.aload_n 0, 1) := by decide +kernel
theorem dX7_fog_40 : decode cX7_fog 40 = .ok (.getfield 56, 3) := by decide +kernel
theorem dX7_fog_43 : decode cX7_fog 43 = .ok (.aload_n 0, 1) := by decide +kernel
theorem dX7_fog_44 : decode cX7_fog 44 = .ok (.getfield 19, 3) := by decide +kernel
theorem dX7_fog_47 : decode cX7_fog 47 = .ok (.iload_n 1, 1) := by decide +kernel
theorem dX7_fog_48 : decode cX7_fog 48 = .ok (.iconst 0, 1) := by decide +kernel
theorem dX7_fog_49 : decode cX7_fog 49 = .ok (.iload_n 2, 1) := by decide +kernel
theorem dX7_fog_50 : decode cX7_fog 50 = .ok (.invokevirtual 206, 3) := by decide +kernel
theorem dX7_fog_53 : decode cX7_fog 53 = .ok (.iconst 0, 1) := by decide +kernel
theorem dX7_fog_54 : decode cX7_fog 54 = .ok (.istore 4, 2) := by decide +kernel
theorem dX7_fog_56 : decode cX7_fog 56 = .ok (.iload 4, 2) := by decide +kernel
theorem dX7_fog_58 : decode cX7_fog 58 = .ok (.iload_n 3, 1) := by decide +kernel
theorem dX7_fog_59 : decode cX7_fog 59 = .ok (.if_icmp .ge 34, 3) := by decide +kernel
theorem dX7_fog_62 : decode cX7_fog 62 = .ok (.aload_n 0, 1) := by decide +kernel
theorem dX7_fog_63 : decode cX7_fog 63 = .ok (.getfield 56, 3) := by decide +kernel
theorem dX7_fog_66 : decode cX7_fog 66 = .ok (.getfield 210, 3) := by decide +kernel
theorem dX7_fog_69 : decode cX7_fog 69 = .ok (.ifCond .ne 24, 3) := by decide +kernel
theorem dX7_fog_72 : decode cX7_fog 72 = .ok (.aload_n 0, 1) := by decide +kernel
theorem dX7_fog_73 : decode cX7_fog 73 = .ok (.getfield 56, 3) := by decide +kernel
theorem dX7_fog_76 : decode cX7_fog 76 = .ok (.aload_n 0, 1) := by decide +kernel
theorem dX7_fog_77 : decode cX7_fog 77 = .ok (.getfield 19, 3) := by decide +kernel
theorem dX7_fog_80 : decode cX7_fog 80 = .ok (.aload_n 0, 1) := by decide +kernel
theorem dX7_fog_81 : decode cX7_fog 81 = .ok (.invokevirtual 262, 3) := by decide +kernel
theorem dX7_fog_84 : decode cX7_fog 84 = .ok (.invokevirtual 219, 3) := by decide +kernel
theorem dX7_fog_87 : decode cX7_fog 87 = .ok (.iinc 4 1, 3) := by decide +kernel
theorem dX7_fog_90 : decode cX7_fog 90 = .ok (.goto (-34), 3) := by decide +kernel
theorem dX7_fog_93 : decode cX7_fog 93 = .ok (.aload_n 0, 1) := by decide +kernel
theorem dX7_fog_94 : decode cX7_fog 94 = .ok (.getfield 56, 3) := by decide +kernel
theorem dX7_fog_97 : decode cX7_fog 97 = .ok (.invokevirtual 223, 3) := by decide +kernel
theorem dX7_fog_100 : decode cX7_fog 100 = .ok (.ifCond .eq 8, 3) := by decide +kernel
theorem dX7_fog_103 : decode cX7_fog 103 = .ok (.bipush (-9), 2) := by decide +kernel
theorem dX7_fog_105 : decode cX7_fog 105 = .ok (.goto 10, 3) := by decide +kernel
theorem dX7_fog_108 : decode cX7_fog 108 = .ok (.aload_n 0, 1) := by decide +kernel
theorem dX7_fog_109 : decode cX7_fog 109 = .ok (.getfield 56, 3) := by decide +kernel
theorem dX7_fog_112 : decode cX7_fog 112 = .ok (.getfield 265, 3) := by decide +kernel
theorem dX7_fog_115 : decode cX7_fog 115 = .ok (.ireturn, 1) := by decide +kernel
theorem dX7_keep_0 : decode cX7_keep 0 = .ok (.iload_n 1, 1) := by decide +kernel
theorem dX7_keep_1 : decode cX7_keep 1 = .ok (.invokestatic 268, 3) := by decide +kernel
theorem dX7_keep_4 : decode cX7_keep 4 = .ok (.ifCond .ne 5, 3) := by decide +kernel
theorem dX7_keep_7 : decode cX7_keep 7 = .ok (.iconst (-1), 1) := by decide +kernel
theorem dX7_keep_8 : decode cX7_keep 8 = .ok (.ireturn, 1) := by decide +kernel
theorem dX7_keep_9 : decode cX7_keep 9 = .ok (.aload_n 0, 1) := by decide +kernel
theorem dX7_keep_10 : decode cX7_keep 10 = .ok (.getfield 45, 3) := by decide +kernel
theorem dX7_keep_13 : decode cX7_keep 13 = .ok (.iload_n 1, 1) := by decide +kernel
theorem dX7_keep_14 : decode cX7_keep 14 = .ok (.aload_n 0, 1) := by decide +kernel
theorem dX7_keep_15 : decode cX7_keep 15 = .ok (.getfield 29, 3) := by decide +kernel
theorem dX7_keep_18 : decode cX7_keep 18 = .ok (.invokevirtual 271, 3) := by decide +kernel
theorem dX7_keep_21 : decode cX7_keep 21 = .ok (.aload_n 0, 1) := by decide +kernel
theorem dX7_keep_22 : decode cX7_keep 22 = .ok (.getfield 49, 3) := by decide +kernel
theorem dX7_keep_25 : decode cX7_keep 25 = .ok (.iload_n 1, 1) := by decide +kernel
theorem dX7_keep_26 : decode cX7_keep 26 = .ok (.iconst 1, 1) := by decide +kernel
theorem dX7_keep_27 : decode cX7_keep 27 = .ok (.bastore, 1) := by decide +kernel
theorem dX7_keep_28 : decode cX7_keep 28 = .ok (.aload_n 0, 1) := by decide +kernel
theorem dX7_keep_29 : decode cX7_keep 29 = .ok (.getfield 29, 3) := by decide +kernel
theorem dX7_keep_32 : decode cX7_keep 32 = .ok (.invokevirtual 95, 3) := by decide +kernel
theorem dX7_keep_35 : decode cX7_keep 35 = .ok (.ireturn, 1) := by decide +kernel
theorem dX7_again_0 : decode cX7_again 0 = .ok (.iload_n 1, 1) := by decide +kernel
theorem dX7_again_1 : decode cX7_again 1 = .ok (.invokestatic 268, 3) := by decide +kernel
theorem dX7_again_4 : decode cX7_again 4 = .ok (.ifCond .ne 5, 3) := by decide +kernel
theorem dX7_again_7 : decode cX7_again 7 = .ok (.iconst (-1), 1) := by decide +kernel
theorem dX7_again_8 : decode cX7_again 8 = .ok (.ireturn, 1) := by decide +kernel
theorem dX7_again_9 : decode cX7_again 9 = .ok (.aload_n 0, 1) := by decide +kernel
theorem dX7_again_10 : decode cX7_again 10 = .ok (.getfield 49, 3) := by decide +kernel
theorem dX7_again_13 : decode cX7_again 13 = .ok (.iload_n 1, 1) := by decide +kernel
theorem dX7_again_14 : decode cX7_again 14 = .ok (.baload, 1) := by decide +kernel
theorem dX7_again_15 : decode cX7_again 15 = .ok (.ifCond .ne 6, 3) := by decide +kernel
theorem dX7_again_18 : decode cX7_again 18 = .ok (.bipush (-3), 2) := by decide +kernel
theorem dX7_again_20 : decode cX7_again 20 = .ok (.ireturn, 1) := by decide +kernel
theorem dX7_again_21 : decode cX7_again 21 = .ok (.aload_n 0, 1) := by decide +kernel
theorem dX7_again_22 : decode cX7_again 22 = .ok (.getfield 45, 3) := by decide +kernel
theorem dX7_again_25 : decode cX7_again 25 = .ok (.iload_n 1, 1) := by decide +kernel
theorem dX7_again_26 : decode cX7_again 26 = .ok (.aload_n 0, 1) := by decide +kernel
theorem dX7_again_27 : decode cX7_again 27 = .ok (.getfield 29, 3) := by decide +kernel
theorem dX7_again_30 : decode cX7_again 30 = .ok (.invokevirtual 275, 3) := by decide +kernel
theorem dX7_again_33 : decode cX7_again 33 = .ok (.aload_n 0, 1) := by decide +kernel
theorem dX7_again_34 : decode cX7_again 34 = .ok (.getfield 36, 3) := by decide +kernel
theorem dX7_again_37 : decode cX7_again 37 = .ok (.invokevirtual 88, 3) := by decide +kernel
theorem dX7_again_40 : decode cX7_again 40 = .ok (.aload_n 0, 1) := by decide +kernel
theorem dX7_again_41 : decode cX7_again 41 = .ok (.getfield 29, 3) := by decide +kernel
theorem dX7_again_44 : decode cX7_again 44 = .ok (.invokevirtual 95, 3) := by decide +kernel
theorem dX7_again_47 : decode cX7_again 47 = .ok (.ireturn, 1) := by decide +kernel
theorem dX7_isCell_0 : decode cX7_isCell 0 = .ok (.iload_n 0, 1) := by decide +kernel
theorem dX7_isCell_1 : decode cX7_isCell 1 = .ok (.ifCond .lt 13, 3) := by decide +kernel
theorem dX7_isCell_4 : decode cX7_isCell 4 = .ok (.iload_n 0, 1) := by decide +kernel
theorem dX7_isCell_5 : decode cX7_isCell 5 = .ok (.bipush 9, 2) := by decide +kernel
theorem dX7_isCell_7 : decode cX7_isCell 7 = .ok (.if_icmp .gt 7, 3) := by decide +kernel
theorem dX7_isCell_10 : decode cX7_isCell 10 = .ok (.iconst 1, 1) := by decide +kernel
theorem dX7_isCell_11 : decode cX7_isCell 11 = .ok (.goto 4, 3) := by decide +kernel
theorem dX7_isCell_14 : decode cX7_isCell 14 = .ok (.iconst 0, 1) := by decide +kernel
theorem dX7_isCell_15 : decode cX7_isCell 15 = .ok (.ireturn, 1) := by decide +kernel
theorem dX7_isOnSands_0 : decode cX7_isOnSands 0 = .ok (.iload_n 0, 1) := by decide +kernel
theorem dX7_isOnSands_1 : decode cX7_isOnSands 1 = .ok (.ifCond .le 13, 3) := by decide +kernel
theorem dX7_isOnSands_4 : decode cX7_isOnSands 4 = .ok (.iload_n 0, 1) := by decide +kernel
theorem dX7_isOnSands_5 : decode cX7_isOnSands 5 = .ok (.bipush 9, 2) := by decide +kernel
theorem dX7_isOnSands_7 : decode cX7_isOnSands 7 = .ok (.if_icmp .ge 7, 3) := by decide +kernel
theorem dX7_isOnSands_10 : decode cX7_isOnSands 10 = .ok (.iconst 1, 1) := by decide +kernel
theorem dX7_isOnSands_11 : decode cX7_isOnSands 11 = .ok (.goto 4, 3) := by decide +kernel
theorem dX7_isOnSands_14 : decode cX7_isOnSands 14 = .ok (.iconst 0, 1) := by decide +kernel
theorem dX7_isOnSands_15 : decode cX7_isOnSands 15 = .ok (.ireturn, 1) := by decide +kernel
theorem dX7_isStep_0 : decode cX7_isStep 0 = .ok (.iload_n 0, 1) := by decide +kernel
theorem dX7_isStep_1 : decode cX7_isStep 1 = .ok (.ifCond .lt 13, 3) := by decide +kernel
theorem dX7_isStep_4 : decode cX7_isStep 4 = .ok (.iload_n 0, 1) := by decide +kernel
theorem dX7_isStep_5 : decode cX7_isStep 5 = .ok (.bipush 40, 2) := by decide +kernel
theorem dX7_isStep_7 : decode cX7_isStep 7 = .ok (.if_icmp .gt 7, 3) := by decide +kernel
theorem dX7_isStep_10 : decode cX7_isStep 10 = .ok (.iconst 1, 1) := by decide +kernel
theorem dX7_isStep_11 : decode cX7_isStep 11 = .ok (.goto 4, 3) := by decide +kernel
theorem dX7_isStep_14 : decode cX7_isStep 14 = .ok (.iconst 0, 1) := by decide +kernel
theorem dX7_isStep_15 : decode cX7_isStep 15 = .ok (.ireturn, 1) := by decide +kernel
theorem dX7_isSlot_0 : decode cX7_isSlot 0 = .ok (.iload_n 0, 1) := by decide +kernel
theorem dX7_isSlot_1 : decode cX7_isSlot 1 = .ok (.ifCond .lt 12, 3) := by decide +kernel
theorem dX7_isSlot_4 : decode cX7_isSlot 4 = .ok (.iload_n 0, 1) := by decide +kernel
theorem dX7_isSlot_5 : decode cX7_isSlot 5 = .ok (.iconst 2, 1) := by decide +kernel
theorem dX7_isSlot_6 : decode cX7_isSlot 6 = .ok (.if_icmp .ge 7, 3) := by decide +kernel
theorem dX7_isSlot_9 : decode cX7_isSlot 9 = .ok (.iconst 1, 1) := by decide +kernel
theorem dX7_isSlot_10 : decode cX7_isSlot 10 = .ok (.goto 4, 3) := by decide +kernel
theorem dX7_isSlot_13 : decode cX7_isSlot 13 = .ok (.iconst 0, 1) := by decide +kernel
theorem dX7_isSlot_14 : decode cX7_isSlot 14 = .ok (.ireturn, 1) := by decide +kernel
theorem dX7_areTenths_0 : decode cX7_areTenths 0 = .ok (.iload_n 0, 1) := by decide +kernel
theorem dX7_areTenths_1 : decode cX7_areTenths 1 = .ok (.ifCond .lt 31, 3) := by decide +kernel
theorem dX7_areTenths_4 : decode cX7_areTenths 4 = .ok (.iload_n 0, 1) := by decide +kernel
theorem dX7_areTenths_5 : decode cX7_areTenths 5 = .ok (.bipush 10, 2) := by decide +kernel
theorem dX7_areTenths_7 : decode cX7_areTenths 7 = .ok (.if_icmp .gt 25, 3) := by decide +kernel
theorem dX7_areTenths_10 : decode cX7_areTenths 10 = .ok (.iload_n 1, 1) := by decide +kernel
theorem dX7_areTenths_11 : decode cX7_areTenths 11 = .ok (.ifCond .lt 21, 3) := by decide +kernel
theorem dX7_areTenths_14 : decode cX7_areTenths 14 = .ok (.iload_n 1, 1) := by decide +kernel
theorem dX7_areTenths_15 : decode cX7_areTenths 15 = .ok (.bipush 10, 2) := by decide +kernel
theorem dX7_areTenths_17 : decode cX7_areTenths 17 = .ok (.if_icmp .gt 15, 3) := by decide +kernel
theorem dX7_areTenths_20 : decode cX7_areTenths 20 = .ok (.iload_n 0, 1) := by decide +kernel
theorem dX7_areTenths_21 : decode cX7_areTenths 21 = .ok (.iload_n 1, 1) := by decide +kernel
theorem dX7_areTenths_22 : decode cX7_areTenths 22 = .ok (.iadd, 1) := by decide +kernel
theorem dX7_areTenths_23 : decode cX7_areTenths 23 = .ok (.bipush 10, 2) := by decide +kernel
theorem dX7_areTenths_25 : decode cX7_areTenths 25 = .ok (.if_icmp .gt 7, 3) := by decide +kernel
theorem dX7_areTenths_28 : decode cX7_areTenths 28 = .ok (.iconst 1, 1) := by decide +kernel
theorem dX7_areTenths_29 : decode cX7_areTenths 29 = .ok (.goto 4, 3) := by decide +kernel
theorem dX7_areTenths_32 : decode cX7_areTenths 32 = .ok (.iconst 0, 1) := by decide +kernel
theorem dX7_areTenths_33 : decode cX7_areTenths 33 = .ok (.ireturn, 1) := by decide +kernel
theorem dX7_isWalker_0 : decode cX7_isWalker 0 = .ok (.iload_n 1, 1) := by decide +kernel
theorem dX7_isWalker_1 : decode cX7_isWalker 1 = .ok (.ifCond .lt 18, 3) := by decide +kernel
theorem dX7_isWalker_4 : decode cX7_isWalker 4 = .ok (.iload_n 1, 1) := by decide +kernel
theorem dX7_isWalker_5 : decode cX7_isWalker 5 = .ok (.aload_n 0, 1) := by decide +kernel
theorem dX7_isWalker_6 : decode cX7_isWalker 6 = .ok (.getfield 19, 3) := by decide +kernel
theorem dX7_isWalker_9 : decode cX7_isWalker 9 = .ok (.getfield 89, 3) := by decide +kernel
theorem dX7_isWalker_12 : decode cX7_isWalker 12 = .ok (.if_icmp .ge 7, 3) := by decide +kernel
theorem dX7_isWalker_15 : decode cX7_isWalker 15 = .ok (.iconst 1, 1) := by decide +kernel
theorem dX7_isWalker_16 : decode cX7_isWalker 16 = .ok (.goto 4, 3) := by decide +kernel
theorem dX7_isWalker_19 : decode cX7_isWalker 19 = .ok (.iconst 0, 1) := by decide +kernel
theorem dX7_isWalker_20 : decode cX7_isWalker 20 = .ok (.ireturn, 1) := by decide +kernel
theorem dX7_isWalking_0 : decode cX7_isWalking 0 = .ok (.aload_n 0, 1) := by decide +kernel
theorem dX7_isWalking_1 : decode cX7_isWalking 1 = .ok (.getfield 29, 3) := by decide +kernel
theorem dX7_isWalking_4 : decode cX7_isWalking 4 = .ok (.iload_n 1, 1) := by decide +kernel
theorem dX7_isWalking_5 : decode cX7_isWalking 5 = .ok (.invokevirtual 153, 3) := by decide +kernel
theorem dX7_isWalking_8 : decode cX7_isWalking 8 = .ok (.ifCond .ne 7, 3) := by decide +kernel
theorem dX7_isWalking_11 : decode cX7_isWalking 11 = .ok (.iconst 1, 1) := by decide +kernel
theorem dX7_isWalking_12 : decode cX7_isWalking 12 = .ok (.goto 4, 3) := by decide +kernel
theorem dX7_isWalking_15 : decode cX7_isWalking 15 = .ok (.iconst 0, 1) := by decide +kernel
theorem dX7_isWalking_16 : decode cX7_isWalking 16 = .ok (.ireturn, 1) := by decide +kernel
theorem dX7_waterAt_0 : decode cX7_waterAt 0 = .ok (.aload_n 0, 1) := by decide +kernel
theorem dX7_waterAt_1 : decode cX7_waterAt 1 = .ok (.getfield 19, 3) := by decide +kernel
theorem dX7_waterAt_4 : decode cX7_waterAt 4 = .ok (.iload_n 1, 1) := by decide +kernel
theorem dX7_waterAt_5 : decode cX7_waterAt 5 = .ok (.aload_n 0, 1) := by decide +kernel
theorem dX7_waterAt_6 : decode cX7_waterAt 6 = .ok (.getfield 19, 3) := by decide +kernel
theorem dX7_waterAt_9 : decode cX7_waterAt 9 = .ok (.getfield 103, 3) := by decide +kernel
theorem dX7_waterAt_12 : decode cX7_waterAt 12 = .ok (.invokevirtual 278, 3) := by decide +kernel
theorem dX7_waterAt_15 : decode cX7_waterAt 15 = .ok (.ireturn, 1) := by decide +kernel
theorem dX7_upOn_0 : decode cX7_upOn 0 = .ok (.aload_n 0, 1) := by decide +kernel
theorem dX7_upOn_1 : decode cX7_upOn 1 = .ok (.getfield 29, 3) := by decide +kernel
theorem dX7_upOn_4 : decode cX7_upOn 4 = .ok (.iload_n 1, 1) := by decide +kernel
theorem dX7_upOn_5 : decode cX7_upOn 5 = .ok (.aload_n 0, 1) := by decide +kernel
theorem dX7_upOn_6 : decode cX7_upOn 6 = .ok (.getfield 29, 3) := by decide +kernel
theorem dX7_upOn_9 : decode cX7_upOn 9 = .ok (.iconst 4, 1) := by decide +kernel
theorem dX7_upOn_10 : decode cX7_upOn 10 = .ok (.aload_n 0, 1) := by decide +kernel
theorem dX7_upOn_11 : decode cX7_upOn 11 = .ok (.getfield 19, 3) := by decide +kernel
theorem dX7_upOn_14 : decode cX7_upOn 14 = .ok (.getfield 89, 3) := by decide +kernel
theorem dX7_upOn_17 : decode cX7_upOn 17 = .ok (.invokevirtual 112, 3) := by decide +kernel
theorem dX7_upOn_20 : decode cX7_upOn 20 = .ok (.invokevirtual 230, 3) := by decide +kernel
theorem dX7_upOn_23 : decode cX7_upOn 23 = .ok (.ireturn, 1) := by decide +kernel
theorem dX7_roomOn_0 : decode cX7_roomOn 0 = .ok (.aload_n 0, 1) := by decide +kernel
theorem dX7_roomOn_1 : decode cX7_roomOn 1 = .ok (.getfield 19, 3) := by decide +kernel
theorem dX7_roomOn_4 : decode cX7_roomOn 4 = .ok (.iload_n 1, 1) := by decide +kernel
theorem dX7_roomOn_5 : decode cX7_roomOn 5 = .ok (.invokevirtual 132, 3) := by decide +kernel
theorem dX7_roomOn_8 : decode cX7_roomOn 8 = .ok (.aload_n 0, 1) := by decide +kernel
theorem dX7_roomOn_9 : decode cX7_roomOn 9 = .ok (.iload_n 1, 1) := by decide +kernel
theorem dX7_roomOn_10 : decode cX7_roomOn 10 = .ok (.invokevirtual 135, 3) := by decide +kernel
theorem dX7_roomOn_13 : decode cX7_roomOn 13 = .ok (.isub, 1) := by decide +kernel
theorem dX7_roomOn_14 : decode cX7_roomOn 14 = .ok (.ireturn, 1) := by decide +kernel
theorem dX7_moveOne_0 : decode cX7_moveOne 0 = .ok (.aload_n 0, 1) := by decide +kernel
theorem dX7_moveOne_1 : decode cX7_moveOne 1 = .ok (.getfield 56, 3) := by decide +kernel
theorem dX7_moveOne_4 : decode cX7_moveOne 4 = .ok (.aload_n 0, 1) := by decide +kernel
theorem dX7_moveOne_5 : decode cX7_moveOne 5 = .ok (.getfield 19, 3) := by decide +kernel
theorem dX7_moveOne_8 : decode cX7_moveOne 8 = .ok (.iload_n 1, 1) := by decide +kernel
theorem dX7_moveOne_9 : decode cX7_moveOne 9 = .ok (.aload_n 0, 1) := by decide +kernel
theorem dX7_moveOne_10 : decode cX7_moveOne 10 = .ok (.getfield 29, 3) := by decide +kernel
theorem dX7_moveOne_13 : decode cX7_moveOne 13 = .ok (.iload_n 1, 1) := by decide +kernel
theorem dX7_moveOne_14 : decode cX7_moveOne 14 = .ok (.invokevirtual 147, 3) := by decide +kernel
theorem dX7_moveOne_17 : decode cX7_moveOne 17 = .ok (.aload_n 0, 1) := by decide +kernel
theorem dX7_moveOne_18 : decode cX7_moveOne 18 = .ok (.getfield 29, 3) := by decide +kernel
theorem dX7_moveOne_21 : decode cX7_moveOne 21 = .ok (.invokevirtual 95, 3) := by decide +kernel
theorem dX7_moveOne_24 : decode cX7_moveOne 24 = .ok (.invokevirtual 206, 3) := by decide +kernel
theorem dX7_moveOne_27 : decode cX7_moveOne 27 = .ok (.aload_n 0, 1) := by decide +kernel
theorem dX7_moveOne_28 : decode cX7_moveOne 28 = .ok (.getfield 56, 3) := by decide +kernel
theorem dX7_moveOne_31 : decode cX7_moveOne 31 = .ok (.aload_n 0, 1) := by decide +kernel
theorem dX7_moveOne_32 : decode cX7_moveOne 32 = .ok (.getfield 19, 3) := by decide +kernel
theorem dX7_moveOne_35 : decode cX7_moveOne 35 = .ok (.aload_n 0, 1) := by decide +kernel
theorem dX7_moveOne_36 : decode cX7_moveOne 36 = .ok (.getfield 29, 3) := by decide +kernel
theorem dX7_moveOne_39 : decode cX7_moveOne 39 = .ok (.iload_n 1, 1) := by decide +kernel
theorem dX7_moveOne_40 : decode cX7_moveOne 40 = .ok (.invokevirtual 150, 3) := by decide +kernel
theorem dX7_moveOne_43 : decode cX7_moveOne 43 = .ok (.invokevirtual 219, 3) := by decide +kernel
theorem dX7_moveOne_46 : decode cX7_moveOne 46 = .ok (.aload_n 0, 1) := by decide +kernel
theorem dX7_moveOne_47 : decode cX7_moveOne 47 = .ok (.getfield 29, 3) := by decide +kernel
theorem dX7_moveOne_50 : decode cX7_moveOne 50 = .ok (.iload_n 1, 1) := by decide +kernel
theorem dX7_moveOne_51 : decode cX7_moveOne 51 = .ok (.aload_n 0, 1) := by decide +kernel
theorem dX7_moveOne_52 : decode cX7_moveOne 52 = .ok (.getfield 56, 3) := by decide +kernel
theorem dX7_moveOne_55 : decode cX7_moveOne 55 = .ok (.getfield 265, 3) := by decide +kernel
theorem dX7_moveOne_58 : decode cX7_moveOne 58 = .ok (.invokevirtual 281, 3) := by decide +kernel
theorem dX7_moveOne_61 : decode cX7_moveOne 61 = .ok (.aload_n 0, 1) := by decide +kernel
theorem dX7_moveOne_62 : decode cX7_moveOne 62 = .ok (.getfield 29, 3) := by decide +kernel
theorem dX7_moveOne_65 : decode cX7_moveOne 65 = .ok (.iload_n 1, 1) := by decide +kernel
theorem dX7_moveOne_66 : decode cX7_moveOne 66 = .ok (.aload_n 0, 1) := by decide +kernel
theorem dX7_moveOne_67 : decode cX7_moveOne 67 = .ok (.getfield 56, 3) := by decide +kernel
theorem dX7_moveOne_70 : decode cX7_moveOne 70 = .ok (.getfield 210, 3) := by decide +kernel
theorem dX7_moveOne_73 : decode cX7_moveOne 73 = .ok (.invokevirtual 179, 3) := by decide +kernel
theorem dX7_moveOne_76 : decode cX7_moveOne 76 = .ok (.aload_n 0, 1) := by decide +kernel
theorem dX7_moveOne_77 : decode cX7_moveOne 77 = .ok (.getfield 56, 3) := by decide +kernel
theorem dX7_moveOne_80 : decode cX7_moveOne 80 = .ok (.invokevirtual 223, 3) := by decide +kernel
theorem dX7_moveOne_83 : decode cX7_moveOne 83 = .ok (.ireturn, 1) := by decide +kernel
theorem dX7_arrival_0 : decode cX7_arrival 0 = .ok (.aload_n 0, 1) := by decide +kernel
theorem dX7_arrival_1 : decode cX7_arrival 1 = .ok (.getfield 56, 3) := by decide +kernel
theorem dX7_arrival_4 : decode cX7_arrival 4 = .ok (.aload_n 0, 1) := by decide +kernel
theorem dX7_arrival_5 : decode cX7_arrival 5 = .ok (.getfield 19, 3) := by decide +kernel
theorem dX7_arrival_8 : decode cX7_arrival 8 = .ok (.iload_n 1, 1) := by decide +kernel
theorem dX7_arrival_9 : decode cX7_arrival 9 = .ok (.iload_n 2, 1) := by decide +kernel
theorem dX7_arrival_10 : decode cX7_arrival 10 = .ok (.iload_n 3, 1) := by decide +kernel
theorem dX7_arrival_11 : decode cX7_arrival 11 = .ok (.invokevirtual 206, 3) := by decide +kernel
theorem dX7_arrival_14 : decode cX7_arrival 14 = .ok (.aload_n 0, 1) := by decide +kernel
theorem dX7_arrival_15 : decode cX7_arrival 15 = .ok (.getfield 56, 3) := by decide +kernel
theorem dX7_arrival_18 : decode cX7_arrival 18 = .ok (.aload_n 0, 1) := by decide +kernel
theorem dX7_arrival_19 : decode cX7_arrival 19 = .ok (.getfield 19, 3) := by decide +kernel
theorem dX7_arrival_22 : decode cX7_arrival 22 = .ok (.iload 4, 2) := by decide +kernel
theorem dX7_arrival_24 : decode cX7_arrival 24 = .ok (.invokevirtual 284, 3) := by decide +kernel
theorem dX7_arrival_27 : decode cX7_arrival 27 = .ok (.ireturn, 1) := by decide +kernel
theorem dX7_isSafe_0 : decode cX7_isSafe 0 = .ok (.aload_n 0, 1) := by decide +kernel
theorem dX7_isSafe_1 : decode cX7_isSafe 1 = .ok (.iload_n 1, 1) := by decide +kernel
theorem dX7_isSafe_2 : decode cX7_isSafe 2 = .ok (.iload_n 2, 1) := by decide +kernel
theorem dX7_isSafe_3 : decode cX7_isSafe 3 = .ok (.iload_n 3, 1) := by decide +kernel
theorem dX7_isSafe_4 : decode cX7_isSafe 4 = .ok (.iconst 1, 1) := by decide +kernel
theorem dX7_isSafe_5 : decode cX7_isSafe 5 = .ok (.invokevirtual 185, 3) := by decide +kernel
theorem dX7_isSafe_8 : decode cX7_isSafe 8 = .ok (.bipush (-9), 2) := by decide +kernel
theorem dX7_isSafe_10 : decode cX7_isSafe 10 = .ok (.if_icmp .ne 16, 3) := by decide +kernel
theorem dX7_isSafe_13 : decode cX7_isSafe 13 = .ok (.aload_n 0, 1) := by decide +kernel
theorem dX7_isSafe_14 : decode cX7_isSafe 14 = .ok (.iload_n 1, 1) := by decide +kernel
theorem dX7_isSafe_15 : decode cX7_isSafe 15 = .ok (.iload_n 2, 1) := by decide +kernel
theorem dX7_isSafe_16 : decode cX7_isSafe 16 = .ok (.iload_n 3, 1) := by decide +kernel
theorem dX7_isSafe_17 : decode cX7_isSafe 17 = .ok (.iconst 2, 1) := by decide +kernel
theorem dX7_isSafe_18 : decode cX7_isSafe 18 = .ok (.invokevirtual 185, 3) := by decide +kernel
theorem dX7_isSafe_21 : decode cX7_isSafe 21 = .ok (.bipush (-9), 2) := by decide +kernel
theorem dX7_isSafe_23 : decode cX7_isSafe 23 = .ok (.if_icmp .eq 7, 3) := by decide +kernel
theorem dX7_isSafe_26 : decode cX7_isSafe 26 = .ok (.iconst 1, 1) := by decide +kernel
theorem dX7_isSafe_27 : decode cX7_isSafe 27 = .ok (.goto 4, 3) := by decide +kernel
theorem dX7_isSafe_30 : decode cX7_isSafe 30 = .ok (.iconst 0, 1) := by decide +kernel
theorem dX7_isSafe_31 : decode cX7_isSafe 31 = .ok (.ireturn, 1) := by decide +kernel
theorem dX7_outlastsStanding_0 : decode cX7_outlastsStanding 0 = .ok (.aload_n 0, 1) := by decide +kernel
theorem dX7_outlastsStanding_1 : decode cX7_outlastsStanding 1 = .ok (.getfield 56, 3) := by decide +kernel
theorem dX7_outlastsStanding_4 : decode cX7_outlastsStanding 4 = .ok (.aload_n 0, 1) := by decide +kernel
theorem dX7_outlastsStanding_5 : decode cX7_outlastsStanding 5 = .ok (.getfield 19, 3) := by decide +kernel
theorem dX7_outlastsStanding_8 : decode cX7_outlastsStanding 8 = .ok (.iload_n 1, 1) := by decide +kernel
theorem dX7_outlastsStanding_9 : decode cX7_outlastsStanding 9 = .ok (.iload_n 2, 1) := by decide +kernel
theorem dX7_outlastsStanding_10 : decode cX7_outlastsStanding 10 = .ok (.iload_n 3, 1) := by decide +kernel
theorem dX7_outlastsStanding_11 : decode cX7_outlastsStanding 11 = .ok (.invokevirtual 206, 3) := by decide +kernel
theorem dX7_outlastsStanding_14 : decode cX7_outlastsStanding 14 = .ok (.aload_n 0, 1) := by decide +kernel
theorem dX7_outlastsStanding_15 : decode cX7_outlastsStanding 15 = .ok (.getfield 56, 3) := by decide +kernel
theorem dX7_outlastsStanding_18 : decode cX7_outlastsStanding 18 = .ok (.aload_n 0, 1) := by decide +kernel
theorem dX7_outlastsStanding_19 : decode cX7_outlastsStanding 19 = .ok (.getfield 19, 3) := by decide +kernel
theorem dX7_outlastsStanding_22 : decode cX7_outlastsStanding 22 = .ok (.iconst 0, 1) := by decide +kernel
theorem dX7_outlastsStanding_23 : decode cX7_outlastsStanding 23 = .ok (.invokevirtual 219, 3) := by decide +kernel
theorem dX7_outlastsStanding_26 : decode cX7_outlastsStanding 26 = .ok (.aload_n 0, 1) := by decide +kernel
theorem dX7_outlastsStanding_27 : decode cX7_outlastsStanding 27 = .ok (.getfield 56, 3) := by decide +kernel
theorem dX7_outlastsStanding_30 : decode cX7_outlastsStanding 30 = .ok (.invokevirtual 223, 3) := by decide +kernel
theorem dX7_outlastsStanding_33 : decode cX7_outlastsStanding 33 = .ok (.ifCond .ne 7, 3) := by decide +kernel
theorem dX7_outlastsStanding_36 : decode cX7_outlastsStanding 36 = .ok (.iconst 1, 1) := by decide +kernel
theorem dX7_outlastsStanding_37 : decode cX7_outlastsStanding 37 = .ok (.goto 4, 3) := by decide +kernel
theorem dX7_outlastsStanding_40 : decode cX7_outlastsStanding 40 = .ok (.iconst 0, 1) := by decide +kernel
theorem dX7_outlastsStanding_41 : decode cX7_outlastsStanding 41 = .ok (.ireturn, 1) := by decide +kernel
theorem dX7_isOverByLow_0 : decode cX7_isOverByLow 0 = .ok (.aload_n 0, 1) := by decide +kernel
theorem dX7_isOverByLow_1 : decode cX7_isOverByLow 1 = .ok (.getfield 56, 3) := by decide +kernel
theorem dX7_isOverByLow_4 : decode cX7_isOverByLow 4 = .ok (.aload_n 0, 1) := by decide +kernel
theorem dX7_isOverByLow_5 : decode cX7_isOverByLow 5 = .ok (.getfield 19, 3) := by decide +kernel
theorem dX7_isOverByLow_8 : decode cX7_isOverByLow 8 = .ok (.iload_n 1, 1) := by decide +kernel
theorem dX7_isOverByLow_9 : decode cX7_isOverByLow 9 = .ok (.iconst 0, 1) := by decide +kernel
theorem dX7_isOverByLow_10 : decode cX7_isOverByLow 10 = .ok (.iload_n 2, 1) := by decide +kernel
theorem dX7_isOverByLow_11 : decode cX7_isOverByLow 11 = .ok (.invokevirtual 206, 3) := by decide +kernel
theorem dX7_isOverByLow_14 : decode cX7_isOverByLow 14 = .ok (.aload_n 0, 1) := by decide +kernel
theorem dX7_isOverByLow_15 : decode cX7_isOverByLow 15 = .ok (.getfield 56, 3) := by decide +kernel
theorem dX7_isOverByLow_18 : decode cX7_isOverByLow 18 = .ok (.iload_n 3, 1) := by decide +kernel
theorem dX7_isOverByLow_19 : decode cX7_isOverByLow 19 = .ok (.putfield 288, 3) := by decide +kernel
theorem dX7_isOverByLow_22 : decode cX7_isOverByLow 22 = .ok (.aload_n 0, 1) := by decide +kernel
theorem dX7_isOverByLow_23 : decode cX7_isOverByLow 23 = .ok (.getfield 56, 3) := by decide +kernel
theorem dX7_isOverByLow_26 : decode cX7_isOverByLow 26 = .ok (.aload_n 0, 1) := by decide +kernel
theorem dX7_isOverByLow_27 : decode cX7_isOverByLow 27 = .ok (.getfield 19, 3) := by decide +kernel
theorem dX7_isOverByLow_30 : decode cX7_isOverByLow 30 = .ok (.iconst 1, 1) := by decide +kernel
theorem dX7_isOverByLow_31 : decode cX7_isOverByLow 31 = .ok (.invokevirtual 284, 3) := by decide +kernel
theorem dX7_isOverByLow_34 : decode cX7_isOverByLow 34 = .ok (.bipush (-9), 2) := by decide +kernel
theorem dX7_isOverByLow_36 : decode cX7_isOverByLow 36 = .ok (.if_icmp .eq 7, 3) := by decide +kernel
theorem dX7_isOverByLow_39 : decode cX7_isOverByLow 39 = .ok (.iconst 1, 1) := by decide +kernel
theorem dX7_isOverByLow_40 : decode cX7_isOverByLow 40 = .ok (.goto 4, 3) := by decide +kernel
theorem dX7_isOverByLow_43 : decode cX7_isOverByLow 43 = .ok (.iconst 0, 1) := by decide +kernel
theorem dX7_isOverByLow_44 : decode cX7_isOverByLow 44 = .ok (.ireturn, 1) := by decide +kernel
theorem dX7_safeBits_0 : decode cX7_safeBits 0 = .ok (.iconst 0, 1) := by decide +kernel
theorem dX7_safeBits_1 : decode cX7_safeBits 1 = .ok (.istore_n 3, 1) := by decide +kernel
theorem dX7_safeBits_2 : decode cX7_safeBits 2 = .ok (.iload_n 0, 1) := by decide +kernel
theorem dX7_safeBits_3 : decode cX7_safeBits 3 = .ok (.bipush (-9), 2) := by decide +kernel
theorem dX7_safeBits_5 : decode cX7_safeBits 5 = .ok (.if_icmp .eq 7, 3) := by decide +kernel
theorem dX7_safeBits_8 : decode cX7_safeBits 8 = .ok (.iload_n 3, 1) := by decide +kernel
theorem dX7_safeBits_9 : decode cX7_safeBits 9 = .ok (.iconst 1, 1) := by decide +kernel
theorem dX7_safeBits_10 : decode cX7_safeBits 10 = .ok (.ior, 1) := by decide +kernel
theorem dX7_safeBits_11 : decode cX7_safeBits 11 = .ok (.istore_n 3, 1) := by decide +kernel
theorem dX7_safeBits_12 : decode cX7_safeBits 12 = .ok (.iload_n 1, 1) := by decide +kernel
theorem dX7_safeBits_13 : decode cX7_safeBits 13 = .ok (.bipush (-9), 2) := by decide +kernel
theorem dX7_safeBits_15 : decode cX7_safeBits 15 = .ok (.if_icmp .eq 7, 3) := by decide +kernel
theorem dX7_safeBits_18 : decode cX7_safeBits 18 = .ok (.iload_n 3, 1) := by decide +kernel
theorem dX7_safeBits_19 : decode cX7_safeBits 19 = .ok (.iconst 2, 1) := by decide +kernel
theorem dX7_safeBits_20 : decode cX7_safeBits 20 = .ok (.ior, 1) := by decide +kernel
theorem dX7_safeBits_21 : decode cX7_safeBits 21 = .ok (.istore_n 3, 1) := by decide +kernel
theorem dX7_safeBits_22 : decode cX7_safeBits 22 = .ok (.iload_n 2, 1) := by decide +kernel
theorem dX7_safeBits_23 : decode cX7_safeBits 23 = .ok (.bipush (-9), 2) := by decide +kernel
theorem dX7_safeBits_25 : decode cX7_safeBits 25 = .ok (.if_icmp .eq 7, 3) := by decide +kernel
theorem dX7_safeBits_28 : decode cX7_safeBits 28 = .ok (.iload_n 3, 1) := by decide +kernel
theorem dX7_safeBits_29 : decode cX7_safeBits 29 = .ok (.iconst 4, 1) := by decide +kernel
theorem dX7_safeBits_30 : decode cX7_safeBits 30 = .ok (.ior, 1) := by decide +kernel
theorem dX7_safeBits_31 : decode cX7_safeBits 31 = .ok (.istore_n 3, 1) := by decide +kernel
theorem dX7_safeBits_32 : decode cX7_safeBits 32 = .ok (.iload_n 3, 1) := by decide +kernel
theorem dX7_safeBits_33 : decode cX7_safeBits 33 = .ok (.ireturn, 1) := by decide +kernel
theorem dX7_soonest_0 : decode cX7_soonest 0 = .ok (.bipush (-9), 2) := by decide +kernel
theorem dX7_soonest_2 : decode cX7_soonest 2 = .ok (.istore_n 3, 1) := by decide +kernel
theorem dX7_soonest_3 : decode cX7_soonest 3 = .ok (.bipush 41, 2) := by decide +kernel
theorem dX7_soonest_5 : decode cX7_soonest 5 = .ok (.istore 4, 2) := by decide +kernel
theorem dX7_soonest_7 : decode cX7_soonest 7 = .ok (.iload_n 0, 1) := by decide +kernel
theorem dX7_soonest_8 : decode cX7_soonest 8 = .ok (.bipush (-9), 2) := by decide +kernel
theorem dX7_soonest_10 : decode cX7_soonest 10 = .ok (.if_icmp .eq 8, 3) := by decide +kernel
theorem dX7_soonest_13 : decode cX7_soonest 13 = .ok (.iconst 0, 1) := by decide +kernel
theorem dX7_soonest_14 : decode cX7_soonest 14 = .ok (.istore_n 3, 1) := by decide +kernel
theorem dX7_soonest_15 : decode cX7_soonest 15 = .ok (.iload_n 0, 1) := by decide +kernel
theorem dX7_soonest_16 : decode cX7_soonest 16 = .ok (.istore 4, 2) := by decide +kernel
theorem dX7_soonest_18 : decode cX7_soonest 18 = .ok (.iload_n 1, 1) := by decide +kernel
theorem dX7_soonest_19 : decode cX7_soonest 19 = .ok (.bipush (-9), 2) := by decide +kernel
theorem dX7_soonest_21 : decode cX7_soonest 21 = .ok (.if_icmp .eq 14, 3) := by decide +kernel
theorem dX7_soonest_24 : decode cX7_soonest 24 = .ok (.iload_n 1, 1) := by decide +kernel
theorem dX7_soonest_25 : decode cX7_soonest 25 = .ok (.iload 4, 2) := by decide +kernel
theorem dX7_soonest_27 : decode cX7_soonest 27 = .ok (.if_icmp .ge 8, 3) := by decide +kernel
theorem dX7_soonest_30 : decode cX7_soonest 30 = .ok (.iconst 1, 1) := by decide +kernel
theorem dX7_soonest_31 : decode cX7_soonest 31 = .ok (.istore_n 3, 1) := by decide +kernel
theorem dX7_soonest_32 : decode cX7_soonest 32 = .ok (.iload_n 1, 1) := by decide +kernel
theorem dX7_soonest_33 : decode cX7_soonest 33 = .ok (.istore 4, 2) := by decide +kernel
theorem dX7_soonest_35 : decode cX7_soonest 35 = .ok (.iload_n 2, 1) := by decide +kernel
theorem dX7_soonest_36 : decode cX7_soonest 36 = .ok (.bipush (-9), 2) := by decide +kernel
theorem dX7_soonest_38 : decode cX7_soonest 38 = .ok (.if_icmp .eq 11, 3) := by decide +kernel
theorem dX7_soonest_41 : decode cX7_soonest 41 = .ok (.iload_n 2, 1) := by decide +kernel
theorem dX7_soonest_42 : decode cX7_soonest 42 = .ok (.iload 4, 2) := by decide +kernel
theorem dX7_soonest_44 : decode cX7_soonest 44 = .ok (.if_icmp .ge 5, 3) := by decide +kernel
theorem dX7_soonest_47 : decode cX7_soonest 47 = .ok (.iconst 2, 1) := by decide +kernel
theorem dX7_soonest_48 : decode cX7_soonest 48 = .ok (.istore_n 3, 1) := by decide +kernel
theorem dX7_soonest_49 : decode cX7_soonest 49 = .ok (.iload_n 3, 1) := by decide +kernel
theorem dX7_soonest_50 : decode cX7_soonest 50 = .ok (.ireturn, 1) := by decide +kernel
theorem dX7_drawnWay_0 : decode cX7_drawnWay 0 = .ok (.aload_n 0, 1) := by decide +kernel
theorem dX7_drawnWay_1 : decode cX7_drawnWay 1 = .ok (.aload_n 0, 1) := by decide +kernel
theorem dX7_drawnWay_2 : decode cX7_drawnWay 2 = .ok (.getfield 67, 3) := by decide +kernel
theorem dX7_drawnWay_5 : decode cX7_drawnWay 5 = .ok (.ldc2_w 289, 3) := by decide +kernel
theorem dX7_drawnWay_8 : decode cX7_drawnWay 8 = .ok (.lmul, 1) := by decide +kernel
theorem dX7_drawnWay_9 : decode cX7_drawnWay 9 = .ok (.ldc2_w 291, 3) := by decide +kernel
theorem dX7_drawnWay_12 : decode cX7_drawnWay 12 = .ok (.ladd, 1) := by decide +kernel
theorem dX7_drawnWay_13 : decode cX7_drawnWay 13 = .ok (.putfield 67, 3) := by decide +kernel
theorem dX7_drawnWay_16 : decode cX7_drawnWay 16 = .ok (.aload_n 0, 1) := by decide +kernel
theorem dX7_drawnWay_17 : decode cX7_drawnWay 17 = .ok (.getfield 67, 3) := by decide +kernel
theorem dX7_drawnWay_20 : decode cX7_drawnWay 20 = .ok (.bipush 33, 2) := by decide +kernel
theorem dX7_drawnWay_22 : decode cX7_drawnWay 22 = .ok (.lushr, 1) := by decide +kernel
theorem dX7_drawnWay_23 : decode cX7_drawnWay 23 = .ok (.ldc2_w 293, 3) := by decide +kernel
theorem dX7_drawnWay_26 : decode cX7_drawnWay 26 = .ok (.lrem, 1) := by decide +kernel
theorem dX7_drawnWay_27 : decode cX7_drawnWay 27 = .ok (.lconst 0, 1) := by decide +kernel
theorem dX7_drawnWay_28 : decode cX7_drawnWay 28 = .ok (.lcmp, 1) := by decide +kernel
theorem dX7_drawnWay_29 : decode cX7_drawnWay 29 = .ok (.ifCond .ne 7, 3) := by decide +kernel
theorem dX7_drawnWay_32 : decode cX7_drawnWay 32 = .ok (.iconst 2, 1) := by decide +kernel
theorem dX7_drawnWay_33 : decode cX7_drawnWay 33 = .ok (.goto 4, 3) := by decide +kernel
theorem dX7_drawnWay_36 : decode cX7_drawnWay 36 = .ok (.iconst 1, 1) := by decide +kernel
theorem dX7_drawnWay_37 : decode cX7_drawnWay 37 = .ok (.ireturn, 1) := by decide +kernel
theorem dX7_meetingStep_0 : decode cX7_meetingStep 0 = .ok (.ldc2_w 295, 3) := by decide +kernel
theorem dX7_meetingStep_3 : decode cX7_meetingStep 3 = .ok (.lstore_n 1, 1) := by decide +kernel
theorem dX7_meetingStep_4 : decode cX7_meetingStep 4 = .ok (.iconst 0, 1) := by decide +kernel
theorem dX7_meetingStep_5 : decode cX7_meetingStep 5 = .ok (.istore_n 3, 1) := by decide +kernel
theorem dX7_meetingStep_6 : decode cX7_meetingStep 6 = .ok (.iload_n 3, 1) := by decide +kernel
theorem dX7_meetingStep_7 : decode cX7_meetingStep 7 = .ok (.aload_n 0, 1) := by decide +kernel
theorem dX7_meetingStep_8 : decode cX7_meetingStep 8 = .ok (.getfield 19, 3) := by decide +kernel
theorem dX7_meetingStep_11 : decode cX7_meetingStep 11 = .ok (.getfield 89, 3) := by decide +kernel
theorem dX7_meetingStep_14 : decode cX7_meetingStep 14 = .ok (.if_icmp .ge 60, 3) := by decide +kernel
theorem dX7_meetingStep_17 : decode cX7_meetingStep 17 = .ok (.lconst 0, 1) := by decide +kernel
theorem dX7_meetingStep_18 : decode cX7_meetingStep 18 = .ok (.lstore 4, 2) := by decide +kernel
theorem dX7_meetingStep_20 : decode cX7_meetingStep 20 = .ok (.iconst 0, 1) := by decide +kernel
theorem dX7_meetingStep_21 : decode cX7_meetingStep 21 = .ok (.istore 6, 2) := by decide +kernel
theorem dX7_meetingStep_23 : decode cX7_meetingStep 23 = .ok (.iload 6, 2) := by decide +kernel
theorem dX7_meetingStep_25 : decode cX7_meetingStep 25 = .ok (.bipush 40, 2) := by decide +kernel
theorem dX7_meetingStep_27 : decode cX7_meetingStep 27 = .ok (.if_icmp .gt 36, 3) := by decide +kernel
theorem dX7_meetingStep_30 : decode cX7_meetingStep 30 = .ok (.aload_n 0, 1) := by decide +kernel
theorem dX7_meetingStep_31 : decode cX7_meetingStep 31 = .ok (.iload_n 3, 1) := by decide +kernel
theorem dX7_meetingStep_32 : decode cX7_meetingStep 32 = .ok (.iconst 0, 1) := by decide +kernel
theorem dX7_meetingStep_33 : decode cX7_meetingStep 33 = .ok (.iload 6, 2) := by decide +kernel
theorem dX7_meetingStep_35 : decode cX7_meetingStep 35 = .ok (.iconst 1, 1) := by decide +kernel
theorem dX7_meetingStep_36 : decode cX7_meetingStep 36 = .ok (.invokevirtual 185, 3) := by decide +kernel
theorem dX7_meetingStep_39 : decode cX7_meetingStep 39 = .ok (.istore 7, 2) := by decide +kernel
theorem dX7_meetingStep_41 : decode cX7_meetingStep 41 = .ok (.iload 7, 2) := by decide +kernel
theorem dX7_meetingStep_43 : decode cX7_meetingStep 43 = .ok (.bipush (-9), 2) := by decide +kernel
theorem dX7_meetingStep_45 : decode cX7_meetingStep 45 = .ok (.if_icmp .eq 12, 3) := by decide +kernel
theorem dX7_meetingStep_48 : decode cX7_meetingStep 48 = .ok (.lload 4, 2) := by decide +kernel
theorem dX7_meetingStep_50 : decode cX7_meetingStep 50 = .ok (.lconst 1, 1) := by decide +kernel
theorem dX7_meetingStep_51 : decode cX7_meetingStep 51 = .ok (.iload 7, 2) := by decide +kernel
theorem dX7_meetingStep_53 : decode cX7_meetingStep 53 = .ok (.lshl, 1) := by decide +kernel
theorem dX7_meetingStep_54 : decode cX7_meetingStep 54 = .ok (.lor, 1) := by decide +kernel
theorem dX7_meetingStep_55 : decode cX7_meetingStep 55 = .ok (.lstore 4, 2) := by decide +kernel
theorem dX7_meetingStep_57 : decode cX7_meetingStep 57 = .ok (.iinc 6 1, 3) := by decide +kernel
theorem dX7_meetingStep_60 : decode cX7_meetingStep 60 = .ok (.goto (-37), 3) := by decide +kernel
theorem dX7_meetingStep_63 : decode cX7_meetingStep 63 = .ok (.lload_n 1, 1) := by decide +kernel
theorem dX7_meetingStep_64 : decode cX7_meetingStep 64 = .ok (.lload 4, 2) := by decide +kernel
theorem dX7_meetingStep_66 : decode cX7_meetingStep 66 = .ok (.land, 1) := by decide +kernel
theorem dX7_meetingStep_67 : decode cX7_meetingStep 67 = .ok (.lstore_n 1, 1) := by decide +kernel
theorem dX7_meetingStep_68 : decode cX7_meetingStep 68 = .ok (.iinc 3 1, 3) := by decide +kernel
theorem dX7_meetingStep_71 : decode cX7_meetingStep 71 = .ok (.goto (-65), 3) := by decide +kernel
theorem dX7_meetingStep_74 : decode cX7_meetingStep 74 = .ok (.iconst 0, 1) := by decide +kernel
theorem dX7_meetingStep_75 : decode cX7_meetingStep 75 = .ok (.istore_n 3, 1) := by decide +kernel
theorem dX7_meetingStep_76 : decode cX7_meetingStep 76 = .ok (.iload_n 3, 1) := by decide +kernel
theorem dX7_meetingStep_77 : decode cX7_meetingStep 77 = .ok (.bipush 40, 2) := by decide +kernel
theorem dX7_meetingStep_79 : decode cX7_meetingStep 79 = .ok (.if_icmp .gt 21, 3) := by decide +kernel
theorem dX7_meetingStep_82 : decode cX7_meetingStep 82 = .ok (.lload_n 1, 1) := by decide +kernel
theorem dX7_meetingStep_83 : decode cX7_meetingStep 83 = .ok (.iload_n 3, 1) := by decide +kernel
theorem dX7_meetingStep_84 : decode cX7_meetingStep 84 = .ok (.lushr, 1) := by decide +kernel
theorem dX7_meetingStep_85 : decode cX7_meetingStep 85 = .ok (.lconst 1, 1) := by decide +kernel
theorem dX7_meetingStep_86 : decode cX7_meetingStep 86 = .ok (.land, 1) := by decide +kernel
theorem dX7_meetingStep_87 : decode cX7_meetingStep 87 = .ok (.lconst 0, 1) := by decide +kernel
theorem dX7_meetingStep_88 : decode cX7_meetingStep 88 = .ok (.lcmp, 1) := by decide +kernel
theorem dX7_meetingStep_89 : decode cX7_meetingStep 89 = .ok (.ifCond .eq 5, 3) := by decide +kernel
theorem dX7_meetingStep_92 : decode cX7_meetingStep 92 = .ok (.iload_n 3, 1) := by decide +kernel
theorem dX7_meetingStep_93 : decode cX7_meetingStep 93 = .ok (.ireturn, 1) := by decide +kernel
theorem dX7_meetingStep_94 : decode cX7_meetingStep 94 = .ok (.iinc 3 1, 3) := by decide +kernel
theorem dX7_meetingStep_97 : decode cX7_meetingStep 97 = .ok (.goto (-21), 3) := by decide +kernel
theorem dX7_meetingStep_100 : decode cX7_meetingStep 100 = .ok (.bipush (-9), 2) := by decide +kernel
theorem dX7_meetingStep_102 : decode cX7_meetingStep 102 = .ok (.ireturn, 1) := by decide +kernel
theorem dX7_power_0 : decode cX7_power 0 = .ok (.iconst 1, 1) := by decide +kernel
theorem dX7_power_1 : decode cX7_power 1 = .ok (.istore_n 2, 1) := by decide +kernel
theorem dX7_power_2 : decode cX7_power 2 = .ok (.iconst 0, 1) := by decide +kernel
theorem dX7_power_3 : decode cX7_power 3 = .ok (.istore_n 3, 1) := by decide +kernel
theorem dX7_power_4 : decode cX7_power 4 = .ok (.iload_n 3, 1) := by decide +kernel
theorem dX7_power_5 : decode cX7_power 5 = .ok (.iload_n 1, 1) := by decide +kernel
theorem dX7_power_6 : decode cX7_power 6 = .ok (.if_icmp .ge 13, 3) := by decide +kernel
theorem dX7_power_9 : decode cX7_power 9 = .ok (.iload_n 2, 1) := by decide +kernel
theorem dX7_power_10 : decode cX7_power 10 = .ok (.iload_n 0, 1) := by decide +kernel
theorem dX7_power_11 : decode cX7_power 11 = .ok (.imul, 1) := by decide +kernel
theorem dX7_power_12 : decode cX7_power 12 = .ok (.istore_n 2, 1) := by decide +kernel
theorem dX7_power_13 : decode cX7_power 13 = .ok (.iinc 3 1, 3) := by decide +kernel
theorem dX7_power_16 : decode cX7_power 16 = .ok (.goto (-12), 3) := by decide +kernel
theorem dX7_power_19 : decode cX7_power 19 = .ok (.iload_n 2, 1) := by decide +kernel
theorem dX7_power_20 : decode cX7_power 20 = .ok (.ireturn, 1) := by decide +kernel
theorem dX7_figureAt_0 : decode cX7_figureAt 0 = .ok (.iload_n 0, 1) := by decide +kernel
theorem dX7_figureAt_1 : decode cX7_figureAt 1 = .ok (.istore_n 2, 1) := by decide +kernel
theorem dX7_figureAt_2 : decode cX7_figureAt 2 = .ok (.iconst 0, 1) := by decide +kernel
theorem dX7_figureAt_3 : decode cX7_figureAt 3 = .ok (.istore_n 3, 1) := by decide +kernel
theorem dX7_figureAt_4 : decode cX7_figureAt 4 = .ok (.iload_n 3, 1) := by decide +kernel
theorem dX7_figureAt_5 : decode cX7_figureAt 5 = .ok (.iload_n 1, 1) := by decide +kernel
theorem dX7_figureAt_6 : decode cX7_figureAt 6 = .ok (.if_icmp .ge 14, 3) := by decide +kernel
theorem dX7_figureAt_9 : decode cX7_figureAt 9 = .ok (.iload_n 2, 1) := by decide +kernel
theorem dX7_figureAt_10 : decode cX7_figureAt 10 = .ok (.bipush 10, 2) := by decide +kernel
theorem dX7_figureAt_12 : decode cX7_figureAt 12 = .ok (.idiv, 1) := by decide +kernel
theorem dX7_figureAt_13 : decode cX7_figureAt 13 = .ok (.istore_n 2, 1) := by decide +kernel
theorem dX7_figureAt_14 : decode cX7_figureAt 14 = .ok (.iinc 3 1, 3) := by decide +kernel
theorem dX7_figureAt_17 : decode cX7_figureAt 17 = .ok (.goto (-13), 3) := by decide +kernel
theorem dX7_figureAt_20 : decode cX7_figureAt 20 = .ok (.iload_n 2, 1) := by decide +kernel
theorem dX7_figureAt_21 : decode cX7_figureAt 21 = .ok (.bipush 10, 2) := by decide +kernel
theorem dX7_figureAt_23 : decode cX7_figureAt 23 = .ok (.irem, 1) := by decide +kernel
theorem dX7_figureAt_24 : decode cX7_figureAt 24 = .ok (.ireturn, 1) := by decide +kernel
theorem dX7_choices_0 : decode cX7_choices 0 = .ok (.iconst 1, 1) := by decide +kernel
theorem dX7_choices_1 : decode cX7_choices 1 = .ok (.istore_n 2, 1) := by decide +kernel
theorem dX7_choices_2 : decode cX7_choices 2 = .ok (.iconst 1, 1) := by decide +kernel
theorem dX7_choices_3 : decode cX7_choices 3 = .ok (.istore_n 3, 1) := by decide +kernel
theorem dX7_choices_4 : decode cX7_choices 4 = .ok (.iload_n 3, 1) := by decide +kernel
theorem dX7_choices_5 : decode cX7_choices 5 = .ok (.iload_n 1, 1) := by decide +kernel
theorem dX7_choices_6 : decode cX7_choices 6 = .ok (.if_icmp .gt 19, 3) := by decide +kernel
theorem dX7_choices_9 : decode cX7_choices 9 = .ok (.iload_n 2, 1) := by decide +kernel
theorem dX7_choices_10 : decode cX7_choices 10 = .ok (.iload_n 0, 1) := by decide +kernel
theorem dX7_choices_11 : decode cX7_choices 11 = .ok (.iload_n 1, 1) := by decide +kernel
theorem dX7_choices_12 : decode cX7_choices 12 = .ok (.isub, 1) := by decide +kernel
theorem dX7_choices_13 : decode cX7_choices 13 = .ok (.iload_n 3, 1) := by decide +kernel
theorem dX7_choices_14 : decode cX7_choices 14 = .ok (.iadd, 1) := by decide +kernel
theorem dX7_choices_15 : decode cX7_choices 15 = .ok (.imul, 1) := by decide +kernel
theorem dX7_choices_16 : decode cX7_choices 16 = .ok (.iload_n 3, 1) := by decide +kernel
theorem dX7_choices_17 : decode cX7_choices 17 = .ok (.idiv, 1) := by decide +kernel
theorem dX7_choices_18 : decode cX7_choices 18 = .ok (.istore_n 2, 1) := by decide +kernel
theorem dX7_choices_19 : decode cX7_choices 19 = .ok (.iinc 3 1, 3) := by decide +kernel
theorem dX7_choices_22 : decode cX7_choices 22 = .ok (.goto (-18), 3) := by decide +kernel
theorem dX7_choices_25 : decode cX7_choices 25 = .ok (.iload_n 2, 1) := by decide +kernel
theorem dX7_choices_26 : decode cX7_choices 26 = .ok (.ireturn, 1) := by decide +kernel
theorem dX7_commonPart_0 : decode cX7_commonPart 0 = .ok (.iload_n 0, 1) := by decide +kernel
theorem dX7_commonPart_1 : decode cX7_commonPart 1 = .ok (.istore_n 2, 1) := by decide +kernel
theorem dX7_commonPart_2 : decode cX7_commonPart 2 = .ok (.iload_n 1, 1) := by decide +kernel
theorem dX7_commonPart_3 : decode cX7_commonPart 3 = .ok (.istore_n 3, 1) := by decide +kernel
theorem dX7_commonPart_4 : decode cX7_commonPart 4 = .ok (.iconst 0, 1) := by decide +kernel
theorem dX7_commonPart_5 : decode cX7_commonPart 5 = .ok (.istore 4, 2) := by decide +kernel
theorem dX7_commonPart_7 : decode cX7_commonPart 7 = .ok (.iload 4, 2) := by decide +kernel
theorem dX7_commonPart_9 : decode cX7_commonPart 9 = .ok (.bipush 64, 2) := by decide +kernel
theorem dX7_commonPart_11 : decode cX7_commonPart 11 = .ok (.if_icmp .ge 23, 3) := by decide +kernel
theorem dX7_commonPart_14 : decode cX7_commonPart 14 = .ok (.iload_n 3, 1) := by decide +kernel
theorem dX7_commonPart_15 : decode cX7_commonPart 15 = .ok (.ifCond .eq 19, 3) := by decide +kernel
theorem dX7_commonPart_18 : decode cX7_commonPart 18 = .ok (.iload_n 2, 1) := by decide +kernel
theorem dX7_commonPart_19 : decode cX7_commonPart 19 = .ok (.iload_n 3, 1) := by decide +kernel
theorem dX7_commonPart_20 : decode cX7_commonPart 20 = .ok (.irem, 1) := by decide +kernel
theorem dX7_commonPart_21 : decode cX7_commonPart 21 = .ok (.istore 5, 2) := by decide +kernel
theorem dX7_commonPart_23 : decode cX7_commonPart 23 = .ok (.iload_n 3, 1) := by decide +kernel
theorem dX7_commonPart_24 : decode cX7_commonPart 24 = .ok (.istore_n 2, 1) := by decide +kernel
theorem dX7_commonPart_25 : decode cX7_commonPart 25 = .ok (.iload 5, 2) := by decide +kernel
theorem dX7_commonPart_27 : decode cX7_commonPart 27 = .ok (.istore_n 3, 1) := by decide +kernel
theorem dX7_commonPart_28 : decode cX7_commonPart 28 = .ok (.iinc 4 1, 3) := by decide +kernel
theorem dX7_commonPart_31 : decode cX7_commonPart 31 = .ok (.goto (-24), 3) := by decide +kernel
theorem dX7_commonPart_34 : decode cX7_commonPart 34 = .ok (.iload_n 2, 1) := by decide +kernel
theorem dX7_commonPart_35 : decode cX7_commonPart 35 = .ok (.ireturn, 1) := by decide +kernel
theorem dX7_told_0 : decode cX7_told 0 = .ok (.iload_n 0, 1) := by decide +kernel
theorem dX7_told_1 : decode cX7_told 1 = .ok (.iload_n 1, 1) := by decide +kernel
theorem dX7_told_2 : decode cX7_told 2 = .ok (.invokestatic 297, 3) := by decide +kernel
theorem dX7_told_5 : decode cX7_told 5 = .ok (.istore_n 3, 1) := by decide +kernel
theorem dX7_told_6 : decode cX7_told 6 = .ok (.iload_n 3, 1) := by decide +kernel
theorem dX7_told_7 : decode cX7_told 7 = .ok (.ifCond .ne 5, 3) := by decide +kernel
theorem dX7_told_10 : decode cX7_told 10 = .ok (.iconst 0, 1) := by decide +kernel
theorem dX7_told_11 : decode cX7_told 11 = .ok (.ireturn, 1) := by decide +kernel
theorem dX7_told_12 : decode cX7_told 12 = .ok (.iload_n 2, 1) := by decide +kernel
theorem dX7_told_13 : decode cX7_told 13 = .ok (.ifCond .eq 7, 3) := by decide +kernel
theorem dX7_told_16 : decode cX7_told 16 = .ok (.iload_n 0, 1) := by decide +kernel
theorem dX7_told_17 : decode cX7_told 17 = .ok (.goto 4, 3) := by decide +kernel
theorem dX7_told_20 : decode cX7_told 20 = .ok (.iload_n 1, 1) := by decide +kernel
theorem dX7_told_21 : decode cX7_told 21 = .ok (.iload_n 3, 1) := by decide +kernel
theorem dX7_told_22 : decode cX7_told 22 = .ok (.idiv, 1) := by decide +kernel
theorem dX7_told_23 : decode cX7_told 23 = .ok (.ireturn, 1) := by decide +kernel
