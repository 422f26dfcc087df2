theorem dX0_init_0 : decode cX0_init 0 = .ok (.aload_n 0, 1) := by decide +kernel
theorem dX0_init_1 : decode cX0_init 1 = .ok (.invokespecial 3, 3) := by decide +kernel
theorem dX0_init_4 : decode cX0_init 4 = .ok (.aload_n 0, 1) := by decide +kernel
theorem dX0_init_5 : decode cX0_init 5 = .ok (.iconst 3, 1) := by decide +kernel
theorem dX0_init_6 : decode cX0_init 6 = .ok (.newarray .int, 2) := by decide +kernel
theorem dX0_init_8 : decode cX0_init 8 = .ok (.putfield 9, 3) := by decide +kernel
theorem dX0_init_11 : decode cX0_init 11 = .ok (.aload_n 0, 1) := by decide +kernel
theorem dX0_init_12 : decode cX0_init 12 = .ok (.iconst 0, 1) := by decide +kernel
theorem dX0_init_13 : decode cX0_init 13 = .ok (.putfield 15, 3) := by decide +kernel
theorem dX0_init_16 : decode cX0_init 16 = .ok (.return_, 1) := by decide +kernel
theorem dX0_drawSlips_0 : decode cX0_drawSlips 0 = .ok (.iconst 0, 1) := by decide +kernel
theorem dX0_drawSlips_1 : decode cX0_drawSlips 1 = .ok (.istore_n 2, 1) := by decide +kernel
theorem dX0_drawSlips_2 : decode cX0_drawSlips 2 = .ok (.iload_n 2, 1) := by decide +kernel
theorem dX0_drawSlips_3 : decode cX0_drawSlips 3 = .ok (.iconst 3, 1) := by decide +kernel
theorem dX0_drawSlips_4 : decode cX0_drawSlips 4 = .ok (.if_icmp .ge 25, 3) := by decide +kernel
theorem dX0_drawSlips_7 : decode cX0_drawSlips 7 = .ok (.aload_n 0, 1) := by decide +kernel
theorem dX0_drawSlips_8 : decode cX0_drawSlips 8 = .ok (.getfield 9, 3) := by decide +kernel
theorem dX0_drawSlips_11 : decode cX0_drawSlips 11 = .ok (.iload_n 2, 1) := by decide +kernel
theorem dX0_drawSlips_12 : decode cX0_drawSlips 12 = .ok (.getstatic 19, 3) := by decide +kernel
theorem dX0_drawSlips_15 : decode cX0_drawSlips 15 = .ok (.aload_n 0, 1) := by decide +kernel
theorem dX0_drawSlips_16 : decode cX0_drawSlips 16 = .ok (.invokevirtual 22, 3) := by decide +kernel
theorem dX0_drawSlips_19 : decode cX0_drawSlips 19 = .ok (.iaload, 1) := by decide +kernel
theorem dX0_drawSlips_20 : decode cX0_drawSlips 20 = .ok (.iload_n 1, 1) := by decide +kernel
theorem dX0_drawSlips_21 : decode cX0_drawSlips 21 = .ok (.imul, 1) := by decide +kernel
theorem dX0_drawSlips_22 : decode cX0_drawSlips 22 = .ok (.iastore, 1) := by decide +kernel
theorem dX0_drawSlips_23 : decode cX0_drawSlips 23 = .ok (.iinc 2 1, 3) := by decide +kernel
theorem dX0_drawSlips_26 : decode cX0_drawSlips 26 = .ok (.goto (-24), 3) := by decide +kernel
theorem dX0_drawSlips_29 : decode cX0_drawSlips 29 = .ok (.return_, 1) := by decide +kernel
theorem dX0_lotOfSixteen_0 : decode cX0_lotOfSixteen 0 = .ok (.aload_n 0, 1) := by decide +kernel
theorem dX0_lotOfSixteen_1 : decode cX0_lotOfSixteen 1 = .ok (.ldc 26, 2) := by decide +kernel
theorem dX0_lotOfSixteen_3 : decode cX0_lotOfSixteen 3 = .ok (.aload_n 0, 1) := by decide +kernel
theorem dX0_lotOfSixteen_4 : decode cX0_lotOfSixteen 4 = .ok (.getfield 15, 3) := by decide +kernel
theorem dX0_lotOfSixteen_7 : decode cX0_lotOfSixteen 7 = .ok (.imul, 1) := by decide +kernel
theorem dX0_lotOfSixteen_8 : decode cX0_lotOfSixteen 8 = .ok (.sipush 12345, 3) := by decide +kernel
theorem dX0_lotOfSixteen_11 : decode cX0_lotOfSixteen 11 = .ok (.iadd, 1) := by decide +kernel
theorem dX0_lotOfSixteen_12 : decode cX0_lotOfSixteen 12 = .ok (.putfield 15, 3) := by decide +kernel
theorem dX0_lotOfSixteen_15 : decode cX0_lotOfSixteen 15 = .ok (.aload_n 0, 1) := by decide +kernel
theorem dX0_lotOfSixteen_16 : decode cX0_lotOfSixteen 16 = .ok (.getfield 15, 3) := by decide +kernel
theorem dX0_lotOfSixteen_19 : decode cX0_lotOfSixteen 19 = .ok (.bipush 16, 2) := by decide +kernel
theorem dX0_lotOfSixteen_21 : decode cX0_lotOfSixteen 21 = .ok (.iushr, 1) := by decide +kernel
theorem dX0_lotOfSixteen_22 : decode cX0_lotOfSixteen 22 = .ok (.bipush 16, 2) := by decide +kernel
theorem dX0_lotOfSixteen_24 : decode cX0_lotOfSixteen 24 = .ok (.irem, 1) := by decide +kernel
theorem dX0_lotOfSixteen_25 : decode cX0_lotOfSixteen 25 = .ok (.ireturn, 1) := by decide +kernel
theorem dX1_init_0 : decode cX1_init 0 = .ok (.aload_n 0, 1) := by decide +kernel
theorem dX1_init_1 : decode cX1_init 1 = .ok (.invokespecial 3, 3) := by decide +kernel
theorem dX1_init_4 : decode cX1_init 4 = .ok (.aload_n 0, 1) := by decide +kernel
theorem dX1_init_5 : decode cX1_init 5 = .ok (.iconst 5, 1) := by decide +kernel
theorem dX1_init_6 : decode cX1_init 6 = .ok (.newarray .int, 2) := by decide +kernel
theorem dX1_init_8 : decode cX1_init 8 = .ok (.putfield 11, 3) := by decide +kernel
theorem dX1_init_11 : decode cX1_init 11 = .ok (.aload_n 0, 1) := by decide +kernel
theorem dX1_init_12 : decode cX1_init 12 = .ok (.aload_n 1, 1) := by decide +kernel
theorem dX1_init_13 : decode cX1_init 13 = .ok (.putfield 15, 3) := by decide +kernel
theorem dX1_init_16 : decode cX1_init 16 = .ok (.aload_n 0, 1) := by decide +kernel
theorem dX1_init_17 : decode cX1_init 17 = .ok (.aload_n 2, 1) := by decide +kernel
theorem dX1_init_18 : decode cX1_init 18 = .ok (.putfield 19, 3) := by decide +kernel
theorem dX1_init_21 : decode cX1_init 21 = .ok (.return_, 1) := by decide +kernel
theorem dX1_sixteenths_0 : decode cX1_sixteenths 0 = .ok (.aload_n 0, 1) := by decide +kernel
theorem dX1_sixteenths_1 : decode cX1_sixteenths 1 = .ok (.iload_n 1, 1) := by decide +kernel
theorem dX1_sixteenths_2 : decode cX1_sixteenths 2 = .ok (.invokevirtual 23, 3) := by decide +kernel
theorem dX1_sixteenths_5 : decode cX1_sixteenths 5 = .ok (.aload_n 0, 1) := by decide +kernel
theorem dX1_sixteenths_6 : decode cX1_sixteenths 6 = .ok (.aload_n 0, 1) := by decide +kernel
theorem dX1_sixteenths_7 : decode cX1_sixteenths 7 = .ok (.getfield 19, 3) := by decide +kernel
theorem dX1_sixteenths_10 : decode cX1_sixteenths 10 = .ok (.getfield 27, 3) := by decide +kernel
theorem dX1_sixteenths_13 : decode cX1_sixteenths 13 = .ok (.iload_n 1, 1) := by decide +kernel
theorem dX1_sixteenths_14 : decode cX1_sixteenths 14 = .ok (.iaload, 1) := by decide +kernel
theorem dX1_sixteenths_15 : decode cX1_sixteenths 15 = .ok (.invokevirtual 32, 3) := by decide +kernel
theorem dX1_sixteenths_18 : decode cX1_sixteenths 18 = .ok (.ireturn, 1) := by decide +kernel
theorem dX1_fractionOfAll_0 : decode cX1_fractionOfAll 0 = .ok (.iconst 1, 1) := by decide +kernel
theorem dX1_fractionOfAll_1 : decode cX1_fractionOfAll 1 = .ok (.istore_n 2, 1) := by decide +kernel
theorem dX1_fractionOfAll_2 : decode cX1_fractionOfAll 2 = .ok (.iconst 1, 1) := by decide +kernel
theorem dX1_fractionOfAll_3 : decode cX1_fractionOfAll 3 = .ok (.istore_n 3, 1) := by decide +kernel
theorem dX1_fractionOfAll_4 : decode cX1_fractionOfAll 4 = .ok (.iconst 0, 1) := by decide +kernel
theorem dX1_fractionOfAll_5 : decode cX1_fractionOfAll 5 = .ok (.istore 4, 2) := by decide +kernel
theorem dX1_fractionOfAll_7 : decode cX1_fractionOfAll 7 = .ok (.iload 4, 2) := by decide +kernel
theorem dX1_fractionOfAll_9 : decode cX1_fractionOfAll 9 = .ok (.iconst 3, 1) := by decide +kernel
theorem dX1_fractionOfAll_10 : decode cX1_fractionOfAll 10 = .ok (.if_icmp .ge 37, 3) := by decide +kernel
theorem dX1_fractionOfAll_13 : decode cX1_fractionOfAll 13 = .ok (.aload_n 0, 1) := by decide +kernel
theorem dX1_fractionOfAll_14 : decode cX1_fractionOfAll 14 = .ok (.iload 4, 2) := by decide +kernel
theorem dX1_fractionOfAll_16 : decode cX1_fractionOfAll 16 = .ok (.invokevirtual 23, 3) := by decide +kernel
theorem dX1_fractionOfAll_19 : decode cX1_fractionOfAll 19 = .ok (.iload_n 2, 1) := by decide +kernel
theorem dX1_fractionOfAll_20 : decode cX1_fractionOfAll 20 = .ok (.aload_n 0, 1) := by decide +kernel
theorem dX1_fractionOfAll_21 : decode cX1_fractionOfAll 21 = .ok (.aload_n 0, 1) := by decide +kernel
theorem dX1_fractionOfAll_22 : decode cX1_fractionOfAll 22 = .ok (.getfield 19, 3) := by decide +kernel
theorem dX1_fractionOfAll_25 : decode cX1_fractionOfAll 25 = .ok (.getfield 27, 3) := by decide +kernel
theorem dX1_fractionOfAll_28 : decode cX1_fractionOfAll 28 = .ok (.iload 4, 2) := by decide +kernel
theorem dX1_fractionOfAll_30 : decode cX1_fractionOfAll 30 = .ok (.iaload, 1) := by decide +kernel
theorem dX1_fractionOfAll_31 : decode cX1_fractionOfAll 31 = .ok (.invokevirtual 32, 3) := by decide +kernel
theorem dX1_fractionOfAll_34 : decode cX1_fractionOfAll 34 = .ok (.imul, 1) := by decide +kernel
theorem dX1_fractionOfAll_35 : decode cX1_fractionOfAll 35 = .ok (.istore_n 2, 1) := by decide +kernel
theorem dX1_fractionOfAll_36 : decode cX1_fractionOfAll 36 = .ok (.iload_n 3, 1) := by decide +kernel
theorem dX1_fractionOfAll_37 : decode cX1_fractionOfAll 37 = .ok (.bipush 16, 2) := by decide +kernel
theorem dX1_fractionOfAll_39 : decode cX1_fractionOfAll 39 = .ok (.imul, 1) := by decide +kernel
theorem dX1_fractionOfAll_40 : decode cX1_fractionOfAll 40 = .ok (.istore_n 3, 1) := by decide +kernel
theorem dX1_fractionOfAll_41 : decode cX1_fractionOfAll 41 = .ok (.iinc 4 1, 3) := by decide +kernel
theorem dX1_fractionOfAll_44 : decode cX1_fractionOfAll 44 = .ok (.goto (-37), 3) := by decide +kernel
theorem dX1_fractionOfAll_47 : decode cX1_fractionOfAll 47 = .ok (.iconst 0, 1) := by decide +kernel
theorem dX1_fractionOfAll_48 : decode cX1_fractionOfAll 48 = .ok (.istore 4, 2) := by decide +kernel
theorem dX1_fractionOfAll_50 : decode cX1_fractionOfAll 50 = .ok (.iload 4, 2) := by decide +kernel
theorem dX1_fractionOfAll_52 : decode cX1_fractionOfAll 52 = .ok (.bipush 12, 2) := by decide +kernel
theorem dX1_fractionOfAll_54 : decode cX1_fractionOfAll 54 = .ok (.if_icmp .ge 23, 3) := by decide +kernel
theorem dX1_fractionOfAll_57 : decode cX1_fractionOfAll 57 = .ok (.iload_n 2, 1) := by decide +kernel
theorem dX1_fractionOfAll_58 : decode cX1_fractionOfAll 58 = .ok (.iconst 2, 1) := by decide +kernel
theorem dX1_fractionOfAll_59 : decode cX1_fractionOfAll 59 = .ok (.irem, 1) := by decide +kernel
theorem dX1_fractionOfAll_60 : decode cX1_fractionOfAll 60 = .ok (.ifCond .ne 17, 3) := by decide +kernel
theorem dX1_fractionOfAll_63 : decode cX1_fractionOfAll 63 = .ok (.iload_n 2, 1) := by decide +kernel
theorem dX1_fractionOfAll_64 : decode cX1_fractionOfAll 64 = .ok (.iconst 2, 1) := by decide +kernel
theorem dX1_fractionOfAll_65 : decode cX1_fractionOfAll 65 = .ok (.idiv, 1) := by decide +kernel
theorem dX1_fractionOfAll_66 : decode cX1_fractionOfAll 66 = .ok (.istore_n 2, 1) := by decide +kernel
theorem dX1_fractionOfAll_67 : decode cX1_fractionOfAll 67 = .ok (.iload_n 3, 1) := by decide +kernel
theorem dX1_fractionOfAll_68 : decode cX1_fractionOfAll 68 = .ok (.iconst 2, 1) := by decide +kernel
theorem dX1_fractionOfAll_69 : decode cX1_fractionOfAll 69 = .ok (.idiv, 1) := by decide +kernel
theorem dX1_fractionOfAll_70 : decode cX1_fractionOfAll 70 = .ok (.istore_n 3, 1) := by decide +kernel
theorem dX1_fractionOfAll_71 : decode cX1_fractionOfAll 71 = .ok (.iinc 4 1, 3) := by decide +kernel
theorem dX1_fractionOfAll_74 : decode cX1_fractionOfAll 74 = .ok (.goto (-24), 3) := by decide +kernel
theorem dX1_fractionOfAll_77 : decode cX1_fractionOfAll 77 = .ok (.iload_n 1, 1) := by decide +kernel
theorem dX1_fractionOfAll_78 : decode cX1_fractionOfAll 78 = .ok (.ifCond .ne 7, 3) := by decide +kernel
theorem dX1_fractionOfAll_81 : decode cX1_fractionOfAll 81 = .ok (.iload_n 2, 1) := by decide +kernel
theorem dX1_fractionOfAll_82 : decode cX1_fractionOfAll 82 = .ok (.goto 4, 3) := by decide +kernel
theorem dX1_fractionOfAll_85 : decode cX1_fractionOfAll 85 = .ok (.iload_n 3, 1) := by decide +kernel
theorem dX1_fractionOfAll_86 : decode cX1_fractionOfAll 86 = .ok (.ireturn, 1) := by decide +kernel
theorem dX1_safest_0 : decode cX1_safest 0 = .ok (.aload_n 0, 1) := by decide +kernel
theorem dX1_safest_1 : decode cX1_safest 1 = .ok (.iload_n 1, 1) := by decide +kernel
theorem dX1_safest_2 : decode cX1_safest 2 = .ok (.invokevirtual 23, 3) := by decide +kernel
theorem dX1_safest_5 : decode cX1_safest 5 = .ok (.bipush 40, 2) := by decide +kernel
theorem dX1_safest_7 : decode cX1_safest 7 = .ok (.istore_n 3, 1) := by decide +kernel
theorem dX1_safest_8 : decode cX1_safest 8 = .ok (.iload_n 3, 1) := by decide +kernel
theorem dX1_safest_9 : decode cX1_safest 9 = .ok (.ifCond .lt 20, 3) := by decide +kernel
theorem dX1_safest_12 : decode cX1_safest 12 = .ok (.aload_n 0, 1) := by decide +kernel
theorem dX1_safest_13 : decode cX1_safest 13 = .ok (.iload_n 3, 1) := by decide +kernel
theorem dX1_safest_14 : decode cX1_safest 14 = .ok (.invokevirtual 32, 3) := by decide +kernel
theorem dX1_safest_17 : decode cX1_safest 17 = .ok (.iload_n 2, 1) := by decide +kernel
theorem dX1_safest_18 : decode cX1_safest 18 = .ok (.if_icmp .lt 5, 3) := by decide +kernel
theorem dX1_safest_21 : decode cX1_safest 21 = .ok (.iload_n 3, 1) := by decide +kernel
theorem dX1_safest_22 : decode cX1_safest 22 = .ok (.ireturn, 1) := by decide +kernel
theorem dX1_safest_23 : decode cX1_safest 23 = .ok (.iinc 3 (-1), 3) := by decide +kernel
theorem dX1_safest_26 : decode cX1_safest 26 = .ok (.goto (-18), 3) := by decide +kernel
theorem dX1_safest_29 : decode cX1_safest 29 = .ok (.iconst (-1), 1) := by decide +kernel
theorem dX1_safest_30 : decode cX1_safest 30 = .ok (.ireturn, 1) := by decide +kernel
theorem dX1_guilty_0 : decode cX1_guilty 0 = .ok (.iconst 0, 1) := by decide +kernel
theorem dX1_guilty_1 : decode cX1_guilty 1 = .ok (.istore_n 3, 1) := by decide +kernel
theorem dX1_guilty_2 : decode cX1_guilty 2 = .ok (.iconst 0, 1) := by decide +kernel
theorem dX1_guilty_3 : decode cX1_guilty 3 = .ok (.istore 4, 2) := by decide +kernel
theorem dX1_guilty_5 : decode cX1_guilty 5 = .ok (.iload 4, 2) := by decide +kernel
theorem dX1_guilty_7 : decode cX1_guilty 7 = .ok (.iconst 5, 1) := by decide +kernel
theorem dX1_guilty_8 : decode cX1_guilty 8 = .ok (.if_icmp .ge 34, 3) := by decide +kernel
theorem dX1_guilty_11 : decode cX1_guilty 11 = .ok (.aload_n 0, 1) := by decide +kernel
theorem dX1_guilty_12 : decode cX1_guilty 12 = .ok (.getfield 19, 3) := by decide +kernel
theorem dX1_guilty_15 : decode cX1_guilty 15 = .ok (.iload_n 1, 1) := by decide +kernel
theorem dX1_guilty_16 : decode cX1_guilty 16 = .ok (.aload_n 0, 1) := by decide +kernel
theorem dX1_guilty_17 : decode cX1_guilty 17 = .ok (.iload 4, 2) := by decide +kernel
theorem dX1_guilty_19 : decode cX1_guilty 19 = .ok (.invokevirtual 36, 3) := by decide +kernel
theorem dX1_guilty_22 : decode cX1_guilty 22 = .ok (.invokevirtual 39, 3) := by decide +kernel
theorem dX1_guilty_25 : decode cX1_guilty 25 = .ok (.iload_n 2, 1) := by decide +kernel
theorem dX1_guilty_26 : decode cX1_guilty 26 = .ok (.if_icmp .ne 10, 3) := by decide +kernel
theorem dX1_guilty_29 : decode cX1_guilty 29 = .ok (.iload_n 3, 1) := by decide +kernel
theorem dX1_guilty_30 : decode cX1_guilty 30 = .ok (.iconst 1, 1) := by decide +kernel
theorem dX1_guilty_31 : decode cX1_guilty 31 = .ok (.iload 4, 2) := by decide +kernel
theorem dX1_guilty_33 : decode cX1_guilty 33 = .ok (.ishl, 1) := by decide +kernel
theorem dX1_guilty_34 : decode cX1_guilty 34 = .ok (.ior, 1) := by decide +kernel
theorem dX1_guilty_35 : decode cX1_guilty 35 = .ok (.istore_n 3, 1) := by decide +kernel
theorem dX1_guilty_36 : decode cX1_guilty 36 = .ok (.iinc 4 1, 3) := by decide +kernel
theorem dX1_guilty_39 : decode cX1_guilty 39 = .ok (.goto (-34), 3) := by decide +kernel
theorem dX1_guilty_42 : decode cX1_guilty 42 = .ok (.iload_n 3, 1) := by decide +kernel
theorem dX1_guilty_43 : decode cX1_guilty 43 = .ok (.ireturn, 1) := by decide +kernel
theorem dX1_slipAt_0 : decode cX1_slipAt 0 = .ok (.iload_n 1, 1) := by decide +kernel
theorem dX1_slipAt_1 : decode cX1_slipAt 1 = .ok (.iconst 2, 1) := by decide +kernel
theorem dX1_slipAt_2 : decode cX1_slipAt 2 = .ok (.isub, 1) := by decide +kernel
theorem dX1_slipAt_3 : decode cX1_slipAt 3 = .ok (.aload_n 0, 1) := by decide +kernel
theorem dX1_slipAt_4 : decode cX1_slipAt 4 = .ok (.getfield 15, 3) := by decide +kernel
theorem dX1_slipAt_7 : decode cX1_slipAt 7 = .ok (.getfield 43, 3) := by decide +kernel
theorem dX1_slipAt_10 : decode cX1_slipAt 10 = .ok (.bipush 6, 2) := by decide +kernel
theorem dX1_slipAt_12 : decode cX1_slipAt 12 = .ok (.iaload, 1) := by decide +kernel
theorem dX1_slipAt_13 : decode cX1_slipAt 13 = .ok (.imul, 1) := by decide +kernel
theorem dX1_slipAt_14 : decode cX1_slipAt 14 = .ok (.ireturn, 1) := by decide +kernel
theorem dX1_weigh_0 : decode cX1_weigh 0 = .ok (.aload_n 0, 1) := by decide +kernel
theorem dX1_weigh_1 : decode cX1_weigh 1 = .ok (.getfield 19, 3) := by decide +kernel
theorem dX1_weigh_4 : decode cX1_weigh 4 = .ok (.getfield 48, 3) := by decide +kernel
theorem dX1_weigh_7 : decode cX1_weigh 7 = .ok (.iload_n 1, 1) := by decide +kernel
theorem dX1_weigh_8 : decode cX1_weigh 8 = .ok (.iaload, 1) := by decide +kernel
theorem dX1_weigh_9 : decode cX1_weigh 9 = .ok (.istore_n 2, 1) := by decide +kernel
theorem dX1_weigh_10 : decode cX1_weigh 10 = .ok (.aload_n 0, 1) := by decide +kernel
theorem dX1_weigh_11 : decode cX1_weigh 11 = .ok (.getfield 19, 3) := by decide +kernel
theorem dX1_weigh_14 : decode cX1_weigh 14 = .ok (.getfield 48, 3) := by decide +kernel
theorem dX1_weigh_17 : decode cX1_weigh 17 = .ok (.iload_n 1, 1) := by decide +kernel
theorem dX1_weigh_18 : decode cX1_weigh 18 = .ok (.iconst 1, 1) := by decide +kernel
theorem dX1_weigh_19 : decode cX1_weigh 19 = .ok (.iadd, 1) := by decide +kernel
theorem dX1_weigh_20 : decode cX1_weigh 20 = .ok (.iaload, 1) := by decide +kernel
theorem dX1_weigh_21 : decode cX1_weigh 21 = .ok (.istore_n 3, 1) := by decide +kernel
theorem dX1_weigh_22 : decode cX1_weigh 22 = .ok (.iconst 0, 1) := by decide +kernel
theorem dX1_weigh_23 : decode cX1_weigh 23 = .ok (.istore 4, 2) := by decide +kernel
theorem dX1_weigh_25 : decode cX1_weigh 25 = .ok (.iload 4, 2) := by decide +kernel
theorem dX1_weigh_27 : decode cX1_weigh 27 = .ok (.iconst 5, 1) := by decide +kernel
theorem dX1_weigh_28 : decode cX1_weigh 28 = .ok (.if_icmp .ge 32, 3) := by decide +kernel
theorem dX1_weigh_31 : decode cX1_weigh 31 = .ok (.aload_n 0, 1) := by decide +kernel
theorem dX1_weigh_32 : decode cX1_weigh 32 = .ok (.getfield 11, 3) := by decide +kernel
theorem dX1_weigh_35 : decode cX1_weigh 35 = .ok (.iload 4, 2) := by decide +kernel
theorem dX1_weigh_37 : decode cX1_weigh 37 = .ok (.aload_n 0, 1) := by decide +kernel
theorem dX1_weigh_38 : decode cX1_weigh 38 = .ok (.getfield 15, 3) := by decide +kernel
theorem dX1_weigh_41 : decode cX1_weigh 41 = .ok (.iload_n 1, 1) := by decide +kernel
theorem dX1_weigh_42 : decode cX1_weigh 42 = .ok (.iload_n 2, 1) := by decide +kernel
theorem dX1_weigh_43 : decode cX1_weigh 43 = .ok (.iload_n 3, 1) := by decide +kernel
theorem dX1_weigh_44 : decode cX1_weigh 44 = .ok (.aload_n 0, 1) := by decide +kernel
theorem dX1_weigh_45 : decode cX1_weigh 45 = .ok (.iload 4, 2) := by decide +kernel
theorem dX1_weigh_47 : decode cX1_weigh 47 = .ok (.invokevirtual 36, 3) := by decide +kernel
theorem dX1_weigh_50 : decode cX1_weigh 50 = .ok (.invokevirtual 51, 3) := by decide +kernel
theorem dX1_weigh_53 : decode cX1_weigh 53 = .ok (.iastore, 1) := by decide +kernel
theorem dX1_weigh_54 : decode cX1_weigh 54 = .ok (.iinc 4 1, 3) := by decide +kernel
theorem dX1_weigh_57 : decode cX1_weigh 57 = .ok (.goto (-32), 3) := by decide +kernel
theorem dX1_weigh_60 : decode cX1_weigh 60 = .ok (.return_, 1) := by decide +kernel
theorem dX1_sharesAt_0 : decode cX1_sharesAt 0 = .ok (.iconst 0, 1) := by decide +kernel
theorem dX1_sharesAt_1 : decode cX1_sharesAt 1 = .ok (.istore_n 2, 1) := by decide +kernel
theorem dX1_sharesAt_2 : decode cX1_sharesAt 2 = .ok (.iconst 0, 1) := by decide +kernel
theorem dX1_sharesAt_3 : decode cX1_sharesAt 3 = .ok (.istore_n 3, 1) := by decide +kernel
theorem dX1_sharesAt_4 : decode cX1_sharesAt 4 = .ok (.iload_n 3, 1) := by decide +kernel
theorem dX1_sharesAt_5 : decode cX1_sharesAt 5 = .ok (.iconst 5, 1) := by decide +kernel
theorem dX1_sharesAt_6 : decode cX1_sharesAt 6 = .ok (.if_icmp .ge 27, 3) := by decide +kernel
theorem dX1_sharesAt_9 : decode cX1_sharesAt 9 = .ok (.aload_n 0, 1) := by decide +kernel
theorem dX1_sharesAt_10 : decode cX1_sharesAt 10 = .ok (.getfield 11, 3) := by decide +kernel
theorem dX1_sharesAt_13 : decode cX1_sharesAt 13 = .ok (.iload_n 3, 1) := by decide +kernel
theorem dX1_sharesAt_14 : decode cX1_sharesAt 14 = .ok (.iaload, 1) := by decide +kernel
theorem dX1_sharesAt_15 : decode cX1_sharesAt 15 = .ok (.iload_n 1, 1) := by decide +kernel
theorem dX1_sharesAt_16 : decode cX1_sharesAt 16 = .ok (.if_icmp .lt 11, 3) := by decide +kernel
theorem dX1_sharesAt_19 : decode cX1_sharesAt 19 = .ok (.iload_n 2, 1) := by decide +kernel
theorem dX1_sharesAt_20 : decode cX1_sharesAt 20 = .ok (.getstatic 54, 3) := by decide +kernel
theorem dX1_sharesAt_23 : decode cX1_sharesAt 23 = .ok (.iload_n 3, 1) := by decide +kernel
theorem dX1_sharesAt_24 : decode cX1_sharesAt 24 = .ok (.iaload, 1) := by decide +kernel
theorem dX1_sharesAt_25 : decode cX1_sharesAt 25 = .ok (.iadd, 1) := by decide +kernel
theorem dX1_sharesAt_26 : decode cX1_sharesAt 26 = .ok (.istore_n 2, 1) := by decide +kernel
theorem dX1_sharesAt_27 : decode cX1_sharesAt 27 = .ok (.iinc 3 1, 3) := by decide +kernel
theorem dX1_sharesAt_30 : decode cX1_sharesAt 30 = .ok (.goto (-26), 3) := by decide +kernel
theorem dX1_sharesAt_33 : decode cX1_sharesAt 33 = .ok (.iload_n 2, 1) := by decide +kernel
theorem dX1_sharesAt_34 : decode cX1_sharesAt 34 = .ok (.ireturn, 1) := by decide +kernel
theorem dX2_init_0 : decode cX2_init 0 = .ok (.aload_n 0, 1) := by decide +kernel
theorem dX2_init_1 : decode cX2_init 1 = .ok (.invokespecial 3, 3) := by decide +kernel
theorem dX2_init_4 : decode cX2_init 4 = .ok (.aload_n 0, 1) := by decide +kernel
theorem dX2_init_5 : decode cX2_init 5 = .ok (.iconst 3, 1) := by decide +kernel
theorem dX2_init_6 : decode cX2_init 6 = .ok (.bipush 25, 2) := by decide +kernel
theorem dX2_init_8 : decode cX2_init 8 = .ok (.multianewarray 9 2, 4) := by decide +kernel
theorem dX2_init_12 : decode cX2_init 12 = .ok (.putfield 11, 3) := by decide +kernel
theorem dX2_init_15 : decode cX2_init 15 = .ok (.aload_n 0, 1) := by decide +kernel
theorem dX2_init_16 : decode cX2_init 16 = .ok (.iconst 3, 1) := by decide +kernel
theorem dX2_init_17 : decode cX2_init 17 = .ok (.bipush 25, 2) := by decide +kernel
theorem dX2_init_19 : decode cX2_init 19 = .ok (.multianewarray 9 2, 4) := by decide +kernel
theorem dX2_init_23 : decode cX2_init 23 = .ok (.putfield 16, 3) := by decide +kernel
theorem dX2_init_26 : decode cX2_init 26 = .ok (.aload_n 0, 1) := by decide +kernel
theorem dX2_init_27 : decode cX2_init 27 = .ok (.bipush 8, 2) := by decide +kernel
theorem dX2_init_29 : decode cX2_init 29 = .ok (.newarray .int, 2) := by decide +kernel
theorem dX2_init_31 : decode cX2_init 31 = .ok (.putfield 19, 3) := by decide +kernel
theorem dX2_init_34 : decode cX2_init 34 = .ok (.aload_n 0, 1) := by decide +kernel
theorem dX2_init_35 : decode cX2_init 35 = .ok (.aload_n 1, 1) := by decide +kernel
theorem dX2_init_36 : decode cX2_init 36 = .ok (.putfield 23, 3) := by decide +kernel
theorem dX2_init_39 : decode cX2_init 39 = .ok (.aload_n 0, 1) := by decide +kernel
theorem dX2_init_40 : decode cX2_init 40 = .ok (.aload_n 2, 1) := by decide +kernel
theorem dX2_init_41 : decode cX2_init 41 = .ok (.putfield 27, 3) := by decide +kernel
theorem dX2_init_44 : decode cX2_init 44 = .ok (.return_, 1) := by decide +kernel
theorem dX2_search_0 : decode cX2_search 0 = .ok (.aload_n 0, 1) := by decide +kernel
theorem dX2_search_1 : decode cX2_search 1 = .ok (.getfield 19, 3) := by decide +kernel
theorem dX2_search_4 : decode cX2_search 4 = .ok (.iconst (-1), 1) := by decide +kernel
theorem dX2_search_5 : decode cX2_search 5 = .ok (.invokestatic 31, 3) := by decide +kernel
theorem dX2_search_8 : decode cX2_search 8 = .ok (.iconst 0, 1) := by decide +kernel
theorem dX2_search_9 : decode cX2_search 9 = .ok (.istore_n 2, 1) := by decide +kernel
theorem dX2_search_10 : decode cX2_search 10 = .ok (.iload_n 2, 1) := by decide +kernel
theorem dX2_search_11 : decode cX2_search 11 = .ok (.iconst 3, 1) := by decide +kernel
theorem dX2_search_12 : decode cX2_search 12 = .ok (.if_icmp .ge 14, 3) := by decide +kernel
theorem dX2_search_15 : decode cX2_search 15 = .ok (.aload_n 0, 1) := by decide +kernel
theorem dX2_search_16 : decode cX2_search 16 = .ok (.iload_n 2, 1) := by decide +kernel
theorem dX2_search_17 : decode cX2_search 17 = .ok (.invokevirtual 37, 3) := by decide +kernel
theorem dX2_search_20 : decode cX2_search 20 = .ok (.iinc 2 1, 3) := by decide +kernel
theorem dX2_search_23 : decode cX2_search 23 = .ok (.goto (-13), 3) := by decide +kernel
theorem dX2_search_26 : decode cX2_search 26 = .ok (.aload_n 0, 1) := by decide +kernel
theorem dX2_search_27 : decode cX2_search 27 = .ok (.getfield 23, 3) := by decide +kernel
theorem dX2_search_30 : decode cX2_search 30 = .ok (.getfield 41, 3) := by decide +kernel
theorem dX2_search_33 : decode cX2_search 33 = .ok (.istore_n 2, 1) := by decide +kernel
theorem dX2_search_34 : decode cX2_search 34 = .ok (.iload_n 1, 1) := by decide +kernel
theorem dX2_search_35 : decode cX2_search 35 = .ok (.iconst (-1), 1) := by decide +kernel
theorem dX2_search_36 : decode cX2_search 36 = .ok (.if_icmp .ne 7, 3) := by decide +kernel
theorem dX2_search_39 : decode cX2_search 39 = .ok (.iconst 0, 1) := by decide +kernel
theorem dX2_search_40 : decode cX2_search 40 = .ok (.goto 6, 3) := by decide +kernel
theorem dX2_search_43 : decode cX2_search 43 = .ok (.iconst 1, 1) := by decide +kernel
theorem dX2_search_44 : decode cX2_search 44 = .ok (.iload_n 1, 1) := by decide +kernel
theorem dX2_search_45 : decode cX2_search 45 = .ok (.ishl, 1) := by decide +kernel
theorem dX2_search_46 : decode cX2_search 46 = .ok (.istore_n 3, 1) := by decide +kernel
theorem dX2_search_47 : decode cX2_search 47 = .ok (.iconst 0, 1) := by decide +kernel
theorem dX2_search_48 : decode cX2_search 48 = .ok (.istore 4, 2) := by decide +kernel
theorem dX2_search_50 : decode cX2_search 50 = .ok (.iload 4, 2) := by decide +kernel
theorem dX2_search_52 : decode cX2_search 52 = .ok (.iload_n 2, 1) := by decide +kernel
theorem dX2_search_53 : decode cX2_search 53 = .ok (.if_icmp .ge 96, 3) := by decide +kernel
theorem dX2_search_56 : decode cX2_search 56 = .ok (.iconst 0, 1) := by decide +kernel
theorem dX2_search_57 : decode cX2_search 57 = .ok (.istore 5, 2) := by decide +kernel
theorem dX2_search_59 : decode cX2_search 59 = .ok (.iload 5, 2) := by decide +kernel
theorem dX2_search_61 : decode cX2_search 61 = .ok (.iload_n 2, 1) := by decide +kernel
theorem dX2_search_62 : decode cX2_search 62 = .ok (.if_icmp .ge 81, 3) := by decide +kernel
theorem dX2_search_65 : decode cX2_search 65 = .ok (.iconst 0, 1) := by decide +kernel
theorem dX2_search_66 : decode cX2_search 66 = .ok (.istore 6, 2) := by decide +kernel
theorem dX2_search_68 : decode cX2_search 68 = .ok (.iload 6, 2) := by decide +kernel
theorem dX2_search_70 : decode cX2_search 70 = .ok (.iload_n 2, 1) := by decide +kernel
theorem dX2_search_71 : decode cX2_search 71 = .ok (.if_icmp .ge 66, 3) := by decide +kernel
theorem dX2_search_74 : decode cX2_search 74 = .ok (.iconst 0, 1) := by decide +kernel
theorem dX2_search_75 : decode cX2_search 75 = .ok (.istore 7, 2) := by decide +kernel
theorem dX2_search_77 : decode cX2_search 77 = .ok (.iload 7, 2) := by decide +kernel
theorem dX2_search_79 : decode cX2_search 79 = .ok (.iload_n 2, 1) := by decide +kernel
theorem dX2_search_80 : decode cX2_search 80 = .ok (.if_icmp .ge 51, 3) := by decide +kernel
theorem dX2_search_83 : decode cX2_search 83 = .ok (.iload 4, 2) := by decide +kernel
theorem dX2_search_85 : decode cX2_search 85 = .ok (.iload 5, 2) := by decide +kernel
theorem dX2_search_87 : decode cX2_search 87 = .ok (.iload 6, 2) := by decide +kernel
theorem dX2_search_89 : decode cX2_search 89 = .ok (.iload 7, 2) := by decide +kernel
theorem dX2_search_91 : decode cX2_search 91 = .ok (.iload_n 3, 1) := by decide +kernel
theorem dX2_search_92 : decode cX2_search 92 = .ok (.invokestatic 47, 3) := by decide +kernel
theorem dX2_search_95 : decode cX2_search 95 = .ok (.ifCond .eq 30, 3) := by decide +kernel
theorem dX2_search_98 : decode cX2_search 98 = .ok (.aload_n 0, 1) := by decide +kernel
theorem dX2_search_99 : decode cX2_search 99 = .ok (.iload 4, 2) := by decide +kernel
theorem dX2_search_101 : decode cX2_search 101 = .ok (.iload 5, 2) := by decide +kernel
theorem dX2_search_103 : decode cX2_search 103 = .ok (.iload 6, 2) := by decide +kernel
theorem dX2_search_105 : decode cX2_search 105 = .ok (.iload 7, 2) := by decide +kernel
theorem dX2_search_107 : decode cX2_search 107 = .ok (.invokevirtual 51, 3) := by decide +kernel
theorem dX2_search_110 : decode cX2_search 110 = .ok (.ifCond .eq 15, 3) := by decide +kernel
theorem dX2_search_113 : decode cX2_search 113 = .ok (.aload_n 0, 1) := by decide +kernel
theorem dX2_search_114 : decode cX2_search 114 = .ok (.iload 4, 2) := by decide +kernel
theorem dX2_search_116 : decode cX2_search 116 = .ok (.iload 5, 2) := by decide +kernel
theorem dX2_search_118 : decode cX2_search 118 = .ok (.iload 6, 2) := by decide +kernel
theorem dX2_search_120 : decode cX2_search 120 = .ok (.iload 7, 2) := by decide +kernel
theorem dX2_search_122 : decode cX2_search 122 = .ok (.invokevirtual 55, 3) := by decide +kernel
theorem dX2_search_125 : decode cX2_search 125 = .ok (.iinc 7 1, 3) := by decide +kernel
theorem dX2_search_128 : decode cX2_search 128 = .ok (.goto (-51), 3) := by decide +kernel
theorem dX2_search_131 : decode cX2_search 131 = .ok (.iinc 6 1, 3) := by decide +kernel
theorem dX2_search_134 : decode cX2_search 134 = .ok (.goto (-66), 3) := by decide +kernel
theorem dX2_search_137 : decode cX2_search 137 = .ok (.iinc 5 1, 3) := by decide +kernel
theorem dX2_search_140 : decode cX2_search 140 = .ok (.goto (-81), 3) := by decide +kernel
theorem dX2_search_143 : decode cX2_search 143 = .ok (.iinc 4 1, 3) := by decide +kernel
theorem dX2_search_146 : decode cX2_search 146 = .ok (.goto (-96), 3) := by decide +kernel
theorem dX2_search_149 : decode cX2_search 149 = .ok (.return_, 1) := by decide +kernel
theorem dX2_weighPairs_0 : decode cX2_weighPairs 0 = .ok (.iconst 0, 1) := by decide +kernel
theorem dX2_weighPairs_1 : decode cX2_weighPairs 1 = .ok (.istore_n 2, 1) := by decide +kernel
theorem dX2_weighPairs_2 : decode cX2_weighPairs 2 = .ok (.iload_n 2, 1) := by decide +kernel
theorem dX2_weighPairs_3 : decode cX2_weighPairs 3 = .ok (.aload_n 0, 1) := by decide +kernel
theorem dX2_weighPairs_4 : decode cX2_weighPairs 4 = .ok (.getfield 23, 3) := by decide +kernel
theorem dX2_weighPairs_7 : decode cX2_weighPairs 7 = .ok (.getfield 41, 3) := by decide +kernel
theorem dX2_weighPairs_10 : decode cX2_weighPairs 10 = .ok (.if_icmp .ge 81, 3) := by decide +kernel
theorem dX2_weighPairs_13 : decode cX2_weighPairs 13 = .ok (.iconst 0, 1) := by decide +kernel
theorem dX2_weighPairs_14 : decode cX2_weighPairs 14 = .ok (.istore_n 3, 1) := by decide +kernel
theorem dX2_weighPairs_15 : decode cX2_weighPairs 15 = .ok (.iload_n 3, 1) := by decide +kernel
theorem dX2_weighPairs_16 : decode cX2_weighPairs 16 = .ok (.aload_n 0, 1) := by decide +kernel
theorem dX2_weighPairs_17 : decode cX2_weighPairs 17 = .ok (.getfield 23, 3) := by decide +kernel
theorem dX2_weighPairs_20 : decode cX2_weighPairs 20 = .ok (.getfield 41, 3) := by decide +kernel
theorem dX2_weighPairs_23 : decode cX2_weighPairs 23 = .ok (.if_icmp .ge 62, 3) := by decide +kernel
theorem dX2_weighPairs_26 : decode cX2_weighPairs 26 = .ok (.aload_n 0, 1) := by decide +kernel
theorem dX2_weighPairs_27 : decode cX2_weighPairs 27 = .ok (.getfield 27, 3) := by decide +kernel
theorem dX2_weighPairs_30 : decode cX2_weighPairs 30 = .ok (.iload_n 1, 1) := by decide +kernel
theorem dX2_weighPairs_31 : decode cX2_weighPairs 31 = .ok (.iload_n 2, 1) := by decide +kernel
theorem dX2_weighPairs_32 : decode cX2_weighPairs 32 = .ok (.iload_n 3, 1) := by decide +kernel
theorem dX2_weighPairs_33 : decode cX2_weighPairs 33 = .ok (.iconst 0, 1) := by decide +kernel
theorem dX2_weighPairs_34 : decode cX2_weighPairs 34 = .ok (.invokevirtual 59, 3) := by decide +kernel
theorem dX2_weighPairs_37 : decode cX2_weighPairs 37 = .ok (.istore 4, 2) := by decide +kernel
theorem dX2_weighPairs_39 : decode cX2_weighPairs 39 = .ok (.iconst 5, 1) := by decide +kernel
theorem dX2_weighPairs_40 : decode cX2_weighPairs 40 = .ok (.iload_n 2, 1) := by decide +kernel
theorem dX2_weighPairs_41 : decode cX2_weighPairs 41 = .ok (.imul, 1) := by decide +kernel
theorem dX2_weighPairs_42 : decode cX2_weighPairs 42 = .ok (.iload_n 3, 1) := by decide +kernel
theorem dX2_weighPairs_43 : decode cX2_weighPairs 43 = .ok (.iadd, 1) := by decide +kernel
theorem dX2_weighPairs_44 : decode cX2_weighPairs 44 = .ok (.istore 5, 2) := by decide +kernel
theorem dX2_weighPairs_46 : decode cX2_weighPairs 46 = .ok (.aload_n 0, 1) := by decide +kernel
theorem dX2_weighPairs_47 : decode cX2_weighPairs 47 = .ok (.getfield 11, 3) := by decide +kernel
theorem dX2_weighPairs_50 : decode cX2_weighPairs 50 = .ok (.iload_n 1, 1) := by decide +kernel
theorem dX2_weighPairs_51 : decode cX2_weighPairs 51 = .ok (.aaload, 1) := by decide +kernel
theorem dX2_weighPairs_52 : decode cX2_weighPairs 52 = .ok (.iload 5, 2) := by decide +kernel
theorem dX2_weighPairs_54 : decode cX2_weighPairs 54 = .ok (.iload 4, 2) := by decide +kernel
theorem dX2_weighPairs_56 : decode cX2_weighPairs 56 = .ok (.iastore, 1) := by decide +kernel
theorem dX2_weighPairs_57 : decode cX2_weighPairs 57 = .ok (.aload_n 0, 1) := by decide +kernel
theorem dX2_weighPairs_58 : decode cX2_weighPairs 58 = .ok (.getfield 16, 3) := by decide +kernel
theorem dX2_weighPairs_61 : decode cX2_weighPairs 61 = .ok (.iload_n 1, 1) := by decide +kernel
theorem dX2_weighPairs_62 : decode cX2_weighPairs 62 = .ok (.aaload, 1) := by decide +kernel
theorem dX2_weighPairs_63 : decode cX2_weighPairs 63 = .ok (.iload 5, 2) := by decide +kernel
theorem dX2_weighPairs_65 : decode cX2_weighPairs 65 = .ok (.aload_n 0, 1) := by decide +kernel
theorem dX2_weighPairs_66 : decode cX2_weighPairs 66 = .ok (.getfield 27, 3) := by decide +kernel
theorem dX2_weighPairs_69 : decode cX2_weighPairs 69 = .ok (.iload_n 1, 1) := by decide +kernel
theorem dX2_weighPairs_70 : decode cX2_weighPairs 70 = .ok (.iload_n 2, 1) := by decide +kernel
theorem dX2_weighPairs_71 : decode cX2_weighPairs 71 = .ok (.iload_n 3, 1) := by decide +kernel
theorem dX2_weighPairs_72 : decode cX2_weighPairs 72 = .ok (.iload 4, 2) := by decide +kernel
theorem dX2_weighPairs_74 : decode cX2_weighPairs 74 = .ok (.iconst 0, 1) := by decide +kernel
theorem dX2_weighPairs_75 : decode cX2_weighPairs 75 = .ok (.invokevirtual 65, 3) := by decide +kernel
theorem dX2_weighPairs_78 : decode cX2_weighPairs 78 = .ok (.iastore, 1) := by decide +kernel
theorem dX2_weighPairs_79 : decode cX2_weighPairs 79 = .ok (.iinc 3 1, 3) := by decide +kernel
theorem dX2_weighPairs_82 : decode cX2_weighPairs 82 = .ok (.goto (-67), 3) := by decide +kernel
theorem dX2_weighPairs_85 : decode cX2_weighPairs 85 = .ok (.iinc 2 1, 3) := by decide +kernel
theorem dX2_weighPairs_88 : decode cX2_weighPairs 88 = .ok (.goto (-86), 3) := by decide +kernel
theorem dX2_weighPairs_91 : decode cX2_weighPairs 91 = .ok (.return_, 1) := by decide +kernel
theorem dX2_areUnlike_0 : decode cX2_areUnlike 0 = .ok (.iconst 1, 1) := by decide +kernel
theorem dX2_areUnlike_1 : decode cX2_areUnlike 1 = .ok (.iload_n 0, 1) := by decide +kernel
theorem dX2_areUnlike_2 : decode cX2_areUnlike 2 = .ok (.ishl, 1) := by decide +kernel
theorem dX2_areUnlike_3 : decode cX2_areUnlike 3 = .ok (.iconst 1, 1) := by decide +kernel
theorem dX2_areUnlike_4 : decode cX2_areUnlike 4 = .ok (.iload_n 1, 1) := by decide +kernel
theorem dX2_areUnlike_5 : decode cX2_areUnlike 5 = .ok (.ishl, 1) := by decide +kernel
theorem dX2_areUnlike_6 : decode cX2_areUnlike 6 = .ok (.ior, 1) := by decide +kernel
theorem dX2_areUnlike_7 : decode cX2_areUnlike 7 = .ok (.iconst 1, 1) := by decide +kernel
theorem dX2_areUnlike_8 : decode cX2_areUnlike 8 = .ok (.iload_n 2, 1) := by decide +kernel
theorem dX2_areUnlike_9 : decode cX2_areUnlike 9 = .ok (.ishl, 1) := by decide +kernel
theorem dX2_areUnlike_10 : decode cX2_areUnlike 10 = .ok (.ior, 1) := by decide +kernel
theorem dX2_areUnlike_11 : decode cX2_areUnlike 11 = .ok (.iconst 1, 1) := by decide +kernel
theorem dX2_areUnlike_12 : decode cX2_areUnlike 12 = .ok (.iload_n 3, 1) := by decide +kernel
theorem dX2_areUnlike_13 : decode cX2_areUnlike 13 = .ok (.ishl, 1) := by decide +kernel
theorem dX2_areUnlike_14 : decode cX2_areUnlike 14 = .ok (.ior, 1) := by decide +kernel
theorem dX2_areUnlike_15 : decode cX2_areUnlike 15 = .ok (.istore 5, 2) := by decide +kernel
theorem dX2_areUnlike_17 : decode cX2_areUnlike 17 = .ok (.iload 5, 2) := by decide +kernel
theorem dX2_areUnlike_19 : decode cX2_areUnlike 19 = .ok (.invokestatic 69, 3) := by decide +kernel
theorem dX2_areUnlike_22 : decode cX2_areUnlike 22 = .ok (.iconst 4, 1) := by decide +kernel
theorem dX2_areUnlike_23 : decode cX2_areUnlike 23 = .ok (.if_icmp .ne 15, 3) := by decide +kernel
theorem dX2_areUnlike_26 : decode cX2_areUnlike 26 = .ok (.iload 5, 2) := by decide +kernel
theorem dX2_areUnlike_28 : decode cX2_areUnlike 28 = .ok (.iload 4, 2) := by decide +kernel
theorem dX2_areUnlike_30 : decode cX2_areUnlike 30 = .ok (.iand, 1) := by decide +kernel
theorem dX2_areUnlike_31 : decode cX2_areUnlike 31 = .ok (.ifCond .ne 7, 3) := by decide +kernel
theorem dX2_areUnlike_34 : decode cX2_areUnlike 34 = .ok (.iconst 1, 1) := by decide +kernel
theorem dX2_areUnlike_35 : decode cX2_areUnlike 35 = .ok (.goto 4, 3) := by decide +kernel
theorem dX2_areUnlike_38 : decode cX2_areUnlike 38 = .ok (.iconst 0, 1) := by decide +kernel
theorem dX2_areUnlike_39 : decode cX2_areUnlike 39 = .ok (.ireturn, 1) := by decide +kernel
theorem dX2_canChangeHands_0 : decode cX2_canChangeHands 0 = .ok (.aload_n 0, 1) := by decide +kernel
theorem dX2_canChangeHands_1 : decode cX2_canChangeHands 1 = .ok (.getfield 23, 3) := by decide +kernel
theorem dX2_canChangeHands_4 : decode cX2_canChangeHands 4 = .ok (.getfield 75, 3) := by decide +kernel
theorem dX2_canChangeHands_7 : decode cX2_canChangeHands 7 = .ok (.iload_n 1, 1) := by decide +kernel
theorem dX2_canChangeHands_8 : decode cX2_canChangeHands 8 = .ok (.iaload, 1) := by decide +kernel
theorem dX2_canChangeHands_9 : decode cX2_canChangeHands 9 = .ok (.aload_n 0, 1) := by decide +kernel
theorem dX2_canChangeHands_10 : decode cX2_canChangeHands 10 = .ok (.getfield 23, 3) := by decide +kernel
theorem dX2_canChangeHands_13 : decode cX2_canChangeHands 13 = .ok (.getfield 75, 3) := by decide +kernel
theorem dX2_canChangeHands_16 : decode cX2_canChangeHands 16 = .ok (.iload_n 3, 1) := by decide +kernel
theorem dX2_canChangeHands_17 : decode cX2_canChangeHands 17 = .ok (.iaload, 1) := by decide +kernel
theorem dX2_canChangeHands_18 : decode cX2_canChangeHands 18 = .ok (.iand, 1) := by decide +kernel
theorem dX2_canChangeHands_19 : decode cX2_canChangeHands 19 = .ok (.istore 5, 2) := by decide +kernel
theorem dX2_canChangeHands_21 : decode cX2_canChangeHands 21 = .ok (.aload_n 0, 1) := by decide +kernel
theorem dX2_canChangeHands_22 : decode cX2_canChangeHands 22 = .ok (.getfield 23, 3) := by decide +kernel
theorem dX2_canChangeHands_25 : decode cX2_canChangeHands 25 = .ok (.getfield 75, 3) := by decide +kernel
theorem dX2_canChangeHands_28 : decode cX2_canChangeHands 28 = .ok (.iload_n 2, 1) := by decide +kernel
theorem dX2_canChangeHands_29 : decode cX2_canChangeHands 29 = .ok (.iaload, 1) := by decide +kernel
theorem dX2_canChangeHands_30 : decode cX2_canChangeHands 30 = .ok (.aload_n 0, 1) := by decide +kernel
theorem dX2_canChangeHands_31 : decode cX2_canChangeHands 31 = .ok (.getfield 23, 3) := by decide +kernel
theorem dX2_canChangeHands_34 : decode cX2_canChangeHands 34 = .ok (.getfield 75, 3) := by decide +kernel
theorem dX2_canChangeHands_37 : decode cX2_canChangeHands 37 = .ok (.iload 4, 2) := by decide +kernel
theorem dX2_canChangeHands_39 : decode cX2_canChangeHands 39 = .ok (.iaload, 1) := by decide +kernel
theorem dX2_canChangeHands_40 : decode cX2_canChangeHands 40 = .ok (.iand, 1) := by decide +kernel
theorem dX2_canChangeHands_41 : decode cX2_canChangeHands 41 = .ok (.istore 6, 2) := by decide +kernel
theorem dX2_canChangeHands_43 : decode cX2_canChangeHands 43 = .ok (.iload 5, 2) := by decide +kernel
theorem dX2_canChangeHands_45 : decode cX2_canChangeHands 45 = .ok (.iconst 1, 1) := by decide +kernel
theorem dX2_canChangeHands_46 : decode cX2_canChangeHands 46 = .ok (.iand, 1) := by decide +kernel
theorem dX2_canChangeHands_47 : decode cX2_canChangeHands 47 = .ok (.ifCond .eq 10, 3) := by decide +kernel
theorem dX2_canChangeHands_50 : decode cX2_canChangeHands 50 = .ok (.iload 6, 2) := by decide +kernel
theorem dX2_canChangeHands_52 : decode cX2_canChangeHands 52 = .ok (.iconst 2, 1) := by decide +kernel
theorem dX2_canChangeHands_53 : decode cX2_canChangeHands 53 = .ok (.iand, 1) := by decide +kernel
theorem dX2_canChangeHands_54 : decode cX2_canChangeHands 54 = .ok (.ifCond .ne 17, 3) := by decide +kernel
theorem dX2_canChangeHands_57 : decode cX2_canChangeHands 57 = .ok (.iload 5, 2) := by decide +kernel
theorem dX2_canChangeHands_59 : decode cX2_canChangeHands 59 = .ok (.iconst 2, 1) := by decide +kernel
theorem dX2_canChangeHands_60 : decode cX2_canChangeHands 60 = .ok (.iand, 1) := by decide +kernel
theorem dX2_canChangeHands_61 : decode cX2_canChangeHands 61 = .ok (.ifCond .eq 14, 3) := by decide +kernel
theorem dX2_canChangeHands_64 : decode cX2_canChangeHands 64 = .ok (.iload 6, 2) := by decide +kernel
theorem dX2_canChangeHands_66 : decode cX2_canChangeHands 66 = .ok (.iconst 1, 1) := by decide +kernel
theorem dX2_canChangeHands_67 : decode cX2_canChangeHands 67 = .ok (.iand, 1) := by decide +kernel
theorem dX2_canChangeHands_68 : decode cX2_canChangeHands 68 = .ok (.ifCond .eq 7, 3) := by decide +kernel
theorem dX2_canChangeHands_71 : decode cX2_canChangeHands 71 = .ok (.iconst 1, 1) := by decide +kernel
theorem dX2_canChangeHands_72 : decode cX2_canChangeHands 72 = .ok (.goto 4, 3) := by decide +kernel
theorem dX2_canChangeHands_75 : decode cX2_canChangeHands 75 = .ok (.iconst 0, 1) := by decide +kernel
theorem dX2_canChangeHands_76 : decode cX2_canChangeHands 76 = .ok (.ireturn, 1) := by decide +kernel
theorem dX2_consider_0 : decode cX2_consider 0 = .ok (.iconst 5, 1) := by decide +kernel
theorem dX2_consider_1 : decode cX2_consider 1 = .ok (.iload_n 1, 1) := by decide +kernel
theorem dX2_consider_2 : decode cX2_consider 2 = .ok (.imul, 1) := by decide +kernel
theorem dX2_consider_3 : decode cX2_consider 3 = .ok (.iload_n 2, 1) := by decide +kernel
theorem dX2_consider_4 : decode cX2_consider 4 = .ok (.iadd, 1) := by decide +kernel
theorem dX2_consider_5 : decode cX2_consider 5 = .ok (.istore 5, 2) := by decide +kernel
theorem dX2_consider_7 : decode cX2_consider 7 = .ok (.iconst 5, 1) := by decide +kernel
theorem dX2_consider_8 : decode cX2_consider 8 = .ok (.iload_n 2, 1) := by decide +kernel
theorem dX2_consider_9 : decode cX2_consider 9 = .ok (.imul, 1) := by decide +kernel
theorem dX2_consider_10 : decode cX2_consider 10 = .ok (.iload_n 3, 1) := by decide +kernel
theorem dX2_consider_11 : decode cX2_consider 11 = .ok (.iadd, 1) := by decide +kernel
theorem dX2_consider_12 : decode cX2_consider 12 = .ok (.istore 6, 2) := by decide +kernel
theorem dX2_consider_14 : decode cX2_consider 14 = .ok (.iconst 5, 1) := by decide +kernel
theorem dX2_consider_15 : decode cX2_consider 15 = .ok (.iload_n 3, 1) := by decide +kernel
theorem dX2_consider_16 : decode cX2_consider 16 = .ok (.imul, 1) := by decide +kernel
theorem dX2_consider_17 : decode cX2_consider 17 = .ok (.iload 4, 2) := by decide +kernel
theorem dX2_consider_19 : decode cX2_consider 19 = .ok (.iadd, 1) := by decide +kernel
theorem dX2_consider_20 : decode cX2_consider 20 = .ok (.istore 7, 2) := by decide +kernel
theorem dX2_consider_22 : decode cX2_consider 22 = .ok (.aload_n 0, 1) := by decide +kernel
theorem dX2_consider_23 : decode cX2_consider 23 = .ok (.getfield 16, 3) := by decide +kernel
theorem dX2_consider_26 : decode cX2_consider 26 = .ok (.iconst 0, 1) := by decide +kernel
theorem dX2_consider_27 : decode cX2_consider 27 = .ok (.aaload, 1) := by decide +kernel
theorem dX2_consider_28 : decode cX2_consider 28 = .ok (.iload 5, 2) := by decide +kernel
theorem dX2_consider_30 : decode cX2_consider 30 = .ok (.iaload, 1) := by decide +kernel
theorem dX2_consider_31 : decode cX2_consider 31 = .ok (.aload_n 0, 1) := by decide +kernel
theorem dX2_consider_32 : decode cX2_consider 32 = .ok (.getfield 16, 3) := by decide +kernel
theorem dX2_consider_35 : decode cX2_consider 35 = .ok (.iconst 1, 1) := by decide +kernel
theorem dX2_consider_36 : decode cX2_consider 36 = .ok (.aaload, 1) := by decide +kernel
theorem dX2_consider_37 : decode cX2_consider 37 = .ok (.iload 6, 2) := by decide +kernel
theorem dX2_consider_39 : decode cX2_consider 39 = .ok (.iaload, 1) := by decide +kernel
theorem dX2_consider_40 : decode cX2_consider 40 = .ok (.iadd, 1) := by decide +kernel
theorem dX2_consider_41 : decode cX2_consider 41 = .ok (.aload_n 0, 1) := by decide +kernel
theorem dX2_consider_42 : decode cX2_consider 42 = .ok (.getfield 16, 3) := by decide +kernel
theorem dX2_consider_45 : decode cX2_consider 45 = .ok (.iconst 2, 1) := by decide +kernel
theorem dX2_consider_46 : decode cX2_consider 46 = .ok (.aaload, 1) := by decide +kernel
theorem dX2_consider_47 : decode cX2_consider 47 = .ok (.iload 7, 2) := by decide +kernel
theorem dX2_consider_49 : decode cX2_consider 49 = .ok (.iaload, 1) := by decide +kernel
theorem dX2_consider_50 : decode cX2_consider 50 = .ok (.iadd, 1) := by decide +kernel
theorem dX2_consider_51 : decode cX2_consider 51 = .ok (.aload_n 0, 1) := by decide +kernel
theorem dX2_consider_52 : decode cX2_consider 52 = .ok (.getfield 27, 3) := by decide +kernel
theorem dX2_consider_55 : decode cX2_consider 55 = .ok (.iload 4, 2) := by decide +kernel
theorem dX2_consider_57 : decode cX2_consider 57 = .ok (.iconst 3, 1) := by decide +kernel
theorem dX2_consider_58 : decode cX2_consider 58 = .ok (.bipush 100, 2) := by decide +kernel
theorem dX2_consider_60 : decode cX2_consider 60 = .ok (.invokevirtual 78, 3) := by decide +kernel
theorem dX2_consider_63 : decode cX2_consider 63 = .ok (.iadd, 1) := by decide +kernel
theorem dX2_consider_64 : decode cX2_consider 64 = .ok (.istore 8, 2) := by decide +kernel
theorem dX2_consider_66 : decode cX2_consider 66 = .ok (.aload_n 0, 1) := by decide +kernel
theorem dX2_consider_67 : decode cX2_consider 67 = .ok (.getfield 19, 3) := by decide +kernel
theorem dX2_consider_70 : decode cX2_consider 70 = .ok (.iconst 0, 1) := by decide +kernel
theorem dX2_consider_71 : decode cX2_consider 71 = .ok (.iaload, 1) := by decide +kernel
theorem dX2_consider_72 : decode cX2_consider 72 = .ok (.iconst (-1), 1) := by decide +kernel
theorem dX2_consider_73 : decode cX2_consider 73 = .ok (.if_icmp .eq 15, 3) := by decide +kernel
theorem dX2_consider_76 : decode cX2_consider 76 = .ok (.aload_n 0, 1) := by decide +kernel
theorem dX2_consider_77 : decode cX2_consider 77 = .ok (.getfield 19, 3) := by decide +kernel
theorem dX2_consider_80 : decode cX2_consider 80 = .ok (.iconst 0, 1) := by decide +kernel
theorem dX2_consider_81 : decode cX2_consider 81 = .ok (.iaload, 1) := by decide +kernel
theorem dX2_consider_82 : decode cX2_consider 82 = .ok (.iload 8, 2) := by decide +kernel
theorem dX2_consider_84 : decode cX2_consider 84 = .ok (.if_icmp .gt 4, 3) := by decide +kernel
theorem dX2_consider_87 : decode cX2_consider 87 = .ok (.return_, 1) := by decide +kernel
theorem dX2_consider_88 : decode cX2_consider 88 = .ok (.aload_n 0, 1) := by decide +kernel
theorem dX2_consider_89 : decode cX2_consider 89 = .ok (.getfield 19, 3) := by decide +kernel
theorem dX2_consider_92 : decode cX2_consider 92 = .ok (.iconst 0, 1) := by decide +kernel
theorem dX2_consider_93 : decode cX2_consider 93 = .ok (.iload 8, 2) := by decide +kernel
theorem dX2_consider_95 : decode cX2_consider 95 = .ok (.iastore, 1) := by decide +kernel
theorem dX2_consider_96 : decode cX2_consider 96 = .ok (.aload_n 0, 1) := by decide +kernel
theorem dX2_consider_97 : decode cX2_consider 97 = .ok (.getfield 19, 3) := by decide +kernel
theorem dX2_consider_100 : decode cX2_consider 100 = .ok (.iconst 1, 1) := by decide +kernel
theorem dX2_consider_101 : decode cX2_consider 101 = .ok (.iload_n 1, 1) := by decide +kernel
theorem dX2_consider_102 : decode cX2_consider 102 = .ok (.iastore, 1) := by decide +kernel
theorem dX2_consider_103 : decode cX2_consider 103 = .ok (.aload_n 0, 1) := by decide +kernel
theorem dX2_consider_104 : decode cX2_consider 104 = .ok (.getfield 19, 3) := by decide +kernel
theorem dX2_consider_107 : decode cX2_consider 107 = .ok (.iconst 2, 1) := by decide +kernel
theorem dX2_consider_108 : decode cX2_consider 108 = .ok (.iload_n 2, 1) := by decide +kernel
theorem dX2_consider_109 : decode cX2_consider 109 = .ok (.iastore, 1) := by decide +kernel
theorem dX2_consider_110 : decode cX2_consider 110 = .ok (.aload_n 0, 1) := by decide +kernel
theorem dX2_consider_111 : decode cX2_consider 111 = .ok (.getfield 19, 3) := by decide +kernel
theorem dX2_consider_114 : decode cX2_consider 114 = .ok (.iconst 3, 1) := by decide +kernel
theorem dX2_consider_115 : decode cX2_consider 115 = .ok (.iload_n 3, 1) := by decide +kernel
theorem dX2_consider_116 : decode cX2_consider 116 = .ok (.iastore, 1) := by decide +kernel
theorem dX2_consider_117 : decode cX2_consider 117 = .ok (.aload_n 0, 1) := by decide +kernel
theorem dX2_consider_118 : decode cX2_consider 118 = .ok (.getfield 19, 3) := by decide +kernel
theorem dX2_consider_121 : decode cX2_consider 121 = .ok (.iconst 4, 1) := by decide +kernel
theorem dX2_consider_122 : decode cX2_consider 122 = .ok (.iload 4, 2) := by decide +kernel
theorem dX2_consider_124 : decode cX2_consider 124 = .ok (.iastore, 1) := by decide +kernel
theorem dX2_consider_125 : decode cX2_consider 125 = .ok (.aload_n 0, 1) := by decide +kernel
theorem dX2_consider_126 : decode cX2_consider 126 = .ok (.getfield 19, 3) := by decide +kernel
theorem dX2_consider_129 : decode cX2_consider 129 = .ok (.iconst 5, 1) := by decide +kernel
theorem dX2_consider_130 : decode cX2_consider 130 = .ok (.aload_n 0, 1) := by decide +kernel
theorem dX2_consider_131 : decode cX2_consider 131 = .ok (.getfield 11, 3) := by decide +kernel
theorem dX2_consider_134 : decode cX2_consider 134 = .ok (.iconst 0, 1) := by decide +kernel
theorem dX2_consider_135 : decode cX2_consider 135 = .ok (.aaload, 1) := by decide +kernel
theorem dX2_consider_136 : decode cX2_consider 136 = .ok (.iload 5, 2) := by decide +kernel
theorem dX2_consider_138 : decode cX2_consider 138 = .ok (.iaload, 1) := by decide +kernel
theorem dX2_consider_139 : decode cX2_consider 139 = .ok (.iastore, 1) := by decide +kernel
theorem dX2_consider_140 : decode cX2_consider 140 = .ok (.aload_n 0, 1) := by decide +kernel
theorem dX2_consider_141 : decode cX2_consider 141 = .ok (.getfield 19, 3) := by decide +kernel
theorem dX2_consider_144 : decode cX2_consider 144 = .ok (.bipush 6, 2) := by decide +kernel
theorem dX2_consider_146 : decode cX2_consider 146 = .ok (.aload_n 0, 1) := by decide +kernel
theorem dX2_consider_147 : decode cX2_consider 147 = .ok (.getfield 11, 3) := by decide +kernel
theorem dX2_consider_150 : decode cX2_consider 150 = .ok (.iconst 1, 1) := by decide +kernel
theorem dX2_consider_151 : decode cX2_consider 151 = .ok (.aaload, 1) := by decide +kernel
theorem dX2_consider_152 : decode cX2_consider 152 = .ok (.iload 6, 2) := by decide +kernel
theorem dX2_consider_154 : decode cX2_consider 154 = .ok (.iaload, 1) := by decide +kernel
theorem dX2_consider_155 : decode cX2_consider 155 = .ok (.iastore, 1) := by decide +kernel
theorem dX2_consider_156 : decode cX2_consider 156 = .ok (.aload_n 0, 1) := by decide +kernel
theorem dX2_consider_157 : decode cX2_consider 157 = .ok (.getfield 19, 3) := by decide +kernel
theorem dX2_consider_160 : decode cX2_consider 160 = .ok (.bipush 7, 2) := by decide +kernel
theorem dX2_consider_162 : decode cX2_consider 162 = .ok (.aload_n 0, 1) := by decide +kernel
theorem dX2_consider_163 : decode cX2_consider 163 = .ok (.getfield 11, 3) := by decide +kernel
theorem dX2_consider_166 : decode cX2_consider 166 = .ok (.iconst 2, 1) := by decide +kernel
theorem dX2_consider_167 : decode cX2_consider 167 = .ok (.aaload, 1) := by decide +kernel
theorem dX2_consider_168 : decode cX2_consider 168 = .ok (.iload 7, 2) := by decide +kernel
theorem dX2_consider_170 : decode cX2_consider 170 = .ok (.iaload, 1) := by decide +kernel
theorem dX2_consider_171 : decode cX2_consider 171 = .ok (.iastore, 1) := by decide +kernel
theorem dX2_consider_172 : decode cX2_consider 172 = .ok (.return_, 1) := by decide +kernel
theorem dX3_init_0 : decode cX3_init 0 = .ok (.aload_n 0, 1) := by decide +kernel
theorem dX3_init_1 : decode cX3_init 1 = .ok (.invokespecial 3, 3) := by decide +kernel
theorem dX3_init_4 : decode cX3_init 4 = .ok (.aload_n 0, 1) := by decide +kernel
theorem dX3_init_5 : decode cX3_init 5 = .ok (.iconst 4, 1) := by decide +kernel
theorem dX3_init_6 : decode cX3_init 6 = .ok (.newarray .int, 2) := by decide +kernel
theorem dX3_init_8 : decode cX3_init 8 = .ok (.dup, 1) := by decide +kernel
theorem dX3_init_9 : decode cX3_init 9 = .ok (.iconst 0, 1) := by decide +kernel
theorem dX3_init_10 : decode cX3_init 10 = .ok (.iconst 0, 1) := by decide +kernel
theorem dX3_init_11 : decode cX3_init 11 = .ok (.iastore, 1) := by decide +kernel
theorem dX3_init_12 : decode cX3_init 12 = .ok (.dup, 1) := by decide +kernel
theorem dX3_init_13 : decode cX3_init 13 = .ok (.iconst 1, 1) := by decide +kernel
theorem dX3_init_14 : decode cX3_init 14 = .ok (.iconst 1, 1) := by decide +kernel
theorem dX3_init_15 : decode cX3_init 15 = .ok (.iastore, 1) := by decide +kernel
theorem dX3_init_16 : decode cX3_init 16 = .ok (.dup, 1) := by decide +kernel
theorem dX3_init_17 : decode cX3_init 17 = .ok (.iconst 2, 1) := by decide +kernel
theorem dX3_init_18 : decode cX3_init 18 = .ok (.iconst 2, 1) := by decide +kernel
theorem dX3_init_19 : decode cX3_init 19 = .ok (.iastore, 1) := by decide +kernel
theorem dX3_init_20 : decode cX3_init 20 = .ok (.dup, 1) := by decide +kernel
theorem dX3_init_21 : decode cX3_init 21 = .ok (.iconst 3, 1) := by decide +kernel
theorem dX3_init_22 : decode cX3_init 22 = .ok (.iconst 3, 1) := by decide +kernel
theorem dX3_init_23 : decode cX3_init 23 = .ok (.iastore, 1) := by decide +kernel
theorem dX3_init_24 : decode cX3_init 24 = .ok (.putfield 9, 3) := by decide +kernel
theorem dX3_init_27 : decode cX3_init 27 = .ok (.aload_n 0, 1) := by decide +kernel
theorem dX3_init_28 : decode cX3_init 28 = .ok (.iconst 3, 1) := by decide +kernel
theorem dX3_init_29 : decode cX3_init 29 = .ok (.newarray .int, 2) := by decide +kernel
theorem dX3_init_31 : decode cX3_init 31 = .ok (.dup, 1) := by decide +kernel
theorem dX3_init_32 : decode cX3_init 32 = .ok (.iconst 0, 1) := by decide +kernel
theorem dX3_init_33 : decode cX3_init 33 = .ok (.bipush 8, 2) := by decide +kernel
theorem dX3_init_35 : decode cX3_init 35 = .ok (.iastore, 1) := by decide +kernel
theorem dX3_init_36 : decode cX3_init 36 = .ok (.dup, 1) := by decide +kernel
theorem dX3_init_37 : decode cX3_init 37 = .ok (.iconst 1, 1) := by decide +kernel
theorem dX3_init_38 : decode cX3_init 38 = .ok (.bipush 8, 2) := by decide +kernel
theorem dX3_init_40 : decode cX3_init 40 = .ok (.iastore, 1) := by decide +kernel
theorem dX3_init_41 : decode cX3_init 41 = .ok (.dup, 1) := by decide +kernel
theorem dX3_init_42 : decode cX3_init 42 = .ok (.iconst 2, 1) := by decide +kernel
theorem dX3_init_43 : decode cX3_init 43 = .ok (.bipush 8, 2) := by decide +kernel
theorem dX3_init_45 : decode cX3_init 45 = .ok (.iastore, 1) := by decide +kernel
theorem dX3_init_46 : decode cX3_init 46 = .ok (.putfield 15, 3) := by decide +kernel
theorem dX3_init_49 : decode cX3_init 49 = .ok (.aload_n 0, 1) := by decide +kernel
theorem dX3_init_50 : decode cX3_init 50 = .ok (.iconst 3, 1) := by decide +kernel
theorem dX3_init_51 : decode cX3_init 51 = .ok (.newarray .int, 2) := by decide +kernel
theorem dX3_init_53 : decode cX3_init 53 = .ok (.dup, 1) := by decide +kernel
theorem dX3_init_54 : decode cX3_init 54 = .ok (.iconst 0, 1) := by decide +kernel
theorem dX3_init_55 : decode cX3_init 55 = .ok (.iconst 0, 1) := by decide +kernel
theorem dX3_init_56 : decode cX3_init 56 = .ok (.iastore, 1) := by decide +kernel
theorem dX3_init_57 : decode cX3_init 57 = .ok (.dup, 1) := by decide +kernel
theorem dX3_init_58 : decode cX3_init 58 = .ok (.iconst 1, 1) := by decide +kernel
theorem dX3_init_59 : decode cX3_init 59 = .ok (.iconst 0, 1) := by decide +kernel
theorem dX3_init_60 : decode cX3_init 60 = .ok (.iastore, 1) := by decide +kernel
theorem dX3_init_61 : decode cX3_init 61 = .ok (.dup, 1) := by decide +kernel
theorem dX3_init_62 : decode cX3_init 62 = .ok (.iconst 2, 1) := by decide +kernel
theorem dX3_init_63 : decode cX3_init 63 = .ok (.iconst 0, 1) := by decide +kernel
theorem dX3_init_64 : decode cX3_init 64 = .ok (.iastore, 1) := by decide +kernel
theorem dX3_init_65 : decode cX3_init 65 = .ok (.putfield 18, 3) := by decide +kernel
theorem dX3_init_68 : decode cX3_init 68 = .ok (.aload_n 0, 1) := by decide +kernel
theorem dX3_init_69 : decode cX3_init 69 = .ok (.aload_n 1, 1) := by decide +kernel
theorem dX3_init_70 : decode cX3_init 70 = .ok (.putfield 21, 3) := by decide +kernel
theorem dX3_init_73 : decode cX3_init 73 = .ok (.aload_n 0, 1) := by decide +kernel
theorem dX3_init_74 : decode cX3_init 74 = .ok (.aload_n 2, 1) := by decide +kernel
theorem dX3_init_75 : decode cX3_init 75 = .ok (.putfield 25, 3) := by decide +kernel
theorem dX3_init_78 : decode cX3_init 78 = .ok (.return_, 1) := by decide +kernel
theorem dX3_lacksSomebody_0 : decode cX3_lacksSomebody 0 = .ok (.aload_n 0, 1) := by decide +kernel
theorem dX3_lacksSomebody_1 : decode cX3_lacksSomebody 1 = .ok (.getfield 9, 3) := by decide +kernel
theorem dX3_lacksSomebody_4 : decode cX3_lacksSomebody 4 = .ok (.astore_n 1, 1) := by decide +kernel
theorem dX3_lacksSomebody_5 : decode cX3_lacksSomebody 5 = .ok (.aload_n 1, 1) := by decide +kernel
theorem dX3_lacksSomebody_6 : decode cX3_lacksSomebody 6 = .ok (.arraylength, 1) := by decide +kernel
theorem dX3_lacksSomebody_7 : decode cX3_lacksSomebody 7 = .ok (.istore_n 2, 1) := by decide +kernel
theorem dX3_lacksSomebody_8 : decode cX3_lacksSomebody 8 = .ok (.iconst 0, 1) := by decide +kernel
theorem dX3_lacksSomebody_9 : decode cX3_lacksSomebody 9 = .ok (.istore_n 3, 1) := by decide +kernel
theorem dX3_lacksSomebody_10 : decode cX3_lacksSomebody 10 = .ok (.iload_n 3, 1) := by decide +kernel
theorem dX3_lacksSomebody_11 : decode cX3_lacksSomebody 11 = .ok (.iload_n 2, 1) := by decide +kernel
theorem dX3_lacksSomebody_12 : decode cX3_lacksSomebody 12 = .ok (.if_icmp .ge 28, 3) := by decide +kernel
theorem dX3_lacksSomebody_15 : decode cX3_lacksSomebody 15 = .ok (.aload_n 1, 1) := by decide +kernel
theorem dX3_lacksSomebody_16 : decode cX3_lacksSomebody 16 = .ok (.iload_n 3, 1) := by decide +kernel
theorem dX3_lacksSomebody_17 : decode cX3_lacksSomebody 17 = .ok (.iaload, 1) := by decide +kernel
theorem dX3_lacksSomebody_18 : decode cX3_lacksSomebody 18 = .ok (.istore 4, 2) := by decide +kernel
theorem dX3_lacksSomebody_20 : decode cX3_lacksSomebody 20 = .ok (.iload 4, 2) := by decide +kernel
theorem dX3_lacksSomebody_22 : decode cX3_lacksSomebody 22 = .ok (.aload_n 0, 1) := by decide +kernel
theorem dX3_lacksSomebody_23 : decode cX3_lacksSomebody 23 = .ok (.getfield 21, 3) := by decide +kernel
theorem dX3_lacksSomebody_26 : decode cX3_lacksSomebody 26 = .ok (.getfield 29, 3) := by decide +kernel
theorem dX3_lacksSomebody_29 : decode cX3_lacksSomebody 29 = .ok (.if_icmp .lt 5, 3) := by decide +kernel
theorem dX3_lacksSomebody_32 : decode cX3_lacksSomebody 32 = .ok (.iconst 1, 1) := by decide +kernel
theorem dX3_lacksSomebody_33 : decode cX3_lacksSomebody 33 = .ok (.ireturn, 1) := by decide +kernel
theorem dX3_lacksSomebody_34 : decode cX3_lacksSomebody 34 = .ok (.iinc 3 1, 3) := by decide +kernel
theorem dX3_lacksSomebody_37 : decode cX3_lacksSomebody 37 = .ok (.goto (-27), 3) := by decide +kernel
theorem dX3_lacksSomebody_40 : decode cX3_lacksSomebody 40 = .ok (.iconst 0, 1) := by decide +kernel
theorem dX3_lacksSomebody_41 : decode cX3_lacksSomebody 41 = .ok (.ireturn, 1) := by decide +kernel
theorem dX3_unlikeOnes_0 : decode cX3_unlikeOnes 0 = .ok (.iconst 0, 1) := by decide +kernel
theorem dX3_unlikeOnes_1 : decode cX3_unlikeOnes 1 = .ok (.istore_n 1, 1) := by decide +kernel
theorem dX3_unlikeOnes_2 : decode cX3_unlikeOnes 2 = .ok (.aload_n 0, 1) := by decide +kernel
theorem dX3_unlikeOnes_3 : decode cX3_unlikeOnes 3 = .ok (.getfield 9, 3) := by decide +kernel
theorem dX3_unlikeOnes_6 : decode cX3_unlikeOnes 6 = .ok (.astore_n 2, 1) := by decide +kernel
theorem dX3_unlikeOnes_7 : decode cX3_unlikeOnes 7 = .ok (.aload_n 2, 1) := by decide +kernel
theorem dX3_unlikeOnes_8 : decode cX3_unlikeOnes 8 = .ok (.arraylength, 1) := by decide +kernel
theorem dX3_unlikeOnes_9 : decode cX3_unlikeOnes 9 = .ok (.istore_n 3, 1) := by decide +kernel
theorem dX3_unlikeOnes_10 : decode cX3_unlikeOnes 10 = .ok (.iconst 0, 1) := by decide +kernel
theorem dX3_unlikeOnes_11 : decode cX3_unlikeOnes 11 = .ok (.istore 4, 2) := by decide +kernel
theorem dX3_unlikeOnes_13 : decode cX3_unlikeOnes 13 = .ok (.iload 4, 2) := by decide +kernel
theorem dX3_unlikeOnes_15 : decode cX3_unlikeOnes 15 = .ok (.iload_n 3, 1) := by decide +kernel
theorem dX3_unlikeOnes_16 : decode cX3_unlikeOnes 16 = .ok (.if_icmp .ge 22, 3) := by decide +kernel
theorem dX3_unlikeOnes_19 : decode cX3_unlikeOnes 19 = .ok (.aload_n 2, 1) := by decide +kernel
theorem dX3_unlikeOnes_20 : decode cX3_unlikeOnes 20 = .ok (.iload 4, 2) := by decide +kernel
theorem dX3_unlikeOnes_22 : decode cX3_unlikeOnes 22 = .ok (.iaload, 1) := by decide +kernel
theorem dX3_unlikeOnes_23 : decode cX3_unlikeOnes 23 = .ok (.istore 5, 2) := by decide +kernel
theorem dX3_unlikeOnes_25 : decode cX3_unlikeOnes 25 = .ok (.iload_n 1, 1) := by decide +kernel
theorem dX3_unlikeOnes_26 : decode cX3_unlikeOnes 26 = .ok (.iconst 1, 1) := by decide +kernel
theorem dX3_unlikeOnes_27 : decode cX3_unlikeOnes 27 = .ok (.iload 5, 2) := by decide +kernel
theorem dX3_unlikeOnes_29 : decode cX3_unlikeOnes 29 = .ok (.ishl, 1) := by decide +kernel
theorem dX3_unlikeOnes_30 : decode cX3_unlikeOnes 30 = .ok (.ior, 1) := by decide +kernel
theorem dX3_unlikeOnes_31 : decode cX3_unlikeOnes 31 = .ok (.istore_n 1, 1) := by decide +kernel
theorem dX3_unlikeOnes_32 : decode cX3_unlikeOnes 32 = .ok (.iinc 4 1, 3) := by decide +kernel
theorem dX3_unlikeOnes_35 : decode cX3_unlikeOnes 35 = .ok (.goto (-22), 3) := by decide +kernel
theorem dX3_unlikeOnes_38 : decode cX3_unlikeOnes 38 = .ok (.iload_n 1, 1) := by decide +kernel
theorem dX3_unlikeOnes_39 : decode cX3_unlikeOnes 39 = .ok (.invokestatic 35, 3) := by decide +kernel
theorem dX3_unlikeOnes_42 : decode cX3_unlikeOnes 42 = .ok (.ireturn, 1) := by decide +kernel
theorem dX3_offAt_0 : decode cX3_offAt 0 = .ok (.iconst 0, 1) := by decide +kernel
theorem dX3_offAt_1 : decode cX3_offAt 1 = .ok (.istore_n 2, 1) := by decide +kernel
theorem dX3_offAt_2 : decode cX3_offAt 2 = .ok (.iconst 0, 1) := by decide +kernel
theorem dX3_offAt_3 : decode cX3_offAt 3 = .ok (.istore_n 3, 1) := by decide +kernel
theorem dX3_offAt_4 : decode cX3_offAt 4 = .ok (.iload_n 3, 1) := by decide +kernel
theorem dX3_offAt_5 : decode cX3_offAt 5 = .ok (.iload_n 1, 1) := by decide +kernel
theorem dX3_offAt_6 : decode cX3_offAt 6 = .ok (.if_icmp .ge 38, 3) := by decide +kernel
theorem dX3_offAt_9 : decode cX3_offAt 9 = .ok (.iload_n 2, 1) := by decide +kernel
theorem dX3_offAt_10 : decode cX3_offAt 10 = .ok (.aload_n 0, 1) := by decide +kernel
theorem dX3_offAt_11 : decode cX3_offAt 11 = .ok (.getfield 25, 3) := by decide +kernel
theorem dX3_offAt_14 : decode cX3_offAt 14 = .ok (.iload_n 3, 1) := by decide +kernel
theorem dX3_offAt_15 : decode cX3_offAt 15 = .ok (.aload_n 0, 1) := by decide +kernel
theorem dX3_offAt_16 : decode cX3_offAt 16 = .ok (.getfield 9, 3) := by decide +kernel
theorem dX3_offAt_19 : decode cX3_offAt 19 = .ok (.iload_n 3, 1) := by decide +kernel
theorem dX3_offAt_20 : decode cX3_offAt 20 = .ok (.iaload, 1) := by decide +kernel
theorem dX3_offAt_21 : decode cX3_offAt 21 = .ok (.aload_n 0, 1) := by decide +kernel
theorem dX3_offAt_22 : decode cX3_offAt 22 = .ok (.getfield 15, 3) := by decide +kernel
theorem dX3_offAt_25 : decode cX3_offAt 25 = .ok (.iload_n 3, 1) := by decide +kernel
theorem dX3_offAt_26 : decode cX3_offAt 26 = .ok (.iaload, 1) := by decide +kernel
theorem dX3_offAt_27 : decode cX3_offAt 27 = .ok (.aload_n 0, 1) := by decide +kernel
theorem dX3_offAt_28 : decode cX3_offAt 28 = .ok (.getfield 18, 3) := by decide +kernel
theorem dX3_offAt_31 : decode cX3_offAt 31 = .ok (.iload_n 3, 1) := by decide +kernel
theorem dX3_offAt_32 : decode cX3_offAt 32 = .ok (.iaload, 1) := by decide +kernel
theorem dX3_offAt_33 : decode cX3_offAt 33 = .ok (.invokevirtual 41, 3) := by decide +kernel
theorem dX3_offAt_36 : decode cX3_offAt 36 = .ok (.iadd, 1) := by decide +kernel
theorem dX3_offAt_37 : decode cX3_offAt 37 = .ok (.istore_n 2, 1) := by decide +kernel
theorem dX3_offAt_38 : decode cX3_offAt 38 = .ok (.iinc 3 1, 3) := by decide +kernel
theorem dX3_offAt_41 : decode cX3_offAt 41 = .ok (.goto (-37), 3) := by decide +kernel
theorem dX3_offAt_44 : decode cX3_offAt 44 = .ok (.iload_n 2, 1) := by decide +kernel
theorem dX3_offAt_45 : decode cX3_offAt 45 = .ok (.ireturn, 1) := by decide +kernel
theorem dX3_meeting_0 : decode cX3_meeting 0 = .ok (.aload_n 0, 1) := by decide +kernel
theorem dX3_meeting_1 : decode cX3_meeting 1 = .ok (.getfield 25, 3) := by decide +kernel
theorem dX3_meeting_4 : decode cX3_meeting 4 = .ok (.iload_n 1, 1) := by decide +kernel
theorem dX3_meeting_5 : decode cX3_meeting 5 = .ok (.aload_n 0, 1) := by decide +kernel
theorem dX3_meeting_6 : decode cX3_meeting 6 = .ok (.getfield 9, 3) := by decide +kernel
theorem dX3_meeting_9 : decode cX3_meeting 9 = .ok (.iload_n 1, 1) := by decide +kernel
theorem dX3_meeting_10 : decode cX3_meeting 10 = .ok (.iaload, 1) := by decide +kernel
theorem dX3_meeting_11 : decode cX3_meeting 11 = .ok (.aload_n 0, 1) := by decide +kernel
theorem dX3_meeting_12 : decode cX3_meeting 12 = .ok (.getfield 9, 3) := by decide +kernel
theorem dX3_meeting_15 : decode cX3_meeting 15 = .ok (.iload_n 1, 1) := by decide +kernel
theorem dX3_meeting_16 : decode cX3_meeting 16 = .ok (.iconst 1, 1) := by decide +kernel
theorem dX3_meeting_17 : decode cX3_meeting 17 = .ok (.iadd, 1) := by decide +kernel
theorem dX3_meeting_18 : decode cX3_meeting 18 = .ok (.iaload, 1) := by decide +kernel
theorem dX3_meeting_19 : decode cX3_meeting 19 = .ok (.aload_n 0, 1) := by decide +kernel
theorem dX3_meeting_20 : decode cX3_meeting 20 = .ok (.getfield 15, 3) := by decide +kernel
theorem dX3_meeting_23 : decode cX3_meeting 23 = .ok (.iload_n 1, 1) := by decide +kernel
theorem dX3_meeting_24 : decode cX3_meeting 24 = .ok (.iaload, 1) := by decide +kernel
theorem dX3_meeting_25 : decode cX3_meeting 25 = .ok (.iload_n 2, 1) := by decide +kernel
theorem dX3_meeting_26 : decode cX3_meeting 26 = .ok (.invokevirtual 47, 3) := by decide +kernel
theorem dX3_meeting_29 : decode cX3_meeting 29 = .ok (.ireturn, 1) := by decide +kernel
theorem dX3_bestMark_0 : decode cX3_bestMark 0 = .ok (.aload_n 0, 1) := by decide +kernel
theorem dX3_bestMark_1 : decode cX3_bestMark 1 = .ok (.getfield 25, 3) := by decide +kernel
theorem dX3_bestMark_4 : decode cX3_bestMark 4 = .ok (.iload_n 1, 1) := by decide +kernel
theorem dX3_bestMark_5 : decode cX3_bestMark 5 = .ok (.aload_n 0, 1) := by decide +kernel
theorem dX3_bestMark_6 : decode cX3_bestMark 6 = .ok (.getfield 9, 3) := by decide +kernel
theorem dX3_bestMark_9 : decode cX3_bestMark 9 = .ok (.iload_n 1, 1) := by decide +kernel
theorem dX3_bestMark_10 : decode cX3_bestMark 10 = .ok (.iaload, 1) := by decide +kernel
theorem dX3_bestMark_11 : decode cX3_bestMark 11 = .ok (.aload_n 0, 1) := by decide +kernel
theorem dX3_bestMark_12 : decode cX3_bestMark 12 = .ok (.getfield 9, 3) := by decide +kernel
theorem dX3_bestMark_15 : decode cX3_bestMark 15 = .ok (.iload_n 1, 1) := by decide +kernel
theorem dX3_bestMark_16 : decode cX3_bestMark 16 = .ok (.iconst 1, 1) := by decide +kernel
theorem dX3_bestMark_17 : decode cX3_bestMark 17 = .ok (.iadd, 1) := by decide +kernel
theorem dX3_bestMark_18 : decode cX3_bestMark 18 = .ok (.iaload, 1) := by decide +kernel
theorem dX3_bestMark_19 : decode cX3_bestMark 19 = .ok (.aload_n 0, 1) := by decide +kernel
theorem dX3_bestMark_20 : decode cX3_bestMark 20 = .ok (.getfield 18, 3) := by decide +kernel
theorem dX3_bestMark_23 : decode cX3_bestMark 23 = .ok (.iload_n 1, 1) := by decide +kernel
theorem dX3_bestMark_24 : decode cX3_bestMark 24 = .ok (.iaload, 1) := by decide +kernel
theorem dX3_bestMark_25 : decode cX3_bestMark 25 = .ok (.invokevirtual 51, 3) := by decide +kernel
theorem dX3_bestMark_28 : decode cX3_bestMark 28 = .ok (.ireturn, 1) := by decide +kernel
theorem dX3_timeBy_0 : decode cX3_timeBy 0 = .ok (.iconst 0, 1) := by decide +kernel
theorem dX3_timeBy_1 : decode cX3_timeBy 1 = .ok (.istore_n 2, 1) := by decide +kernel
theorem dX3_timeBy_2 : decode cX3_timeBy 2 = .ok (.iconst 0, 1) := by decide +kernel
theorem dX3_timeBy_3 : decode cX3_timeBy 3 = .ok (.istore_n 3, 1) := by decide +kernel
theorem dX3_timeBy_4 : decode cX3_timeBy 4 = .ok (.iload_n 3, 1) := by decide +kernel
theorem dX3_timeBy_5 : decode cX3_timeBy 5 = .ok (.iconst 3, 1) := by decide +kernel
theorem dX3_timeBy_6 : decode cX3_timeBy 6 = .ok (.if_icmp .ge 55, 3) := by decide +kernel
theorem dX3_timeBy_9 : decode cX3_timeBy 9 = .ok (.aload_n 0, 1) := by decide +kernel
theorem dX3_timeBy_10 : decode cX3_timeBy 10 = .ok (.getfield 25, 3) := by decide +kernel
theorem dX3_timeBy_13 : decode cX3_timeBy 13 = .ok (.iload_n 3, 1) := by decide +kernel
theorem dX3_timeBy_14 : decode cX3_timeBy 14 = .ok (.aload_n 0, 1) := by decide +kernel
theorem dX3_timeBy_15 : decode cX3_timeBy 15 = .ok (.getfield 9, 3) := by decide +kernel
theorem dX3_timeBy_18 : decode cX3_timeBy 18 = .ok (.iload_n 3, 1) := by decide +kernel
theorem dX3_timeBy_19 : decode cX3_timeBy 19 = .ok (.iaload, 1) := by decide +kernel
theorem dX3_timeBy_20 : decode cX3_timeBy 20 = .ok (.aload_n 0, 1) := by decide +kernel
theorem dX3_timeBy_21 : decode cX3_timeBy 21 = .ok (.getfield 9, 3) := by decide +kernel
theorem dX3_timeBy_24 : decode cX3_timeBy 24 = .ok (.iload_n 3, 1) := by decide +kernel
theorem dX3_timeBy_25 : decode cX3_timeBy 25 = .ok (.iconst 1, 1) := by decide +kernel
theorem dX3_timeBy_26 : decode cX3_timeBy 26 = .ok (.iadd, 1) := by decide +kernel
theorem dX3_timeBy_27 : decode cX3_timeBy 27 = .ok (.iaload, 1) := by decide +kernel
theorem dX3_timeBy_28 : decode cX3_timeBy 28 = .ok (.aload_n 0, 1) := by decide +kernel
theorem dX3_timeBy_29 : decode cX3_timeBy 29 = .ok (.getfield 15, 3) := by decide +kernel
theorem dX3_timeBy_32 : decode cX3_timeBy 32 = .ok (.iload_n 3, 1) := by decide +kernel
theorem dX3_timeBy_33 : decode cX3_timeBy 33 = .ok (.iaload, 1) := by decide +kernel
theorem dX3_timeBy_34 : decode cX3_timeBy 34 = .ok (.aload_n 1, 1) := by decide +kernel
theorem dX3_timeBy_35 : decode cX3_timeBy 35 = .ok (.iload_n 3, 1) := by decide +kernel
theorem dX3_timeBy_36 : decode cX3_timeBy 36 = .ok (.iaload, 1) := by decide +kernel
theorem dX3_timeBy_37 : decode cX3_timeBy 37 = .ok (.invokevirtual 54, 3) := by decide +kernel
theorem dX3_timeBy_40 : decode cX3_timeBy 40 = .ok (.istore 4, 2) := by decide +kernel
theorem dX3_timeBy_42 : decode cX3_timeBy 42 = .ok (.iload 4, 2) := by decide +kernel
theorem dX3_timeBy_44 : decode cX3_timeBy 44 = .ok (.iconst (-1), 1) := by decide +kernel
theorem dX3_timeBy_45 : decode cX3_timeBy 45 = .ok (.if_icmp .ne 5, 3) := by decide +kernel
theorem dX3_timeBy_48 : decode cX3_timeBy 48 = .ok (.iconst (-1), 1) := by decide +kernel
theorem dX3_timeBy_49 : decode cX3_timeBy 49 = .ok (.ireturn, 1) := by decide +kernel
theorem dX3_timeBy_50 : decode cX3_timeBy 50 = .ok (.iload_n 2, 1) := by decide +kernel
theorem dX3_timeBy_51 : decode cX3_timeBy 51 = .ok (.iload 4, 2) := by decide +kernel
theorem dX3_timeBy_53 : decode cX3_timeBy 53 = .ok (.iadd, 1) := by decide +kernel
theorem dX3_timeBy_54 : decode cX3_timeBy 54 = .ok (.istore_n 2, 1) := by decide +kernel
theorem dX3_timeBy_55 : decode cX3_timeBy 55 = .ok (.iinc 3 1, 3) := by decide +kernel
theorem dX3_timeBy_58 : decode cX3_timeBy 58 = .ok (.goto (-54), 3) := by decide +kernel
theorem dX3_timeBy_61 : decode cX3_timeBy 61 = .ok (.iload_n 2, 1) := by decide +kernel
theorem dX3_timeBy_62 : decode cX3_timeBy 62 = .ok (.aload_n 0, 1) := by decide +kernel
theorem dX3_timeBy_63 : decode cX3_timeBy 63 = .ok (.getfield 25, 3) := by decide +kernel
theorem dX3_timeBy_66 : decode cX3_timeBy 66 = .ok (.aload_n 0, 1) := by decide +kernel
theorem dX3_timeBy_67 : decode cX3_timeBy 67 = .ok (.getfield 9, 3) := by decide +kernel
theorem dX3_timeBy_70 : decode cX3_timeBy 70 = .ok (.iconst 3, 1) := by decide +kernel
theorem dX3_timeBy_71 : decode cX3_timeBy 71 = .ok (.iaload, 1) := by decide +kernel
theorem dX3_timeBy_72 : decode cX3_timeBy 72 = .ok (.iconst 3, 1) := by decide +kernel
theorem dX3_timeBy_73 : decode cX3_timeBy 73 = .ok (.bipush 100, 2) := by decide +kernel
theorem dX3_timeBy_75 : decode cX3_timeBy 75 = .ok (.invokevirtual 57, 3) := by decide +kernel
theorem dX3_timeBy_78 : decode cX3_timeBy 78 = .ok (.iadd, 1) := by decide +kernel
theorem dX3_timeBy_79 : decode cX3_timeBy 79 = .ok (.ireturn, 1) := by decide +kernel
theorem dX3_carried_0 : decode cX3_carried 0 = .ok (.iload_n 1, 1) := by decide +kernel
theorem dX3_carried_1 : decode cX3_carried 1 = .ok (.ifCond .ne 7, 3) := by decide +kernel
theorem dX3_carried_4 : decode cX3_carried 4 = .ok (.iconst 0, 1) := by decide +kernel
theorem dX3_carried_5 : decode cX3_carried 5 = .ok (.goto 18, 3) := by decide +kernel
theorem dX3_carried_8 : decode cX3_carried 8 = .ok (.aload_n 0, 1) := by decide +kernel
theorem dX3_carried_9 : decode cX3_carried 9 = .ok (.iload_n 1, 1) := by decide +kernel
theorem dX3_carried_10 : decode cX3_carried 10 = .ok (.iconst 1, 1) := by decide +kernel
theorem dX3_carried_11 : decode cX3_carried 11 = .ok (.isub, 1) := by decide +kernel
theorem dX3_carried_12 : decode cX3_carried 12 = .ok (.aload_n 0, 1) := by decide +kernel
theorem dX3_carried_13 : decode cX3_carried 13 = .ok (.getfield 18, 3) := by decide +kernel
theorem dX3_carried_16 : decode cX3_carried 16 = .ok (.iload_n 1, 1) := by decide +kernel
theorem dX3_carried_17 : decode cX3_carried 17 = .ok (.iconst 1, 1) := by decide +kernel
theorem dX3_carried_18 : decode cX3_carried 18 = .ok (.isub, 1) := by decide +kernel
theorem dX3_carried_19 : decode cX3_carried 19 = .ok (.iaload, 1) := by decide +kernel
theorem dX3_carried_20 : decode cX3_carried 20 = .ok (.invokevirtual 61, 3) := by decide +kernel
theorem dX3_carried_23 : decode cX3_carried 23 = .ok (.istore_n 2, 1) := by decide +kernel
theorem dX3_carried_24 : decode cX3_carried 24 = .ok (.iload_n 1, 1) := by decide +kernel
theorem dX3_carried_25 : decode cX3_carried 25 = .ok (.iconst 3, 1) := by decide +kernel
theorem dX3_carried_26 : decode cX3_carried 26 = .ok (.if_icmp .ne 7, 3) := by decide +kernel
theorem dX3_carried_29 : decode cX3_carried 29 = .ok (.iconst 0, 1) := by decide +kernel
theorem dX3_carried_30 : decode cX3_carried 30 = .ok (.goto 14, 3) := by decide +kernel
theorem dX3_carried_33 : decode cX3_carried 33 = .ok (.aload_n 0, 1) := by decide +kernel
theorem dX3_carried_34 : decode cX3_carried 34 = .ok (.iload_n 1, 1) := by decide +kernel
theorem dX3_carried_35 : decode cX3_carried 35 = .ok (.aload_n 0, 1) := by decide +kernel
theorem dX3_carried_36 : decode cX3_carried 36 = .ok (.getfield 18, 3) := by decide +kernel
theorem dX3_carried_39 : decode cX3_carried 39 = .ok (.iload_n 1, 1) := by decide +kernel
theorem dX3_carried_40 : decode cX3_carried 40 = .ok (.iaload, 1) := by decide +kernel
theorem dX3_carried_41 : decode cX3_carried 41 = .ok (.invokevirtual 61, 3) := by decide +kernel
theorem dX3_carried_44 : decode cX3_carried 44 = .ok (.istore_n 3, 1) := by decide +kernel
theorem dX3_carried_45 : decode cX3_carried 45 = .ok (.iload_n 2, 1) := by decide +kernel
theorem dX3_carried_46 : decode cX3_carried 46 = .ok (.iconst (-1), 1) := by decide +kernel
theorem dX3_carried_47 : decode cX3_carried 47 = .ok (.if_icmp .eq 8, 3) := by decide +kernel
theorem dX3_carried_50 : decode cX3_carried 50 = .ok (.iload_n 3, 1) := by decide +kernel
theorem dX3_carried_51 : decode cX3_carried 51 = .ok (.iconst (-1), 1) := by decide +kernel
theorem dX3_carried_52 : decode cX3_carried 52 = .ok (.if_icmp .ne 7, 3) := by decide +kernel
theorem dX3_carried_55 : decode cX3_carried 55 = .ok (.iconst (-1), 1) := by decide +kernel
theorem dX3_carried_56 : decode cX3_carried 56 = .ok (.goto 9, 3) := by decide +kernel
theorem dX3_carried_59 : decode cX3_carried 59 = .ok (.bipush 100, 2) := by decide +kernel
theorem dX3_carried_61 : decode cX3_carried 61 = .ok (.iload_n 3, 1) := by decide +kernel
theorem dX3_carried_62 : decode cX3_carried 62 = .ok (.iadd, 1) := by decide +kernel
theorem dX3_carried_63 : decode cX3_carried 63 = .ok (.iload_n 2, 1) := by decide +kernel
theorem dX3_carried_64 : decode cX3_carried 64 = .ok (.isub, 1) := by decide +kernel
theorem dX3_carried_65 : decode cX3_carried 65 = .ok (.ireturn, 1) := by decide +kernel
theorem dX4_init_0 : decode cX4_init 0 = .ok (.aload_n 0, 1) := by decide +kernel
theorem dX4_init_1 : decode cX4_init 1 = .ok (.invokespecial 3, 3) := by decide +kernel
theorem dX4_init_4 : decode cX4_init 4 = .ok (.aload_n 0, 1) := by decide +kernel
theorem dX4_init_5 : decode cX4_init 5 = .ok (.bipush 40, 2) := by decide +kernel
theorem dX4_init_7 : decode cX4_init 7 = .ok (.newarray .int, 2) := by decide +kernel
theorem dX4_init_9 : decode cX4_init 9 = .ok (.putfield 11, 3) := by decide +kernel
theorem dX4_init_12 : decode cX4_init 12 = .ok (.aload_n 0, 1) := by decide +kernel
theorem dX4_init_13 : decode cX4_init 13 = .ok (.iconst 5, 1) := by decide +kernel
theorem dX4_init_14 : decode cX4_init 14 = .ok (.newarray .int, 2) := by decide +kernel
theorem dX4_init_16 : decode cX4_init 16 = .ok (.putfield 15, 3) := by decide +kernel
theorem dX4_init_19 : decode cX4_init 19 = .ok (.aload_n 0, 1) := by decide +kernel
theorem dX4_init_20 : decode cX4_init 20 = .ok (.iconst 5, 1) := by decide +kernel
theorem dX4_init_21 : decode cX4_init 21 = .ok (.newarray .int, 2) := by decide +kernel
theorem dX4_init_23 : decode cX4_init 23 = .ok (.putfield 18, 3) := by decide +kernel
theorem dX4_init_26 : decode cX4_init 26 = .ok (.aload_n 0, 1) := by decide +kernel
theorem dX4_init_27 : decode cX4_init 27 = .ok (.iconst 5, 1) := by decide +kernel
theorem dX4_init_28 : decode cX4_init 28 = .ok (.newarray .int, 2) := by decide +kernel
theorem dX4_init_30 : decode cX4_init 30 = .ok (.putfield 21, 3) := by decide +kernel
theorem dX4_init_33 : decode cX4_init 33 = .ok (.aload_n 0, 1) := by decide +kernel
theorem dX4_init_34 : decode cX4_init 34 = .ok (.iconst 5, 1) := by decide +kernel
theorem dX4_init_35 : decode cX4_init 35 = .ok (.newarray .int, 2) := by decide +kernel
theorem dX4_init_37 : decode cX4_init 37 = .ok (.putfield 24, 3) := by decide +kernel
theorem dX4_init_40 : decode cX4_init 40 = .ok (.aload_n 0, 1) := by decide +kernel
theorem dX4_init_41 : decode cX4_init 41 = .ok (.iconst 0, 1) := by decide +kernel
theorem dX4_init_42 : decode cX4_init 42 = .ok (.putfield 27, 3) := by decide +kernel
theorem dX4_init_45 : decode cX4_init 45 = .ok (.aload_n 0, 1) := by decide +kernel
theorem dX4_init_46 : decode cX4_init 46 = .ok (.iconst (-1), 1) := by decide +kernel
theorem dX4_init_47 : decode cX4_init 47 = .ok (.putfield 31, 3) := by decide +kernel
theorem dX4_init_50 : decode cX4_init 50 = .ok (.aload_n 0, 1) := by decide +kernel
theorem dX4_init_51 : decode cX4_init 51 = .ok (.iconst 0, 1) := by decide +kernel
theorem dX4_init_52 : decode cX4_init 52 = .ok (.putfield 34, 3) := by decide +kernel
theorem dX4_init_55 : decode cX4_init 55 = .ok (.return_, 1) := by decide +kernel
theorem dX4_append_0 : decode cX4_append 0 = .ok (.aload_n 0, 1) := by decide +kernel
theorem dX4_append_1 : decode cX4_append 1 = .ok (.getfield 27, 3) := by decide +kernel
theorem dX4_append_4 : decode cX4_append 4 = .ok (.bipush 40, 2) := by decide +kernel
theorem dX4_append_6 : decode cX4_append 6 = .ok (.if_icmp .lt 5, 3) := by decide +kernel
theorem dX4_append_9 : decode cX4_append 9 = .ok (.iconst 0, 1) := by decide +kernel
theorem dX4_append_10 : decode cX4_append 10 = .ok (.ireturn, 1) := by decide +kernel
theorem dX4_append_11 : decode cX4_append 11 = .ok (.aload_n 0, 1) := by decide +kernel
theorem dX4_append_12 : decode cX4_append 12 = .ok (.getfield 11, 3) := by decide +kernel
theorem dX4_append_15 : decode cX4_append 15 = .ok (.aload_n 0, 1) := by decide +kernel
theorem dX4_append_16 : decode cX4_append 16 = .ok (.getfield 27, 3) := by decide +kernel
theorem dX4_append_19 : decode cX4_append 19 = .ok (.iload_n 1, 1) := by decide +kernel
theorem dX4_append_20 : decode cX4_append 20 = .ok (.iastore, 1) := by decide +kernel
theorem dX4_append_21 : decode cX4_append 21 = .ok (.aload_n 0, 1) := by decide +kernel
theorem dX4_append_22 : decode cX4_append 22 = .ok (.dup, 1) := by decide +kernel
theorem dX4_append_23 : decode cX4_append 23 = .ok (.getfield 27, 3) := by decide +kernel
theorem dX4_append_26 : decode cX4_append 26 = .ok (.iconst 1, 1) := by decide +kernel
theorem dX4_append_27 : decode cX4_append 27 = .ok (.iadd, 1) := by decide +kernel
theorem dX4_append_28 : decode cX4_append 28 = .ok (.putfield 27, 3) := by decide +kernel
theorem dX4_append_31 : decode cX4_append 31 = .ok (.aload_n 0, 1) := by decide +kernel
theorem dX4_append_32 : decode cX4_append 32 = .ok (.invokevirtual 37, 3) := by decide +kernel
theorem dX4_append_35 : decode cX4_append 35 = .ok (.iconst 1, 1) := by decide +kernel
theorem dX4_append_36 : decode cX4_append 36 = .ok (.ireturn, 1) := by decide +kernel
theorem dX4_dropLast_0 : decode cX4_dropLast 0 = .ok (.aload_n 0, 1) := by decide +kernel
theorem dX4_dropLast_1 : decode cX4_dropLast 1 = .ok (.getfield 27, 3) := by decide +kernel
theorem dX4_dropLast_4 : decode cX4_dropLast 4 = .ok (.ifCond .ne 5, 3) := by decide +kernel
theorem dX4_dropLast_7 : decode cX4_dropLast 7 = .ok (.iconst 0, 1) := by decide +kernel
theorem dX4_dropLast_8 : decode cX4_dropLast 8 = .ok (.ireturn, 1) := by decide +kernel
theorem dX4_dropLast_9 : decode cX4_dropLast 9 = .ok (.aload_n 0, 1) := by decide +kernel
theorem dX4_dropLast_10 : decode cX4_dropLast 10 = .ok (.dup, 1) := by decide +kernel
theorem dX4_dropLast_11 : decode cX4_dropLast 11 = .ok (.getfield 27, 3) := by decide +kernel
theorem dX4_dropLast_14 : decode cX4_dropLast 14 = .ok (.iconst 1, 1) := by decide +kernel
theorem dX4_dropLast_15 : decode cX4_dropLast 15 = .ok (.isub, 1) := by decide +kernel
theorem dX4_dropLast_16 : decode cX4_dropLast 16 = .ok (.putfield 27, 3) := by decide +kernel
theorem dX4_dropLast_19 : decode cX4_dropLast 19 = .ok (.aload_n 0, 1) := by decide +kernel
theorem dX4_dropLast_20 : decode cX4_dropLast 20 = .ok (.invokevirtual 37, 3) := by decide +kernel
theorem dX4_dropLast_23 : decode cX4_dropLast 23 = .ok (.iconst 1, 1) := by decide +kernel
theorem dX4_dropLast_24 : decode cX4_dropLast 24 = .ok (.ireturn, 1) := by decide +kernel
theorem dX4_clear_0 : decode cX4_clear 0 = .ok (.aload_n 0, 1) := by decide +kernel
theorem dX4_clear_1 : decode cX4_clear 1 = .ok (.getfield 27, 3) := by decide +kernel
theorem dX4_clear_4 : decode cX4_clear 4 = .ok (.istore_n 1, 1) := by decide +kernel
theorem dX4_clear_5 : decode cX4_clear 5 = .ok (.aload_n 0, 1) := by decide +kernel
theorem dX4_clear_6 : decode cX4_clear 6 = .ok (.iconst 0, 1) := by decide +kernel
theorem dX4_clear_7 : decode cX4_clear 7 = .ok (.putfield 27, 3) := by decide +kernel
theorem dX4_clear_10 : decode cX4_clear 10 = .ok (.aload_n 0, 1) := by decide +kernel
theorem dX4_clear_11 : decode cX4_clear 11 = .ok (.invokevirtual 37, 3) := by decide +kernel
theorem dX4_clear_14 : decode cX4_clear 14 = .ok (.iload_n 1, 1) := by decide +kernel
theorem dX4_clear_15 : decode cX4_clear 15 = .ok (.ireturn, 1) := by decide +kernel
theorem dX4_figure_0 : decode cX4_figure 0 = .ok (.iload_n 2, 1) := by decide +kernel
theorem dX4_figure_1 : decode cX4_figure 1 = .ok (.tableswitch 48 0 2 #[27, 34, 41], 27) := by decide +kernel
theorem dX4_figure_28 : decode cX4_figure 28 = .ok (.aload_n 0, 1) := by decide +kernel
theorem dX4_figure_29 : decode cX4_figure 29 = .ok (.getfield 15, 3) := by decide +kernel
theorem dX4_figure_32 : decode cX4_figure 32 = .ok (.iload_n 1, 1) := by decide +kernel
theorem dX4_figure_33 : decode cX4_figure 33 = .ok (.iaload, 1) := by decide +kernel
theorem dX4_figure_34 : decode cX4_figure 34 = .ok (.ireturn, 1) := by decide +kernel
theorem dX4_figure_35 : decode cX4_figure 35 = .ok (.aload_n 0, 1) := by decide +kernel
theorem dX4_figure_36 : decode cX4_figure 36 = .ok (.getfield 18, 3) := by decide +kernel
theorem dX4_figure_39 : decode cX4_figure 39 = .ok (.iload_n 1, 1) := by decide +kernel
theorem dX4_figure_40 : decode cX4_figure 40 = .ok (.iaload, 1) := by decide +kernel
theorem dX4_figure_41 : decode cX4_figure 41 = .ok (.ireturn, 1) := by decide +kernel
theorem dX4_figure_42 : decode cX4_figure 42 = .ok (.aload_n 0, 1) := by decide +kernel
theorem dX4_figure_43 : decode cX4_figure 43 = .ok (.getfield 21, 3) := by decide +kernel
theorem dX4_figure_46 : decode cX4_figure 46 = .ok (.iload_n 1, 1) := by decide +kernel
theorem dX4_figure_47 : decode cX4_figure 47 = .ok (.iaload, 1) := by decide +kernel
theorem dX4_figure_48 : decode cX4_figure 48 = .ok (.ireturn, 1) := by decide +kernel
theorem dX4_figure_49 : decode cX4_figure 49 = .ok (.aload_n 0, 1) := by decide +kernel
theorem dX4_figure_50 : decode cX4_figure 50 = .ok (.getfield 24, 3) := by decide +kernel
theorem dX4_figure_53 : decode cX4_figure 53 = .ok (.iload_n 1, 1) := by decide +kernel
theorem dX4_figure_54 : decode cX4_figure 54 = .ok (.iaload, 1) := by decide +kernel
theorem dX4_figure_55 : decode cX4_figure 55 = .ok (.ireturn, 1) := by decide +kernel
theorem dX4_scan_0 : decode cX4_scan 0 = .ok (.iconst 0, 1) := by decide +kernel
theorem dX4_scan_1 : decode cX4_scan 1 = .ok (.istore_n 1, 1) := by decide +kernel
theorem dX4_scan_2 : decode cX4_scan 2 = .ok (.iload_n 1, 1) := by decide +kernel
theorem dX4_scan_3 : decode cX4_scan 3 = .ok (.aload_n 0, 1) := by decide +kernel
theorem dX4_scan_4 : decode cX4_scan 4 = .ok (.getfield 27, 3) := by decide +kernel
theorem dX4_scan_7 : decode cX4_scan 7 = .ok (.if_icmp .ge 17, 3) := by decide +kernel
theorem dX4_scan_10 : decode cX4_scan 10 = .ok (.aload_n 0, 1) := by decide +kernel
theorem dX4_scan_11 : decode cX4_scan 11 = .ok (.iload_n 1, 1) := by decide +kernel
theorem dX4_scan_12 : decode cX4_scan 12 = .ok (.invokevirtual 40, 3) := by decide +kernel
theorem dX4_scan_15 : decode cX4_scan 15 = .ok (.ifCond .eq 9, 3) := by decide +kernel
theorem dX4_scan_18 : decode cX4_scan 18 = .ok (.iinc 1 1, 3) := by decide +kernel
theorem dX4_scan_21 : decode cX4_scan 21 = .ok (.goto (-19), 3) := by decide +kernel
theorem dX4_scan_24 : decode cX4_scan 24 = .ok (.aload_n 0, 1) := by decide +kernel
theorem dX4_scan_25 : decode cX4_scan 25 = .ok (.getfield 27, 3) := by decide +kernel
theorem dX4_scan_28 : decode cX4_scan 28 = .ok (.ifCond .eq 15, 3) := by decide +kernel
theorem dX4_scan_31 : decode cX4_scan 31 = .ok (.aload_n 0, 1) := by decide +kernel
theorem dX4_scan_32 : decode cX4_scan 32 = .ok (.getfield 27, 3) := by decide +kernel
theorem dX4_scan_35 : decode cX4_scan 35 = .ok (.bipush 7, 2) := by decide +kernel
theorem dX4_scan_37 : decode cX4_scan 37 = .ok (.irem, 1) := by decide +kernel
theorem dX4_scan_38 : decode cX4_scan 38 = .ok (.bipush 6, 2) := by decide +kernel
theorem dX4_scan_40 : decode cX4_scan 40 = .ok (.if_icmp .ne 7, 3) := by decide +kernel
theorem dX4_scan_43 : decode cX4_scan 43 = .ok (.iconst 1, 1) := by decide +kernel
theorem dX4_scan_44 : decode cX4_scan 44 = .ok (.goto 4, 3) := by decide +kernel
theorem dX4_scan_47 : decode cX4_scan 47 = .ok (.iconst 0, 1) := by decide +kernel
theorem dX4_scan_48 : decode cX4_scan 48 = .ok (.istore_n 2, 1) := by decide +kernel
theorem dX4_scan_49 : decode cX4_scan 49 = .ok (.aload_n 0, 1) := by decide +kernel
theorem dX4_scan_50 : decode cX4_scan 50 = .ok (.iload_n 1, 1) := by decide +kernel
theorem dX4_scan_51 : decode cX4_scan 51 = .ok (.aload_n 0, 1) := by decide +kernel
theorem dX4_scan_52 : decode cX4_scan 52 = .ok (.getfield 27, 3) := by decide +kernel
theorem dX4_scan_55 : decode cX4_scan 55 = .ok (.if_icmp .ne 11, 3) := by decide +kernel
theorem dX4_scan_58 : decode cX4_scan 58 = .ok (.iload_n 2, 1) := by decide +kernel
theorem dX4_scan_59 : decode cX4_scan 59 = .ok (.ifCond .eq 7, 3) := by decide +kernel
theorem dX4_scan_62 : decode cX4_scan 62 = .ok (.iconst (-1), 1) := by decide +kernel
theorem dX4_scan_63 : decode cX4_scan 63 = .ok (.goto 4, 3) := by decide +kernel
theorem dX4_scan_66 : decode cX4_scan 66 = .ok (.iload_n 1, 1) := by decide +kernel
theorem dX4_scan_67 : decode cX4_scan 67 = .ok (.putfield 31, 3) := by decide +kernel
theorem dX4_scan_70 : decode cX4_scan 70 = .ok (.aload_n 0, 1) := by decide +kernel
theorem dX4_scan_71 : decode cX4_scan 71 = .ok (.aload_n 0, 1) := by decide +kernel
theorem dX4_scan_72 : decode cX4_scan 72 = .ok (.getfield 31, 3) := by decide +kernel
theorem dX4_scan_75 : decode cX4_scan 75 = .ok (.iconst (-1), 1) := by decide +kernel
theorem dX4_scan_76 : decode cX4_scan 76 = .ok (.if_icmp .ne 15, 3) := by decide +kernel
theorem dX4_scan_79 : decode cX4_scan 79 = .ok (.aload_n 0, 1) := by decide +kernel
theorem dX4_scan_80 : decode cX4_scan 80 = .ok (.getfield 27, 3) := by decide +kernel
theorem dX4_scan_83 : decode cX4_scan 83 = .ok (.iconst 1, 1) := by decide +kernel
theorem dX4_scan_84 : decode cX4_scan 84 = .ok (.iadd, 1) := by decide +kernel
theorem dX4_scan_85 : decode cX4_scan 85 = .ok (.bipush 7, 2) := by decide +kernel
theorem dX4_scan_87 : decode cX4_scan 87 = .ok (.idiv, 1) := by decide +kernel
theorem dX4_scan_88 : decode cX4_scan 88 = .ok (.goto 4, 3) := by decide +kernel
theorem dX4_scan_91 : decode cX4_scan 91 = .ok (.iconst 0, 1) := by decide +kernel
theorem dX4_scan_92 : decode cX4_scan 92 = .ok (.putfield 34, 3) := by decide +kernel
theorem dX4_scan_95 : decode cX4_scan 95 = .ok (.iconst 0, 1) := by decide +kernel
theorem dX4_scan_96 : decode cX4_scan 96 = .ok (.istore_n 3, 1) := by decide +kernel
theorem dX4_scan_97 : decode cX4_scan 97 = .ok (.iload_n 3, 1) := by decide +kernel
theorem dX4_scan_98 : decode cX4_scan 98 = .ok (.aload_n 0, 1) := by decide +kernel
theorem dX4_scan_99 : decode cX4_scan 99 = .ok (.getfield 34, 3) := by decide +kernel
theorem dX4_scan_102 : decode cX4_scan 102 = .ok (.if_icmp .ge 14, 3) := by decide +kernel
theorem dX4_scan_105 : decode cX4_scan 105 = .ok (.aload_n 0, 1) := by decide +kernel
theorem dX4_scan_106 : decode cX4_scan 106 = .ok (.iload_n 3, 1) := by decide +kernel
theorem dX4_scan_107 : decode cX4_scan 107 = .ok (.invokevirtual 44, 3) := by decide +kernel
theorem dX4_scan_110 : decode cX4_scan 110 = .ok (.iinc 3 1, 3) := by decide +kernel
theorem dX4_scan_113 : decode cX4_scan 113 = .ok (.goto (-16), 3) := by decide +kernel
theorem dX4_scan_116 : decode cX4_scan 116 = .ok (.return_, 1) := by decide +kernel
theorem dX4_canGoOn_0 : decode cX4_canGoOn 0 = .ok (.iload_n 1, 1) := by decide +kernel
theorem dX4_canGoOn_1 : decode cX4_canGoOn 1 = .ok (.bipush 7, 2) := by decide +kernel
theorem dX4_canGoOn_3 : decode cX4_canGoOn 3 = .ok (.idiv, 1) := by decide +kernel
theorem dX4_canGoOn_4 : decode cX4_canGoOn 4 = .ok (.iconst 5, 1) := by decide +kernel
theorem dX4_canGoOn_5 : decode cX4_canGoOn 5 = .ok (.if_icmp .lt 5, 3) := by decide +kernel
theorem dX4_canGoOn_8 : decode cX4_canGoOn 8 = .ok (.iconst 0, 1) := by decide +kernel
theorem dX4_canGoOn_9 : decode cX4_canGoOn 9 = .ok (.ireturn, 1) := by decide +kernel
theorem dX4_canGoOn_10 : decode cX4_canGoOn 10 = .ok (.aload_n 0, 1) := by decide +kernel
theorem dX4_canGoOn_11 : decode cX4_canGoOn 11 = .ok (.getfield 11, 3) := by decide +kernel
theorem dX4_canGoOn_14 : decode cX4_canGoOn 14 = .ok (.iload_n 1, 1) := by decide +kernel
theorem dX4_canGoOn_15 : decode cX4_canGoOn 15 = .ok (.iaload, 1) := by decide +kernel
theorem dX4_canGoOn_16 : decode cX4_canGoOn 16 = .ok (.istore_n 2, 1) := by decide +kernel
theorem dX4_canGoOn_17 : decode cX4_canGoOn 17 = .ok (.iload_n 1, 1) := by decide +kernel
theorem dX4_canGoOn_18 : decode cX4_canGoOn 18 = .ok (.bipush 7, 2) := by decide +kernel
theorem dX4_canGoOn_20 : decode cX4_canGoOn 20 = .ok (.irem, 1) := by decide +kernel
theorem dX4_canGoOn_21 : decode cX4_canGoOn 21 = .ok (.istore_n 3, 1) := by decide +kernel
theorem dX4_canGoOn_22 : decode cX4_canGoOn 22 = .ok (.iload_n 3, 1) := by decide +kernel
theorem dX4_canGoOn_23 : decode cX4_canGoOn 23 = .ok (.bipush 6, 2) := by decide +kernel
theorem dX4_canGoOn_25 : decode cX4_canGoOn 25 = .ok (.if_icmp .ne 15, 3) := by decide +kernel
theorem dX4_canGoOn_28 : decode cX4_canGoOn 28 = .ok (.iload_n 2, 1) := by decide +kernel
theorem dX4_canGoOn_29 : decode cX4_canGoOn 29 = .ok (.bipush 59, 2) := by decide +kernel
theorem dX4_canGoOn_31 : decode cX4_canGoOn 31 = .ok (.if_icmp .ne 7, 3) := by decide +kernel
theorem dX4_canGoOn_34 : decode cX4_canGoOn 34 = .ok (.iconst 1, 1) := by decide +kernel
theorem dX4_canGoOn_35 : decode cX4_canGoOn 35 = .ok (.goto 4, 3) := by decide +kernel
theorem dX4_canGoOn_38 : decode cX4_canGoOn 38 = .ok (.iconst 0, 1) := by decide +kernel
theorem dX4_canGoOn_39 : decode cX4_canGoOn 39 = .ok (.ireturn, 1) := by decide +kernel
theorem dX4_canGoOn_40 : decode cX4_canGoOn 40 = .ok (.iload_n 2, 1) := by decide +kernel
theorem dX4_canGoOn_41 : decode cX4_canGoOn 41 = .ok (.bipush 48, 2) := by decide +kernel
theorem dX4_canGoOn_43 : decode cX4_canGoOn 43 = .ok (.bipush 57, 2) := by decide +kernel
theorem dX4_canGoOn_45 : decode cX4_canGoOn 45 = .ok (.invokestatic 48, 3) := by decide +kernel
theorem dX4_canGoOn_48 : decode cX4_canGoOn 48 = .ok (.ifCond .eq 5, 3) := by decide +kernel
theorem dX4_canGoOn_51 : decode cX4_canGoOn 51 = .ok (.iconst 0, 1) := by decide +kernel
theorem dX4_canGoOn_52 : decode cX4_canGoOn 52 = .ok (.ireturn, 1) := by decide +kernel
theorem dX4_canGoOn_53 : decode cX4_canGoOn 53 = .ok (.iload_n 3, 1) := by decide +kernel
theorem dX4_canGoOn_54 : decode cX4_canGoOn 54 = .ok (.tableswitch 91 1 5 #[34, 91, 50, 91, 73], 34) := by decide +kernel
theorem dX4_canGoOn_88 : decode cX4_canGoOn 88 = .ok (.aload_n 0, 1) := by decide +kernel
theorem dX4_canGoOn_89 : decode cX4_canGoOn 89 = .ok (.iload_n 1, 1) := by decide +kernel
theorem dX4_canGoOn_90 : decode cX4_canGoOn 90 = .ok (.iconst 1, 1) := by decide +kernel
theorem dX4_canGoOn_91 : decode cX4_canGoOn 91 = .ok (.isub, 1) := by decide +kernel
theorem dX4_canGoOn_92 : decode cX4_canGoOn 92 = .ok (.invokevirtual 52, 3) := by decide +kernel
theorem dX4_canGoOn_95 : decode cX4_canGoOn 95 = .ok (.ifCond .le 7, 3) := by decide +kernel
theorem dX4_canGoOn_98 : decode cX4_canGoOn 98 = .ok (.iconst 1, 1) := by decide +kernel
theorem dX4_canGoOn_99 : decode cX4_canGoOn 99 = .ok (.goto 4, 3) := by decide +kernel
theorem dX4_canGoOn_102 : decode cX4_canGoOn 102 = .ok (.iconst 0, 1) := by decide +kernel
theorem dX4_canGoOn_103 : decode cX4_canGoOn 103 = .ok (.ireturn, 1) := by decide +kernel
theorem dX4_canGoOn_104 : decode cX4_canGoOn 104 = .ok (.aload_n 0, 1) := by decide +kernel
theorem dX4_canGoOn_105 : decode cX4_canGoOn 105 = .ok (.iload_n 1, 1) := by decide +kernel
theorem dX4_canGoOn_106 : decode cX4_canGoOn 106 = .ok (.iconst 1, 1) := by decide +kernel
theorem dX4_canGoOn_107 : decode cX4_canGoOn 107 = .ok (.isub, 1) := by decide +kernel
theorem dX4_canGoOn_108 : decode cX4_canGoOn 108 = .ok (.invokevirtual 52, 3) := by decide +kernel
theorem dX4_canGoOn_111 : decode cX4_canGoOn 111 = .ok (.aload_n 0, 1) := by decide +kernel
theorem dX4_canGoOn_112 : decode cX4_canGoOn 112 = .ok (.iload_n 1, 1) := by decide +kernel
theorem dX4_canGoOn_113 : decode cX4_canGoOn 113 = .ok (.iconst 3, 1) := by decide +kernel
theorem dX4_canGoOn_114 : decode cX4_canGoOn 114 = .ok (.isub, 1) := by decide +kernel
theorem dX4_canGoOn_115 : decode cX4_canGoOn 115 = .ok (.invokevirtual 52, 3) := by decide +kernel
theorem dX4_canGoOn_118 : decode cX4_canGoOn 118 = .ok (.if_icmp .lt 7, 3) := by decide +kernel
theorem dX4_canGoOn_121 : decode cX4_canGoOn 121 = .ok (.iconst 1, 1) := by decide +kernel
theorem dX4_canGoOn_122 : decode cX4_canGoOn 122 = .ok (.goto 4, 3) := by decide +kernel
theorem dX4_canGoOn_125 : decode cX4_canGoOn 125 = .ok (.iconst 0, 1) := by decide +kernel
theorem dX4_canGoOn_126 : decode cX4_canGoOn 126 = .ok (.ireturn, 1) := by decide +kernel
theorem dX4_canGoOn_127 : decode cX4_canGoOn 127 = .ok (.iload_n 2, 1) := by decide +kernel
theorem dX4_canGoOn_128 : decode cX4_canGoOn 128 = .ok (.bipush 48, 2) := by decide +kernel
theorem dX4_canGoOn_130 : decode cX4_canGoOn 130 = .ok (.if_icmp .le 13, 3) := by decide +kernel
theorem dX4_canGoOn_133 : decode cX4_canGoOn 133 = .ok (.iload_n 2, 1) := by decide +kernel
theorem dX4_canGoOn_134 : decode cX4_canGoOn 134 = .ok (.bipush 51, 2) := by decide +kernel
theorem dX4_canGoOn_136 : decode cX4_canGoOn 136 = .ok (.if_icmp .gt 7, 3) := by decide +kernel
theorem dX4_canGoOn_139 : decode cX4_canGoOn 139 = .ok (.iconst 1, 1) := by decide +kernel
theorem dX4_canGoOn_140 : decode cX4_canGoOn 140 = .ok (.goto 4, 3) := by decide +kernel
theorem dX4_canGoOn_143 : decode cX4_canGoOn 143 = .ok (.iconst 0, 1) := by decide +kernel
theorem dX4_canGoOn_144 : decode cX4_canGoOn 144 = .ok (.ireturn, 1) := by decide +kernel
theorem dX4_canGoOn_145 : decode cX4_canGoOn 145 = .ok (.iconst 1, 1) := by decide +kernel
theorem dX4_canGoOn_146 : decode cX4_canGoOn 146 = .ok (.ireturn, 1) := by decide +kernel
theorem dX4_readFigures_0 : decode cX4_readFigures 0 = .ok (.bipush 7, 2) := by decide +kernel
theorem dX4_readFigures_2 : decode cX4_readFigures 2 = .ok (.iload_n 1, 1) := by decide +kernel
theorem dX4_readFigures_3 : decode cX4_readFigures 3 = .ok (.imul, 1) := by decide +kernel
theorem dX4_readFigures_4 : decode cX4_readFigures 4 = .ok (.istore_n 2, 1) := by decide +kernel
theorem dX4_readFigures_5 : decode cX4_readFigures 5 = .ok (.aload_n 0, 1) := by decide +kernel
theorem dX4_readFigures_6 : decode cX4_readFigures 6 = .ok (.getfield 15, 3) := by decide +kernel
theorem dX4_readFigures_9 : decode cX4_readFigures 9 = .ok (.iload_n 1, 1) := by decide +kernel
theorem dX4_readFigures_10 : decode cX4_readFigures 10 = .ok (.aload_n 0, 1) := by decide +kernel
theorem dX4_readFigures_11 : decode cX4_readFigures 11 = .ok (.iload_n 2, 1) := by decide +kernel
theorem dX4_readFigures_12 : decode cX4_readFigures 12 = .ok (.invokevirtual 52, 3) := by decide +kernel
theorem dX4_readFigures_15 : decode cX4_readFigures 15 = .ok (.iastore, 1) := by decide +kernel
theorem dX4_readFigures_16 : decode cX4_readFigures 16 = .ok (.aload_n 0, 1) := by decide +kernel
theorem dX4_readFigures_17 : decode cX4_readFigures 17 = .ok (.getfield 18, 3) := by decide +kernel
theorem dX4_readFigures_20 : decode cX4_readFigures 20 = .ok (.iload_n 1, 1) := by decide +kernel
theorem dX4_readFigures_21 : decode cX4_readFigures 21 = .ok (.aload_n 0, 1) := by decide +kernel
theorem dX4_readFigures_22 : decode cX4_readFigures 22 = .ok (.iload_n 2, 1) := by decide +kernel
theorem dX4_readFigures_23 : decode cX4_readFigures 23 = .ok (.iconst 2, 1) := by decide +kernel
theorem dX4_readFigures_24 : decode cX4_readFigures 24 = .ok (.iadd, 1) := by decide +kernel
theorem dX4_readFigures_25 : decode cX4_readFigures 25 = .ok (.invokevirtual 52, 3) := by decide +kernel
theorem dX4_readFigures_28 : decode cX4_readFigures 28 = .ok (.iastore, 1) := by decide +kernel
theorem dX4_readFigures_29 : decode cX4_readFigures 29 = .ok (.aload_n 0, 1) := by decide +kernel
theorem dX4_readFigures_30 : decode cX4_readFigures 30 = .ok (.getfield 21, 3) := by decide +kernel
theorem dX4_readFigures_33 : decode cX4_readFigures 33 = .ok (.iload_n 1, 1) := by decide +kernel
theorem dX4_readFigures_34 : decode cX4_readFigures 34 = .ok (.aload_n 0, 1) := by decide +kernel
theorem dX4_readFigures_35 : decode cX4_readFigures 35 = .ok (.getfield 11, 3) := by decide +kernel
theorem dX4_readFigures_38 : decode cX4_readFigures 38 = .ok (.iload_n 2, 1) := by decide +kernel
theorem dX4_readFigures_39 : decode cX4_readFigures 39 = .ok (.iconst 4, 1) := by decide +kernel
theorem dX4_readFigures_40 : decode cX4_readFigures 40 = .ok (.iadd, 1) := by decide +kernel
theorem dX4_readFigures_41 : decode cX4_readFigures 41 = .ok (.iaload, 1) := by decide +kernel
theorem dX4_readFigures_42 : decode cX4_readFigures 42 = .ok (.bipush 48, 2) := by decide +kernel
theorem dX4_readFigures_44 : decode cX4_readFigures 44 = .ok (.isub, 1) := by decide +kernel
theorem dX4_readFigures_45 : decode cX4_readFigures 45 = .ok (.iastore, 1) := by decide +kernel
theorem dX4_readFigures_46 : decode cX4_readFigures 46 = .ok (.aload_n 0, 1) := by decide +kernel
theorem dX4_readFigures_47 : decode cX4_readFigures 47 = .ok (.getfield 24, 3) := by decide +kernel
theorem dX4_readFigures_50 : decode cX4_readFigures 50 = .ok (.iload_n 1, 1) := by decide +kernel
theorem dX4_readFigures_51 : decode cX4_readFigures 51 = .ok (.aload_n 0, 1) := by decide +kernel
theorem dX4_readFigures_52 : decode cX4_readFigures 52 = .ok (.getfield 11, 3) := by decide +kernel
theorem dX4_readFigures_55 : decode cX4_readFigures 55 = .ok (.iload_n 2, 1) := by decide +kernel
theorem dX4_readFigures_56 : decode cX4_readFigures 56 = .ok (.iconst 5, 1) := by decide +kernel
theorem dX4_readFigures_57 : decode cX4_readFigures 57 = .ok (.iadd, 1) := by decide +kernel
theorem dX4_readFigures_58 : decode cX4_readFigures 58 = .ok (.iaload, 1) := by decide +kernel
theorem dX4_readFigures_59 : decode cX4_readFigures 59 = .ok (.bipush 48, 2) := by decide +kernel
theorem dX4_readFigures_61 : decode cX4_readFigures 61 = .ok (.isub, 1) := by decide +kernel
theorem dX4_readFigures_62 : decode cX4_readFigures 62 = .ok (.iastore, 1) := by decide +kernel
theorem dX4_readFigures_63 : decode cX4_readFigures 63 = .ok (.return_, 1) := by decide +kernel
theorem dX4_twoFigures_0 : decode cX4_twoFigures 0 = .ok (.bipush 10, 2) := by decide +kernel
theorem dX4_twoFigures_2 : decode cX4_twoFigures 2 = .ok (.aload_n 0, 1) := by decide +kernel
theorem dX4_twoFigures_3 : decode cX4_twoFigures 3 = .ok (.getfield 11, 3) := by decide +kernel
theorem dX4_twoFigures_6 : decode cX4_twoFigures 6 = .ok (.iload_n 1, 1) := by decide +kernel
theorem dX4_twoFigures_7 : decode cX4_twoFigures 7 = .ok (.iaload, 1) := by decide +kernel
theorem dX4_twoFigures_8 : decode cX4_twoFigures 8 = .ok (.bipush 48, 2) := by decide +kernel
theorem dX4_twoFigures_10 : decode cX4_twoFigures 10 = .ok (.isub, 1) := by decide +kernel
theorem dX4_twoFigures_11 : decode cX4_twoFigures 11 = .ok (.imul, 1) := by decide +kernel
theorem dX4_twoFigures_12 : decode cX4_twoFigures 12 = .ok (.aload_n 0, 1) := by decide +kernel
theorem dX4_twoFigures_13 : decode cX4_twoFigures 13 = .ok (.getfield 11, 3) := by decide +kernel
theorem dX4_twoFigures_16 : decode cX4_twoFigures 16 = .ok (.iload_n 1, 1) := by decide +kernel
theorem dX4_twoFigures_17 : decode cX4_twoFigures 17 = .ok (.iconst 1, 1) := by decide +kernel
theorem dX4_twoFigures_18 : decode cX4_twoFigures 18 = .ok (.iadd, 1) := by decide +kernel
theorem dX4_twoFigures_19 : decode cX4_twoFigures 19 = .ok (.iaload, 1) := by decide +kernel
theorem dX4_twoFigures_20 : decode cX4_twoFigures 20 = .ok (.iadd, 1) := by decide +kernel
theorem dX4_twoFigures_21 : decode cX4_twoFigures 21 = .ok (.bipush 48, 2) := by decide +kernel
theorem dX4_twoFigures_23 : decode cX4_twoFigures 23 = .ok (.isub, 1) := by decide +kernel
theorem dX4_twoFigures_24 : decode cX4_twoFigures 24 = .ok (.ireturn, 1) := by decide +kernel
theorem dX5_init_0 : decode cX5_init 0 = .ok (.aload_n 0, 1) := by decide +kernel
theorem dX5_init_1 : decode cX5_init 1 = .ok (.invokespecial 3, 3) := by decide +kernel
theorem dX5_init_4 : decode cX5_init 4 = .ok (.aload_n 0, 1) := by decide +kernel
theorem dX5_init_5 : decode cX5_init 5 = .ok (.iconst 4, 1) := by decide +kernel
theorem dX5_init_6 : decode cX5_init 6 = .ok (.bipush 60, 2) := by decide +kernel
theorem dX5_init_8 : decode cX5_init 8 = .ok (.multianewarray 11 2, 4) := by decide +kernel
theorem dX5_init_12 : decode cX5_init 12 = .ok (.putfield 13, 3) := by decide +kernel
theorem dX5_init_15 : decode cX5_init 15 = .ok (.aload_n 0, 1) := by decide +kernel
theorem dX5_init_16 : decode cX5_init 16 = .ok (.iconst 4, 1) := by decide +kernel
theorem dX5_init_17 : decode cX5_init 17 = .ok (.newarray .int, 2) := by decide +kernel
theorem dX5_init_19 : decode cX5_init 19 = .ok (.dup, 1) := by decide +kernel
theorem dX5_init_20 : decode cX5_init 20 = .ok (.iconst 0, 1) := by decide +kernel
theorem dX5_init_21 : decode cX5_init 21 = .ok (.iconst 0, 1) := by decide +kernel
theorem dX5_init_22 : decode cX5_init 22 = .ok (.iastore, 1) := by decide +kernel
theorem dX5_init_23 : decode cX5_init 23 = .ok (.dup, 1) := by decide +kernel
theorem dX5_init_24 : decode cX5_init 24 = .ok (.iconst 1, 1) := by decide +kernel
theorem dX5_init_25 : decode cX5_init 25 = .ok (.iconst 0, 1) := by decide +kernel
theorem dX5_init_26 : decode cX5_init 26 = .ok (.iastore, 1) := by decide +kernel
theorem dX5_init_27 : decode cX5_init 27 = .ok (.dup, 1) := by decide +kernel
theorem dX5_init_28 : decode cX5_init 28 = .ok (.iconst 2, 1) := by decide +kernel
theorem dX5_init_29 : decode cX5_init 29 = .ok (.iconst 0, 1) := by decide +kernel
theorem dX5_init_30 : decode cX5_init 30 = .ok (.iastore, 1) := by decide +kernel
theorem dX5_init_31 : decode cX5_init 31 = .ok (.dup, 1) := by decide +kernel
theorem dX5_init_32 : decode cX5_init 32 = .ok (.iconst 3, 1) := by decide +kernel
theorem dX5_init_33 : decode cX5_init 33 = .ok (.iconst 0, 1) := by decide +kernel
theorem dX5_init_34 : decode cX5_init 34 = .ok (.iastore, 1) := by decide +kernel
theorem dX5_init_35 : decode cX5_init 35 = .ok (.putfield 16, 3) := by decide +kernel
theorem dX5_init_38 : decode cX5_init 38 = .ok (.aload_n 0, 1) := by decide +kernel
theorem dX5_init_39 : decode cX5_init 39 = .ok (.iconst 4, 1) := by decide +kernel
theorem dX5_init_40 : decode cX5_init 40 = .ok (.newarray .int, 2) := by decide +kernel
theorem dX5_init_42 : decode cX5_init 42 = .ok (.dup, 1) := by decide +kernel
theorem dX5_init_43 : decode cX5_init 43 = .ok (.iconst 0, 1) := by decide +kernel
theorem dX5_init_44 : decode cX5_init 44 = .ok (.iconst (-1), 1) := by decide +kernel
theorem dX5_init_45 : decode cX5_init 45 = .ok (.iastore, 1) := by decide +kernel
theorem dX5_init_46 : decode cX5_init 46 = .ok (.dup, 1) := by decide +kernel
theorem dX5_init_47 : decode cX5_init 47 = .ok (.iconst 1, 1) := by decide +kernel
theorem dX5_init_48 : decode cX5_init 48 = .ok (.iconst (-1), 1) := by decide +kernel
theorem dX5_init_49 : decode cX5_init 49 = .ok (.iastore, 1) := by decide +kernel
theorem dX5_init_50 : decode cX5_init 50 = .ok (.dup, 1) := by decide +kernel
theorem dX5_init_51 : decode cX5_init 51 = .ok (.iconst 2, 1) := by decide +kernel
theorem dX5_init_52 : decode cX5_init 52 = .ok (.iconst (-1), 1) := by decide +kernel
theorem dX5_init_53 : decode cX5_init 53 = .ok (.iastore, 1) := by decide +kernel
theorem dX5_init_54 : decode cX5_init 54 = .ok (.dup, 1) := by decide +kernel
theorem dX5_init_55 : decode cX5_init 55 = .ok (.iconst 3, 1) := by decide +kernel
theorem dX5_init_56 : decode cX5_init 56 = .ok (.iconst (-1), 1) := by decide +kernel
theorem dX5_init_57 : decode cX5_init 57 = .ok (.iastore, 1) := by decide +kernel
theorem dX5_init_58 : decode cX5_init 58 = .ok (.putfield 20, 3) := by decide +kernel
theorem dX5_init_61 : decode cX5_init 61 = .ok (.aload_n 0, 1) := by decide +kernel
theorem dX5_init_62 : decode cX5_init 62 = .ok (.iconst 0, 1) := by decide +kernel
theorem dX5_init_63 : decode cX5_init 63 = .ok (.putfield 23, 3) := by decide +kernel
theorem dX5_init_66 : decode cX5_init 66 = .ok (.return_, 1) := by decide +kernel
theorem dX5_isLost_0 : decode cX5_isLost 0 = .ok (.aload_n 0, 1) := by decide +kernel
theorem dX5_isLost_1 : decode cX5_isLost 1 = .ok (.getfield 20, 3) := by decide +kernel
theorem dX5_isLost_4 : decode cX5_isLost 4 = .ok (.iload_n 1, 1) := by decide +kernel
theorem dX5_isLost_5 : decode cX5_isLost 5 = .ok (.iaload, 1) := by decide +kernel
theorem dX5_isLost_6 : decode cX5_isLost 6 = .ok (.iconst (-1), 1) := by decide +kernel
theorem dX5_isLost_7 : decode cX5_isLost 7 = .ok (.if_icmp .ne 7, 3) := by decide +kernel
theorem dX5_isLost_10 : decode cX5_isLost 10 = .ok (.iconst 1, 1) := by decide +kernel
theorem dX5_isLost_11 : decode cX5_isLost 11 = .ok (.goto 4, 3) := by decide +kernel
theorem dX5_isLost_14 : decode cX5_isLost 14 = .ok (.iconst 0, 1) := by decide +kernel
theorem dX5_isLost_15 : decode cX5_isLost 15 = .ok (.ireturn, 1) := by decide +kernel
theorem dX5_found_0 : decode cX5_found 0 = .ok (.aload_n 0, 1) := by decide +kernel
theorem dX5_found_1 : decode cX5_found 1 = .ok (.iload_n 1, 1) := by decide +kernel
theorem dX5_found_2 : decode cX5_found 2 = .ok (.putfield 23, 3) := by decide +kernel
theorem dX5_found_5 : decode cX5_found 5 = .ok (.bipush (-10), 2) := by decide +kernel
theorem dX5_found_7 : decode cX5_found 7 = .ok (.iload_n 1, 1) := by decide +kernel
theorem dX5_found_8 : decode cX5_found 8 = .ok (.isub, 1) := by decide +kernel
theorem dX5_found_9 : decode cX5_found 9 = .ok (.ireturn, 1) := by decide +kernel
theorem dX5_renew_0 : decode cX5_renew 0 = .ok (.aload_n 0, 1) := by decide +kernel
theorem dX5_renew_1 : decode cX5_renew 1 = .ok (.getfield 13, 3) := by decide +kernel
theorem dX5_renew_4 : decode cX5_renew 4 = .ok (.iload_n 1, 1) := by decide +kernel
theorem dX5_renew_5 : decode cX5_renew 5 = .ok (.aaload, 1) := by decide +kernel
theorem dX5_renew_6 : decode cX5_renew 6 = .ok (.iconst 0, 1) := by decide +kernel
theorem dX5_renew_7 : decode cX5_renew 7 = .ok (.invokestatic 27, 3) := by decide +kernel
theorem dX5_renew_10 : decode cX5_renew 10 = .ok (.aload_n 0, 1) := by decide +kernel
theorem dX5_renew_11 : decode cX5_renew 11 = .ok (.getfield 16, 3) := by decide +kernel
theorem dX5_renew_14 : decode cX5_renew 14 = .ok (.iload_n 1, 1) := by decide +kernel
theorem dX5_renew_15 : decode cX5_renew 15 = .ok (.iload_n 2, 1) := by decide +kernel
theorem dX5_renew_16 : decode cX5_renew 16 = .ok (.iastore, 1) := by decide +kernel
theorem dX5_renew_17 : decode cX5_renew 17 = .ok (.aload_n 0, 1) := by decide +kernel
theorem dX5_renew_18 : decode cX5_renew 18 = .ok (.getfield 20, 3) := by decide +kernel
theorem dX5_renew_21 : decode cX5_renew 21 = .ok (.iload_n 1, 1) := by decide +kernel
theorem dX5_renew_22 : decode cX5_renew 22 = .ok (.iload_n 3, 1) := by decide +kernel
theorem dX5_renew_23 : decode cX5_renew 23 = .ok (.iastore, 1) := by decide +kernel
theorem dX5_renew_24 : decode cX5_renew 24 = .ok (.return_, 1) := by decide +kernel
theorem dX5_check_0 : decode cX5_check 0 = .ok (.aload_n 0, 1) := by decide +kernel
theorem dX5_check_1 : decode cX5_check 1 = .ok (.iload_n 1, 1) := by decide +kernel
theorem dX5_check_2 : decode cX5_check 2 = .ok (.invokevirtual 33, 3) := by decide +kernel
theorem dX5_check_5 : decode cX5_check 5 = .ok (.ifCond .eq 5, 3) := by decide +kernel
theorem dX5_check_8 : decode cX5_check 8 = .ok (.iconst 1, 1) := by decide +kernel
theorem dX5_check_9 : decode cX5_check 9 = .ok (.ireturn, 1) := by decide +kernel
theorem dX5_check_10 : decode cX5_check 10 = .ok (.aload_n 0, 1) := by decide +kernel
theorem dX5_check_11 : decode cX5_check 11 = .ok (.getfield 16, 3) := by decide +kernel
theorem dX5_check_14 : decode cX5_check 14 = .ok (.iload_n 1, 1) := by decide +kernel
theorem dX5_check_15 : decode cX5_check 15 = .ok (.iaload, 1) := by decide +kernel
theorem dX5_check_16 : decode cX5_check 16 = .ok (.iload_n 2, 1) := by decide +kernel
theorem dX5_check_17 : decode cX5_check 17 = .ok (.if_icmp .eq 5, 3) := by decide +kernel
theorem dX5_check_20 : decode cX5_check 20 = .ok (.iconst 3, 1) := by decide +kernel
theorem dX5_check_21 : decode cX5_check 21 = .ok (.ireturn, 1) := by decide +kernel
theorem dX5_check_22 : decode cX5_check 22 = .ok (.iload_n 3, 1) := by decide +kernel
theorem dX5_check_23 : decode cX5_check 23 = .ok (.iconst 0, 1) := by decide +kernel
theorem dX5_check_24 : decode cX5_check 24 = .ok (.aload_n 0, 1) := by decide +kernel
theorem dX5_check_25 : decode cX5_check 25 = .ok (.getfield 20, 3) := by decide +kernel
theorem dX5_check_28 : decode cX5_check 28 = .ok (.iload_n 1, 1) := by decide +kernel
theorem dX5_check_29 : decode cX5_check 29 = .ok (.iaload, 1) := by decide +kernel
theorem dX5_check_30 : decode cX5_check 30 = .ok (.iconst 1, 1) := by decide +kernel
theorem dX5_check_31 : decode cX5_check 31 = .ok (.isub, 1) := by decide +kernel
theorem dX5_check_32 : decode cX5_check 32 = .ok (.invokestatic 37, 3) := by decide +kernel
theorem dX5_check_35 : decode cX5_check 35 = .ok (.ifCond .eq 7, 3) := by decide +kernel
theorem dX5_check_38 : decode cX5_check 38 = .ok (.iconst 2, 1) := by decide +kernel
theorem dX5_check_39 : decode cX5_check 39 = .ok (.goto 4, 3) := by decide +kernel
theorem dX5_check_42 : decode cX5_check 42 = .ok (.iconst 0, 1) := by decide +kernel
theorem dX5_check_43 : decode cX5_check 43 = .ok (.ireturn, 1) := by decide +kernel
theorem dX5_holds_0 : decode cX5_holds 0 = .ok (.iload_n 2, 1) := by decide +kernel
theorem dX5_holds_1 : decode cX5_holds 1 = .ok (.ifCond .lt 33, 3) := by decide +kernel
theorem dX5_holds_4 : decode cX5_holds 4 = .ok (.iload_n 3, 1) := by decide +kernel
theorem dX5_holds_5 : decode cX5_holds 5 = .ok (.ifCond .lt 29, 3) := by decide +kernel
theorem dX5_holds_8 : decode cX5_holds 8 = .ok (.iload_n 2, 1) := by decide +kernel
theorem dX5_holds_9 : decode cX5_holds 9 = .ok (.aload_n 0, 1) := by decide +kernel
theorem dX5_holds_10 : decode cX5_holds 10 = .ok (.getfield 20, 3) := by decide +kernel
theorem dX5_holds_13 : decode cX5_holds 13 = .ok (.iload_n 1, 1) := by decide +kernel
theorem dX5_holds_14 : decode cX5_holds 14 = .ok (.iaload, 1) := by decide +kernel
theorem dX5_holds_15 : decode cX5_holds 15 = .ok (.if_icmp .gt 19, 3) := by decide +kernel
theorem dX5_holds_18 : decode cX5_holds 18 = .ok (.iload_n 3, 1) := by decide +kernel
theorem dX5_holds_19 : decode cX5_holds 19 = .ok (.aload_n 0, 1) := by decide +kernel
theorem dX5_holds_20 : decode cX5_holds 20 = .ok (.getfield 20, 3) := by decide +kernel
theorem dX5_holds_23 : decode cX5_holds 23 = .ok (.iload_n 1, 1) := by decide +kernel
theorem dX5_holds_24 : decode cX5_holds 24 = .ok (.iaload, 1) := by decide +kernel
theorem dX5_holds_25 : decode cX5_holds 25 = .ok (.iload_n 2, 1) := by decide +kernel
theorem dX5_holds_26 : decode cX5_holds 26 = .ok (.isub, 1) := by decide +kernel
theorem dX5_holds_27 : decode cX5_holds 27 = .ok (.if_icmp .gt 7, 3) := by decide +kernel
theorem dX5_holds_30 : decode cX5_holds 30 = .ok (.iconst 1, 1) := by decide +kernel
theorem dX5_holds_31 : decode cX5_holds 31 = .ok (.goto 4, 3) := by decide +kernel
theorem dX5_holds_34 : decode cX5_holds 34 = .ok (.iconst 0, 1) := by decide +kernel
theorem dX5_holds_35 : decode cX5_holds 35 = .ok (.ireturn, 1) := by decide +kernel
theorem dX5_put_0 : decode cX5_put 0 = .ok (.aload_n 0, 1) := by decide +kernel
theorem dX5_put_1 : decode cX5_put 1 = .ok (.getfield 16, 3) := by decide +kernel
theorem dX5_put_4 : decode cX5_put 4 = .ok (.iload_n 1, 1) := by decide +kernel
theorem dX5_put_5 : decode cX5_put 5 = .ok (.iaload, 1) := by decide +kernel
theorem dX5_put_6 : decode cX5_put 6 = .ok (.lookupswitch 52 #[(0, 26), (1, 39)], 26) := by decide +kernel
theorem dX5_put_32 : decode cX5_put 32 = .ok (.aload_n 0, 1) := by decide +kernel
theorem dX5_put_33 : decode cX5_put 33 = .ok (.getfield 13, 3) := by decide +kernel
theorem dX5_put_36 : decode cX5_put 36 = .ok (.iload_n 1, 1) := by decide +kernel
theorem dX5_put_37 : decode cX5_put 37 = .ok (.aaload, 1) := by decide +kernel
theorem dX5_put_38 : decode cX5_put 38 = .ok (.iload_n 2, 1) := by decide +kernel
theorem dX5_put_39 : decode cX5_put 39 = .ok (.iload_n 3, 1) := by decide +kernel
theorem dX5_put_40 : decode cX5_put 40 = .ok (.i2b, 1) := by decide +kernel
theorem dX5_put_41 : decode cX5_put 41 = .ok (.iastore, 1) := by decide +kernel
theorem dX5_put_42 : decode cX5_put 42 = .ok (.goto 25, 3) := by decide +kernel
theorem dX5_put_45 : decode cX5_put 45 = .ok (.aload_n 0, 1) := by decide +kernel
theorem dX5_put_46 : decode cX5_put 46 = .ok (.getfield 13, 3) := by decide +kernel
theorem dX5_put_49 : decode cX5_put 49 = .ok (.iload_n 1, 1) := by decide +kernel
theorem dX5_put_50 : decode cX5_put 50 = .ok (.aaload, 1) := by decide +kernel
theorem dX5_put_51 : decode cX5_put 51 = .ok (.iload_n 2, 1) := by decide +kernel
theorem dX5_put_52 : decode cX5_put 52 = .ok (.iload_n 3, 1) := by decide +kernel
theorem dX5_put_53 : decode cX5_put 53 = .ok (.i2s, 1) := by decide +kernel
theorem dX5_put_54 : decode cX5_put 54 = .ok (.iastore, 1) := by decide +kernel
theorem dX5_put_55 : decode cX5_put 55 = .ok (.goto 12, 3) := by decide +kernel
theorem dX5_put_58 : decode cX5_put 58 = .ok (.aload_n 0, 1) := by decide +kernel
theorem dX5_put_59 : decode cX5_put 59 = .ok (.getfield 13, 3) := by decide +kernel
theorem dX5_put_62 : decode cX5_put 62 = .ok (.iload_n 1, 1) := by decide +kernel
theorem dX5_put_63 : decode cX5_put 63 = .ok (.aaload, 1) := by decide +kernel
theorem dX5_put_64 : decode cX5_put 64 = .ok (.iload_n 2, 1) := by decide +kernel
theorem dX5_put_65 : decode cX5_put 65 = .ok (.iload_n 3, 1) := by decide +kernel
theorem dX5_put_66 : decode cX5_put 66 = .ok (.iastore, 1) := by decide +kernel
theorem dX5_put_67 : decode cX5_put 67 = .ok (.return_, 1) := by decide +kernel
theorem dX6_init_0 : decode cX6_init 0 = .ok (.aload_n 0, 1) := by decide +kernel
theorem dX6_init_1 : decode cX6_init 1 = .ok (.invokespecial 3, 3) := by decide +kernel
theorem dX6_init_4 : decode cX6_init 4 = .ok (.aload_n 0, 1) := by decide +kernel
theorem dX6_init_5 : decode cX6_init 5 = .ok (.bipush 7, 2) := by decide +kernel
theorem dX6_init_7 : decode cX6_init 7 = .ok (.newarray .int, 2) := by decide +kernel
theorem dX6_init_9 : decode cX6_init 9 = .ok (.dup, 1) := by decide +kernel
theorem dX6_init_10 : decode cX6_init 10 = .ok (.iconst 0, 1) := by decide +kernel
theorem dX6_init_11 : decode cX6_init 11 = .ok (.bipush 20, 2) := by decide +kernel
theorem dX6_init_13 : decode cX6_init 13 = .ok (.iastore, 1) := by decide +kernel
theorem dX6_init_14 : decode cX6_init 14 = .ok (.dup, 1) := by decide +kernel
theorem dX6_init_15 : decode cX6_init 15 = .ok (.iconst 1, 1) := by decide +kernel
theorem dX6_init_16 : decode cX6_init 16 = .ok (.iconst 1, 1) := by decide +kernel
theorem dX6_init_17 : decode cX6_init 17 = .ok (.iastore, 1) := by decide +kernel
theorem dX6_init_18 : decode cX6_init 18 = .ok (.dup, 1) := by decide +kernel
theorem dX6_init_19 : decode cX6_init 19 = .ok (.iconst 2, 1) := by decide +kernel
theorem dX6_init_20 : decode cX6_init 20 = .ok (.bipush 20, 2) := by decide +kernel
theorem dX6_init_22 : decode cX6_init 22 = .ok (.iastore, 1) := by decide +kernel
theorem dX6_init_23 : decode cX6_init 23 = .ok (.dup, 1) := by decide +kernel
theorem dX6_init_24 : decode cX6_init 24 = .ok (.iconst 3, 1) := by decide +kernel
theorem dX6_init_25 : decode cX6_init 25 = .ok (.iconst 0, 1) := by decide +kernel
theorem dX6_init_26 : decode cX6_init 26 = .ok (.iastore, 1) := by decide +kernel
theorem dX6_init_27 : decode cX6_init 27 = .ok (.dup, 1) := by decide +kernel
theorem dX6_init_28 : decode cX6_init 28 = .ok (.iconst 4, 1) := by decide +kernel
theorem dX6_init_29 : decode cX6_init 29 = .ok (.iconst 0, 1) := by decide +kernel
theorem dX6_init_30 : decode cX6_init 30 = .ok (.iastore, 1) := by decide +kernel
theorem dX6_init_31 : decode cX6_init 31 = .ok (.dup, 1) := by decide +kernel
theorem dX6_init_32 : decode cX6_init 32 = .ok (.iconst 5, 1) := by decide +kernel
theorem dX6_init_33 : decode cX6_init 33 = .ok (.bipush 30, 2) := by decide +kernel
theorem dX6_init_35 : decode cX6_init 35 = .ok (.iastore, 1) := by decide +kernel
theorem dX6_init_36 : decode cX6_init 36 = .ok (.dup, 1) := by decide +kernel
theorem dX6_init_37 : decode cX6_init 37 = .ok (.bipush 6, 2) := by decide +kernel
theorem dX6_init_39 : decode cX6_init 39 = .ok (.iconst 5, 1) := by decide +kernel
theorem dX6_init_40 : decode cX6_init 40 = .ok (.iastore, 1) := by decide +kernel
theorem dX6_init_41 : decode cX6_init 41 = .ok (.putfield 9, 3) := by decide +kernel
theorem dX6_init_44 : decode cX6_init 44 = .ok (.aload_n 0, 1) := by decide +kernel
theorem dX6_init_45 : decode cX6_init 45 = .ok (.iconst 4, 1) := by decide +kernel
theorem dX6_init_46 : decode cX6_init 46 = .ok (.newarray .int, 2) := by decide +kernel
theorem dX6_init_48 : decode cX6_init 48 = .ok (.dup, 1) := by decide +kernel
theorem dX6_init_49 : decode cX6_init 49 = .ok (.iconst 0, 1) := by decide +kernel
theorem dX6_init_50 : decode cX6_init 50 = .ok (.iconst 0, 1) := by decide +kernel
theorem dX6_init_51 : decode cX6_init 51 = .ok (.iastore, 1) := by decide +kernel
theorem dX6_init_52 : decode cX6_init 52 = .ok (.dup, 1) := by decide +kernel
theorem dX6_init_53 : decode cX6_init 53 = .ok (.iconst 1, 1) := by decide +kernel
theorem dX6_init_54 : decode cX6_init 54 = .ok (.iconst 0, 1) := by decide +kernel
theorem dX6_init_55 : decode cX6_init 55 = .ok (.iastore, 1) := by decide +kernel
theorem dX6_init_56 : decode cX6_init 56 = .ok (.dup, 1) := by decide +kernel
theorem dX6_init_57 : decode cX6_init 57 = .ok (.iconst 2, 1) := by decide +kernel
theorem dX6_init_58 : decode cX6_init 58 = .ok (.iconst 0, 1) := by decide +kernel
theorem dX6_init_59 : decode cX6_init 59 = .ok (.iastore, 1) := by decide +kernel
theorem dX6_init_60 : decode cX6_init 60 = .ok (.dup, 1) := by decide +kernel
theorem dX6_init_61 : decode cX6_init 61 = .ok (.iconst 3, 1) := by decide +kernel
theorem dX6_init_62 : decode cX6_init 62 = .ok (.iconst 0, 1) := by decide +kernel
theorem dX6_init_63 : decode cX6_init 63 = .ok (.iastore, 1) := by decide +kernel
theorem dX6_init_64 : decode cX6_init 64 = .ok (.putfield 15, 3) := by decide +kernel
theorem dX6_init_67 : decode cX6_init 67 = .ok (.aload_n 0, 1) := by decide +kernel
theorem dX6_init_68 : decode cX6_init 68 = .ok (.aload_n 1, 1) := by decide +kernel
theorem dX6_init_69 : decode cX6_init 69 = .ok (.putfield 18, 3) := by decide +kernel
theorem dX6_init_72 : decode cX6_init 72 = .ok (.return_, 1) := by decide +kernel
theorem dX6_setRule_0 : decode cX6_setRule 0 = .ok (.aload_n 0, 1) := by decide +kernel
theorem dX6_setRule_1 : decode cX6_setRule 1 = .ok (.getfield 9, 3) := by decide +kernel
theorem dX6_setRule_4 : decode cX6_setRule 4 = .ok (.iload_n 1, 1) := by decide +kernel
theorem dX6_setRule_5 : decode cX6_setRule 5 = .ok (.iload_n 2, 1) := by decide +kernel
theorem dX6_setRule_6 : decode cX6_setRule 6 = .ok (.invokestatic 22, 3) := by decide +kernel
theorem dX6_setRule_9 : decode cX6_setRule 9 = .ok (.istore_n 3, 1) := by decide +kernel
theorem dX6_setRule_10 : decode cX6_setRule 10 = .ok (.iconst 0, 1) := by decide +kernel
theorem dX6_setRule_11 : decode cX6_setRule 11 = .ok (.istore 4, 2) := by decide +kernel
theorem dX6_setRule_13 : decode cX6_setRule 13 = .ok (.iload 4, 2) := by decide +kernel
theorem dX6_setRule_15 : decode cX6_setRule 15 = .ok (.iconst 4, 1) := by decide +kernel
theorem dX6_setRule_16 : decode cX6_setRule 16 = .ok (.if_icmp .ge 40, 3) := by decide +kernel
theorem dX6_setRule_19 : decode cX6_setRule 19 = .ok (.aload_n 0, 1) := by decide +kernel
theorem dX6_setRule_20 : decode cX6_setRule 20 = .ok (.getfield 15, 3) := by decide +kernel
theorem dX6_setRule_23 : decode cX6_setRule 23 = .ok (.iload 4, 2) := by decide +kernel
theorem dX6_setRule_25 : decode cX6_setRule 25 = .ok (.aload_n 0, 1) := by decide +kernel
theorem dX6_setRule_26 : decode cX6_setRule 26 = .ok (.getfield 9, 3) := by decide +kernel
theorem dX6_setRule_29 : decode cX6_setRule 29 = .ok (.iconst 3, 1) := by decide +kernel
theorem dX6_setRule_30 : decode cX6_setRule 30 = .ok (.iaload, 1) := by decide +kernel
theorem dX6_setRule_31 : decode cX6_setRule 31 = .ok (.iload 4, 2) := by decide +kernel
theorem dX6_setRule_33 : decode cX6_setRule 33 = .ok (.iconst 2, 1) := by decide +kernel
theorem dX6_setRule_34 : decode cX6_setRule 34 = .ok (.irem, 1) := by decide +kernel
theorem dX6_setRule_35 : decode cX6_setRule 35 = .ok (.ifCond .ne 12, 3) := by decide +kernel
theorem dX6_setRule_38 : decode cX6_setRule 38 = .ok (.aload_n 0, 1) := by decide +kernel
theorem dX6_setRule_39 : decode cX6_setRule 39 = .ok (.getfield 9, 3) := by decide +kernel
theorem dX6_setRule_42 : decode cX6_setRule 42 = .ok (.iconst 4, 1) := by decide +kernel
theorem dX6_setRule_43 : decode cX6_setRule 43 = .ok (.iaload, 1) := by decide +kernel
theorem dX6_setRule_44 : decode cX6_setRule 44 = .ok (.goto 4, 3) := by decide +kernel
theorem dX6_setRule_47 : decode cX6_setRule 47 = .ok (.iconst 0, 1) := by decide +kernel
theorem dX6_setRule_48 : decode cX6_setRule 48 = .ok (.iadd, 1) := by decide +kernel
theorem dX6_setRule_49 : decode cX6_setRule 49 = .ok (.iastore, 1) := by decide +kernel
theorem dX6_setRule_50 : decode cX6_setRule 50 = .ok (.iinc 4 1, 3) := by decide +kernel
theorem dX6_setRule_53 : decode cX6_setRule 53 = .ok (.goto (-40), 3) := by decide +kernel
theorem dX6_setRule_56 : decode cX6_setRule 56 = .ok (.iload_n 3, 1) := by decide +kernel
theorem dX6_setRule_57 : decode cX6_setRule 57 = .ok (.ireturn, 1) := by decide +kernel
theorem dX6_pace_0 : decode cX6_pace 0 = .ok (.aload_n 0, 1) := by decide +kernel
theorem dX6_pace_1 : decode cX6_pace 1 = .ok (.getfield 18, 3) := by decide +kernel
theorem dX6_pace_4 : decode cX6_pace 4 = .ok (.getfield 26, 3) := by decide +kernel
theorem dX6_pace_7 : decode cX6_pace 7 = .ok (.iload_n 1, 1) := by decide +kernel
theorem dX6_pace_8 : decode cX6_pace 8 = .ok (.iaload, 1) := by decide +kernel
theorem dX6_pace_9 : decode cX6_pace 9 = .ok (.aload_n 0, 1) := by decide +kernel
theorem dX6_pace_10 : decode cX6_pace 10 = .ok (.getfield 15, 3) := by decide +kernel
theorem dX6_pace_13 : decode cX6_pace 13 = .ok (.iload_n 2, 1) := by decide +kernel
theorem dX6_pace_14 : decode cX6_pace 14 = .ok (.iaload, 1) := by decide +kernel
theorem dX6_pace_15 : decode cX6_pace 15 = .ok (.iadd, 1) := by decide +kernel
theorem dX6_pace_16 : decode cX6_pace 16 = .ok (.ireturn, 1) := by decide +kernel
theorem dX6_span_0 : decode cX6_span 0 = .ok (.iconst 4, 1) := by decide +kernel
theorem dX6_span_1 : decode cX6_span 1 = .ok (.aload_n 0, 1) := by decide +kernel
theorem dX6_span_2 : decode cX6_span 2 = .ok (.getfield 18, 3) := by decide +kernel
theorem dX6_span_5 : decode cX6_span 5 = .ok (.getfield 31, 3) := by decide +kernel
theorem dX6_span_8 : decode cX6_span 8 = .ok (.iload_n 1, 1) := by decide +kernel
theorem dX6_span_9 : decode cX6_span 9 = .ok (.iaload, 1) := by decide +kernel
theorem dX6_span_10 : decode cX6_span 10 = .ok (.imul, 1) := by decide +kernel
theorem dX6_span_11 : decode cX6_span 11 = .ok (.istore 4, 2) := by decide +kernel
theorem dX6_span_13 : decode cX6_span 13 = .ok (.iload 4, 2) := by decide +kernel
theorem dX6_span_15 : decode cX6_span 15 = .ok (.iload_n 3, 1) := by decide +kernel
theorem dX6_span_16 : decode cX6_span 16 = .ok (.if_icmp .le 6, 3) := by decide +kernel
theorem dX6_span_19 : decode cX6_span 19 = .ok (.iload_n 3, 1) := by decide +kernel
theorem dX6_span_20 : decode cX6_span 20 = .ok (.istore 4, 2) := by decide +kernel
theorem dX6_span_22 : decode cX6_span 22 = .ok (.iload_n 3, 1) := by decide +kernel
theorem dX6_span_23 : decode cX6_span 23 = .ok (.aload_n 0, 1) := by decide +kernel
theorem dX6_span_24 : decode cX6_span 24 = .ok (.getfield 15, 3) := by decide +kernel
theorem dX6_span_27 : decode cX6_span 27 = .ok (.iload_n 2, 1) := by decide +kernel
theorem dX6_span_28 : decode cX6_span 28 = .ok (.iaload, 1) := by decide +kernel
theorem dX6_span_29 : decode cX6_span 29 = .ok (.imul, 1) := by decide +kernel
theorem dX6_span_30 : decode cX6_span 30 = .ok (.iload 4, 2) := by decide +kernel
theorem dX6_span_32 : decode cX6_span 32 = .ok (.aload_n 0, 1) := by decide +kernel
theorem dX6_span_33 : decode cX6_span 33 = .ok (.getfield 18, 3) := by decide +kernel
theorem dX6_span_36 : decode cX6_span 36 = .ok (.getfield 34, 3) := by decide +kernel
theorem dX6_span_39 : decode cX6_span 39 = .ok (.iload_n 1, 1) := by decide +kernel
theorem dX6_span_40 : decode cX6_span 40 = .ok (.iaload, 1) := by decide +kernel
theorem dX6_span_41 : decode cX6_span 41 = .ok (.imul, 1) := by decide +kernel
theorem dX6_span_42 : decode cX6_span 42 = .ok (.iadd, 1) := by decide +kernel
theorem dX6_span_43 : decode cX6_span 43 = .ok (.iload_n 3, 1) := by decide +kernel
theorem dX6_span_44 : decode cX6_span 44 = .ok (.iload 4, 2) := by decide +kernel
theorem dX6_span_46 : decode cX6_span 46 = .ok (.isub, 1) := by decide +kernel
theorem dX6_span_47 : decode cX6_span 47 = .ok (.aload_n 0, 1) := by decide +kernel
theorem dX6_span_48 : decode cX6_span 48 = .ok (.getfield 18, 3) := by decide +kernel
theorem dX6_span_51 : decode cX6_span 51 = .ok (.getfield 26, 3) := by decide +kernel
theorem dX6_span_54 : decode cX6_span 54 = .ok (.iload_n 1, 1) := by decide +kernel
theorem dX6_span_55 : decode cX6_span 55 = .ok (.iaload, 1) := by decide +kernel
theorem dX6_span_56 : decode cX6_span 56 = .ok (.imul, 1) := by decide +kernel
theorem dX6_span_57 : decode cX6_span 57 = .ok (.iadd, 1) := by decide +kernel
theorem dX6_span_58 : decode cX6_span 58 = .ok (.ireturn, 1) := by decide +kernel
theorem dX6_untilNext_0 : decode cX6_untilNext 0 = .ok (.aload_n 0, 1) := by decide +kernel
theorem dX6_untilNext_1 : decode cX6_untilNext 1 = .ok (.iload_n 2, 1) := by decide +kernel
theorem dX6_untilNext_2 : decode cX6_untilNext 2 = .ok (.iload_n 1, 1) := by decide +kernel
theorem dX6_untilNext_3 : decode cX6_untilNext 3 = .ok (.bipush 100, 2) := by decide +kernel
theorem dX6_untilNext_5 : decode cX6_untilNext 5 = .ok (.iload_n 3, 1) := by decide +kernel
theorem dX6_untilNext_6 : decode cX6_untilNext 6 = .ok (.isub, 1) := by decide +kernel
theorem dX6_untilNext_7 : decode cX6_untilNext 7 = .ok (.invokevirtual 37, 3) := by decide +kernel
theorem dX6_untilNext_10 : decode cX6_untilNext 10 = .ok (.iconst 0, 1) := by decide +kernel
theorem dX6_untilNext_11 : decode cX6_untilNext 11 = .ok (.aload_n 0, 1) := by decide +kernel
theorem dX6_untilNext_12 : decode cX6_untilNext 12 = .ok (.getfield 9, 3) := by decide +kernel
theorem dX6_untilNext_15 : decode cX6_untilNext 15 = .ok (.iconst 2, 1) := by decide +kernel
theorem dX6_untilNext_16 : decode cX6_untilNext 16 = .ok (.iaload, 1) := by decide +kernel
theorem dX6_untilNext_17 : decode cX6_untilNext 17 = .ok (.iload 4, 2) := by decide +kernel
theorem dX6_untilNext_19 : decode cX6_untilNext 19 = .ok (.iadd, 1) := by decide +kernel
theorem dX6_untilNext_20 : decode cX6_untilNext 20 = .ok (.invokestatic 41, 3) := by decide +kernel
theorem dX6_untilNext_23 : decode cX6_untilNext 23 = .ok (.iadd, 1) := by decide +kernel
theorem dX6_untilNext_24 : decode cX6_untilNext 24 = .ok (.ireturn, 1) := by decide +kernel
theorem dX6_headroom_0 : decode cX6_headroom 0 = .ok (.iconst 0, 1) := by decide +kernel
theorem dX6_headroom_1 : decode cX6_headroom 1 = .ok (.aload_n 0, 1) := by decide +kernel
theorem dX6_headroom_2 : decode cX6_headroom 2 = .ok (.getfield 9, 3) := by decide +kernel
theorem dX6_headroom_5 : decode cX6_headroom 5 = .ok (.iconst 2, 1) := by decide +kernel
theorem dX6_headroom_6 : decode cX6_headroom 6 = .ok (.iaload, 1) := by decide +kernel
theorem dX6_headroom_7 : decode cX6_headroom 7 = .ok (.iload 4, 2) := by decide +kernel
theorem dX6_headroom_9 : decode cX6_headroom 9 = .ok (.iadd, 1) := by decide +kernel
theorem dX6_headroom_10 : decode cX6_headroom 10 = .ok (.invokestatic 41, 3) := by decide +kernel
theorem dX6_headroom_13 : decode cX6_headroom 13 = .ok (.istore 6, 2) := by decide +kernel
theorem dX6_headroom_15 : decode cX6_headroom 15 = .ok (.iload 6, 2) := by decide +kernel
theorem dX6_headroom_17 : decode cX6_headroom 17 = .ok (.aload_n 0, 1) := by decide +kernel
theorem dX6_headroom_18 : decode cX6_headroom 18 = .ok (.iload_n 3, 1) := by decide +kernel
theorem dX6_headroom_19 : decode cX6_headroom 19 = .ok (.iload_n 1, 1) := by decide +kernel
theorem dX6_headroom_20 : decode cX6_headroom 20 = .ok (.iconst 1, 1) := by decide +kernel
theorem dX6_headroom_21 : decode cX6_headroom 21 = .ok (.iadd, 1) := by decide +kernel
theorem dX6_headroom_22 : decode cX6_headroom 22 = .ok (.iload 5, 2) := by decide +kernel
theorem dX6_headroom_24 : decode cX6_headroom 24 = .ok (.invokevirtual 37, 3) := by decide +kernel
theorem dX6_headroom_27 : decode cX6_headroom 27 = .ok (.iadd, 1) := by decide +kernel
theorem dX6_headroom_28 : decode cX6_headroom 28 = .ok (.iload 5, 2) := by decide +kernel
theorem dX6_headroom_30 : decode cX6_headroom 30 = .ok (.aload_n 0, 1) := by decide +kernel
theorem dX6_headroom_31 : decode cX6_headroom 31 = .ok (.getfield 9, 3) := by decide +kernel
theorem dX6_headroom_34 : decode cX6_headroom 34 = .ok (.iconst 1, 1) := by decide +kernel
theorem dX6_headroom_35 : decode cX6_headroom 35 = .ok (.iaload, 1) := by decide +kernel
theorem dX6_headroom_36 : decode cX6_headroom 36 = .ok (.isub, 1) := by decide +kernel
theorem dX6_headroom_37 : decode cX6_headroom 37 = .ok (.aload_n 0, 1) := by decide +kernel
theorem dX6_headroom_38 : decode cX6_headroom 38 = .ok (.iload_n 2, 1) := by decide +kernel
theorem dX6_headroom_39 : decode cX6_headroom 39 = .ok (.iload_n 1, 1) := by decide +kernel
theorem dX6_headroom_40 : decode cX6_headroom 40 = .ok (.invokevirtual 47, 3) := by decide +kernel
theorem dX6_headroom_43 : decode cX6_headroom 43 = .ok (.imul, 1) := by decide +kernel
theorem dX6_headroom_44 : decode cX6_headroom 44 = .ok (.isub, 1) := by decide +kernel
theorem dX6_headroom_45 : decode cX6_headroom 45 = .ok (.ireturn, 1) := by decide +kernel
theorem dX6_meeting_0 : decode cX6_meeting 0 = .ok (.iload 4, 2) := by decide +kernel
theorem dX6_meeting_2 : decode cX6_meeting 2 = .ok (.aload_n 0, 1) := by decide +kernel
theorem dX6_meeting_3 : decode cX6_meeting 3 = .ok (.iload_n 2, 1) := by decide +kernel
theorem dX6_meeting_4 : decode cX6_meeting 4 = .ok (.iload_n 1, 1) := by decide +kernel
theorem dX6_meeting_5 : decode cX6_meeting 5 = .ok (.invokevirtual 47, 3) := by decide +kernel
theorem dX6_meeting_8 : decode cX6_meeting 8 = .ok (.imul, 1) := by decide +kernel
theorem dX6_meeting_9 : decode cX6_meeting 9 = .ok (.istore 6, 2) := by decide +kernel
theorem dX6_meeting_11 : decode cX6_meeting 11 = .ok (.iconst 0, 1) := by decide +kernel
theorem dX6_meeting_12 : decode cX6_meeting 12 = .ok (.istore 7, 2) := by decide +kernel
theorem dX6_meeting_14 : decode cX6_meeting 14 = .ok (.iload 7, 2) := by decide +kernel
theorem dX6_meeting_16 : decode cX6_meeting 16 = .ok (.aload_n 0, 1) := by decide +kernel
theorem dX6_meeting_17 : decode cX6_meeting 17 = .ok (.getfield 9, 3) := by decide +kernel
theorem dX6_meeting_20 : decode cX6_meeting 20 = .ok (.iconst 0, 1) := by decide +kernel
theorem dX6_meeting_21 : decode cX6_meeting 21 = .ok (.iaload, 1) := by decide +kernel
theorem dX6_meeting_22 : decode cX6_meeting 22 = .ok (.if_icmp .gt 28, 3) := by decide +kernel
theorem dX6_meeting_25 : decode cX6_meeting 25 = .ok (.aload_n 0, 1) := by decide +kernel
theorem dX6_meeting_26 : decode cX6_meeting 26 = .ok (.iload_n 1, 1) := by decide +kernel
theorem dX6_meeting_27 : decode cX6_meeting 27 = .ok (.iload_n 2, 1) := by decide +kernel
theorem dX6_meeting_28 : decode cX6_meeting 28 = .ok (.iload_n 3, 1) := by decide +kernel
theorem dX6_meeting_29 : decode cX6_meeting 29 = .ok (.iload 5, 2) := by decide +kernel
theorem dX6_meeting_31 : decode cX6_meeting 31 = .ok (.iload 7, 2) := by decide +kernel
theorem dX6_meeting_33 : decode cX6_meeting 33 = .ok (.invokevirtual 50, 3) := by decide +kernel
theorem dX6_meeting_36 : decode cX6_meeting 36 = .ok (.iload 6, 2) := by decide +kernel
theorem dX6_meeting_38 : decode cX6_meeting 38 = .ok (.if_icmp .lt 6, 3) := by decide +kernel
theorem dX6_meeting_41 : decode cX6_meeting 41 = .ok (.iload 7, 2) := by decide +kernel
theorem dX6_meeting_43 : decode cX6_meeting 43 = .ok (.ireturn, 1) := by decide +kernel
theorem dX6_meeting_44 : decode cX6_meeting 44 = .ok (.iinc 7 1, 3) := by decide +kernel
theorem dX6_meeting_47 : decode cX6_meeting 47 = .ok (.goto (-33), 3) := by decide +kernel
theorem dX6_meeting_50 : decode cX6_meeting 50 = .ok (.iconst (-1), 1) := by decide +kernel
theorem dX6_meeting_51 : decode cX6_meeting 51 = .ok (.ireturn, 1) := by decide +kernel
theorem dX6_farthest_0 : decode cX6_farthest 0 = .ok (.aload_n 0, 1) := by decide +kernel
theorem dX6_farthest_1 : decode cX6_farthest 1 = .ok (.iload_n 2, 1) := by decide +kernel
theorem dX6_farthest_2 : decode cX6_farthest 2 = .ok (.iload_n 1, 1) := by decide +kernel
theorem dX6_farthest_3 : decode cX6_farthest 3 = .ok (.invokevirtual 47, 3) := by decide +kernel
theorem dX6_farthest_6 : decode cX6_farthest 6 = .ok (.istore 5, 2) := by decide +kernel
theorem dX6_farthest_8 : decode cX6_farthest 8 = .ok (.iload 5, 2) := by decide +kernel
theorem dX6_farthest_10 : decode cX6_farthest 10 = .ok (.iconst 1, 1) := by decide +kernel
theorem dX6_farthest_11 : decode cX6_farthest 11 = .ok (.if_icmp .ge 5, 3) := by decide +kernel
theorem dX6_farthest_14 : decode cX6_farthest 14 = .ok (.iconst (-1), 1) := by decide +kernel
theorem dX6_farthest_15 : decode cX6_farthest 15 = .ok (.ireturn, 1) := by decide +kernel
theorem dX6_farthest_16 : decode cX6_farthest 16 = .ok (.iconst 0, 1) := by decide +kernel
theorem dX6_farthest_17 : decode cX6_farthest 17 = .ok (.istore 6, 2) := by decide +kernel
theorem dX6_farthest_19 : decode cX6_farthest 19 = .ok (.iconst 0, 1) := by decide +kernel
theorem dX6_farthest_20 : decode cX6_farthest 20 = .ok (.istore 7, 2) := by decide +kernel
theorem dX6_farthest_22 : decode cX6_farthest 22 = .ok (.iload 7, 2) := by decide +kernel
theorem dX6_farthest_24 : decode cX6_farthest 24 = .ok (.aload_n 0, 1) := by decide +kernel
theorem dX6_farthest_25 : decode cX6_farthest 25 = .ok (.getfield 9, 3) := by decide +kernel
theorem dX6_farthest_28 : decode cX6_farthest 28 = .ok (.iconst 0, 1) := by decide +kernel
theorem dX6_farthest_29 : decode cX6_farthest 29 = .ok (.iaload, 1) := by decide +kernel
theorem dX6_farthest_30 : decode cX6_farthest 30 = .ok (.if_icmp .gt 27, 3) := by decide +kernel
theorem dX6_farthest_33 : decode cX6_farthest 33 = .ok (.iload 6, 2) := by decide +kernel
theorem dX6_farthest_35 : decode cX6_farthest 35 = .ok (.aload_n 0, 1) := by decide +kernel
theorem dX6_farthest_36 : decode cX6_farthest 36 = .ok (.iload_n 1, 1) := by decide +kernel
theorem dX6_farthest_37 : decode cX6_farthest 37 = .ok (.iload_n 2, 1) := by decide +kernel
theorem dX6_farthest_38 : decode cX6_farthest 38 = .ok (.iload_n 3, 1) := by decide +kernel
theorem dX6_farthest_39 : decode cX6_farthest 39 = .ok (.iload 4, 2) := by decide +kernel
theorem dX6_farthest_41 : decode cX6_farthest 41 = .ok (.iload 7, 2) := by decide +kernel
theorem dX6_farthest_43 : decode cX6_farthest 43 = .ok (.invokevirtual 50, 3) := by decide +kernel
theorem dX6_farthest_46 : decode cX6_farthest 46 = .ok (.invokestatic 41, 3) := by decide +kernel
theorem dX6_farthest_49 : decode cX6_farthest 49 = .ok (.istore 6, 2) := by decide +kernel
theorem dX6_farthest_51 : decode cX6_farthest 51 = .ok (.iinc 7 1, 3) := by decide +kernel
theorem dX6_farthest_54 : decode cX6_farthest 54 = .ok (.goto (-32), 3) := by decide +kernel
theorem dX6_farthest_57 : decode cX6_farthest 57 = .ok (.bipush 40, 2) := by decide +kernel
theorem dX6_farthest_59 : decode cX6_farthest 59 = .ok (.iload 6, 2) := by decide +kernel
theorem dX6_farthest_61 : decode cX6_farthest 61 = .ok (.iload 5, 2) := by decide +kernel
theorem dX6_farthest_63 : decode cX6_farthest 63 = .ok (.idiv, 1) := by decide +kernel
theorem dX6_farthest_64 : decode cX6_farthest 64 = .ok (.invokestatic 54, 3) := by decide +kernel
theorem dX6_farthest_67 : decode cX6_farthest 67 = .ok (.ireturn, 1) := by decide +kernel
theorem dX6_leg_0 : decode cX6_leg 0 = .ok (.aload_n 0, 1) := by decide +kernel
theorem dX6_leg_1 : decode cX6_leg 1 = .ok (.iload_n 1, 1) := by decide +kernel
theorem dX6_leg_2 : decode cX6_leg 2 = .ok (.iload_n 2, 1) := by decide +kernel
theorem dX6_leg_3 : decode cX6_leg 3 = .ok (.iload_n 3, 1) := by decide +kernel
theorem dX6_leg_4 : decode cX6_leg 4 = .ok (.iload 4, 2) := by decide +kernel
theorem dX6_leg_6 : decode cX6_leg 6 = .ok (.iload 5, 2) := by decide +kernel
theorem dX6_leg_8 : decode cX6_leg 8 = .ok (.invokevirtual 57, 3) := by decide +kernel
theorem dX6_leg_11 : decode cX6_leg 11 = .ok (.istore 6, 2) := by decide +kernel
theorem dX6_leg_13 : decode cX6_leg 13 = .ok (.iload 6, 2) := by decide +kernel
theorem dX6_leg_15 : decode cX6_leg 15 = .ok (.iconst (-1), 1) := by decide +kernel
theorem dX6_leg_16 : decode cX6_leg 16 = .ok (.if_icmp .ne 5, 3) := by decide +kernel
theorem dX6_leg_19 : decode cX6_leg 19 = .ok (.iconst (-1), 1) := by decide +kernel
theorem dX6_leg_20 : decode cX6_leg 20 = .ok (.ireturn, 1) := by decide +kernel
theorem dX6_leg_21 : decode cX6_leg 21 = .ok (.aload_n 0, 1) := by decide +kernel
theorem dX6_leg_22 : decode cX6_leg 22 = .ok (.iload_n 1, 1) := by decide +kernel
theorem dX6_leg_23 : decode cX6_leg 23 = .ok (.iload_n 2, 1) := by decide +kernel
theorem dX6_leg_24 : decode cX6_leg 24 = .ok (.iload 4, 2) := by decide +kernel
theorem dX6_leg_26 : decode cX6_leg 26 = .ok (.iload 5, 2) := by decide +kernel
theorem dX6_leg_28 : decode cX6_leg 28 = .ok (.invokevirtual 60, 3) := by decide +kernel
theorem dX6_leg_31 : decode cX6_leg 31 = .ok (.iload 6, 2) := by decide +kernel
theorem dX6_leg_33 : decode cX6_leg 33 = .ok (.ifCond .ne 12, 3) := by decide +kernel
theorem dX6_leg_36 : decode cX6_leg 36 = .ok (.aload_n 0, 1) := by decide +kernel
theorem dX6_leg_37 : decode cX6_leg 37 = .ok (.getfield 9, 3) := by decide +kernel
theorem dX6_leg_40 : decode cX6_leg 40 = .ok (.iconst 5, 1) := by decide +kernel
theorem dX6_leg_41 : decode cX6_leg 41 = .ok (.iaload, 1) := by decide +kernel
theorem dX6_leg_42 : decode cX6_leg 42 = .ok (.goto 4, 3) := by decide +kernel
theorem dX6_leg_45 : decode cX6_leg 45 = .ok (.iconst 0, 1) := by decide +kernel
theorem dX6_leg_46 : decode cX6_leg 46 = .ok (.iadd, 1) := by decide +kernel
theorem dX6_leg_47 : decode cX6_leg 47 = .ok (.ireturn, 1) := by decide +kernel
theorem dX6_kindOf_0 : decode cX6_kindOf 0 = .ok (.iload_n 1, 1) := by decide +kernel
theorem dX6_kindOf_1 : decode cX6_kindOf 1 = .ok (.iconst (-1), 1) := by decide +kernel
theorem dX6_kindOf_2 : decode cX6_kindOf 2 = .ok (.if_icmp .ne 5, 3) := by decide +kernel
theorem dX6_kindOf_5 : decode cX6_kindOf 5 = .ok (.iconst 3, 1) := by decide +kernel
theorem dX6_kindOf_6 : decode cX6_kindOf 6 = .ok (.ireturn, 1) := by decide +kernel
theorem dX6_kindOf_7 : decode cX6_kindOf 7 = .ok (.iload_n 1, 1) := by decide +kernel
theorem dX6_kindOf_8 : decode cX6_kindOf 8 = .ok (.ifCond .ne 5, 3) := by decide +kernel
theorem dX6_kindOf_11 : decode cX6_kindOf 11 = .ok (.iconst 2, 1) := by decide +kernel
theorem dX6_kindOf_12 : decode cX6_kindOf 12 = .ok (.ireturn, 1) := by decide +kernel
theorem dX6_kindOf_13 : decode cX6_kindOf 13 = .ok (.iload_n 1, 1) := by decide +kernel
theorem dX6_kindOf_14 : decode cX6_kindOf 14 = .ok (.aload_n 0, 1) := by decide +kernel
theorem dX6_kindOf_15 : decode cX6_kindOf 15 = .ok (.getfield 9, 3) := by decide +kernel
theorem dX6_kindOf_18 : decode cX6_kindOf 18 = .ok (.iconst 0, 1) := by decide +kernel
theorem dX6_kindOf_19 : decode cX6_kindOf 19 = .ok (.iaload, 1) := by decide +kernel
theorem dX6_kindOf_20 : decode cX6_kindOf 20 = .ok (.iconst 2, 1) := by decide +kernel
theorem dX6_kindOf_21 : decode cX6_kindOf 21 = .ok (.isub, 1) := by decide +kernel
theorem dX6_kindOf_22 : decode cX6_kindOf 22 = .ok (.if_icmp .lt 7, 3) := by decide +kernel
theorem dX6_kindOf_25 : decode cX6_kindOf 25 = .ok (.iconst 1, 1) := by decide +kernel
theorem dX6_kindOf_26 : decode cX6_kindOf 26 = .ok (.goto 4, 3) := by decide +kernel
theorem dX6_kindOf_29 : decode cX6_kindOf 29 = .ok (.iconst 0, 1) := by decide +kernel
theorem dX6_kindOf_30 : decode cX6_kindOf 30 = .ok (.ireturn, 1) := by decide +kernel
theorem dX7_init_0 : decode cX7_init 0 = .ok (.aload_n 0, 1) := by decide +kernel
theorem dX7_init_1 : decode cX7_init 1 = .ok (.invokespecial 1, 3) := by decide +kernel
theorem dX7_init_4 : decode cX7_init 4 = .ok (.aload_n 0, 1) := by decide +kernel
theorem dX7_init_5 : decode cX7_init 5 = .ok (.new 7, 3) := by decide +kernel
theorem dX7_init_8 : decode cX7_init 8 = .ok (.dup, 1) := by decide +kernel
theorem dX7_init_9 : decode cX7_init 9 = .ok (.invokespecial 9, 3) := by decide +kernel
theorem dX7_init_12 : decode cX7_init 12 = .ok (.putfield 10, 3) := by decide +kernel
theorem dX7_init_15 : decode cX7_init 15 = .ok (.aload_n 0, 1) := by decide +kernel
theorem dX7_init_16 : decode cX7_init 16 = .ok (.new 16, 3) := by decide +kernel
theorem dX7_init_19 : decode cX7_init 19 = .ok (.dup, 1) := by decide +kernel
theorem dX7_init_20 : decode cX7_init 20 = .ok (.aload_n 0, 1) := by decide +kernel
theorem dX7_init_21 : decode cX7_init 21 = .ok (.getfield 10, 3) := by decide +kernel
theorem dX7_init_24 : decode cX7_init 24 = .ok (.invokespecial 18, 3) := by decide +kernel
theorem dX7_init_27 : decode cX7_init 27 = .ok (.putfield 21, 3) := by decide +kernel
theorem dX7_init_30 : decode cX7_init 30 = .ok (.aload_n 0, 1) := by decide +kernel
theorem dX7_init_31 : decode cX7_init 31 = .ok (.new 25, 3) := by decide +kernel
theorem dX7_init_34 : decode cX7_init 34 = .ok (.dup, 1) := by decide +kernel
theorem dX7_init_35 : decode cX7_init 35 = .ok (.aload_n 0, 1) := by decide +kernel
theorem dX7_init_36 : decode cX7_init 36 = .ok (.getfield 10, 3) := by decide +kernel
theorem dX7_init_39 : decode cX7_init 39 = .ok (.aload_n 0, 1) := by decide +kernel
theorem dX7_init_40 : decode cX7_init 40 = .ok (.getfield 21, 3) := by decide +kernel
theorem dX7_init_43 : decode cX7_init 43 = .ok (.invokespecial 27, 3) := by decide +kernel
theorem dX7_init_46 : decode cX7_init 46 = .ok (.putfield 30, 3) := by decide +kernel
theorem dX7_init_49 : decode cX7_init 49 = .ok (.aload_n 0, 1) := by decide +kernel
theorem dX7_init_50 : decode cX7_init 50 = .ok (.new 34, 3) := by decide +kernel
theorem dX7_init_53 : decode cX7_init 53 = .ok (.dup, 1) := by decide +kernel
theorem dX7_init_54 : decode cX7_init 54 = .ok (.aload_n 0, 1) := by decide +kernel
theorem dX7_init_55 : decode cX7_init 55 = .ok (.getfield 21, 3) := by decide +kernel
theorem dX7_init_58 : decode cX7_init 58 = .ok (.aload_n 0, 1) := by decide +kernel
theorem dX7_init_59 : decode cX7_init 59 = .ok (.getfield 30, 3) := by decide +kernel
theorem dX7_init_62 : decode cX7_init 62 = .ok (.invokespecial 36, 3) := by decide +kernel
theorem dX7_init_65 : decode cX7_init 65 = .ok (.putfield 39, 3) := by decide +kernel
theorem dX7_init_68 : decode cX7_init 68 = .ok (.aload_n 0, 1) := by decide +kernel
theorem dX7_init_69 : decode cX7_init 69 = .ok (.new 43, 3) := by decide +kernel
theorem dX7_init_72 : decode cX7_init 72 = .ok (.dup, 1) := by decide +kernel
theorem dX7_init_73 : decode cX7_init 73 = .ok (.aload_n 0, 1) := by decide +kernel
theorem dX7_init_74 : decode cX7_init 74 = .ok (.getfield 10, 3) := by decide +kernel
theorem dX7_init_77 : decode cX7_init 77 = .ok (.aload_n 0, 1) := by decide +kernel
theorem dX7_init_78 : decode cX7_init 78 = .ok (.getfield 21, 3) := by decide +kernel
theorem dX7_init_81 : decode cX7_init 81 = .ok (.invokespecial 45, 3) := by decide +kernel
theorem dX7_init_84 : decode cX7_init 84 = .ok (.putfield 46, 3) := by decide +kernel
theorem dX7_init_87 : decode cX7_init 87 = .ok (.aload_n 0, 1) := by decide +kernel
theorem dX7_init_88 : decode cX7_init 88 = .ok (.new 50, 3) := by decide +kernel
theorem dX7_init_91 : decode cX7_init 91 = .ok (.dup, 1) := by decide +kernel
theorem dX7_init_92 : decode cX7_init 92 = .ok (.invokespecial 52, 3) := by decide +kernel
theorem dX7_init_95 : decode cX7_init 95 = .ok (.putfield 53, 3) := by decide +kernel
theorem dX7_init_98 : decode cX7_init 98 = .ok (.aload_n 0, 1) := by decide +kernel
theorem dX7_init_99 : decode cX7_init 99 = .ok (.new 57, 3) := by decide +kernel
theorem dX7_init_102 : decode cX7_init 102 = .ok (.dup, 1) := by decide +kernel
theorem dX7_init_103 : decode cX7_init 103 = .ok (.invokespecial 59, 3) := by decide +kernel
theorem dX7_init_106 : decode cX7_init 106 = .ok (.putfield 60, 3) := by decide +kernel
theorem dX7_init_109 : decode cX7_init 109 = .ok (.return_, 1) := by decide +kernel
theorem dX7_type_0 : decode cX7_type 0 = .ok (.iload_n 1, 1) := by decide +kernel
theorem dX7_type_1 : decode cX7_type 1 = .ok (.iconst 0, 1) := by decide +kernel
theorem dX7_type_2 : decode cX7_type 2 = .ok (.sipush 255, 3) := by decide +kernel
theorem dX7_type_5 : decode cX7_type 5 = .ok (.invokestatic 64, 3) := by decide +kernel
theorem dX7_type_8 : decode cX7_type 8 = .ok (.ifCond .eq 6, 3) := by decide +kernel
theorem dX7_type_11 : decode cX7_type 11 = .ok (.bipush (-2), 2) := by decide +kernel
theorem dX7_type_13 : decode cX7_type 13 = .ok (.ireturn, 1) := by decide +kernel
theorem dX7_type_14 : decode cX7_type 14 = .ok (.aload_n 0, 1) := by decide +kernel
theorem dX7_type_15 : decode cX7_type 15 = .ok (.getfield 10, 3) := by decide +kernel
theorem dX7_type_18 : decode cX7_type 18 = .ok (.iload_n 1, 1) := by decide +kernel
theorem dX7_type_19 : decode cX7_type 19 = .ok (.invokevirtual 68, 3) := by decide +kernel
theorem dX7_type_22 : decode cX7_type 22 = .ok (.ifCond .eq 13, 3) := by decide +kernel
theorem dX7_type_25 : decode cX7_type 25 = .ok (.aload_n 0, 1) := by decide +kernel
theorem dX7_type_26 : decode cX7_type 26 = .ok (.getfield 10, 3) := by decide +kernel
theorem dX7_type_29 : decode cX7_type 29 = .ok (.getfield 72, 3) := by decide +kernel
theorem dX7_type_32 : decode cX7_type 32 = .ok (.goto 5, 3) := by decide +kernel
theorem dX7_type_35 : decode cX7_type 35 = .ok (.bipush (-4), 2) := by decide +kernel
theorem dX7_type_37 : decode cX7_type 37 = .ok (.ireturn, 1) := by decide +kernel
theorem dX7_wipe_0 : decode cX7_wipe 0 = .ok (.aload_n 0, 1) := by decide +kernel
theorem dX7_wipe_1 : decode cX7_wipe 1 = .ok (.getfield 10, 3) := by decide +kernel
theorem dX7_wipe_4 : decode cX7_wipe 4 = .ok (.invokevirtual 76, 3) := by decide +kernel
theorem dX7_wipe_7 : decode cX7_wipe 7 = .ok (.ireturn, 1) := by decide +kernel
theorem dX7_undo_0 : decode cX7_undo 0 = .ok (.aload_n 0, 1) := by decide +kernel
theorem dX7_undo_1 : decode cX7_undo 1 = .ok (.getfield 10, 3) := by decide +kernel
theorem dX7_undo_4 : decode cX7_undo 4 = .ok (.invokevirtual 80, 3) := by decide +kernel
theorem dX7_undo_7 : decode cX7_undo 7 = .ok (.ifCond .eq 13, 3) := by decide +kernel
theorem dX7_undo_10 : decode cX7_undo 10 = .ok (.aload_n 0, 1) := by decide +kernel
theorem dX7_undo_11 : decode cX7_undo 11 = .ok (.getfield 10, 3) := by decide +kernel
theorem dX7_undo_14 : decode cX7_undo 14 = .ok (.getfield 72, 3) := by decide +kernel
theorem dX7_undo_17 : decode cX7_undo 17 = .ok (.goto 5, 3) := by decide +kernel
theorem dX7_undo_20 : decode cX7_undo 20 = .ok (.bipush (-3), 2) := by decide +kernel
theorem dX7_undo_22 : decode cX7_undo 22 = .ok (.ireturn, 1) := by decide +kernel
theorem dX7_fault_0 : decode cX7_fault 0 = .ok (.aload_n 0, 1) := by decide +kernel
theorem dX7_fault_1 : decode cX7_fault 1 = .ok (.getfield 10, 3) := by decide +kernel
theorem dX7_fault_4 : decode cX7_fault 4 = .ok (.getfield 84, 3) := by decide +kernel
theorem dX7_fault_7 : decode cX7_fault 7 = .ok (.ireturn, 1) := by decide +kernel
theorem dX7_runner_0 : decode cX7_runner 0 = .ok (.aload_n 0, 1) := by decide +kernel
theorem dX7_runner_1 : decode cX7_runner 1 = .ok (.iload_n 1, 1) := by decide +kernel
theorem dX7_runner_2 : decode cX7_runner 2 = .ok (.invokevirtual 87, 3) := by decide +kernel
theorem dX7_runner_5 : decode cX7_runner 5 = .ok (.ifCond .ne 12, 3) := by decide +kernel
theorem dX7_runner_8 : decode cX7_runner 8 = .ok (.iload_n 2, 1) := by decide +kernel
theorem dX7_runner_9 : decode cX7_runner 9 = .ok (.iconst 0, 1) := by decide +kernel
theorem dX7_runner_10 : decode cX7_runner 10 = .ok (.iconst 3, 1) := by decide +kernel
theorem dX7_runner_11 : decode cX7_runner 11 = .ok (.invokestatic 64, 3) := by decide +kernel
theorem dX7_runner_14 : decode cX7_runner 14 = .ok (.ifCond .eq 6, 3) := by decide +kernel
theorem dX7_runner_17 : decode cX7_runner 17 = .ok (.bipush (-2), 2) := by decide +kernel
theorem dX7_runner_19 : decode cX7_runner 19 = .ok (.ireturn, 1) := by decide +kernel
theorem dX7_runner_20 : decode cX7_runner 20 = .ok (.aload_n 0, 1) := by decide +kernel
theorem dX7_runner_21 : decode cX7_runner 21 = .ok (.getfield 10, 3) := by decide +kernel
theorem dX7_runner_24 : decode cX7_runner 24 = .ok (.iload_n 1, 1) := by decide +kernel
theorem dX7_runner_25 : decode cX7_runner 25 = .ok (.iload_n 2, 1) := by decide +kernel
theorem dX7_runner_26 : decode cX7_runner 26 = .ok (.invokevirtual 90, 3) := by decide +kernel
theorem dX7_runner_29 : decode cX7_runner 29 = .ok (.ireturn, 1) := by decide +kernel
theorem dX7_runs_0 : decode cX7_runs 0 = .ok (.iload_n 1, 1) := by decide +kernel
theorem dX7_runs_1 : decode cX7_runs 1 = .ok (.invokestatic 94, 3) := by decide +kernel
theorem dX7_runs_4 : decode cX7_runs 4 = .ok (.ifCond .ne 12, 3) := by decide +kernel
theorem dX7_runs_7 : decode cX7_runs 7 = .ok (.iload_n 2, 1) := by decide +kernel
theorem dX7_runs_8 : decode cX7_runs 8 = .ok (.iconst 0, 1) := by decide +kernel
theorem dX7_runs_9 : decode cX7_runs 9 = .ok (.iconst 4, 1) := by decide +kernel
theorem dX7_runs_10 : decode cX7_runs 10 = .ok (.invokestatic 64, 3) := by decide +kernel
theorem dX7_runs_13 : decode cX7_runs 13 = .ok (.ifCond .eq 6, 3) := by decide +kernel
theorem dX7_runs_16 : decode cX7_runs 16 = .ok (.bipush (-2), 2) := by decide +kernel
theorem dX7_runs_18 : decode cX7_runs 18 = .ok (.ireturn, 1) := by decide +kernel
theorem dX7_runs_19 : decode cX7_runs 19 = .ok (.aload_n 0, 1) := by decide +kernel
theorem dX7_runs_20 : decode cX7_runs 20 = .ok (.getfield 30, 3) := by decide +kernel
theorem dX7_runs_23 : decode cX7_runs 23 = .ok (.getfield 97, 3) := by decide +kernel
theorem dX7_runs_26 : decode cX7_runs 26 = .ok (.iload_n 1, 1) := by decide +kernel
theorem dX7_runs_27 : decode cX7_runs 27 = .ok (.iload_n 2, 1) := by decide +kernel
theorem dX7_runs_28 : decode cX7_runs 28 = .ok (.invokestatic 101, 3) := by decide +kernel
theorem dX7_runs_31 : decode cX7_runs 31 = .ok (.ireturn, 1) := by decide +kernel
theorem dX7_set_0 : decode cX7_set 0 = .ok (.iload_n 1, 1) := by decide +kernel
theorem dX7_set_1 : decode cX7_set 1 = .ok (.iconst 0, 1) := by decide +kernel
theorem dX7_set_2 : decode cX7_set 2 = .ok (.bipush 6, 2) := by decide +kernel
theorem dX7_set_4 : decode cX7_set 4 = .ok (.invokestatic 64, 3) := by decide +kernel
theorem dX7_set_7 : decode cX7_set 7 = .ok (.ifCond .ne 20, 3) := by decide +kernel
theorem dX7_set_10 : decode cX7_set 10 = .ok (.iload_n 2, 1) := by decide +kernel
theorem dX7_set_11 : decode cX7_set 11 = .ok (.getstatic 105, 3) := by decide +kernel
theorem dX7_set_14 : decode cX7_set 14 = .ok (.iload_n 1, 1) := by decide +kernel
theorem dX7_set_15 : decode cX7_set 15 = .ok (.iaload, 1) := by decide +kernel
theorem dX7_set_16 : decode cX7_set 16 = .ok (.getstatic 108, 3) := by decide +kernel
theorem dX7_set_19 : decode cX7_set 19 = .ok (.iload_n 1, 1) := by decide +kernel
theorem dX7_set_20 : decode cX7_set 20 = .ok (.iaload, 1) := by decide +kernel
theorem dX7_set_21 : decode cX7_set 21 = .ok (.invokestatic 64, 3) := by decide +kernel
theorem dX7_set_24 : decode cX7_set 24 = .ok (.ifCond .eq 6, 3) := by decide +kernel
theorem dX7_set_27 : decode cX7_set 27 = .ok (.bipush (-2), 2) := by decide +kernel
theorem dX7_set_29 : decode cX7_set 29 = .ok (.ireturn, 1) := by decide +kernel
theorem dX7_set_30 : decode cX7_set 30 = .ok (.aload_n 0, 1) := by decide +kernel
theorem dX7_set_31 : decode cX7_set 31 = .ok (.getfield 21, 3) := by decide +kernel
theorem dX7_set_34 : decode cX7_set 34 = .ok (.iload_n 1, 1) := by decide +kernel
theorem dX7_set_35 : decode cX7_set 35 = .ok (.iload_n 2, 1) := by decide +kernel
theorem dX7_set_36 : decode cX7_set 36 = .ok (.invokevirtual 111, 3) := by decide +kernel
theorem dX7_set_39 : decode cX7_set 39 = .ok (.ireturn, 1) := by decide +kernel
theorem dX7_mark_0 : decode cX7_mark 0 = .ok (.iload_n 1, 1) := by decide +kernel
theorem dX7_mark_1 : decode cX7_mark 1 = .ok (.invokestatic 114, 3) := by decide +kernel
theorem dX7_mark_4 : decode cX7_mark 4 = .ok (.ifCond .ne 10, 3) := by decide +kernel
theorem dX7_mark_7 : decode cX7_mark 7 = .ok (.iload_n 2, 1) := by decide +kernel
theorem dX7_mark_8 : decode cX7_mark 8 = .ok (.invokestatic 117, 3) := by decide +kernel
theorem dX7_mark_11 : decode cX7_mark 11 = .ok (.ifCond .eq 6, 3) := by decide +kernel
theorem dX7_mark_14 : decode cX7_mark 14 = .ok (.bipush (-2), 2) := by decide +kernel
theorem dX7_mark_16 : decode cX7_mark 16 = .ok (.ireturn, 1) := by decide +kernel
theorem dX7_mark_17 : decode cX7_mark 17 = .ok (.aload_n 0, 1) := by decide +kernel
theorem dX7_mark_18 : decode cX7_mark 18 = .ok (.getfield 30, 3) := by decide +kernel
theorem dX7_mark_21 : decode cX7_mark 21 = .ok (.getfield 120, 3) := by decide +kernel
theorem dX7_mark_24 : decode cX7_mark 24 = .ok (.iload_n 1, 1) := by decide +kernel
theorem dX7_mark_25 : decode cX7_mark 25 = .ok (.iload_n 2, 1) := by decide +kernel
theorem dX7_mark_26 : decode cX7_mark 26 = .ok (.invokestatic 101, 3) := by decide +kernel
theorem dX7_mark_29 : decode cX7_mark 29 = .ok (.ireturn, 1) := by decide +kernel
theorem dX7_slip_0 : decode cX7_slip 0 = .ok (.iload_n 1, 1) := by decide +kernel
theorem dX7_slip_1 : decode cX7_slip 1 = .ok (.invokestatic 114, 3) := by decide +kernel
theorem dX7_slip_4 : decode cX7_slip 4 = .ok (.ifCond .ne 14, 3) := by decide +kernel
theorem dX7_slip_7 : decode cX7_slip 7 = .ok (.iload_n 2, 1) := by decide +kernel
theorem dX7_slip_8 : decode cX7_slip 8 = .ok (.bipush (-60), 2) := by decide +kernel
theorem dX7_slip_10 : decode cX7_slip 10 = .ok (.bipush 60, 2) := by decide +kernel
theorem dX7_slip_12 : decode cX7_slip 12 = .ok (.invokestatic 64, 3) := by decide +kernel
theorem dX7_slip_15 : decode cX7_slip 15 = .ok (.ifCond .eq 7, 3) := by decide +kernel
theorem dX7_slip_18 : decode cX7_slip 18 = .ok (.sipush (-1002), 3) := by decide +kernel
theorem dX7_slip_21 : decode cX7_slip 21 = .ok (.ireturn, 1) := by decide +kernel
theorem dX7_slip_22 : decode cX7_slip 22 = .ok (.aload_n 0, 1) := by decide +kernel
theorem dX7_slip_23 : decode cX7_slip 23 = .ok (.getfield 30, 3) := by decide +kernel
theorem dX7_slip_26 : decode cX7_slip 26 = .ok (.getfield 123, 3) := by decide +kernel
theorem dX7_slip_29 : decode cX7_slip 29 = .ok (.iload_n 1, 1) := by decide +kernel
theorem dX7_slip_30 : decode cX7_slip 30 = .ok (.iload_n 2, 1) := by decide +kernel
theorem dX7_slip_31 : decode cX7_slip 31 = .ok (.invokestatic 101, 3) := by decide +kernel
theorem dX7_slip_34 : decode cX7_slip 34 = .ok (.ireturn, 1) := by decide +kernel
theorem dX7_read_0 : decode cX7_read 0 = .ok (.iload_n 1, 1) := by decide +kernel
theorem dX7_read_1 : decode cX7_read 1 = .ok (.invokestatic 126, 3) := by decide +kernel
theorem dX7_read_4 : decode cX7_read 4 = .ok (.ifCond .eq 6, 3) := by decide +kernel
theorem dX7_read_7 : decode cX7_read 7 = .ok (.bipush (-2), 2) := by decide +kernel
theorem dX7_read_9 : decode cX7_read 9 = .ok (.ireturn, 1) := by decide +kernel
theorem dX7_read_10 : decode cX7_read 10 = .ok (.aload_n 0, 1) := by decide +kernel
theorem dX7_read_11 : decode cX7_read 11 = .ok (.getfield 60, 3) := by decide +kernel
theorem dX7_read_14 : decode cX7_read 14 = .ok (.iload_n 1, 1) := by decide +kernel
theorem dX7_read_15 : decode cX7_read 15 = .ok (.invokevirtual 129, 3) := by decide +kernel
theorem dX7_read_18 : decode cX7_read 18 = .ok (.ifCond .eq 12, 3) := by decide +kernel
theorem dX7_read_21 : decode cX7_read 21 = .ok (.aload_n 0, 1) := by decide +kernel
theorem dX7_read_22 : decode cX7_read 22 = .ok (.getfield 60, 3) := by decide +kernel
theorem dX7_read_25 : decode cX7_read 25 = .ok (.iconst 1, 1) := by decide +kernel
theorem dX7_read_26 : decode cX7_read 26 = .ok (.invokevirtual 132, 3) := by decide +kernel
theorem dX7_read_29 : decode cX7_read 29 = .ok (.ireturn, 1) := by decide +kernel
theorem dX7_read_30 : decode cX7_read 30 = .ok (.iconst 3, 1) := by decide +kernel
theorem dX7_read_31 : decode cX7_read 31 = .ok (.aload_n 0, 1) := by decide +kernel
theorem dX7_read_32 : decode cX7_read 32 = .ok (.getfield 60, 3) := by decide +kernel
theorem dX7_read_35 : decode cX7_read 35 = .ok (.getfield 136, 3) := by decide +kernel
theorem dX7_read_38 : decode cX7_read 38 = .ok (.iload_n 1, 1) := by decide +kernel
theorem dX7_read_39 : decode cX7_read 39 = .ok (.iaload, 1) := by decide +kernel
theorem dX7_read_40 : decode cX7_read 40 = .ok (.invokestatic 139, 3) := by decide +kernel
theorem dX7_read_43 : decode cX7_read 43 = .ok (.istore_n 2, 1) := by decide +kernel
theorem dX7_read_44 : decode cX7_read 44 = .ok (.iconst 0, 1) := by decide +kernel
theorem dX7_read_45 : decode cX7_read 45 = .ok (.istore_n 3, 1) := by decide +kernel
theorem dX7_read_46 : decode cX7_read 46 = .ok (.iload_n 3, 1) := by decide +kernel
theorem dX7_read_47 : decode cX7_read 47 = .ok (.iload_n 2, 1) := by decide +kernel
theorem dX7_read_48 : decode cX7_read 48 = .ok (.if_icmp .ge 43, 3) := by decide +kernel
theorem dX7_read_51 : decode cX7_read 51 = .ok (.aload_n 0, 1) := by decide +kernel
theorem dX7_read_52 : decode cX7_read 52 = .ok (.getfield 60, 3) := by decide +kernel
theorem dX7_read_55 : decode cX7_read 55 = .ok (.getfield 144, 3) := by decide +kernel
theorem dX7_read_58 : decode cX7_read 58 = .ok (.iload_n 1, 1) := by decide +kernel
theorem dX7_read_59 : decode cX7_read 59 = .ok (.aaload, 1) := by decide +kernel
theorem dX7_read_60 : decode cX7_read 60 = .ok (.iload_n 3, 1) := by decide +kernel
theorem dX7_read_61 : decode cX7_read 61 = .ok (.iaload, 1) := by decide +kernel
theorem dX7_read_62 : decode cX7_read 62 = .ok (.istore 4, 2) := by decide +kernel
theorem dX7_read_64 : decode cX7_read 64 = .ok (.iload 4, 2) := by decide +kernel
theorem dX7_read_66 : decode cX7_read 66 = .ok (.invokestatic 117, 3) := by decide +kernel
theorem dX7_read_69 : decode cX7_read 69 = .ok (.ifCond .eq 5, 3) := by decide +kernel
theorem dX7_read_72 : decode cX7_read 72 = .ok (.iload_n 3, 1) := by decide +kernel
theorem dX7_read_73 : decode cX7_read 73 = .ok (.ireturn, 1) := by decide +kernel
theorem dX7_read_74 : decode cX7_read 74 = .ok (.aload_n 0, 1) := by decide +kernel
theorem dX7_read_75 : decode cX7_read 75 = .ok (.getfield 30, 3) := by decide +kernel
theorem dX7_read_78 : decode cX7_read 78 = .ok (.getfield 120, 3) := by decide +kernel
theorem dX7_read_81 : decode cX7_read 81 = .ok (.iload_n 3, 1) := by decide +kernel
theorem dX7_read_82 : decode cX7_read 82 = .ok (.iload 4, 2) := by decide +kernel
theorem dX7_read_84 : decode cX7_read 84 = .ok (.iastore, 1) := by decide +kernel
theorem dX7_read_85 : decode cX7_read 85 = .ok (.iinc 3 1, 3) := by decide +kernel
theorem dX7_read_88 : decode cX7_read 88 = .ok (.goto (-42), 3) := by decide +kernel
theorem dX7_read_91 : decode cX7_read 91 = .ok (.iload_n 2, 1) := by decide +kernel
theorem dX7_read_92 : decode cX7_read 92 = .ok (.ireturn, 1) := by decide +kernel
theorem dX7_takes_0 : decode cX7_takes 0 = .ok (.aload_n 0, 1) := by decide +kernel
theorem dX7_takes_1 : decode cX7_takes 1 = .ok (.iload_n 1, 1) := by decide +kernel
theorem dX7_takes_2 : decode cX7_takes 2 = .ok (.invokevirtual 87, 3) := by decide +kernel
theorem dX7_takes_5 : decode cX7_takes 5 = .ok (.ifCond .ne 20, 3) := by decide +kernel
theorem dX7_takes_8 : decode cX7_takes 8 = .ok (.iload_n 2, 1) := by decide +kernel
theorem dX7_takes_9 : decode cX7_takes 9 = .ok (.invokestatic 94, 3) := by decide +kernel
theorem dX7_takes_12 : decode cX7_takes 12 = .ok (.ifCond .ne 13, 3) := by decide +kernel
theorem dX7_takes_15 : decode cX7_takes 15 = .ok (.iload_n 3, 1) := by decide +kernel
theorem dX7_takes_16 : decode cX7_takes 16 = .ok (.iconst 0, 1) := by decide +kernel
theorem dX7_takes_17 : decode cX7_takes 17 = .ok (.bipush 100, 2) := by decide +kernel
theorem dX7_takes_19 : decode cX7_takes 19 = .ok (.invokestatic 64, 3) := by decide +kernel
theorem dX7_takes_22 : decode cX7_takes 22 = .ok (.ifCond .eq 6, 3) := by decide +kernel
theorem dX7_takes_25 : decode cX7_takes 25 = .ok (.bipush (-2), 2) := by decide +kernel
theorem dX7_takes_27 : decode cX7_takes 27 = .ok (.ireturn, 1) := by decide +kernel
theorem dX7_takes_28 : decode cX7_takes 28 = .ok (.aload_n 0, 1) := by decide +kernel
theorem dX7_takes_29 : decode cX7_takes 29 = .ok (.getfield 21, 3) := by decide +kernel
theorem dX7_takes_32 : decode cX7_takes 32 = .ok (.iload_n 1, 1) := by decide +kernel
theorem dX7_takes_33 : decode cX7_takes 33 = .ok (.iload_n 2, 1) := by decide +kernel
theorem dX7_takes_34 : decode cX7_takes 34 = .ok (.iload_n 3, 1) := by decide +kernel
theorem dX7_takes_35 : decode cX7_takes 35 = .ok (.invokevirtual 148, 3) := by decide +kernel
theorem dX7_takes_38 : decode cX7_takes 38 = .ok (.ireturn, 1) := by decide +kernel
theorem dX7_when_0 : decode cX7_when 0 = .ok (.iload_n 1, 1) := by decide +kernel
theorem dX7_when_1 : decode cX7_when 1 = .ok (.invokestatic 94, 3) := by decide +kernel
theorem dX7_when_4 : decode cX7_when 4 = .ok (.ifCond .ne 12, 3) := by decide +kernel
theorem dX7_when_7 : decode cX7_when 7 = .ok (.iload_n 2, 1) := by decide +kernel
theorem dX7_when_8 : decode cX7_when 8 = .ok (.iconst 0, 1) := by decide +kernel
theorem dX7_when_9 : decode cX7_when 9 = .ok (.iconst 1, 1) := by decide +kernel
theorem dX7_when_10 : decode cX7_when 10 = .ok (.invokestatic 64, 3) := by decide +kernel
theorem dX7_when_13 : decode cX7_when 13 = .ok (.ifCond .eq 6, 3) := by decide +kernel
theorem dX7_when_16 : decode cX7_when 16 = .ok (.bipush (-2), 2) := by decide +kernel
theorem dX7_when_18 : decode cX7_when 18 = .ok (.ireturn, 1) := by decide +kernel
theorem dX7_when_19 : decode cX7_when 19 = .ok (.aload_n 0, 1) := by decide +kernel
theorem dX7_when_20 : decode cX7_when 20 = .ok (.getfield 30, 3) := by decide +kernel
theorem dX7_when_23 : decode cX7_when 23 = .ok (.invokevirtual 152, 3) := by decide +kernel
theorem dX7_when_26 : decode cX7_when 26 = .ok (.ifCond .eq 6, 3) := by decide +kernel
theorem dX7_when_29 : decode cX7_when 29 = .ok (.bipush (-3), 2) := by decide +kernel
theorem dX7_when_31 : decode cX7_when 31 = .ok (.ireturn, 1) := by decide +kernel
theorem dX7_when_32 : decode cX7_when 32 = .ok (.aload_n 0, 1) := by decide +kernel
theorem dX7_when_33 : decode cX7_when 33 = .ok (.getfield 30, 3) := by decide +kernel
theorem dX7_when_36 : decode cX7_when 36 = .ok (.iload_n 1, 1) := by decide +kernel
theorem dX7_when_37 : decode cX7_when 37 = .ok (.invokevirtual 155, 3) := by decide +kernel
theorem dX7_when_40 : decode cX7_when 40 = .ok (.istore_n 3, 1) := by decide +kernel
theorem dX7_when_41 : decode cX7_when 41 = .ok (.iload_n 2, 1) := by decide +kernel
theorem dX7_when_42 : decode cX7_when 42 = .ok (.ifCond .ne 7, 3) := by decide +kernel
theorem dX7_when_45 : decode cX7_when 45 = .ok (.iload_n 3, 1) := by decide +kernel
theorem dX7_when_46 : decode cX7_when 46 = .ok (.goto 24, 3) := by decide +kernel
theorem dX7_when_49 : decode cX7_when 49 = .ok (.iload_n 3, 1) := by decide +kernel
theorem dX7_when_50 : decode cX7_when 50 = .ok (.aload_n 0, 1) := by decide +kernel
theorem dX7_when_51 : decode cX7_when 51 = .ok (.getfield 21, 3) := by decide +kernel
theorem dX7_when_54 : decode cX7_when 54 = .ok (.aload_n 0, 1) := by decide +kernel
theorem dX7_when_55 : decode cX7_when 55 = .ok (.getfield 30, 3) := by decide +kernel
theorem dX7_when_58 : decode cX7_when 58 = .ok (.getfield 97, 3) := by decide +kernel
theorem dX7_when_61 : decode cX7_when 61 = .ok (.iload_n 1, 1) := by decide +kernel
theorem dX7_when_62 : decode cX7_when 62 = .ok (.iaload, 1) := by decide +kernel
theorem dX7_when_63 : decode cX7_when 63 = .ok (.iload_n 1, 1) := by decide +kernel
theorem dX7_when_64 : decode cX7_when 64 = .ok (.bipush 100, 2) := by decide +kernel
theorem dX7_when_66 : decode cX7_when 66 = .ok (.invokevirtual 148, 3) := by decide +kernel
theorem dX7_when_69 : decode cX7_when 69 = .ok (.iadd, 1) := by decide +kernel
theorem dX7_when_70 : decode cX7_when 70 = .ok (.ireturn, 1) := by decide +kernel
theorem dX7_meet_0 : decode cX7_meet 0 = .ok (.iload_n 1, 1) := by decide +kernel
theorem dX7_meet_1 : decode cX7_meet 1 = .ok (.invokestatic 114, 3) := by decide +kernel
theorem dX7_meet_4 : decode cX7_meet 4 = .ok (.ifCond .eq 6, 3) := by decide +kernel
theorem dX7_meet_7 : decode cX7_meet 7 = .ok (.bipush (-2), 2) := by decide +kernel
theorem dX7_meet_9 : decode cX7_meet 9 = .ok (.ireturn, 1) := by decide +kernel
theorem dX7_meet_10 : decode cX7_meet 10 = .ok (.aload_n 0, 1) := by decide +kernel
theorem dX7_meet_11 : decode cX7_meet 11 = .ok (.getfield 30, 3) := by decide +kernel
theorem dX7_meet_14 : decode cX7_meet 14 = .ok (.invokevirtual 152, 3) := by decide +kernel
theorem dX7_meet_17 : decode cX7_meet 17 = .ok (.ifCond .eq 6, 3) := by decide +kernel
theorem dX7_meet_20 : decode cX7_meet 20 = .ok (.bipush (-3), 2) := by decide +kernel
theorem dX7_meet_22 : decode cX7_meet 22 = .ok (.ireturn, 1) := by decide +kernel
theorem dX7_meet_23 : decode cX7_meet 23 = .ok (.aload_n 0, 1) := by decide +kernel
theorem dX7_meet_24 : decode cX7_meet 24 = .ok (.getfield 30, 3) := by decide +kernel
theorem dX7_meet_27 : decode cX7_meet 27 = .ok (.iload_n 1, 1) := by decide +kernel
theorem dX7_meet_28 : decode cX7_meet 28 = .ok (.aload_n 0, 1) := by decide +kernel
theorem dX7_meet_29 : decode cX7_meet 29 = .ok (.getfield 30, 3) := by decide +kernel
theorem dX7_meet_32 : decode cX7_meet 32 = .ok (.getfield 123, 3) := by decide +kernel
theorem dX7_meet_35 : decode cX7_meet 35 = .ok (.iload_n 1, 1) := by decide +kernel
theorem dX7_meet_36 : decode cX7_meet 36 = .ok (.iaload, 1) := by decide +kernel
theorem dX7_meet_37 : decode cX7_meet 37 = .ok (.invokevirtual 158, 3) := by decide +kernel
theorem dX7_meet_40 : decode cX7_meet 40 = .ok (.ireturn, 1) := by decide +kernel
theorem dX7_kind_0 : decode cX7_kind 0 = .ok (.iload_n 1, 1) := by decide +kernel
theorem dX7_kind_1 : decode cX7_kind 1 = .ok (.invokestatic 114, 3) := by decide +kernel
theorem dX7_kind_4 : decode cX7_kind 4 = .ok (.ifCond .eq 6, 3) := by decide +kernel
theorem dX7_kind_7 : decode cX7_kind 7 = .ok (.bipush (-2), 2) := by decide +kernel
theorem dX7_kind_9 : decode cX7_kind 9 = .ok (.ireturn, 1) := by decide +kernel
theorem dX7_kind_10 : decode cX7_kind 10 = .ok (.aload_n 0, 1) := by decide +kernel
theorem dX7_kind_11 : decode cX7_kind 11 = .ok (.getfield 30, 3) := by decide +kernel
theorem dX7_kind_14 : decode cX7_kind 14 = .ok (.invokevirtual 152, 3) := by decide +kernel
theorem dX7_kind_17 : decode cX7_kind 17 = .ok (.ifCond .eq 6, 3) := by decide +kernel
theorem dX7_kind_20 : decode cX7_kind 20 = .ok (.bipush (-3), 2) := by decide +kernel
theorem dX7_kind_22 : decode cX7_kind 22 = .ok (.ireturn, 1) := by decide +kernel
theorem dX7_kind_23 : decode cX7_kind 23 = .ok (.aload_n 0, 1) := by decide +kernel
theorem dX7_kind_24 : decode cX7_kind 24 = .ok (.getfield 21, 3) := by decide +kernel
theorem dX7_kind_27 : decode cX7_kind 27 = .ok (.aload_n 0, 1) := by decide +kernel
theorem dX7_kind_28 : decode cX7_kind 28 = .ok (.getfield 30, 3) := by decide +kernel
theorem dX7_kind_31 : decode cX7_kind 31 = .ok (.iload_n 1, 1) := by decide +kernel
theorem dX7_kind_32 : decode cX7_kind 32 = .ok (.aload_n 0, 1) := by decide +kernel
theorem dX7_kind_33 : decode cX7_kind 33 = .ok (.getfield 30, 3) := by decide +kernel
theorem dX7_kind_36 : decode cX7_kind 36 = .ok (.getfield 123, 3) := by decide +kernel
theorem dX7_kind_39 : decode cX7_kind 39 = .ok (.iload_n 1, 1) := by decide +kernel
theorem dX7_kind_40 : decode cX7_kind 40 = .ok (.iaload, 1) := by decide +kernel
theorem dX7_kind_41 : decode cX7_kind 41 = .ok (.invokevirtual 158, 3) := by decide +kernel
theorem dX7_kind_44 : decode cX7_kind 44 = .ok (.invokevirtual 161, 3) := by decide +kernel
theorem dX7_kind_47 : decode cX7_kind 47 = .ok (.ireturn, 1) := by decide +kernel
theorem dX7_time_0 : decode cX7_time 0 = .ok (.aload_n 0, 1) := by decide +kernel
theorem dX7_time_1 : decode cX7_time 1 = .ok (.getfield 30, 3) := by decide +kernel
theorem dX7_time_4 : decode cX7_time 4 = .ok (.invokevirtual 152, 3) := by decide +kernel
theorem dX7_time_7 : decode cX7_time 7 = .ok (.ifCond .eq 8, 3) := by decide +kernel
theorem dX7_time_10 : decode cX7_time 10 = .ok (.bipush (-3), 2) := by decide +kernel
theorem dX7_time_12 : decode cX7_time 12 = .ok (.goto 17, 3) := by decide +kernel
theorem dX7_time_15 : decode cX7_time 15 = .ok (.aload_n 0, 1) := by decide +kernel
theorem dX7_time_16 : decode cX7_time 16 = .ok (.getfield 30, 3) := by decide +kernel
theorem dX7_time_19 : decode cX7_time 19 = .ok (.aload_n 0, 1) := by decide +kernel
theorem dX7_time_20 : decode cX7_time 20 = .ok (.getfield 30, 3) := by decide +kernel
theorem dX7_time_23 : decode cX7_time 23 = .ok (.getfield 123, 3) := by decide +kernel
theorem dX7_time_26 : decode cX7_time 26 = .ok (.invokevirtual 164, 3) := by decide +kernel
theorem dX7_time_29 : decode cX7_time 29 = .ok (.ireturn, 1) := by decide +kernel
theorem dX7_carries_0 : decode cX7_carries 0 = .ok (.iload_n 1, 1) := by decide +kernel
theorem dX7_carries_1 : decode cX7_carries 1 = .ok (.invokestatic 94, 3) := by decide +kernel
theorem dX7_carries_4 : decode cX7_carries 4 = .ok (.ifCond .eq 6, 3) := by decide +kernel
theorem dX7_carries_7 : decode cX7_carries 7 = .ok (.bipush (-2), 2) := by decide +kernel
theorem dX7_carries_9 : decode cX7_carries 9 = .ok (.ireturn, 1) := by decide +kernel
theorem dX7_carries_10 : decode cX7_carries 10 = .ok (.aload_n 0, 1) := by decide +kernel
theorem dX7_carries_11 : decode cX7_carries 11 = .ok (.getfield 30, 3) := by decide +kernel
theorem dX7_carries_14 : decode cX7_carries 14 = .ok (.invokevirtual 152, 3) := by decide +kernel
theorem dX7_carries_17 : decode cX7_carries 17 = .ok (.ifCond .eq 8, 3) := by decide +kernel
theorem dX7_carries_20 : decode cX7_carries 20 = .ok (.bipush (-3), 2) := by decide +kernel
theorem dX7_carries_22 : decode cX7_carries 22 = .ok (.goto 11, 3) := by decide +kernel
theorem dX7_carries_25 : decode cX7_carries 25 = .ok (.aload_n 0, 1) := by decide +kernel
theorem dX7_carries_26 : decode cX7_carries 26 = .ok (.getfield 30, 3) := by decide +kernel
theorem dX7_carries_29 : decode cX7_carries 29 = .ok (.iload_n 1, 1) := by decide +kernel
theorem dX7_carries_30 : decode cX7_carries 30 = .ok (.invokevirtual 168, 3) := by decide +kernel
theorem dX7_carries_33 : decode cX7_carries 33 = .ok (.ireturn, 1) := by decide +kernel
theorem dX7_chance_0 : decode cX7_chance 0 = .ok (.iload_n 1, 1) := by decide +kernel
theorem dX7_chance_1 : decode cX7_chance 1 = .ok (.invokestatic 114, 3) := by decide +kernel
theorem dX7_chance_4 : decode cX7_chance 4 = .ok (.ifCond .eq 6, 3) := by decide +kernel
theorem dX7_chance_7 : decode cX7_chance 7 = .ok (.bipush (-2), 2) := by decide +kernel
theorem dX7_chance_9 : decode cX7_chance 9 = .ok (.ireturn, 1) := by decide +kernel
theorem dX7_chance_10 : decode cX7_chance 10 = .ok (.aload_n 0, 1) := by decide +kernel
theorem dX7_chance_11 : decode cX7_chance 11 = .ok (.getfield 30, 3) := by decide +kernel
theorem dX7_chance_14 : decode cX7_chance 14 = .ok (.invokevirtual 152, 3) := by decide +kernel
theorem dX7_chance_17 : decode cX7_chance 17 = .ok (.ifCond .eq 8, 3) := by decide +kernel
theorem dX7_chance_20 : decode cX7_chance 20 = .ok (.bipush (-3), 2) := by decide +kernel
theorem dX7_chance_22 : decode cX7_chance 22 = .ok (.goto 11, 3) := by decide +kernel
theorem dX7_chance_25 : decode cX7_chance 25 = .ok (.aload_n 0, 1) := by decide +kernel
theorem dX7_chance_26 : decode cX7_chance 26 = .ok (.getfield 39, 3) := by decide +kernel
theorem dX7_chance_29 : decode cX7_chance 29 = .ok (.iload_n 1, 1) := by decide +kernel
theorem dX7_chance_30 : decode cX7_chance 30 = .ok (.invokevirtual 171, 3) := by decide +kernel
theorem dX7_chance_33 : decode cX7_chance 33 = .ok (.ireturn, 1) := by decide +kernel
theorem dX7_all_0 : decode cX7_all 0 = .ok (.iload_n 1, 1) := by decide +kernel
theorem dX7_all_1 : decode cX7_all 1 = .ok (.iconst 0, 1) := by decide +kernel
theorem dX7_all_2 : decode cX7_all 2 = .ok (.iconst 1, 1) := by decide +kernel
theorem dX7_all_3 : decode cX7_all 3 = .ok (.invokestatic 64, 3) := by decide +kernel
theorem dX7_all_6 : decode cX7_all 6 = .ok (.ifCond .eq 7, 3) := by decide +kernel
theorem dX7_all_9 : decode cX7_all 9 = .ok (.ldc2_w 174, 3) := by decide +kernel
theorem dX7_all_12 : decode cX7_all 12 = .ok (.lreturn, 1) := by decide +kernel
theorem dX7_all_13 : decode cX7_all 13 = .ok (.aload_n 0, 1) := by decide +kernel
theorem dX7_all_14 : decode cX7_all 14 = .ok (.getfield 30, 3) := by decide +kernel
theorem dX7_all_17 : decode cX7_all 17 = .ok (.invokevirtual 152, 3) := by decide +kernel
theorem dX7_all_20 : decode cX7_all 20 = .ok (.ifCond .eq 9, 3) := by decide +kernel
theorem dX7_all_23 : decode cX7_all 23 = .ok (.ldc2_w 176, 3) := by decide +kernel
theorem dX7_all_26 : decode cX7_all 26 = .ok (.goto 12, 3) := by decide +kernel
theorem dX7_all_29 : decode cX7_all 29 = .ok (.aload_n 0, 1) := by decide +kernel
theorem dX7_all_30 : decode cX7_all 30 = .ok (.getfield 39, 3) := by decide +kernel
theorem dX7_all_33 : decode cX7_all 33 = .ok (.iload_n 1, 1) := by decide +kernel
theorem dX7_all_34 : decode cX7_all 34 = .ok (.invokevirtual 178, 3) := by decide +kernel
theorem dX7_all_37 : decode cX7_all 37 = .ok (.i2l, 1) := by decide +kernel
theorem dX7_all_38 : decode cX7_all 38 = .ok (.lreturn, 1) := by decide +kernel
theorem dX7_safe_0 : decode cX7_safe 0 = .ok (.iload_n 1, 1) := by decide +kernel
theorem dX7_safe_1 : decode cX7_safe 1 = .ok (.invokestatic 114, 3) := by decide +kernel
theorem dX7_safe_4 : decode cX7_safe 4 = .ok (.ifCond .ne 13, 3) := by decide +kernel
theorem dX7_safe_7 : decode cX7_safe 7 = .ok (.iload_n 2, 1) := by decide +kernel
theorem dX7_safe_8 : decode cX7_safe 8 = .ok (.iconst 0, 1) := by decide +kernel
theorem dX7_safe_9 : decode cX7_safe 9 = .ok (.bipush 16, 2) := by decide +kernel
theorem dX7_safe_11 : decode cX7_safe 11 = .ok (.invokestatic 64, 3) := by decide +kernel
theorem dX7_safe_14 : decode cX7_safe 14 = .ok (.ifCond .eq 6, 3) := by decide +kernel
theorem dX7_safe_17 : decode cX7_safe 17 = .ok (.bipush (-2), 2) := by decide +kernel
theorem dX7_safe_19 : decode cX7_safe 19 = .ok (.ireturn, 1) := by decide +kernel
theorem dX7_safe_20 : decode cX7_safe 20 = .ok (.aload_n 0, 1) := by decide +kernel
theorem dX7_safe_21 : decode cX7_safe 21 = .ok (.getfield 30, 3) := by decide +kernel
theorem dX7_safe_24 : decode cX7_safe 24 = .ok (.invokevirtual 152, 3) := by decide +kernel
theorem dX7_safe_27 : decode cX7_safe 27 = .ok (.ifCond .eq 8, 3) := by decide +kernel
theorem dX7_safe_30 : decode cX7_safe 30 = .ok (.bipush (-3), 2) := by decide +kernel
theorem dX7_safe_32 : decode cX7_safe 32 = .ok (.goto 12, 3) := by decide +kernel
theorem dX7_safe_35 : decode cX7_safe 35 = .ok (.aload_n 0, 1) := by decide +kernel
theorem dX7_safe_36 : decode cX7_safe 36 = .ok (.getfield 39, 3) := by decide +kernel
theorem dX7_safe_39 : decode cX7_safe 39 = .ok (.iload_n 1, 1) := by decide +kernel
theorem dX7_safe_40 : decode cX7_safe 40 = .ok (.iload_n 2, 1) := by decide +kernel
theorem dX7_safe_41 : decode cX7_safe 41 = .ok (.invokevirtual 181, 3) := by decide +kernel
theorem dX7_safe_44 : decode cX7_safe 44 = .ok (.ireturn, 1) := by decide +kernel
theorem dX7_best_0 : decode cX7_best 0 = .ok (.iload_n 1, 1) := by decide +kernel
theorem dX7_best_1 : decode cX7_best 1 = .ok (.invokestatic 114, 3) := by decide +kernel
theorem dX7_best_4 : decode cX7_best 4 = .ok (.ifCond .eq 6, 3) := by decide +kernel
theorem dX7_best_7 : decode cX7_best 7 = .ok (.bipush (-2), 2) := by decide +kernel
theorem dX7_best_9 : decode cX7_best 9 = .ok (.ireturn, 1) := by decide +kernel
theorem dX7_best_10 : decode cX7_best 10 = .ok (.aload_n 0, 1) := by decide +kernel
theorem dX7_best_11 : decode cX7_best 11 = .ok (.getfield 30, 3) := by decide +kernel
theorem dX7_best_14 : decode cX7_best 14 = .ok (.invokevirtual 152, 3) := by decide +kernel
theorem dX7_best_17 : decode cX7_best 17 = .ok (.ifCond .eq 8, 3) := by decide +kernel
theorem dX7_best_20 : decode cX7_best 20 = .ok (.bipush (-3), 2) := by decide +kernel
theorem dX7_best_22 : decode cX7_best 22 = .ok (.goto 11, 3) := by decide +kernel
theorem dX7_best_25 : decode cX7_best 25 = .ok (.aload_n 0, 1) := by decide +kernel
theorem dX7_best_26 : decode cX7_best 26 = .ok (.getfield 30, 3) := by decide +kernel
theorem dX7_best_29 : decode cX7_best 29 = .ok (.iload_n 1, 1) := by decide +kernel
theorem dX7_best_30 : decode cX7_best 30 = .ok (.invokevirtual 184, 3) := by decide +kernel
theorem dX7_best_33 : decode cX7_best 33 = .ok (.ireturn, 1) := by decide +kernel
theorem dX7_order_0 : decode cX7_order 0 = .ok (.iload_n 1, 1) := by decide +kernel
theorem dX7_order_1 : decode cX7_order 1 = .ok (.iconst (-1), 1) := by decide +kernel
theorem dX7_order_2 : decode cX7_order 2 = .ok (.iconst 4, 1) := by decide +kernel
theorem dX7_order_3 : decode cX7_order 3 = .ok (.invokestatic 64, 3) := by decide +kernel
theorem dX7_order_6 : decode cX7_order 6 = .ok (.ifCond .ne 13, 3) := by decide +kernel
theorem dX7_order_9 : decode cX7_order 9 = .ok (.iload_n 2, 1) := by decide +kernel
theorem dX7_order_10 : decode cX7_order 10 = .ok (.iconst 0, 1) := by decide +kernel
theorem dX7_order_11 : decode cX7_order 11 = .ok (.bipush 7, 2) := by decide +kernel
theorem dX7_order_13 : decode cX7_order 13 = .ok (.invokestatic 64, 3) := by decide +kernel
theorem dX7_order_16 : decode cX7_order 16 = .ok (.ifCond .eq 6, 3) := by decide +kernel
theorem dX7_order_19 : decode cX7_order 19 = .ok (.bipush (-2), 2) := by decide +kernel
theorem dX7_order_21 : decode cX7_order 21 = .ok (.ireturn, 1) := by decide +kernel
theorem dX7_order_22 : decode cX7_order 22 = .ok (.aload_n 0, 1) := by decide +kernel
theorem dX7_order_23 : decode cX7_order 23 = .ok (.getfield 46, 3) := by decide +kernel
theorem dX7_order_26 : decode cX7_order 26 = .ok (.iload_n 1, 1) := by decide +kernel
theorem dX7_order_27 : decode cX7_order 27 = .ok (.invokevirtual 187, 3) := by decide +kernel
theorem dX7_order_30 : decode cX7_order 30 = .ok (.aload_n 0, 1) := by decide +kernel
theorem dX7_order_31 : decode cX7_order 31 = .ok (.getfield 46, 3) := by decide +kernel
theorem dX7_order_34 : decode cX7_order 34 = .ok (.getfield 191, 3) := by decide +kernel
theorem dX7_order_37 : decode cX7_order 37 = .ok (.iload_n 2, 1) := by decide +kernel
theorem dX7_order_38 : decode cX7_order 38 = .ok (.iaload, 1) := by decide +kernel
theorem dX7_order_39 : decode cX7_order 39 = .ok (.ireturn, 1) := by decide +kernel
theorem dX7_blame_0 : decode cX7_blame 0 = .ok (.iload_n 1, 1) := by decide +kernel
theorem dX7_blame_1 : decode cX7_blame 1 = .ok (.invokestatic 114, 3) := by decide +kernel
theorem dX7_blame_4 : decode cX7_blame 4 = .ok (.ifCond .ne 20, 3) := by decide +kernel
theorem dX7_blame_7 : decode cX7_blame 7 = .ok (.iload_n 2, 1) := by decide +kernel
theorem dX7_blame_8 : decode cX7_blame 8 = .ok (.iconst 0, 1) := by decide +kernel
theorem dX7_blame_9 : decode cX7_blame 9 = .ok (.aload_n 0, 1) := by decide +kernel
theorem dX7_blame_10 : decode cX7_blame 10 = .ok (.getfield 21, 3) := by decide +kernel
theorem dX7_blame_13 : decode cX7_blame 13 = .ok (.getfield 194, 3) := by decide +kernel
theorem dX7_blame_16 : decode cX7_blame 16 = .ok (.iconst 0, 1) := by decide +kernel
theorem dX7_blame_17 : decode cX7_blame 17 = .ok (.iaload, 1) := by decide +kernel
theorem dX7_blame_18 : decode cX7_blame 18 = .ok (.invokestatic 64, 3) := by decide +kernel
theorem dX7_blame_21 : decode cX7_blame 21 = .ok (.ifCond .eq 6, 3) := by decide +kernel
theorem dX7_blame_24 : decode cX7_blame 24 = .ok (.bipush (-2), 2) := by decide +kernel
theorem dX7_blame_26 : decode cX7_blame 26 = .ok (.ireturn, 1) := by decide +kernel
theorem dX7_blame_27 : decode cX7_blame 27 = .ok (.aload_n 0, 1) := by decide +kernel
theorem dX7_blame_28 : decode cX7_blame 28 = .ok (.getfield 30, 3) := by decide +kernel
theorem dX7_blame_31 : decode cX7_blame 31 = .ok (.invokevirtual 152, 3) := by decide +kernel
theorem dX7_blame_34 : decode cX7_blame 34 = .ok (.ifCond .eq 8, 3) := by decide +kernel
theorem dX7_blame_37 : decode cX7_blame 37 = .ok (.bipush (-3), 2) := by decide +kernel
theorem dX7_blame_39 : decode cX7_blame 39 = .ok (.goto 12, 3) := by decide +kernel
theorem dX7_blame_42 : decode cX7_blame 42 = .ok (.aload_n 0, 1) := by decide +kernel
theorem dX7_blame_43 : decode cX7_blame 43 = .ok (.getfield 39, 3) := by decide +kernel
theorem dX7_blame_46 : decode cX7_blame 46 = .ok (.iload_n 1, 1) := by decide +kernel
theorem dX7_blame_47 : decode cX7_blame 47 = .ok (.iload_n 2, 1) := by decide +kernel
theorem dX7_blame_48 : decode cX7_blame 48 = .ok (.invokevirtual 197, 3) := by decide +kernel
theorem dX7_blame_51 : decode cX7_blame 51 = .ok (.ireturn, 1) := by decide +kernel
theorem dX7_lot_0 : decode cX7_lot 0 = .ok (.aload_n 0, 1) := by decide +kernel
theorem dX7_lot_1 : decode cX7_lot 1 = .ok (.getfield 30, 3) := by decide +kernel
theorem dX7_lot_4 : decode cX7_lot 4 = .ok (.invokevirtual 152, 3) := by decide +kernel
theorem dX7_lot_7 : decode cX7_lot 7 = .ok (.ifCond .eq 6, 3) := by decide +kernel
theorem dX7_lot_10 : decode cX7_lot 10 = .ok (.bipush (-3), 2) := by decide +kernel
theorem dX7_lot_12 : decode cX7_lot 12 = .ok (.ireturn, 1) := by decide +kernel
theorem dX7_lot_13 : decode cX7_lot 13 = .ok (.aload_n 0, 1) := by decide +kernel
theorem dX7_lot_14 : decode cX7_lot 14 = .ok (.getfield 53, 3) := by decide +kernel
theorem dX7_lot_17 : decode cX7_lot 17 = .ok (.iload_n 1, 1) := by decide +kernel
theorem dX7_lot_18 : decode cX7_lot 18 = .ok (.putfield 200, 3) := by decide +kernel
theorem dX7_lot_21 : decode cX7_lot 21 = .ok (.aload_n 0, 1) := by decide +kernel
theorem dX7_lot_22 : decode cX7_lot 22 = .ok (.getfield 53, 3) := by decide +kernel
theorem dX7_lot_25 : decode cX7_lot 25 = .ok (.aload_n 0, 1) := by decide +kernel
theorem dX7_lot_26 : decode cX7_lot 26 = .ok (.getfield 21, 3) := by decide +kernel
theorem dX7_lot_29 : decode cX7_lot 29 = .ok (.getfield 194, 3) := by decide +kernel
theorem dX7_lot_32 : decode cX7_lot 32 = .ok (.bipush 6, 2) := by decide +kernel
theorem dX7_lot_34 : decode cX7_lot 34 = .ok (.iaload, 1) := by decide +kernel
theorem dX7_lot_35 : decode cX7_lot 35 = .ok (.invokevirtual 203, 3) := by decide +kernel
theorem dX7_lot_38 : decode cX7_lot 38 = .ok (.aload_n 0, 1) := by decide +kernel
theorem dX7_lot_39 : decode cX7_lot 39 = .ok (.getfield 30, 3) := by decide +kernel
theorem dX7_lot_42 : decode cX7_lot 42 = .ok (.aload_n 0, 1) := by decide +kernel
theorem dX7_lot_43 : decode cX7_lot 43 = .ok (.getfield 53, 3) := by decide +kernel
theorem dX7_lot_46 : decode cX7_lot 46 = .ok (.getfield 206, 3) := by decide +kernel
theorem dX7_lot_49 : decode cX7_lot 49 = .ok (.invokevirtual 164, 3) := by decide +kernel
theorem dX7_lot_52 : decode cX7_lot 52 = .ok (.ireturn, 1) := by decide +kernel
theorem dX7_races_0 : decode cX7_races 0 = .ok (.iload_n 2, 1) := by decide +kernel
theorem dX7_races_1 : decode cX7_races 1 = .ok (.iconst 0, 1) := by decide +kernel
theorem dX7_races_2 : decode cX7_races 2 = .ok (.bipush 60, 2) := by decide +kernel
theorem dX7_races_4 : decode cX7_races 4 = .ok (.invokestatic 64, 3) := by decide +kernel
theorem dX7_races_7 : decode cX7_races 7 = .ok (.ifCond .ne 13, 3) := by decide +kernel
theorem dX7_races_10 : decode cX7_races 10 = .ok (.iload_n 3, 1) := by decide +kernel
theorem dX7_races_11 : decode cX7_races 11 = .ok (.iconst 0, 1) := by decide +kernel
theorem dX7_races_12 : decode cX7_races 12 = .ok (.ldc 207, 2) := by decide +kernel
theorem dX7_races_14 : decode cX7_races 14 = .ok (.invokestatic 64, 3) := by decide +kernel
theorem dX7_races_17 : decode cX7_races 17 = .ok (.ifCond .eq 6, 3) := by decide +kernel
theorem dX7_races_20 : decode cX7_races 20 = .ok (.bipush (-2), 2) := by decide +kernel
theorem dX7_races_22 : decode cX7_races 22 = .ok (.ireturn, 1) := by decide +kernel
theorem dX7_races_23 : decode cX7_races 23 = .ok (.aload_n 0, 1) := by decide +kernel
theorem dX7_races_24 : decode cX7_races 24 = .ok (.getfield 30, 3) := by decide +kernel
theorem dX7_races_27 : decode cX7_races 27 = .ok (.invokevirtual 152, 3) := by decide +kernel
theorem dX7_races_30 : decode cX7_races 30 = .ok (.ifCond .eq 6, 3) := by decide +kernel
theorem dX7_races_33 : decode cX7_races 33 = .ok (.bipush (-3), 2) := by decide +kernel
theorem dX7_races_35 : decode cX7_races 35 = .ok (.ireturn, 1) := by decide +kernel
theorem dX7_races_36 : decode cX7_races 36 = .ok (.aload_n 0, 1) := by decide +kernel
theorem dX7_races_37 : decode cX7_races 37 = .ok (.getfield 53, 3) := by decide +kernel
theorem dX7_races_40 : decode cX7_races 40 = .ok (.iload_n 1, 1) := by decide +kernel
theorem dX7_races_41 : decode cX7_races 41 = .ok (.putfield 200, 3) := by decide +kernel
theorem dX7_races_44 : decode cX7_races 44 = .ok (.iconst 0, 1) := by decide +kernel
theorem dX7_races_45 : decode cX7_races 45 = .ok (.istore 4, 2) := by decide +kernel
theorem dX7_races_47 : decode cX7_races 47 = .ok (.iconst 0, 1) := by decide +kernel
theorem dX7_races_48 : decode cX7_races 48 = .ok (.istore 5, 2) := by decide +kernel
theorem dX7_races_50 : decode cX7_races 50 = .ok (.iload 5, 2) := by decide +kernel
theorem dX7_races_52 : decode cX7_races 52 = .ok (.iload_n 2, 1) := by decide +kernel
theorem dX7_races_53 : decode cX7_races 53 = .ok (.if_icmp .ge 57, 3) := by decide +kernel
theorem dX7_races_56 : decode cX7_races 56 = .ok (.aload_n 0, 1) := by decide +kernel
theorem dX7_races_57 : decode cX7_races 57 = .ok (.getfield 53, 3) := by decide +kernel
theorem dX7_races_60 : decode cX7_races 60 = .ok (.aload_n 0, 1) := by decide +kernel
theorem dX7_races_61 : decode cX7_races 61 = .ok (.getfield 21, 3) := by decide +kernel
theorem dX7_races_64 : decode cX7_races 64 = .ok (.getfield 194, 3) := by decide +kernel
theorem dX7_races_67 : decode cX7_races 67 = .ok (.bipush 6, 2) := by decide +kernel
theorem dX7_races_69 : decode cX7_races 69 = .ok (.iaload, 1) := by decide +kernel
theorem dX7_races_70 : decode cX7_races 70 = .ok (.invokevirtual 203, 3) := by decide +kernel
theorem dX7_races_73 : decode cX7_races 73 = .ok (.aload_n 0, 1) := by decide +kernel
theorem dX7_races_74 : decode cX7_races 74 = .ok (.getfield 30, 3) := by decide +kernel
theorem dX7_races_77 : decode cX7_races 77 = .ok (.aload_n 0, 1) := by decide +kernel
theorem dX7_races_78 : decode cX7_races 78 = .ok (.getfield 53, 3) := by decide +kernel
theorem dX7_races_81 : decode cX7_races 81 = .ok (.getfield 206, 3) := by decide +kernel
theorem dX7_races_84 : decode cX7_races 84 = .ok (.invokevirtual 164, 3) := by decide +kernel
theorem dX7_races_87 : decode cX7_races 87 = .ok (.istore 6, 2) := by decide +kernel
theorem dX7_races_89 : decode cX7_races 89 = .ok (.iload 6, 2) := by decide +kernel
theorem dX7_races_91 : decode cX7_races 91 = .ok (.iconst (-1), 1) := by decide +kernel
theorem dX7_races_92 : decode cX7_races 92 = .ok (.if_icmp .eq 12, 3) := by decide +kernel
theorem dX7_races_95 : decode cX7_races 95 = .ok (.iload 6, 2) := by decide +kernel
theorem dX7_races_97 : decode cX7_races 97 = .ok (.iload_n 3, 1) := by decide +kernel
theorem dX7_races_98 : decode cX7_races 98 = .ok (.if_icmp .gt 6, 3) := by decide +kernel
theorem dX7_races_101 : decode cX7_races 101 = .ok (.iinc 4 1, 3) := by decide +kernel
theorem dX7_races_104 : decode cX7_races 104 = .ok (.iinc 5 1, 3) := by decide +kernel
theorem dX7_races_107 : decode cX7_races 107 = .ok (.goto (-57), 3) := by decide +kernel
theorem dX7_races_110 : decode cX7_races 110 = .ok (.iload 4, 2) := by decide +kernel
theorem dX7_races_112 : decode cX7_races 112 = .ok (.ireturn, 1) := by decide +kernel
theorem dX7_sheet_0 : decode cX7_sheet 0 = .ok (.iload_n 1, 1) := by decide +kernel
theorem dX7_sheet_1 : decode cX7_sheet 1 = .ok (.invokestatic 126, 3) := by decide +kernel
theorem dX7_sheet_4 : decode cX7_sheet 4 = .ok (.ifCond .ne 16, 3) := by decide +kernel
theorem dX7_sheet_7 : decode cX7_sheet 7 = .ok (.iload_n 2, 1) := by decide +kernel
theorem dX7_sheet_8 : decode cX7_sheet 8 = .ok (.invokestatic 208, 3) := by decide +kernel
theorem dX7_sheet_11 : decode cX7_sheet 11 = .ok (.ifCond .ne 9, 3) := by decide +kernel
theorem dX7_sheet_14 : decode cX7_sheet 14 = .ok (.iload_n 3, 1) := by decide +kernel
theorem dX7_sheet_15 : decode cX7_sheet 15 = .ok (.bipush 60, 2) := by decide +kernel
theorem dX7_sheet_17 : decode cX7_sheet 17 = .ok (.if_icmp .le 6, 3) := by decide +kernel
theorem dX7_sheet_20 : decode cX7_sheet 20 = .ok (.bipush (-2), 2) := by decide +kernel
theorem dX7_sheet_22 : decode cX7_sheet 22 = .ok (.ireturn, 1) := by decide +kernel
theorem dX7_sheet_23 : decode cX7_sheet 23 = .ok (.iload_n 3, 1) := by decide +kernel
theorem dX7_sheet_24 : decode cX7_sheet 24 = .ok (.ifCond .ge 12, 3) := by decide +kernel
theorem dX7_sheet_27 : decode cX7_sheet 27 = .ok (.aload_n 0, 1) := by decide +kernel
theorem dX7_sheet_28 : decode cX7_sheet 28 = .ok (.getfield 60, 3) := by decide +kernel
theorem dX7_sheet_31 : decode cX7_sheet 31 = .ok (.iconst 5, 1) := by decide +kernel
theorem dX7_sheet_32 : decode cX7_sheet 32 = .ok (.invokevirtual 132, 3) := by decide +kernel
theorem dX7_sheet_35 : decode cX7_sheet 35 = .ok (.ireturn, 1) := by decide +kernel
theorem dX7_sheet_36 : decode cX7_sheet 36 = .ok (.aload_n 0, 1) := by decide +kernel
theorem dX7_sheet_37 : decode cX7_sheet 37 = .ok (.getfield 60, 3) := by decide +kernel
theorem dX7_sheet_40 : decode cX7_sheet 40 = .ok (.iload_n 1, 1) := by decide +kernel
theorem dX7_sheet_41 : decode cX7_sheet 41 = .ok (.iload_n 2, 1) := by decide +kernel
theorem dX7_sheet_42 : decode cX7_sheet 42 = .ok (.iload_n 3, 1) := by decide +kernel
theorem dX7_sheet_43 : decode cX7_sheet 43 = .ok (.invokevirtual 211, 3) := by decide +kernel
theorem dX7_sheet_46 : decode cX7_sheet 46 = .ok (.iload_n 3, 1) := by decide +kernel
theorem dX7_sheet_47 : decode cX7_sheet 47 = .ok (.ireturn, 1) := by decide +kernel
theorem dX7_lose_0 : decode cX7_lose 0 = .ok (.iload_n 1, 1) := by decide +kernel
theorem dX7_lose_1 : decode cX7_lose 1 = .ok (.invokestatic 126, 3) := by decide +kernel
theorem dX7_lose_4 : decode cX7_lose 4 = .ok (.ifCond .eq 6, 3) := by decide +kernel
theorem dX7_lose_7 : decode cX7_lose 7 = .ok (.bipush (-2), 2) := by decide +kernel
theorem dX7_lose_9 : decode cX7_lose 9 = .ok (.ireturn, 1) := by decide +kernel
theorem dX7_lose_10 : decode cX7_lose 10 = .ok (.aload_n 0, 1) := by decide +kernel
theorem dX7_lose_11 : decode cX7_lose 11 = .ok (.getfield 60, 3) := by decide +kernel
theorem dX7_lose_14 : decode cX7_lose 14 = .ok (.iload_n 1, 1) := by decide +kernel
theorem dX7_lose_15 : decode cX7_lose 15 = .ok (.invokevirtual 129, 3) := by decide +kernel
theorem dX7_lose_18 : decode cX7_lose 18 = .ok (.ifCond .eq 12, 3) := by decide +kernel
theorem dX7_lose_21 : decode cX7_lose 21 = .ok (.aload_n 0, 1) := by decide +kernel
theorem dX7_lose_22 : decode cX7_lose 22 = .ok (.getfield 60, 3) := by decide +kernel
theorem dX7_lose_25 : decode cX7_lose 25 = .ok (.iconst 1, 1) := by decide +kernel
theorem dX7_lose_26 : decode cX7_lose 26 = .ok (.invokevirtual 132, 3) := by decide +kernel
theorem dX7_lose_29 : decode cX7_lose 29 = .ok (.ireturn, 1) := by decide +kernel
theorem dX7_lose_30 : decode cX7_lose 30 = .ok (.aload_n 0, 1) := by decide +kernel
theorem dX7_lose_31 : decode cX7_lose 31 = .ok (.getfield 60, 3) := by decide +kernel
theorem dX7_lose_34 : decode cX7_lose 34 = .ok (.getfield 136, 3) := by decide +kernel
theorem dX7_lose_37 : decode cX7_lose 37 = .ok (.iload_n 1, 1) := by decide +kernel
theorem dX7_lose_38 : decode cX7_lose 38 = .ok (.iconst (-1), 1) := by decide +kernel
theorem dX7_lose_39 : decode cX7_lose 39 = .ok (.invokestatic 101, 3) := by decide +kernel
theorem dX7_lose_42 : decode cX7_lose 42 = .ok (.ireturn, 1) := by decide +kernel
theorem dX7_lay_0 : decode cX7_lay 0 = .ok (.iload_n 1, 1) := by decide +kernel
theorem dX7_lay_1 : decode cX7_lay 1 = .ok (.invokestatic 126, 3) := by decide +kernel
theorem dX7_lay_4 : decode cX7_lay 4 = .ok (.ifCond .ne 10, 3) := by decide +kernel
theorem dX7_lay_7 : decode cX7_lay 7 = .ok (.iload_n 2, 1) := by decide +kernel
theorem dX7_lay_8 : decode cX7_lay 8 = .ok (.invokestatic 208, 3) := by decide +kernel
theorem dX7_lay_11 : decode cX7_lay 11 = .ok (.ifCond .eq 6, 3) := by decide +kernel
theorem dX7_lay_14 : decode cX7_lay 14 = .ok (.bipush (-2), 2) := by decide +kernel
theorem dX7_lay_16 : decode cX7_lay 16 = .ok (.ireturn, 1) := by decide +kernel
theorem dX7_lay_17 : decode cX7_lay 17 = .ok (.aload_n 0, 1) := by decide +kernel
theorem dX7_lay_18 : decode cX7_lay 18 = .ok (.getfield 60, 3) := by decide +kernel
theorem dX7_lay_21 : decode cX7_lay 21 = .ok (.iload_n 1, 1) := by decide +kernel
theorem dX7_lay_22 : decode cX7_lay 22 = .ok (.iload_n 2, 1) := by decide +kernel
theorem dX7_lay_23 : decode cX7_lay 23 = .ok (.iload_n 3, 1) := by decide +kernel
theorem dX7_lay_24 : decode cX7_lay 24 = .ok (.invokevirtual 215, 3) := by decide +kernel
theorem dX7_lay_27 : decode cX7_lay 27 = .ok (.istore 5, 2) := by decide +kernel
theorem dX7_lay_29 : decode cX7_lay 29 = .ok (.iload 5, 2) := by decide +kernel
theorem dX7_lay_31 : decode cX7_lay 31 = .ok (.ifCond .eq 13, 3) := by decide +kernel
theorem dX7_lay_34 : decode cX7_lay 34 = .ok (.aload_n 0, 1) := by decide +kernel
theorem dX7_lay_35 : decode cX7_lay 35 = .ok (.getfield 60, 3) := by decide +kernel
theorem dX7_lay_38 : decode cX7_lay 38 = .ok (.iload 5, 2) := by decide +kernel
theorem dX7_lay_40 : decode cX7_lay 40 = .ok (.invokevirtual 132, 3) := by decide +kernel
theorem dX7_lay_43 : decode cX7_lay 43 = .ok (.ireturn, 1) := by decide +kernel
theorem dX7_lay_44 : decode cX7_lay 44 = .ok (.aload_n 0, 1) := by decide +kernel
theorem dX7_lay_45 : decode cX7_lay 45 = .ok (.getfield 60, 3) := by decide +kernel
theorem dX7_lay_48 : decode cX7_lay 48 = .ok (.iload_n 1, 1) := by decide +kernel
theorem dX7_lay_49 : decode cX7_lay 49 = .ok (.iload_n 3, 1) := by decide +kernel
theorem dX7_lay_50 : decode cX7_lay 50 = .ok (.iload 4, 2) := by decide +kernel
theorem dX7_lay_52 : decode cX7_lay 52 = .ok (.invokevirtual 218, 3) := by decide +kernel
theorem dX7_lay_55 : decode cX7_lay 55 = .ok (.iconst 1, 1) := by decide +kernel
theorem dX7_lay_56 : decode cX7_lay 56 = .ok (.ireturn, 1) := by decide +kernel
theorem dX7_get_0 : decode cX7_get 0 = .ok (.iload_n 1, 1) := by decide +kernel
theorem dX7_get_1 : decode cX7_get 1 = .ok (.invokestatic 126, 3) := by decide +kernel
theorem dX7_get_4 : decode cX7_get 4 = .ok (.ifCond .ne 10, 3) := by decide +kernel
theorem dX7_get_7 : decode cX7_get 7 = .ok (.iload_n 2, 1) := by decide +kernel
theorem dX7_get_8 : decode cX7_get 8 = .ok (.invokestatic 208, 3) := by decide +kernel
theorem dX7_get_11 : decode cX7_get 11 = .ok (.ifCond .eq 6, 3) := by decide +kernel
theorem dX7_get_14 : decode cX7_get 14 = .ok (.ldc 221, 2) := by decide +kernel
theorem dX7_get_16 : decode cX7_get 16 = .ok (.ireturn, 1) := by decide +kernel
theorem dX7_get_17 : decode cX7_get 17 = .ok (.aload_n 0, 1) := by decide +kernel
theorem dX7_get_18 : decode cX7_get 18 = .ok (.getfield 60, 3) := by decide +kernel
theorem dX7_get_21 : decode cX7_get 21 = .ok (.iload_n 1, 1) := by decide +kernel
theorem dX7_get_22 : decode cX7_get 22 = .ok (.iload_n 2, 1) := by decide +kernel
theorem dX7_get_23 : decode cX7_get 23 = .ok (.iload_n 3, 1) := by decide +kernel
theorem dX7_get_24 : decode cX7_get 24 = .ok (.invokevirtual 215, 3) := by decide +kernel
theorem dX7_get_27 : decode cX7_get 27 = .ok (.istore 4, 2) := by decide +kernel
theorem dX7_get_29 : decode cX7_get 29 = .ok (.iload 4, 2) := by decide +kernel
theorem dX7_get_31 : decode cX7_get 31 = .ok (.ifCond .ne 15, 3) := by decide +kernel
theorem dX7_get_34 : decode cX7_get 34 = .ok (.aload_n 0, 1) := by decide +kernel
theorem dX7_get_35 : decode cX7_get 35 = .ok (.getfield 60, 3) := by decide +kernel
theorem dX7_get_38 : decode cX7_get 38 = .ok (.getfield 144, 3) := by decide +kernel
theorem dX7_get_41 : decode cX7_get 41 = .ok (.iload_n 1, 1) := by decide +kernel
theorem dX7_get_42 : decode cX7_get 42 = .ok (.aaload, 1) := by decide +kernel
theorem dX7_get_43 : decode cX7_get 43 = .ok (.iload_n 3, 1) := by decide +kernel
theorem dX7_get_44 : decode cX7_get 44 = .ok (.iaload, 1) := by decide +kernel
theorem dX7_get_45 : decode cX7_get 45 = .ok (.ireturn, 1) := by decide +kernel
theorem dX7_get_46 : decode cX7_get 46 = .ok (.aload_n 0, 1) := by decide +kernel
theorem dX7_get_47 : decode cX7_get 47 = .ok (.getfield 60, 3) := by decide +kernel
theorem dX7_get_50 : decode cX7_get 50 = .ok (.iload 4, 2) := by decide +kernel
theorem dX7_get_52 : decode cX7_get 52 = .ok (.invokevirtual 132, 3) := by decide +kernel
theorem dX7_get_55 : decode cX7_get 55 = .ok (.pop, 1) := by decide +kernel
theorem dX7_get_56 : decode cX7_get 56 = .ok (.ldc 221, 2) := by decide +kernel
theorem dX7_get_58 : decode cX7_get 58 = .ok (.ireturn, 1) := by decide +kernel
theorem dX7_copy_0 : decode cX7_copy 0 = .ok (.iload_n 1, 1) := by decide +kernel
theorem dX7_copy_1 : decode cX7_copy 1 = .ok (.invokestatic 126, 3) := by decide +kernel
theorem dX7_copy_4 : decode cX7_copy 4 = .ok (.ifCond .ne 10, 3) := by decide +kernel
theorem dX7_copy_7 : decode cX7_copy 7 = .ok (.iload_n 3, 1) := by decide +kernel
theorem dX7_copy_8 : decode cX7_copy 8 = .ok (.invokestatic 126, 3) := by decide +kernel
theorem dX7_copy_11 : decode cX7_copy 11 = .ok (.ifCond .eq 6, 3) := by decide +kernel
theorem dX7_copy_14 : decode cX7_copy 14 = .ok (.bipush (-2), 2) := by decide +kernel
theorem dX7_copy_16 : decode cX7_copy 16 = .ok (.ireturn, 1) := by decide +kernel
theorem dX7_copy_17 : decode cX7_copy 17 = .ok (.aload_n 0, 1) := by decide +kernel
theorem dX7_copy_18 : decode cX7_copy 18 = .ok (.getfield 60, 3) := by decide +kernel
theorem dX7_copy_21 : decode cX7_copy 21 = .ok (.iload_n 1, 1) := by decide +kernel
theorem dX7_copy_22 : decode cX7_copy 22 = .ok (.invokevirtual 129, 3) := by decide +kernel
theorem dX7_copy_25 : decode cX7_copy 25 = .ok (.ifCond .ne 14, 3) := by decide +kernel
theorem dX7_copy_28 : decode cX7_copy 28 = .ok (.aload_n 0, 1) := by decide +kernel
theorem dX7_copy_29 : decode cX7_copy 29 = .ok (.getfield 60, 3) := by decide +kernel
theorem dX7_copy_32 : decode cX7_copy 32 = .ok (.iload_n 3, 1) := by decide +kernel
theorem dX7_copy_33 : decode cX7_copy 33 = .ok (.invokevirtual 129, 3) := by decide +kernel
theorem dX7_copy_36 : decode cX7_copy 36 = .ok (.ifCond .eq 12, 3) := by decide +kernel
theorem dX7_copy_39 : decode cX7_copy 39 = .ok (.aload_n 0, 1) := by decide +kernel
theorem dX7_copy_40 : decode cX7_copy 40 = .ok (.getfield 60, 3) := by decide +kernel
theorem dX7_copy_43 : decode cX7_copy 43 = .ok (.iconst 1, 1) := by decide +kernel
theorem dX7_copy_44 : decode cX7_copy 44 = .ok (.invokevirtual 132, 3) := by decide +kernel
theorem dX7_copy_47 : decode cX7_copy 47 = .ok (.ireturn, 1) := by decide +kernel
theorem dX7_copy_48 : decode cX7_copy 48 = .ok (.aload_n 0, 1) := by decide +kernel
theorem dX7_copy_49 : decode cX7_copy 49 = .ok (.getfield 60, 3) := by decide +kernel
theorem dX7_copy_52 : decode cX7_copy 52 = .ok (.getfield 222, 3) := by decide +kernel
theorem dX7_copy_55 : decode cX7_copy 55 = .ok (.iload_n 1, 1) := by decide +kernel
theorem dX7_copy_56 : decode cX7_copy 56 = .ok (.iaload, 1) := by decide +kernel
theorem dX7_copy_57 : decode cX7_copy 57 = .ok (.aload_n 0, 1) := by decide +kernel
theorem dX7_copy_58 : decode cX7_copy 58 = .ok (.getfield 60, 3) := by decide +kernel
theorem dX7_copy_61 : decode cX7_copy 61 = .ok (.getfield 222, 3) := by decide +kernel
theorem dX7_copy_64 : decode cX7_copy 64 = .ok (.iload_n 3, 1) := by decide +kernel
theorem dX7_copy_65 : decode cX7_copy 65 = .ok (.iaload, 1) := by decide +kernel
theorem dX7_copy_66 : decode cX7_copy 66 = .ok (.if_icmp .eq 12, 3) := by decide +kernel
theorem dX7_copy_69 : decode cX7_copy 69 = .ok (.aload_n 0, 1) := by decide +kernel
theorem dX7_copy_70 : decode cX7_copy 70 = .ok (.getfield 60, 3) := by decide +kernel
theorem dX7_copy_73 : decode cX7_copy 73 = .ok (.iconst 4, 1) := by decide +kernel
theorem dX7_copy_74 : decode cX7_copy 74 = .ok (.invokevirtual 132, 3) := by decide +kernel
theorem dX7_copy_77 : decode cX7_copy 77 = .ok (.ireturn, 1) := by decide +kernel
theorem dX7_copy_78 : decode cX7_copy 78 = .ok (.aload_n 0, 1) := by decide +kernel
theorem dX7_copy_79 : decode cX7_copy 79 = .ok (.getfield 60, 3) := by decide +kernel
theorem dX7_copy_82 : decode cX7_copy 82 = .ok (.iload_n 1, 1) := by decide +kernel
theorem dX7_copy_83 : decode cX7_copy 83 = .ok (.iload_n 2, 1) := by decide +kernel
theorem dX7_copy_84 : decode cX7_copy 84 = .ok (.iload 5, 2) := by decide +kernel
theorem dX7_copy_86 : decode cX7_copy 86 = .ok (.invokevirtual 225, 3) := by decide +kernel
theorem dX7_copy_89 : decode cX7_copy 89 = .ok (.ifCond .eq 18, 3) := by decide +kernel
theorem dX7_copy_92 : decode cX7_copy 92 = .ok (.aload_n 0, 1) := by decide +kernel
theorem dX7_copy_93 : decode cX7_copy 93 = .ok (.getfield 60, 3) := by decide +kernel
theorem dX7_copy_96 : decode cX7_copy 96 = .ok (.iload_n 3, 1) := by decide +kernel
theorem dX7_copy_97 : decode cX7_copy 97 = .ok (.iload 4, 2) := by decide +kernel
theorem dX7_copy_99 : decode cX7_copy 99 = .ok (.iload 5, 2) := by decide +kernel
theorem dX7_copy_101 : decode cX7_copy 101 = .ok (.invokevirtual 225, 3) := by decide +kernel
theorem dX7_copy_104 : decode cX7_copy 104 = .ok (.ifCond .ne 12, 3) := by decide +kernel
theorem dX7_copy_107 : decode cX7_copy 107 = .ok (.aload_n 0, 1) := by decide +kernel
theorem dX7_copy_108 : decode cX7_copy 108 = .ok (.getfield 60, 3) := by decide +kernel
theorem dX7_copy_111 : decode cX7_copy 111 = .ok (.iconst 2, 1) := by decide +kernel
theorem dX7_copy_112 : decode cX7_copy 112 = .ok (.invokevirtual 132, 3) := by decide +kernel
theorem dX7_copy_115 : decode cX7_copy 115 = .ok (.ireturn, 1) := by decide +kernel
theorem dX7_copy_116 : decode cX7_copy 116 = .ok (.aload_n 0, 1) := by decide +kernel
theorem dX7_copy_117 : decode cX7_copy 117 = .ok (.getfield 60, 3) := by decide +kernel
theorem dX7_copy_120 : decode cX7_copy 120 = .ok (.getfield 144, 3) := by decide +kernel
theorem dX7_copy_123 : decode cX7_copy 123 = .ok (.iload_n 1, 1) := by decide +kernel
theorem dX7_copy_124 : decode cX7_copy 124 = .ok (.aaload, 1) := by decide +kernel
theorem dX7_copy_125 : decode cX7_copy 125 = .ok (.iload_n 2, 1) := by decide +kernel
theorem dX7_copy_126 : decode cX7_copy 126 = .ok (.aload_n 0, 1) := by decide +kernel
theorem dX7_copy_127 : decode cX7_copy 127 = .ok (.getfield 60, 3) := by decide +kernel
theorem dX7_copy_130 : decode cX7_copy 130 = .ok (.getfield 144, 3) := by decide +kernel
theorem dX7_copy_133 : decode cX7_copy 133 = .ok (.iload_n 3, 1) := by decide +kernel
theorem dX7_copy_134 : decode cX7_copy 134 = .ok (.aaload, 1) := by decide +kernel
theorem dX7_copy_135 : decode cX7_copy 135 = .ok (.iload 4, 2) := by decide +kernel
theorem dX7_copy_137 : decode cX7_copy 137 = .ok (.iload 5, 2) := by decide +kernel
theorem dX7_copy_139 : decode cX7_copy 139 = .ok (.invokestatic 228, 3) := by decide +kernel
theorem dX7_copy_142 : decode cX7_copy 142 = .ok (.iconst 1, 1) := by decide +kernel
theorem dX7_copy_143 : decode cX7_copy 143 = .ok (.ireturn, 1) := by decide +kernel
theorem dX7_write_0 : decode cX7_write 0 = .ok (.iload_n 1, 1) := by decide +kernel
theorem dX7_write_1 : decode cX7_write 1 = .ok (.invokestatic 126, 3) := by decide +kernel
theorem dX7_write_4 : decode cX7_write 4 = .ok (.ifCond .eq 6, 3) := by decide +kernel
theorem dX7_write_7 : decode cX7_write 7 = .ok (.bipush (-2), 2) := by decide +kernel
theorem dX7_write_9 : decode cX7_write 9 = .ok (.ireturn, 1) := by decide +kernel
theorem dX7_write_10 : decode cX7_write 10 = .ok (.aload_n 0, 1) := by decide +kernel
theorem dX7_write_11 : decode cX7_write 11 = .ok (.getfield 60, 3) := by decide +kernel
theorem dX7_write_14 : decode cX7_write 14 = .ok (.iload_n 1, 1) := by decide +kernel
theorem dX7_write_15 : decode cX7_write 15 = .ok (.invokevirtual 129, 3) := by decide +kernel
theorem dX7_write_18 : decode cX7_write 18 = .ok (.ifCond .eq 12, 3) := by decide +kernel
theorem dX7_write_21 : decode cX7_write 21 = .ok (.aload_n 0, 1) := by decide +kernel
theorem dX7_write_22 : decode cX7_write 22 = .ok (.getfield 60, 3) := by decide +kernel
theorem dX7_write_25 : decode cX7_write 25 = .ok (.iconst 1, 1) := by decide +kernel
theorem dX7_write_26 : decode cX7_write 26 = .ok (.invokevirtual 132, 3) := by decide +kernel
theorem dX7_write_29 : decode cX7_write 29 = .ok (.ireturn, 1) := by decide +kernel
theorem dX7_write_30 : decode cX7_write 30 = .ok (.aload_n 0, 1) := by decide +kernel
theorem dX7_write_31 : decode cX7_write 31 = .ok (.getfield 30, 3) := by decide +kernel
theorem dX7_write_34 : decode cX7_write 34 = .ok (.invokevirtual 152, 3) := by decide +kernel
theorem dX7_write_37 : decode cX7_write 37 = .ok (.ifCond .eq 6, 3) := by decide +kernel
theorem dX7_write_40 : decode cX7_write 40 = .ok (.bipush (-3), 2) := by decide +kernel
theorem dX7_write_42 : decode cX7_write 42 = .ok (.ireturn, 1) := by decide +kernel
theorem dX7_write_43 : decode cX7_write 43 = .ok (.iconst 4, 1) := by decide +kernel
theorem dX7_write_44 : decode cX7_write 44 = .ok (.aload_n 0, 1) := by decide +kernel
theorem dX7_write_45 : decode cX7_write 45 = .ok (.getfield 60, 3) := by decide +kernel
theorem dX7_write_48 : decode cX7_write 48 = .ok (.getfield 136, 3) := by decide +kernel
theorem dX7_write_51 : decode cX7_write 51 = .ok (.iload_n 1, 1) := by decide +kernel
theorem dX7_write_52 : decode cX7_write 52 = .ok (.iaload, 1) := by decide +kernel
theorem dX7_write_53 : decode cX7_write 53 = .ok (.invokestatic 139, 3) := by decide +kernel
theorem dX7_write_56 : decode cX7_write 56 = .ok (.istore_n 2, 1) := by decide +kernel
theorem dX7_write_57 : decode cX7_write 57 = .ok (.iconst 0, 1) := by decide +kernel
theorem dX7_write_58 : decode cX7_write 58 = .ok (.istore_n 3, 1) := by decide +kernel
theorem dX7_write_59 : decode cX7_write 59 = .ok (.iload_n 3, 1) := by decide +kernel
theorem dX7_write_60 : decode cX7_write 60 = .ok (.iload_n 2, 1) := by decide +kernel
theorem dX7_write_61 : decode cX7_write 61 = .ok (.if_icmp .ge 26, 3) := by decide +kernel
theorem dX7_write_64 : decode cX7_write 64 = .ok (.aload_n 0, 1) := by decide +kernel
theorem dX7_write_65 : decode cX7_write 65 = .ok (.getfield 60, 3) := by decide +kernel
theorem dX7_write_68 : decode cX7_write 68 = .ok (.iload_n 1, 1) := by decide +kernel
theorem dX7_write_69 : decode cX7_write 69 = .ok (.iload_n 3, 1) := by decide +kernel
theorem dX7_write_70 : decode cX7_write 70 = .ok (.aload_n 0, 1) := by decide +kernel
theorem dX7_write_71 : decode cX7_write 71 = .ok (.getfield 30, 3) := by decide +kernel
theorem dX7_write_74 : decode cX7_write 74 = .ok (.iload_n 3, 1) := by decide +kernel
theorem dX7_write_75 : decode cX7_write 75 = .ok (.invokevirtual 168, 3) := by decide +kernel
theorem dX7_write_78 : decode cX7_write 78 = .ok (.invokevirtual 218, 3) := by decide +kernel
theorem dX7_write_81 : decode cX7_write 81 = .ok (.iinc 3 1, 3) := by decide +kernel
theorem dX7_write_84 : decode cX7_write 84 = .ok (.goto (-25), 3) := by decide +kernel
theorem dX7_write_87 : decode cX7_write 87 = .ok (.iload_n 2, 1) := by decide +kernel
theorem dX7_write_88 : decode cX7_write 88 = .ok (.ireturn, 1) := by decide +kernel
theorem dX7_count_0 : decode cX7_count 0 = .ok (.iload_n 1, 1) := by decide +kernel
theorem dX7_count_1 : decode cX7_count 1 = .ok (.tableswitch 115 0 8 #[51, 59, 67, 77, 77, 77, 89, 97, 107], 51) := by decide +kernel
theorem dX7_count_52 : decode cX7_count 52 = .ok (.aload_n 0, 1) := by decide +kernel
theorem dX7_count_53 : decode cX7_count 53 = .ok (.getfield 10, 3) := by decide +kernel
theorem dX7_count_56 : decode cX7_count 56 = .ok (.getfield 234, 3) := by decide +kernel
theorem dX7_count_59 : decode cX7_count 59 = .ok (.ireturn, 1) := by decide +kernel
theorem dX7_count_60 : decode cX7_count 60 = .ok (.aload_n 0, 1) := by decide +kernel
theorem dX7_count_61 : decode cX7_count 61 = .ok (.getfield 10, 3) := by decide +kernel
theorem dX7_count_64 : decode cX7_count 64 = .ok (.getfield 72, 3) := by decide +kernel
theorem dX7_count_67 : decode cX7_count 67 = .ok (.ireturn, 1) := by decide +kernel
theorem dX7_count_68 : decode cX7_count 68 = .ok (.aload_n 0, 1) := by decide +kernel
theorem dX7_count_69 : decode cX7_count 69 = .ok (.getfield 21, 3) := by decide +kernel
theorem dX7_count_72 : decode cX7_count 72 = .ok (.getfield 194, 3) := by decide +kernel
theorem dX7_count_75 : decode cX7_count 75 = .ok (.iconst 0, 1) := by decide +kernel
theorem dX7_count_76 : decode cX7_count 76 = .ok (.iaload, 1) := by decide +kernel
theorem dX7_count_77 : decode cX7_count 77 = .ok (.ireturn, 1) := by decide +kernel
theorem dX7_count_78 : decode cX7_count 78 = .ok (.aload_n 0, 1) := by decide +kernel
theorem dX7_count_79 : decode cX7_count 79 = .ok (.getfield 30, 3) := by decide +kernel
theorem dX7_count_82 : decode cX7_count 82 = .ok (.getfield 120, 3) := by decide +kernel
theorem dX7_count_85 : decode cX7_count 85 = .ok (.iload_n 1, 1) := by decide +kernel
theorem dX7_count_86 : decode cX7_count 86 = .ok (.iconst 3, 1) := by decide +kernel
theorem dX7_count_87 : decode cX7_count 87 = .ok (.isub, 1) := by decide +kernel
theorem dX7_count_88 : decode cX7_count 88 = .ok (.iaload, 1) := by decide +kernel
theorem dX7_count_89 : decode cX7_count 89 = .ok (.ireturn, 1) := by decide +kernel
theorem dX7_count_90 : decode cX7_count 90 = .ok (.aload_n 0, 1) := by decide +kernel
theorem dX7_count_91 : decode cX7_count 91 = .ok (.getfield 30, 3) := by decide +kernel
theorem dX7_count_94 : decode cX7_count 94 = .ok (.invokevirtual 237, 3) := by decide +kernel
theorem dX7_count_97 : decode cX7_count 97 = .ok (.ireturn, 1) := by decide +kernel
theorem dX7_count_98 : decode cX7_count 98 = .ok (.aload_n 0, 1) := by decide +kernel
theorem dX7_count_99 : decode cX7_count 99 = .ok (.getfield 21, 3) := by decide +kernel
theorem dX7_count_102 : decode cX7_count 102 = .ok (.getfield 194, 3) := by decide +kernel
theorem dX7_count_105 : decode cX7_count 105 = .ok (.iconst 2, 1) := by decide +kernel
theorem dX7_count_106 : decode cX7_count 106 = .ok (.iaload, 1) := by decide +kernel
theorem dX7_count_107 : decode cX7_count 107 = .ok (.ireturn, 1) := by decide +kernel
theorem dX7_count_108 : decode cX7_count 108 = .ok (.aload_n 0, 1) := by decide +kernel
theorem dX7_count_109 : decode cX7_count 109 = .ok (.getfield 60, 3) := by decide +kernel
theorem dX7_count_112 : decode cX7_count 112 = .ok (.getfield 240, 3) := by decide +kernel
theorem dX7_count_115 : decode cX7_count 115 = .ok (.ireturn, 1) := by decide +kernel
theorem dX7_count_116 : decode cX7_count 116 = .ok (.bipush (-2), 2) := by decide +kernel
theorem dX7_count_118 : decode cX7_count 118 = .ok (.ireturn, 1) := by decide +kernel
theorem dX7_digest_0 : decode cX7_digest 0 = .ok (.ldc2_w 243, 3) := by decide +kernel
theorem dX7_digest_3 : decode cX7_digest 3 = .ok (.lstore_n 1, 1) := by decide +kernel
theorem dX7_digest_4 : decode cX7_digest 4 = .ok (.iconst 0, 1) := by decide +kernel
theorem dX7_digest_5 : decode cX7_digest 5 = .ok (.istore_n 3, 1) := by decide +kernel
theorem dX7_digest_6 : decode cX7_digest 6 = .ok (.iload_n 3, 1) := by decide +kernel
theorem dX7_digest_7 : decode cX7_digest 7 = .ok (.bipush 7, 2) := by decide +kernel
theorem dX7_digest_9 : decode cX7_digest 9 = .ok (.if_icmp .gt 22, 3) := by decide +kernel
theorem dX7_digest_12 : decode cX7_digest 12 = .ok (.ldc2_w 245, 3) := by decide +kernel
theorem dX7_digest_15 : decode cX7_digest 15 = .ok (.lload_n 1, 1) := by decide +kernel
theorem dX7_digest_16 : decode cX7_digest 16 = .ok (.lmul, 1) := by decide +kernel
theorem dX7_digest_17 : decode cX7_digest 17 = .ok (.aload_n 0, 1) := by decide +kernel
theorem dX7_digest_18 : decode cX7_digest 18 = .ok (.iload_n 3, 1) := by decide +kernel
theorem dX7_digest_19 : decode cX7_digest 19 = .ok (.invokevirtual 247, 3) := by decide +kernel
theorem dX7_digest_22 : decode cX7_digest 22 = .ok (.i2l, 1) := by decide +kernel
theorem dX7_digest_23 : decode cX7_digest 23 = .ok (.ladd, 1) := by decide +kernel
theorem dX7_digest_24 : decode cX7_digest 24 = .ok (.lstore_n 1, 1) := by decide +kernel
theorem dX7_digest_25 : decode cX7_digest 25 = .ok (.iinc 3 1, 3) := by decide +kernel
theorem dX7_digest_28 : decode cX7_digest 28 = .ok (.goto (-22), 3) := by decide +kernel
theorem dX7_digest_31 : decode cX7_digest 31 = .ok (.ldc2_w 245, 3) := by decide +kernel
theorem dX7_digest_34 : decode cX7_digest 34 = .ok (.lload_n 1, 1) := by decide +kernel
theorem dX7_digest_35 : decode cX7_digest 35 = .ok (.lmul, 1) := by decide +kernel
theorem dX7_digest_36 : decode cX7_digest 36 = .ok (.aload_n 0, 1) := by decide +kernel
theorem dX7_digest_37 : decode cX7_digest 37 = .ok (.invokevirtual 249, 3) := by decide +kernel
theorem dX7_digest_40 : decode cX7_digest 40 = .ok (.i2l, 1) := by decide +kernel
theorem dX7_digest_41 : decode cX7_digest 41 = .ok (.ladd, 1) := by decide +kernel
theorem dX7_digest_42 : decode cX7_digest 42 = .ok (.lstore_n 1, 1) := by decide +kernel
theorem dX7_digest_43 : decode cX7_digest 43 = .ok (.iconst 0, 1) := by decide +kernel
theorem dX7_digest_44 : decode cX7_digest 44 = .ok (.istore_n 3, 1) := by decide +kernel
theorem dX7_digest_45 : decode cX7_digest 45 = .ok (.iload_n 3, 1) := by decide +kernel
theorem dX7_digest_46 : decode cX7_digest 46 = .ok (.aload_n 0, 1) := by decide +kernel
theorem dX7_digest_47 : decode cX7_digest 47 = .ok (.getfield 10, 3) := by decide +kernel
theorem dX7_digest_50 : decode cX7_digest 50 = .ok (.getfield 234, 3) := by decide +kernel
theorem dX7_digest_53 : decode cX7_digest 53 = .ok (.if_icmp .ge 55, 3) := by decide +kernel
theorem dX7_digest_56 : decode cX7_digest 56 = .ok (.iconst 0, 1) := by decide +kernel
theorem dX7_digest_57 : decode cX7_digest 57 = .ok (.istore 4, 2) := by decide +kernel
theorem dX7_digest_59 : decode cX7_digest 59 = .ok (.iload 4, 2) := by decide +kernel
theorem dX7_digest_61 : decode cX7_digest 61 = .ok (.iconst 3, 1) := by decide +kernel
theorem dX7_digest_62 : decode cX7_digest 62 = .ok (.if_icmp .gt 24, 3) := by decide +kernel
theorem dX7_digest_65 : decode cX7_digest 65 = .ok (.ldc2_w 245, 3) := by decide +kernel
theorem dX7_digest_68 : decode cX7_digest 68 = .ok (.lload_n 1, 1) := by decide +kernel
theorem dX7_digest_69 : decode cX7_digest 69 = .ok (.lmul, 1) := by decide +kernel
theorem dX7_digest_70 : decode cX7_digest 70 = .ok (.aload_n 0, 1) := by decide +kernel
theorem dX7_digest_71 : decode cX7_digest 71 = .ok (.iload_n 3, 1) := by decide +kernel
theorem dX7_digest_72 : decode cX7_digest 72 = .ok (.iload 4, 2) := by decide +kernel
theorem dX7_digest_74 : decode cX7_digest 74 = .ok (.invokevirtual 251, 3) := by decide +kernel
theorem dX7_digest_77 : decode cX7_digest 77 = .ok (.i2l, 1) := by decide +kernel
theorem dX7_digest_78 : decode cX7_digest 78 = .ok (.ladd, 1) := by decide +kernel
theorem dX7_digest_79 : decode cX7_digest 79 = .ok (.lstore_n 1, 1) := by decide +kernel
theorem dX7_digest_80 : decode cX7_digest 80 = .ok (.iinc 4 1, 3) := by decide +kernel
theorem dX7_digest_83 : decode cX7_digest 83 = .ok (.goto (-24), 3) := by decide +kernel
theorem dX7_digest_86 : decode cX7_digest 86 = .ok (.ldc2_w 245, 3) := by decide +kernel
theorem dX7_digest_89 : decode cX7_digest 89 = .ok (.lload_n 1, 1) := by decide +kernel
theorem dX7_digest_90 : decode cX7_digest 90 = .ok (.lmul, 1) := by decide +kernel
theorem dX7_digest_91 : decode cX7_digest 91 = .ok (.aload_n 0, 1) := by decide +kernel
theorem dX7_digest_92 : decode cX7_digest 92 = .ok (.iload_n 3, 1) := by decide +kernel
theorem dX7_digest_93 : decode cX7_digest 93 = .ok (.iconst 1, 1) := by decide +kernel
theorem dX7_digest_94 : decode cX7_digest 94 = .ok (.bipush 50, 2) := by decide +kernel
theorem dX7_digest_96 : decode cX7_digest 96 = .ok (.invokevirtual 254, 3) := by decide +kernel
theorem dX7_digest_99 : decode cX7_digest 99 = .ok (.i2l, 1) := by decide +kernel
theorem dX7_digest_100 : decode cX7_digest 100 = .ok (.ladd, 1) := by decide +kernel
theorem dX7_digest_101 : decode cX7_digest 101 = .ok (.lstore_n 1, 1) := by decide +kernel
theorem dX7_digest_102 : decode cX7_digest 102 = .ok (.iinc 3 1, 3) := by decide +kernel
theorem dX7_digest_105 : decode cX7_digest 105 = .ok (.goto (-60), 3) := by decide +kernel
theorem dX7_digest_108 : decode cX7_digest 108 = .ok (.iconst 0, 1) := by decide +kernel
theorem dX7_digest_109 : decode cX7_digest 109 = .ok (.istore_n 3, 1) := by decide +kernel
theorem dX7_digest_110 : decode cX7_digest 110 = .ok (.iload_n 3, 1) := by decide +kernel
theorem dX7_digest_111 : decode cX7_digest 111 = .ok (.iconst 4, 1) := by decide +kernel
theorem dX7_digest_112 : decode cX7_digest 112 = .ok (.if_icmp .ge 50, 3) := by decide +kernel
theorem dX7_digest_115 : decode cX7_digest 115 = .ok (.ldc2_w 245, 3) := by decide +kernel
theorem dX7_digest_118 : decode cX7_digest 118 = .ok (.lload_n 1, 1) := by decide +kernel
theorem dX7_digest_119 : decode cX7_digest 119 = .ok (.lmul, 1) := by decide +kernel
theorem dX7_digest_120 : decode cX7_digest 120 = .ok (.aload_n 0, 1) := by decide +kernel
theorem dX7_digest_121 : decode cX7_digest 121 = .ok (.iload_n 3, 1) := by decide +kernel
theorem dX7_digest_122 : decode cX7_digest 122 = .ok (.iconst 0, 1) := by decide +kernel
theorem dX7_digest_123 : decode cX7_digest 123 = .ok (.invokevirtual 257, 3) := by decide +kernel
theorem dX7_digest_126 : decode cX7_digest 126 = .ok (.i2l, 1) := by decide +kernel
theorem dX7_digest_127 : decode cX7_digest 127 = .ok (.ladd, 1) := by decide +kernel
theorem dX7_digest_128 : decode cX7_digest 128 = .ok (.lstore_n 1, 1) := by decide +kernel
theorem dX7_digest_129 : decode cX7_digest 129 = .ok (.ldc2_w 245, 3) := by decide +kernel
theorem dX7_digest_132 : decode cX7_digest 132 = .ok (.lload_n 1, 1) := by decide +kernel
theorem dX7_digest_133 : decode cX7_digest 133 = .ok (.lmul, 1) := by decide +kernel
theorem dX7_digest_134 : decode cX7_digest 134 = .ok (.aload_n 0, 1) := by decide +kernel
theorem dX7_digest_135 : decode cX7_digest 135 = .ok (.iload_n 3, 1) := by decide +kernel
theorem dX7_digest_136 : decode cX7_digest 136 = .ok (.iconst 1, 1) := by decide +kernel
theorem dX7_digest_137 : decode cX7_digest 137 = .ok (.invokevirtual 257, 3) := by decide +kernel
theorem dX7_digest_140 : decode cX7_digest 140 = .ok (.i2l, 1) := by decide +kernel
theorem dX7_digest_141 : decode cX7_digest 141 = .ok (.ladd, 1) := by decide +kernel
theorem dX7_digest_142 : decode cX7_digest 142 = .ok (.lstore_n 1, 1) := by decide +kernel
theorem dX7_digest_143 : decode cX7_digest 143 = .ok (.ldc2_w 245, 3) := by decide +kernel
theorem dX7_digest_146 : decode cX7_digest 146 = .ok (.lload_n 1, 1) := by decide +kernel
theorem dX7_digest_147 : decode cX7_digest 147 = .ok (.lmul, 1) := by decide +kernel
theorem dX7_digest_148 : decode cX7_digest 148 = .ok (.aload_n 0, 1) := by decide +kernel
theorem dX7_digest_149 : decode cX7_digest 149 = .ok (.iload_n 3, 1) := by decide +kernel
theorem dX7_digest_150 : decode cX7_digest 150 = .ok (.invokevirtual 260, 3) := by decide +kernel
theorem dX7_digest_153 : decode cX7_digest 153 = .ok (.i2l, 1) := by decide +kernel
theorem dX7_digest_154 : decode cX7_digest 154 = .ok (.ladd, 1) := by decide +kernel
theorem dX7_digest_155 : decode cX7_digest 155 = .ok (.lstore_n 1, 1) := by decide +kernel
theorem dX7_digest_156 : decode cX7_digest 156 = .ok (.iinc 3 1, 3) := by decide +kernel
theorem dX7_digest_159 : decode cX7_digest 159 = .ok (.goto (-49), 3) := by decide +kernel
theorem dX7_digest_162 : decode cX7_digest 162 = .ok (.iconst 0, 1) := by decide +kernel
theorem dX7_digest_163 : decode cX7_digest 163 = .ok (.istore_n 3, 1) := by decide +kernel
theorem dX7_digest_164 : decode cX7_digest 164 = .ok (.iload_n 3, 1) := by decide +kernel
theorem dX7_digest_165 : decode cX7_digest 165 = .ok (.iconst 3, 1) := by decide +kernel
theorem dX7_digest_166 : decode cX7_digest 166 = .ok (.if_icmp .ge 90, 3) := by decide +kernel
theorem dX7_digest_169 : decode cX7_digest 169 = .ok (.ldc2_w 245, 3) := by decide +kernel
theorem dX7_digest_172 : decode cX7_digest 172 = .ok (.lload_n 1, 1) := by decide +kernel
theorem dX7_digest_173 : decode cX7_digest 173 = .ok (.lmul, 1) := by decide +kernel
theorem dX7_digest_174 : decode cX7_digest 174 = .ok (.aload_n 0, 1) := by decide +kernel
theorem dX7_digest_175 : decode cX7_digest 175 = .ok (.iload_n 3, 1) := by decide +kernel
theorem dX7_digest_176 : decode cX7_digest 176 = .ok (.invokevirtual 263, 3) := by decide +kernel
theorem dX7_digest_179 : decode cX7_digest 179 = .ok (.i2l, 1) := by decide +kernel
theorem dX7_digest_180 : decode cX7_digest 180 = .ok (.ladd, 1) := by decide +kernel
theorem dX7_digest_181 : decode cX7_digest 181 = .ok (.lstore_n 1, 1) := by decide +kernel
theorem dX7_digest_182 : decode cX7_digest 182 = .ok (.ldc2_w 245, 3) := by decide +kernel
theorem dX7_digest_185 : decode cX7_digest 185 = .ok (.lload_n 1, 1) := by decide +kernel
theorem dX7_digest_186 : decode cX7_digest 186 = .ok (.lmul, 1) := by decide +kernel
theorem dX7_digest_187 : decode cX7_digest 187 = .ok (.aload_n 0, 1) := by decide +kernel
theorem dX7_digest_188 : decode cX7_digest 188 = .ok (.iload_n 3, 1) := by decide +kernel
theorem dX7_digest_189 : decode cX7_digest 189 = .ok (.invokevirtual 266, 3) := by decide +kernel
theorem dX7_digest_192 : decode cX7_digest 192 = .ok (.i2l, 1) := by decide +kernel
theorem dX7_digest_193 : decode cX7_digest 193 = .ok (.ladd, 1) := by decide +kernel
theorem dX7_digest_194 : decode cX7_digest 194 = .ok (.lstore_n 1, 1) := by decide +kernel
theorem dX7_digest_195 : decode cX7_digest 195 = .ok (.ldc2_w 245, 3) := by decide +kernel
theorem dX7_digest_198 : decode cX7_digest 198 = .ok (.lload_n 1, 1) := by decide +kernel
theorem dX7_digest_199 : decode cX7_digest 199 = .ok (.lmul, 1) := by decide +kernel
theorem dX7_digest_200 : decode cX7_digest 200 = .ok (.aload_n 0, 1) := by decide +kernel
theorem dX7_digest_201 : decode cX7_digest 201 = .ok (.iload_n 3, 1) := by decide +kernel
theorem dX7_digest_202 : decode cX7_digest 202 = .ok (.invokevirtual 269, 3) := by decide +kernel
theorem dX7_digest_205 : decode cX7_digest 205 = .ok (.i2l, 1) := by decide +kernel
theorem dX7_digest_206 : decode cX7_digest 206 = .ok (.ladd, 1) := by decide +kernel
theorem dX7_digest_207 : decode cX7_digest 207 = .ok (.lstore_n 1, 1) := by decide +kernel
theorem dX7_digest_208 : decode cX7_digest 208 = .ok (.ldc2_w 245, 3) := by decide +kernel
theorem dX7_digest_211 : decode cX7_digest 211 = .ok (.lload_n 1, 1) := by decide +kernel
theorem dX7_digest_212 : decode cX7_digest 212 = .ok (.lmul, 1) := by decide +kernel
theorem dX7_digest_213 : decode cX7_digest 213 = .ok (.aload_n 0, 1) := by decide +kernel
theorem dX7_digest_214 : decode cX7_digest 214 = .ok (.iload_n 3, 1) := by decide +kernel
theorem dX7_digest_215 : decode cX7_digest 215 = .ok (.bipush 10, 2) := by decide +kernel
theorem dX7_digest_217 : decode cX7_digest 217 = .ok (.invokevirtual 272, 3) := by decide +kernel
theorem dX7_digest_220 : decode cX7_digest 220 = .ok (.i2l, 1) := by decide +kernel
theorem dX7_digest_221 : decode cX7_digest 221 = .ok (.ladd, 1) := by decide +kernel
theorem dX7_digest_222 : decode cX7_digest 222 = .ok (.lstore_n 1, 1) := by decide +kernel
theorem dX7_digest_223 : decode cX7_digest 223 = .ok (.ldc2_w 245, 3) := by decide +kernel
theorem dX7_digest_226 : decode cX7_digest 226 = .ok (.lload_n 1, 1) := by decide +kernel
theorem dX7_digest_227 : decode cX7_digest 227 = .ok (.lmul, 1) := by decide +kernel
theorem dX7_digest_228 : decode cX7_digest 228 = .ok (.aload_n 0, 1) := by decide +kernel
theorem dX7_digest_229 : decode cX7_digest 229 = .ok (.iload_n 3, 1) := by decide +kernel
theorem dX7_digest_230 : decode cX7_digest 230 = .ok (.invokevirtual 275, 3) := by decide +kernel
theorem dX7_digest_233 : decode cX7_digest 233 = .ok (.i2l, 1) := by decide +kernel
theorem dX7_digest_234 : decode cX7_digest 234 = .ok (.ladd, 1) := by decide +kernel
theorem dX7_digest_235 : decode cX7_digest 235 = .ok (.lstore_n 1, 1) := by decide +kernel
theorem dX7_digest_236 : decode cX7_digest 236 = .ok (.ldc2_w 245, 3) := by decide +kernel
theorem dX7_digest_239 : decode cX7_digest 239 = .ok (.lload_n 1, 1) := by decide +kernel
theorem dX7_digest_240 : decode cX7_digest 240 = .ok (.lmul, 1) := by decide +kernel
theorem dX7_digest_241 : decode cX7_digest 241 = .ok (.aload_n 0, 1) := by decide +kernel
theorem dX7_digest_242 : decode cX7_digest 242 = .ok (.iload_n 3, 1) := by decide +kernel
theorem dX7_digest_243 : decode cX7_digest 243 = .ok (.iconst 5, 1) := by decide +kernel
theorem dX7_digest_244 : decode cX7_digest 244 = .ok (.invokevirtual 278, 3) := by decide +kernel
theorem dX7_digest_247 : decode cX7_digest 247 = .ok (.i2l, 1) := by decide +kernel
theorem dX7_digest_248 : decode cX7_digest 248 = .ok (.ladd, 1) := by decide +kernel
theorem dX7_digest_249 : decode cX7_digest 249 = .ok (.lstore_n 1, 1) := by decide +kernel
theorem dX7_digest_250 : decode cX7_digest 250 = .ok (.iinc 3 1, 3) := by decide +kernel
theorem dX7_digest_253 : decode cX7_digest 253 = .ok (.goto (-89), 3) := by decide +kernel
theorem dX7_digest_256 : decode cX7_digest 256 = .ok (.ldc2_w 245, 3) := by decide +kernel
theorem dX7_digest_259 : decode cX7_digest 259 = .ok (.lload_n 1, 1) := by decide +kernel
theorem dX7_digest_260 : decode cX7_digest 260 = .ok (.lmul, 1) := by decide +kernel
theorem dX7_digest_261 : decode cX7_digest 261 = .ok (.aload_n 0, 1) := by decide +kernel
theorem dX7_digest_262 : decode cX7_digest 262 = .ok (.invokevirtual 281, 3) := by decide +kernel
theorem dX7_digest_265 : decode cX7_digest 265 = .ok (.i2l, 1) := by decide +kernel
theorem dX7_digest_266 : decode cX7_digest 266 = .ok (.ladd, 1) := by decide +kernel
theorem dX7_digest_267 : decode cX7_digest 267 = .ok (.lstore_n 1, 1) := by decide +kernel
theorem dX7_digest_268 : decode cX7_digest 268 = .ok (.ldc2_w 245, 3) := by decide +kernel
theorem dX7_digest_271 : decode cX7_digest 271 = .ok (.lload_n 1, 1) := by decide +kernel
theorem dX7_digest_272 : decode cX7_digest 272 = .ok (.lmul, 1) := by decide +kernel
theorem dX7_digest_273 : decode cX7_digest 273 = .ok (.aload_n 0, 1) := by decide +kernel
theorem dX7_digest_274 : decode cX7_digest 274 = .ok (.iconst 0, 1) := by decide +kernel
theorem dX7_digest_275 : decode cX7_digest 275 = .ok (.invokevirtual 284, 3) := by decide +kernel
theorem dX7_digest_278 : decode cX7_digest 278 = .ok (.ladd, 1) := by decide +kernel
theorem dX7_digest_279 : decode cX7_digest 279 = .ok (.lstore_n 1, 1) := by decide +kernel
theorem dX7_digest_280 : decode cX7_digest 280 = .ok (.ldc2_w 245, 3) := by decide +kernel
theorem dX7_digest_283 : decode cX7_digest 283 = .ok (.lload_n 1, 1) := by decide +kernel
theorem dX7_digest_284 : decode cX7_digest 284 = .ok (.lmul, 1) := by decide +kernel
theorem dX7_digest_285 : decode cX7_digest 285 = .ok (.aload_n 0, 1) := by decide +kernel
theorem dX7_digest_286 : decode cX7_digest 286 = .ok (.iconst 1, 1) := by decide +kernel
theorem dX7_digest_287 : decode cX7_digest 287 = .ok (.invokevirtual 284, 3) := by decide +kernel
theorem dX7_digest_290 : decode cX7_digest 290 = .ok (.ladd, 1) := by decide +kernel
theorem dX7_digest_291 : decode cX7_digest 291 = .ok (.lstore_n 1, 1) := by decide +kernel
theorem dX7_digest_292 : decode cX7_digest 292 = .ok (.aload_n 0, 1) := by decide +kernel
theorem dX7_digest_293 : decode cX7_digest 293 = .ok (.getfield 46, 3) := by decide +kernel
theorem dX7_digest_296 : decode cX7_digest 296 = .ok (.iconst (-1), 1) := by decide +kernel
theorem dX7_digest_297 : decode cX7_digest 297 = .ok (.invokevirtual 187, 3) := by decide +kernel
theorem dX7_digest_300 : decode cX7_digest 300 = .ok (.iconst 0, 1) := by decide +kernel
theorem dX7_digest_301 : decode cX7_digest 301 = .ok (.istore_n 3, 1) := by decide +kernel
theorem dX7_digest_302 : decode cX7_digest 302 = .ok (.iload_n 3, 1) := by decide +kernel
theorem dX7_digest_303 : decode cX7_digest 303 = .ok (.bipush 7, 2) := by decide +kernel
theorem dX7_digest_305 : decode cX7_digest 305 = .ok (.if_icmp .gt 26, 3) := by decide +kernel
theorem dX7_digest_308 : decode cX7_digest 308 = .ok (.ldc2_w 245, 3) := by decide +kernel
theorem dX7_digest_311 : decode cX7_digest 311 = .ok (.lload_n 1, 1) := by decide +kernel
theorem dX7_digest_312 : decode cX7_digest 312 = .ok (.lmul, 1) := by decide +kernel
theorem dX7_digest_313 : decode cX7_digest 313 = .ok (.aload_n 0, 1) := by decide +kernel
theorem dX7_digest_314 : decode cX7_digest 314 = .ok (.getfield 46, 3) := by decide +kernel
theorem dX7_digest_317 : decode cX7_digest 317 = .ok (.getfield 191, 3) := by decide +kernel
theorem dX7_digest_320 : decode cX7_digest 320 = .ok (.iload_n 3, 1) := by decide +kernel
theorem dX7_digest_321 : decode cX7_digest 321 = .ok (.iaload, 1) := by decide +kernel
theorem dX7_digest_322 : decode cX7_digest 322 = .ok (.i2l, 1) := by decide +kernel
theorem dX7_digest_323 : decode cX7_digest 323 = .ok (.ladd, 1) := by decide +kernel
theorem dX7_digest_324 : decode cX7_digest 324 = .ok (.lstore_n 1, 1) := by decide +kernel
theorem dX7_digest_325 : decode cX7_digest 325 = .ok (.iinc 3 1, 3) := by decide +kernel
theorem dX7_digest_328 : decode cX7_digest 328 = .ok (.goto (-26), 3) := by decide +kernel
theorem dX7_digest_331 : decode cX7_digest 331 = .ok (.aload_n 0, 1) := by decide +kernel
theorem dX7_digest_332 : decode cX7_digest 332 = .ok (.getfield 46, 3) := by decide +kernel
theorem dX7_digest_335 : decode cX7_digest 335 = .ok (.iconst 1, 1) := by decide +kernel
theorem dX7_digest_336 : decode cX7_digest 336 = .ok (.invokevirtual 187, 3) := by decide +kernel
theorem dX7_digest_339 : decode cX7_digest 339 = .ok (.ldc2_w 245, 3) := by decide +kernel
theorem dX7_digest_342 : decode cX7_digest 342 = .ok (.lload_n 1, 1) := by decide +kernel
theorem dX7_digest_343 : decode cX7_digest 343 = .ok (.lmul, 1) := by decide +kernel
theorem dX7_digest_344 : decode cX7_digest 344 = .ok (.aload_n 0, 1) := by decide +kernel
theorem dX7_digest_345 : decode cX7_digest 345 = .ok (.getfield 46, 3) := by decide +kernel
theorem dX7_digest_348 : decode cX7_digest 348 = .ok (.getfield 191, 3) := by decide +kernel
theorem dX7_digest_351 : decode cX7_digest 351 = .ok (.iconst 0, 1) := by decide +kernel
theorem dX7_digest_352 : decode cX7_digest 352 = .ok (.iaload, 1) := by decide +kernel
theorem dX7_digest_353 : decode cX7_digest 353 = .ok (.i2l, 1) := by decide +kernel
theorem dX7_digest_354 : decode cX7_digest 354 = .ok (.ladd, 1) := by decide +kernel
theorem dX7_digest_355 : decode cX7_digest 355 = .ok (.lstore_n 1, 1) := by decide +kernel
theorem dX7_digest_356 : decode cX7_digest 356 = .ok (.ldc2_w 245, 3) := by decide +kernel
theorem dX7_digest_359 : decode cX7_digest 359 = .ok (.lload_n 1, 1) := by decide +kernel
theorem dX7_digest_360 : decode cX7_digest 360 = .ok (.lmul, 1) := by decide +kernel
theorem dX7_digest_361 : decode cX7_digest 361 = .ok (.aload_n 0, 1) := by decide +kernel
theorem dX7_digest_362 : decode cX7_digest 362 = .ok (.bipush 7, 2) := by decide +kernel
theorem dX7_digest_364 : decode cX7_digest 364 = .ok (.invokevirtual 288, 3) := by decide +kernel
theorem dX7_digest_367 : decode cX7_digest 367 = .ok (.i2l, 1) := by decide +kernel
theorem dX7_digest_368 : decode cX7_digest 368 = .ok (.ladd, 1) := by decide +kernel
theorem dX7_digest_369 : decode cX7_digest 369 = .ok (.lstore_n 1, 1) := by decide +kernel
theorem dX7_digest_370 : decode cX7_digest 370 = .ok (.ldc2_w 245, 3) := by decide +kernel
theorem dX7_digest_373 : decode cX7_digest 373 = .ok (.lload_n 1, 1) := by decide +kernel
theorem dX7_digest_374 : decode cX7_digest 374 = .ok (.lmul, 1) := by decide +kernel
theorem dX7_digest_375 : decode cX7_digest 375 = .ok (.aload_n 0, 1) := by decide +kernel
theorem dX7_digest_376 : decode cX7_digest 376 = .ok (.bipush 7, 2) := by decide +kernel
theorem dX7_digest_378 : decode cX7_digest 378 = .ok (.bipush 10, 2) := by decide +kernel
theorem dX7_digest_380 : decode cX7_digest 380 = .ok (.sipush 5000, 3) := by decide +kernel
theorem dX7_digest_383 : decode cX7_digest 383 = .ok (.invokevirtual 291, 3) := by decide +kernel
theorem dX7_digest_386 : decode cX7_digest 386 = .ok (.i2l, 1) := by decide +kernel
theorem dX7_digest_387 : decode cX7_digest 387 = .ok (.ladd, 1) := by decide +kernel
theorem dX7_digest_388 : decode cX7_digest 388 = .ok (.lreturn, 1) := by decide +kernel
theorem dX7_outside_0 : decode cX7_outside 0 = .ok (.iload_n 0, 1) := by decide +kernel
theorem dX7_outside_1 : decode cX7_outside 1 = .ok (.iload_n 1, 1) := by decide +kernel
theorem dX7_outside_2 : decode cX7_outside 2 = .ok (.if_icmp .lt 8, 3) := by decide +kernel
theorem dX7_outside_5 : decode cX7_outside 5 = .ok (.iload_n 0, 1) := by decide +kernel
theorem dX7_outside_6 : decode cX7_outside 6 = .ok (.iload_n 2, 1) := by decide +kernel
theorem dX7_outside_7 : decode cX7_outside 7 = .ok (.if_icmp .le 7, 3) := by decide +kernel
theorem dX7_outside_10 : decode cX7_outside 10 = .ok (.iconst 1, 1) := by decide +kernel
theorem dX7_outside_11 : decode cX7_outside 11 = .ok (.goto 4, 3) := by decide +kernel
theorem dX7_outside_14 : decode cX7_outside 14 = .ok (.iconst 0, 1) := by decide +kernel
theorem dX7_outside_15 : decode cX7_outside 15 = .ok (.ireturn, 1) := by decide +kernel
theorem dX7_isNobody_0 : decode cX7_isNobody 0 = .ok (.iload_n 1, 1) := by decide +kernel
theorem dX7_isNobody_1 : decode cX7_isNobody 1 = .ok (.iconst 0, 1) := by decide +kernel
theorem dX7_isNobody_2 : decode cX7_isNobody 2 = .ok (.aload_n 0, 1) := by decide +kernel
theorem dX7_isNobody_3 : decode cX7_isNobody 3 = .ok (.getfield 10, 3) := by decide +kernel
theorem dX7_isNobody_6 : decode cX7_isNobody 6 = .ok (.getfield 234, 3) := by decide +kernel
theorem dX7_isNobody_9 : decode cX7_isNobody 9 = .ok (.iconst 1, 1) := by decide +kernel
theorem dX7_isNobody_10 : decode cX7_isNobody 10 = .ok (.isub, 1) := by decide +kernel
theorem dX7_isNobody_11 : decode cX7_isNobody 11 = .ok (.invokestatic 64, 3) := by decide +kernel
theorem dX7_isNobody_14 : decode cX7_isNobody 14 = .ok (.ireturn, 1) := by decide +kernel
theorem dX7_isNoStretch_0 : decode cX7_isNoStretch 0 = .ok (.iload_n 0, 1) := by decide +kernel
theorem dX7_isNoStretch_1 : decode cX7_isNoStretch 1 = .ok (.iconst 0, 1) := by decide +kernel
theorem dX7_isNoStretch_2 : decode cX7_isNoStretch 2 = .ok (.iconst 3, 1) := by decide +kernel
theorem dX7_isNoStretch_3 : decode cX7_isNoStretch 3 = .ok (.invokestatic 64, 3) := by decide +kernel
theorem dX7_isNoStretch_6 : decode cX7_isNoStretch 6 = .ok (.ireturn, 1) := by decide +kernel
theorem dX7_isNoChange_0 : decode cX7_isNoChange 0 = .ok (.iload_n 0, 1) := by decide +kernel
theorem dX7_isNoChange_1 : decode cX7_isNoChange 1 = .ok (.iconst 0, 1) := by decide +kernel
theorem dX7_isNoChange_2 : decode cX7_isNoChange 2 = .ok (.iconst 2, 1) := by decide +kernel
theorem dX7_isNoChange_3 : decode cX7_isNoChange 3 = .ok (.invokestatic 64, 3) := by decide +kernel
theorem dX7_isNoChange_6 : decode cX7_isNoChange 6 = .ok (.ireturn, 1) := by decide +kernel
theorem dX7_isNoMark_0 : decode cX7_isNoMark 0 = .ok (.iload_n 0, 1) := by decide +kernel
theorem dX7_isNoMark_1 : decode cX7_isNoMark 1 = .ok (.iconst 0, 1) := by decide +kernel
theorem dX7_isNoMark_2 : decode cX7_isNoMark 2 = .ok (.bipush 40, 2) := by decide +kernel
theorem dX7_isNoMark_4 : decode cX7_isNoMark 4 = .ok (.invokestatic 64, 3) := by decide +kernel
theorem dX7_isNoMark_7 : decode cX7_isNoMark 7 = .ok (.ireturn, 1) := by decide +kernel
theorem dX7_isNoSheet_0 : decode cX7_isNoSheet 0 = .ok (.iload_n 0, 1) := by decide +kernel
theorem dX7_isNoSheet_1 : decode cX7_isNoSheet 1 = .ok (.iconst 0, 1) := by decide +kernel
theorem dX7_isNoSheet_2 : decode cX7_isNoSheet 2 = .ok (.iconst 3, 1) := by decide +kernel
theorem dX7_isNoSheet_3 : decode cX7_isNoSheet 3 = .ok (.invokestatic 64, 3) := by decide +kernel
theorem dX7_isNoSheet_6 : decode cX7_isNoSheet 6 = .ok (.ireturn, 1) := by decide +kernel
theorem dX7_isNoForm_0 : decode cX7_isNoForm 0 = .ok (.iload_n 0, 1) := by decide +kernel
theorem dX7_isNoForm_1 : decode cX7_isNoForm 1 = .ok (.iconst 0, 1) := by decide +kernel
theorem dX7_isNoForm_2 : decode cX7_isNoForm 2 = .ok (.iconst 2, 1) := by decide +kernel
theorem dX7_isNoForm_3 : decode cX7_isNoForm 3 = .ok (.invokestatic 64, 3) := by decide +kernel
theorem dX7_isNoForm_6 : decode cX7_isNoForm 6 = .ok (.ireturn, 1) := by decide +kernel
theorem dX7_swap_0 : decode cX7_swap 0 = .ok (.aload_n 0, 1) := by decide +kernel
theorem dX7_swap_1 : decode cX7_swap 1 = .ok (.iload_n 1, 1) := by decide +kernel
theorem dX7_swap_2 : decode cX7_swap 2 = .ok (.iaload, 1) := by decide +kernel
theorem dX7_swap_3 : decode cX7_swap 3 = .ok (.istore_n 3, 1) := by decide +kernel
theorem dX7_swap_4 : decode cX7_swap 4 = .ok (.aload_n 0, 1) := by decide +kernel
theorem dX7_swap_5 : decode cX7_swap 5 = .ok (.iload_n 1, 1) := by decide +kernel
theorem dX7_swap_6 : decode cX7_swap 6 = .ok (.iload_n 2, 1) := by decide +kernel
theorem dX7_swap_7 : decode cX7_swap 7 = .ok (.iastore, 1) := by decide +kernel
theorem dX7_swap_8 : decode cX7_swap 8 = .ok (.iload_n 3, 1) := by decide +kernel
theorem dX7_swap_9 : decode cX7_swap 9 = .ok (.ireturn, 1) := by decide +kernel
theorem dX8_init_0 : decode cX8_init 0 = .ok (.aload_n 0, 1) := by decide +kernel
theorem dX8_init_1 : decode cX8_init 1 = .ok (.invokespecial 1, 3) := by decide +kernel
theorem dX8_init_4 : decode cX8_init 4 = .ok (.aload_n 0, 1) := by decide +kernel
theorem dX8_init_5 : decode cX8_init 5 = .ok (.iconst 4, 1) := by decide +kernel
theorem dX8_init_6 : decode cX8_init 6 = .ok (.newarray .int, 2) := by decide +kernel
theorem dX8_init_8 : decode cX8_init 8 = .ok (.putfield 7, 3) := by decide +kernel
theorem dX8_init_11 : decode cX8_init 11 = .ok (.aload_n 0, 1) := by decide +kernel
theorem dX8_init_12 : decode cX8_init 12 = .ok (.iconst 4, 1) := by decide +kernel
theorem dX8_init_13 : decode cX8_init 13 = .ok (.newarray .int, 2) := by decide +kernel
theorem dX8_init_15 : decode cX8_init 15 = .ok (.putfield 13, 3) := by decide +kernel
theorem dX8_init_18 : decode cX8_init 18 = .ok (.aload_n 0, 1) := by decide +kernel
theorem dX8_init_19 : decode cX8_init 19 = .ok (.sipush 240, 3) := by decide +kernel
theorem dX8_init_22 : decode cX8_init 22 = .ok (.newarray .int, 2) := by decide +kernel
theorem dX8_init_24 : decode cX8_init 24 = .ok (.putfield 16, 3) := by decide +kernel
theorem dX8_init_27 : decode cX8_init 27 = .ok (.aload_n 0, 1) := by decide +kernel
theorem dX8_init_28 : decode cX8_init 28 = .ok (.bipush 60, 2) := by decide +kernel
theorem dX8_init_30 : decode cX8_init 30 = .ok (.newarray .int, 2) := by decide +kernel
theorem dX8_init_32 : decode cX8_init 32 = .ok (.putfield 19, 3) := by decide +kernel
theorem dX8_init_35 : decode cX8_init 35 = .ok (.aload_n 0, 1) := by decide +kernel
theorem dX8_init_36 : decode cX8_init 36 = .ok (.bipush 40, 2) := by decide +kernel
theorem dX8_init_38 : decode cX8_init 38 = .ok (.newarray .int, 2) := by decide +kernel
theorem dX8_init_40 : decode cX8_init 40 = .ok (.putfield 22, 3) := by decide +kernel
theorem dX8_init_43 : decode cX8_init 43 = .ok (.aload_n 0, 1) := by decide +kernel
theorem dX8_init_44 : decode cX8_init 44 = .ok (.bipush 20, 2) := by decide +kernel
theorem dX8_init_46 : decode cX8_init 46 = .ok (.newarray .int, 2) := by decide +kernel
theorem dX8_init_48 : decode cX8_init 48 = .ok (.putfield 25, 3) := by decide +kernel
theorem dX8_init_51 : decode cX8_init 51 = .ok (.aload_n 0, 1) := by decide +kernel
theorem dX8_init_52 : decode cX8_init 52 = .ok (.iconst 4, 1) := by decide +kernel
theorem dX8_init_53 : decode cX8_init 53 = .ok (.newarray .int, 2) := by decide +kernel
theorem dX8_init_55 : decode cX8_init 55 = .ok (.putfield 28, 3) := by decide +kernel
theorem dX8_init_58 : decode cX8_init 58 = .ok (.aload_n 0, 1) := by decide +kernel
theorem dX8_init_59 : decode cX8_init 59 = .ok (.bipush 7, 2) := by decide +kernel
theorem dX8_init_61 : decode cX8_init 61 = .ok (.newarray .int, 2) := by decide +kernel
theorem dX8_init_63 : decode cX8_init 63 = .ok (.putfield 31, 3) := by decide +kernel
theorem dX8_init_66 : decode cX8_init 66 = .ok (.aload_n 0, 1) := by decide +kernel
theorem dX8_init_67 : decode cX8_init 67 = .ok (.iconst 3, 1) := by decide +kernel
theorem dX8_init_68 : decode cX8_init 68 = .ok (.newarray .int, 2) := by decide +kernel
theorem dX8_init_70 : decode cX8_init 70 = .ok (.putfield 34, 3) := by decide +kernel
theorem dX8_init_73 : decode cX8_init 73 = .ok (.aload_n 0, 1) := by decide +kernel
theorem dX8_init_74 : decode cX8_init 74 = .ok (.iconst 3, 1) := by decide +kernel
theorem dX8_init_75 : decode cX8_init 75 = .ok (.newarray .int, 2) := by decide +kernel
theorem dX8_init_77 : decode cX8_init 77 = .ok (.putfield 37, 3) := by decide +kernel
theorem dX8_init_80 : decode cX8_init 80 = .ok (.aload_n 0, 1) := by decide +kernel
theorem dX8_init_81 : decode cX8_init 81 = .ok (.bipush 8, 2) := by decide +kernel
theorem dX8_init_83 : decode cX8_init 83 = .ok (.newarray .int, 2) := by decide +kernel
theorem dX8_init_85 : decode cX8_init 85 = .ok (.putfield 40, 3) := by decide +kernel
theorem dX8_init_88 : decode cX8_init 88 = .ok (.aload_n 0, 1) := by decide +kernel
theorem dX8_init_89 : decode cX8_init 89 = .ok (.bipush 8, 2) := by decide +kernel
theorem dX8_init_91 : decode cX8_init 91 = .ok (.newarray .int, 2) := by decide +kernel
theorem dX8_init_93 : decode cX8_init 93 = .ok (.putfield 43, 3) := by decide +kernel
theorem dX8_init_96 : decode cX8_init 96 = .ok (.iconst 0, 1) := by decide +kernel
theorem dX8_init_97 : decode cX8_init 97 = .ok (.istore_n 1, 1) := by decide +kernel
theorem dX8_init_98 : decode cX8_init 98 = .ok (.iload_n 1, 1) := by decide +kernel
theorem dX8_init_99 : decode cX8_init 99 = .ok (.iconst 4, 1) := by decide +kernel
theorem dX8_init_100 : decode cX8_init 100 = .ok (.if_icmp .ge 23, 3) := by decide +kernel
theorem dX8_init_103 : decode cX8_init 103 = .ok (.aload_n 0, 1) := by decide +kernel
theorem dX8_init_104 : decode cX8_init 104 = .ok (.getfield 7, 3) := by decide +kernel
theorem dX8_init_107 : decode cX8_init 107 = .ok (.iload_n 1, 1) := by decide +kernel
theorem dX8_init_108 : decode cX8_init 108 = .ok (.iconst (-1), 1) := by decide +kernel
theorem dX8_init_109 : decode cX8_init 109 = .ok (.iastore, 1) := by decide +kernel
theorem dX8_init_110 : decode cX8_init 110 = .ok (.aload_n 0, 1) := by decide +kernel
theorem dX8_init_111 : decode cX8_init 111 = .ok (.getfield 28, 3) := by decide +kernel
theorem dX8_init_114 : decode cX8_init 114 = .ok (.iload_n 1, 1) := by decide +kernel
theorem dX8_init_115 : decode cX8_init 115 = .ok (.iload_n 1, 1) := by decide +kernel
theorem dX8_init_116 : decode cX8_init 116 = .ok (.iastore, 1) := by decide +kernel
theorem dX8_init_117 : decode cX8_init 117 = .ok (.iinc 1 1, 3) := by decide +kernel
theorem dX8_init_120 : decode cX8_init 120 = .ok (.goto (-22), 3) := by decide +kernel
theorem dX8_init_123 : decode cX8_init 123 = .ok (.iconst 0, 1) := by decide +kernel
theorem dX8_init_124 : decode cX8_init 124 = .ok (.istore_n 1, 1) := by decide +kernel
theorem dX8_init_125 : decode cX8_init 125 = .ok (.iload_n 1, 1) := by decide +kernel
theorem dX8_init_126 : decode cX8_init 126 = .ok (.iconst 3, 1) := by decide +kernel
theorem dX8_init_127 : decode cX8_init 127 = .ok (.if_icmp .ge 17, 3) := by decide +kernel
theorem dX8_init_130 : decode cX8_init 130 = .ok (.aload_n 0, 1) := by decide +kernel
theorem dX8_init_131 : decode cX8_init 131 = .ok (.getfield 34, 3) := by decide +kernel
theorem dX8_init_134 : decode cX8_init 134 = .ok (.iload_n 1, 1) := by decide +kernel
theorem dX8_init_135 : decode cX8_init 135 = .ok (.bipush 8, 2) := by decide +kernel
theorem dX8_init_137 : decode cX8_init 137 = .ok (.iastore, 1) := by decide +kernel
theorem dX8_init_138 : decode cX8_init 138 = .ok (.iinc 1 1, 3) := by decide +kernel
theorem dX8_init_141 : decode cX8_init 141 = .ok (.goto (-16), 3) := by decide +kernel
theorem dX8_init_144 : decode cX8_init 144 = .ok (.aload_n 0, 1) := by decide +kernel
theorem dX8_init_145 : decode cX8_init 145 = .ok (.getfield 31, 3) := by decide +kernel
theorem dX8_init_148 : decode cX8_init 148 = .ok (.iconst 0, 1) := by decide +kernel
theorem dX8_init_149 : decode cX8_init 149 = .ok (.bipush 20, 2) := by decide +kernel
theorem dX8_init_151 : decode cX8_init 151 = .ok (.iastore, 1) := by decide +kernel
theorem dX8_init_152 : decode cX8_init 152 = .ok (.aload_n 0, 1) := by decide +kernel
theorem dX8_init_153 : decode cX8_init 153 = .ok (.getfield 31, 3) := by decide +kernel
theorem dX8_init_156 : decode cX8_init 156 = .ok (.iconst 1, 1) := by decide +kernel
theorem dX8_init_157 : decode cX8_init 157 = .ok (.iconst 1, 1) := by decide +kernel
theorem dX8_init_158 : decode cX8_init 158 = .ok (.iastore, 1) := by decide +kernel
theorem dX8_init_159 : decode cX8_init 159 = .ok (.aload_n 0, 1) := by decide +kernel
theorem dX8_init_160 : decode cX8_init 160 = .ok (.getfield 31, 3) := by decide +kernel
theorem dX8_init_163 : decode cX8_init 163 = .ok (.iconst 2, 1) := by decide +kernel
theorem dX8_init_164 : decode cX8_init 164 = .ok (.bipush 20, 2) := by decide +kernel
theorem dX8_init_166 : decode cX8_init 166 = .ok (.iastore, 1) := by decide +kernel
theorem dX8_init_167 : decode cX8_init 167 = .ok (.aload_n 0, 1) := by decide +kernel
theorem dX8_init_168 : decode cX8_init 168 = .ok (.getfield 31, 3) := by decide +kernel
theorem dX8_init_171 : decode cX8_init 171 = .ok (.iconst 5, 1) := by decide +kernel
theorem dX8_init_172 : decode cX8_init 172 = .ok (.bipush 30, 2) := by decide +kernel
theorem dX8_init_174 : decode cX8_init 174 = .ok (.iastore, 1) := by decide +kernel
theorem dX8_init_175 : decode cX8_init 175 = .ok (.aload_n 0, 1) := by decide +kernel
theorem dX8_init_176 : decode cX8_init 176 = .ok (.getfield 31, 3) := by decide +kernel
theorem dX8_init_179 : decode cX8_init 179 = .ok (.bipush 6, 2) := by decide +kernel
theorem dX8_init_181 : decode cX8_init 181 = .ok (.iconst 5, 1) := by decide +kernel
theorem dX8_init_182 : decode cX8_init 182 = .ok (.iastore, 1) := by decide +kernel
theorem dX8_init_183 : decode cX8_init 183 = .ok (.return_, 1) := by decide +kernel
theorem dX8_in_0 : decode cX8_in 0 = .ok (.lload_n 0, 1) := by decide +kernel
theorem dX8_in_1 : decode cX8_in 1 = .ok (.lload_n 2, 1) := by decide +kernel
theorem dX8_in_2 : decode cX8_in 2 = .ok (.lcmp, 1) := by decide +kernel
theorem dX8_in_3 : decode cX8_in 3 = .ok (.ifCond .lt 14, 3) := by decide +kernel
theorem dX8_in_6 : decode cX8_in 6 = .ok (.lload_n 0, 1) := by decide +kernel
theorem dX8_in_7 : decode cX8_in 7 = .ok (.lload 4, 2) := by decide +kernel
theorem dX8_in_9 : decode cX8_in 9 = .ok (.lcmp, 1) := by decide +kernel
theorem dX8_in_10 : decode cX8_in 10 = .ok (.ifCond .gt 7, 3) := by decide +kernel
theorem dX8_in_13 : decode cX8_in 13 = .ok (.iconst 1, 1) := by decide +kernel
theorem dX8_in_14 : decode cX8_in 14 = .ok (.goto 4, 3) := by decide +kernel
theorem dX8_in_17 : decode cX8_in 17 = .ok (.iconst 0, 1) := by decide +kernel
theorem dX8_in_18 : decode cX8_in 18 = .ok (.ireturn, 1) := by decide +kernel
theorem dX8_no_0 : decode cX8_no 0 = .ok (.ldc2_w 46, 3) := by decide +kernel
theorem dX8_no_3 : decode cX8_no 3 = .ok (.iload_n 0, 1) := by decide +kernel
theorem dX8_no_4 : decode cX8_no 4 = .ok (.i2l, 1) := by decide +kernel
theorem dX8_no_5 : decode cX8_no 5 = .ok (.lsub, 1) := by decide +kernel
theorem dX8_no_6 : decode cX8_no 6 = .ok (.lreturn, 1) := by decide +kernel
theorem dX8_isTwo_0 : decode cX8_isTwo 0 = .ok (.iload_n 0, 1) := by decide +kernel
theorem dX8_isTwo_1 : decode cX8_isTwo 1 = .ok (.i2l, 1) := by decide +kernel
theorem dX8_isTwo_2 : decode cX8_isTwo 2 = .ok (.lconst 0, 1) := by decide +kernel
theorem dX8_isTwo_3 : decode cX8_isTwo 3 = .ok (.lconst 1, 1) := by decide +kernel
theorem dX8_isTwo_4 : decode cX8_isTwo 4 = .ok (.invokestatic 48, 3) := by decide +kernel
theorem dX8_isTwo_7 : decode cX8_isTwo 7 = .ok (.ireturn, 1) := by decide +kernel
theorem dX8_lesser_0 : decode cX8_lesser 0 = .ok (.iload_n 0, 1) := by decide +kernel
theorem dX8_lesser_1 : decode cX8_lesser 1 = .ok (.iload_n 1, 1) := by decide +kernel
theorem dX8_lesser_2 : decode cX8_lesser 2 = .ok (.if_icmp .ge 7, 3) := by decide +kernel
theorem dX8_lesser_5 : decode cX8_lesser 5 = .ok (.iload_n 0, 1) := by decide +kernel
theorem dX8_lesser_6 : decode cX8_lesser 6 = .ok (.goto 4, 3) := by decide +kernel
theorem dX8_lesser_9 : decode cX8_lesser 9 = .ok (.iload_n 1, 1) := by decide +kernel
theorem dX8_lesser_10 : decode cX8_lesser 10 = .ok (.ireturn, 1) := by decide +kernel
theorem dX8_met_0 : decode cX8_met 0 = .ok (.aload_n 0, 1) := by decide +kernel
theorem dX8_met_1 : decode cX8_met 1 = .ok (.iload_n 1, 1) := by decide +kernel
theorem dX8_met_2 : decode cX8_met 2 = .ok (.putfield 52, 3) := by decide +kernel
theorem dX8_met_5 : decode cX8_met 5 = .ok (.bipush (-10), 2) := by decide +kernel
theorem dX8_met_7 : decode cX8_met 7 = .ok (.iload_n 1, 1) := by decide +kernel
theorem dX8_met_8 : decode cX8_met 8 = .ok (.isub, 1) := by decide +kernel
theorem dX8_met_9 : decode cX8_met 9 = .ok (.ireturn, 1) := by decide +kernel
theorem dX8_isSheet_0 : decode cX8_isSheet 0 = .ok (.iload_n 0, 1) := by decide +kernel
theorem dX8_isSheet_1 : decode cX8_isSheet 1 = .ok (.i2l, 1) := by decide +kernel
theorem dX8_isSheet_2 : decode cX8_isSheet 2 = .ok (.lconst 0, 1) := by decide +kernel
theorem dX8_isSheet_3 : decode cX8_isSheet 3 = .ok (.ldc2_w 56, 3) := by decide +kernel
theorem dX8_isSheet_6 : decode cX8_isSheet 6 = .ok (.invokestatic 48, 3) := by decide +kernel
theorem dX8_isSheet_9 : decode cX8_isSheet 9 = .ok (.ireturn, 1) := by decide +kernel
theorem dX8_sheet_0 : decode cX8_sheet 0 = .ok (.iload_n 1, 1) := by decide +kernel
theorem dX8_sheet_1 : decode cX8_sheet 1 = .ok (.invokestatic 58, 3) := by decide +kernel
theorem dX8_sheet_4 : decode cX8_sheet 4 = .ok (.ifCond .eq 21, 3) := by decide +kernel
theorem dX8_sheet_7 : decode cX8_sheet 7 = .ok (.iload_n 2, 1) := by decide +kernel
theorem dX8_sheet_8 : decode cX8_sheet 8 = .ok (.i2l, 1) := by decide +kernel
theorem dX8_sheet_9 : decode cX8_sheet 9 = .ok (.lconst 0, 1) := by decide +kernel
theorem dX8_sheet_10 : decode cX8_sheet 10 = .ok (.ldc2_w 62, 3) := by decide +kernel
theorem dX8_sheet_13 : decode cX8_sheet 13 = .ok (.invokestatic 48, 3) := by decide +kernel
theorem dX8_sheet_16 : decode cX8_sheet 16 = .ok (.ifCond .eq 9, 3) := by decide +kernel
theorem dX8_sheet_19 : decode cX8_sheet 19 = .ok (.iload_n 3, 1) := by decide +kernel
theorem dX8_sheet_20 : decode cX8_sheet 20 = .ok (.bipush 60, 2) := by decide +kernel
theorem dX8_sheet_22 : decode cX8_sheet 22 = .ok (.if_icmp .le 6, 3) := by decide +kernel
theorem dX8_sheet_25 : decode cX8_sheet 25 = .ok (.bipush (-2), 2) := by decide +kernel
theorem dX8_sheet_27 : decode cX8_sheet 27 = .ok (.ireturn, 1) := by decide +kernel
theorem dX8_sheet_28 : decode cX8_sheet 28 = .ok (.iload_n 3, 1) := by decide +kernel
theorem dX8_sheet_29 : decode cX8_sheet 29 = .ok (.ifCond .ge 9, 3) := by decide +kernel
theorem dX8_sheet_32 : decode cX8_sheet 32 = .ok (.aload_n 0, 1) := by decide +kernel
theorem dX8_sheet_33 : decode cX8_sheet 33 = .ok (.iconst 5, 1) := by decide +kernel
theorem dX8_sheet_34 : decode cX8_sheet 34 = .ok (.invokevirtual 64, 3) := by decide +kernel
theorem dX8_sheet_37 : decode cX8_sheet 37 = .ok (.ireturn, 1) := by decide +kernel
theorem dX8_sheet_38 : decode cX8_sheet 38 = .ok (.aload_n 0, 1) := by decide +kernel
theorem dX8_sheet_39 : decode cX8_sheet 39 = .ok (.getfield 7, 3) := by decide +kernel
theorem dX8_sheet_42 : decode cX8_sheet 42 = .ok (.iload_n 1, 1) := by decide +kernel
theorem dX8_sheet_43 : decode cX8_sheet 43 = .ok (.iload_n 2, 1) := by decide +kernel
theorem dX8_sheet_44 : decode cX8_sheet 44 = .ok (.iastore, 1) := by decide +kernel
theorem dX8_sheet_45 : decode cX8_sheet 45 = .ok (.aload_n 0, 1) := by decide +kernel
theorem dX8_sheet_46 : decode cX8_sheet 46 = .ok (.getfield 13, 3) := by decide +kernel
theorem dX8_sheet_49 : decode cX8_sheet 49 = .ok (.iload_n 1, 1) := by decide +kernel
theorem dX8_sheet_50 : decode cX8_sheet 50 = .ok (.iload_n 3, 1) := by decide +kernel
theorem dX8_sheet_51 : decode cX8_sheet 51 = .ok (.iastore, 1) := by decide +kernel
theorem dX8_sheet_52 : decode cX8_sheet 52 = .ok (.iconst 0, 1) := by decide +kernel
theorem dX8_sheet_53 : decode cX8_sheet 53 = .ok (.istore 4, 2) := by decide +kernel
theorem dX8_sheet_55 : decode cX8_sheet 55 = .ok (.iload 4, 2) := by decide +kernel
theorem dX8_sheet_57 : decode cX8_sheet 57 = .ok (.iload_n 3, 1) := by decide +kernel
theorem dX8_sheet_58 : decode cX8_sheet 58 = .ok (.if_icmp .ge 22, 3) := by decide +kernel
theorem dX8_sheet_61 : decode cX8_sheet 61 = .ok (.aload_n 0, 1) := by decide +kernel
theorem dX8_sheet_62 : decode cX8_sheet 62 = .ok (.getfield 16, 3) := by decide +kernel
theorem dX8_sheet_65 : decode cX8_sheet 65 = .ok (.bipush 60, 2) := by decide +kernel
theorem dX8_sheet_67 : decode cX8_sheet 67 = .ok (.iload_n 1, 1) := by decide +kernel
theorem dX8_sheet_68 : decode cX8_sheet 68 = .ok (.imul, 1) := by decide +kernel
theorem dX8_sheet_69 : decode cX8_sheet 69 = .ok (.iload 4, 2) := by decide +kernel
theorem dX8_sheet_71 : decode cX8_sheet 71 = .ok (.iadd, 1) := by decide +kernel
theorem dX8_sheet_72 : decode cX8_sheet 72 = .ok (.iconst 0, 1) := by decide +kernel
theorem dX8_sheet_73 : decode cX8_sheet 73 = .ok (.iastore, 1) := by decide +kernel
theorem dX8_sheet_74 : decode cX8_sheet 74 = .ok (.iinc 4 1, 3) := by decide +kernel
theorem dX8_sheet_77 : decode cX8_sheet 77 = .ok (.goto (-22), 3) := by decide +kernel
theorem dX8_sheet_80 : decode cX8_sheet 80 = .ok (.iload_n 3, 1) := by decide +kernel
theorem dX8_sheet_81 : decode cX8_sheet 81 = .ok (.ireturn, 1) := by decide +kernel
theorem dX8_lose_0 : decode cX8_lose 0 = .ok (.iload_n 1, 1) := by decide +kernel
theorem dX8_lose_1 : decode cX8_lose 1 = .ok (.invokestatic 58, 3) := by decide +kernel
theorem dX8_lose_4 : decode cX8_lose 4 = .ok (.ifCond .ne 6, 3) := by decide +kernel
theorem dX8_lose_7 : decode cX8_lose 7 = .ok (.bipush (-2), 2) := by decide +kernel
theorem dX8_lose_9 : decode cX8_lose 9 = .ok (.ireturn, 1) := by decide +kernel
theorem dX8_lose_10 : decode cX8_lose 10 = .ok (.aload_n 0, 1) := by decide +kernel
theorem dX8_lose_11 : decode cX8_lose 11 = .ok (.getfield 7, 3) := by decide +kernel
theorem dX8_lose_14 : decode cX8_lose 14 = .ok (.iload_n 1, 1) := by decide +kernel
theorem dX8_lose_15 : decode cX8_lose 15 = .ok (.iaload, 1) := by decide +kernel
theorem dX8_lose_16 : decode cX8_lose 16 = .ok (.ifCond .ge 9, 3) := by decide +kernel
theorem dX8_lose_19 : decode cX8_lose 19 = .ok (.aload_n 0, 1) := by decide +kernel
theorem dX8_lose_20 : decode cX8_lose 20 = .ok (.iconst 1, 1) := by decide +kernel
theorem dX8_lose_21 : decode cX8_lose 21 = .ok (.invokevirtual 64, 3) := by decide +kernel
theorem dX8_lose_24 : decode cX8_lose 24 = .ok (.ireturn, 1) := by decide +kernel
theorem dX8_lose_25 : decode cX8_lose 25 = .ok (.aload_n 0, 1) := by decide +kernel
theorem dX8_lose_26 : decode cX8_lose 26 = .ok (.getfield 7, 3) := by decide +kernel
theorem dX8_lose_29 : decode cX8_lose 29 = .ok (.iload_n 1, 1) := by decide +kernel
theorem dX8_lose_30 : decode cX8_lose 30 = .ok (.iconst (-1), 1) := by decide +kernel
theorem dX8_lose_31 : decode cX8_lose 31 = .ok (.iastore, 1) := by decide +kernel
theorem dX8_lose_32 : decode cX8_lose 32 = .ok (.aload_n 0, 1) := by decide +kernel
theorem dX8_lose_33 : decode cX8_lose 33 = .ok (.getfield 13, 3) := by decide +kernel
theorem dX8_lose_36 : decode cX8_lose 36 = .ok (.iload_n 1, 1) := by decide +kernel
theorem dX8_lose_37 : decode cX8_lose 37 = .ok (.iaload, 1) := by decide +kernel
theorem dX8_lose_38 : decode cX8_lose 38 = .ok (.ireturn, 1) := by decide +kernel
theorem dX8_lacks_0 : decode cX8_lacks 0 = .ok (.aload_n 0, 1) := by decide +kernel
theorem dX8_lacks_1 : decode cX8_lacks 1 = .ok (.getfield 7, 3) := by decide +kernel
theorem dX8_lacks_4 : decode cX8_lacks 4 = .ok (.iload_n 1, 1) := by decide +kernel
theorem dX8_lacks_5 : decode cX8_lacks 5 = .ok (.iaload, 1) := by decide +kernel
theorem dX8_lacks_6 : decode cX8_lacks 6 = .ok (.ifCond .ge 9, 3) := by decide +kernel
theorem dX8_lacks_9 : decode cX8_lacks 9 = .ok (.aload_n 0, 1) := by decide +kernel
theorem dX8_lacks_10 : decode cX8_lacks 10 = .ok (.iconst 1, 1) := by decide +kernel
theorem dX8_lacks_11 : decode cX8_lacks 11 = .ok (.invokevirtual 64, 3) := by decide +kernel
theorem dX8_lacks_14 : decode cX8_lacks 14 = .ok (.ireturn, 1) := by decide +kernel
theorem dX8_lacks_15 : decode cX8_lacks 15 = .ok (.aload_n 0, 1) := by decide +kernel
theorem dX8_lacks_16 : decode cX8_lacks 16 = .ok (.getfield 7, 3) := by decide +kernel
theorem dX8_lacks_19 : decode cX8_lacks 19 = .ok (.iload_n 1, 1) := by decide +kernel
theorem dX8_lacks_20 : decode cX8_lacks 20 = .ok (.iaload, 1) := by decide +kernel
theorem dX8_lacks_21 : decode cX8_lacks 21 = .ok (.iload_n 2, 1) := by decide +kernel
theorem dX8_lacks_22 : decode cX8_lacks 22 = .ok (.if_icmp .eq 9, 3) := by decide +kernel
theorem dX8_lacks_25 : decode cX8_lacks 25 = .ok (.aload_n 0, 1) := by decide +kernel
theorem dX8_lacks_26 : decode cX8_lacks 26 = .ok (.iconst 3, 1) := by decide +kernel
theorem dX8_lacks_27 : decode cX8_lacks 27 = .ok (.invokevirtual 64, 3) := by decide +kernel
theorem dX8_lacks_30 : decode cX8_lacks 30 = .ok (.ireturn, 1) := by decide +kernel
theorem dX8_lacks_31 : decode cX8_lacks 31 = .ok (.iload_n 3, 1) := by decide +kernel
theorem dX8_lacks_32 : decode cX8_lacks 32 = .ok (.i2l, 1) := by decide +kernel
theorem dX8_lacks_33 : decode cX8_lacks 33 = .ok (.lconst 0, 1) := by decide +kernel
theorem dX8_lacks_34 : decode cX8_lacks 34 = .ok (.aload_n 0, 1) := by decide +kernel
theorem dX8_lacks_35 : decode cX8_lacks 35 = .ok (.getfield 13, 3) := by decide +kernel
theorem dX8_lacks_38 : decode cX8_lacks 38 = .ok (.iload_n 1, 1) := by decide +kernel
theorem dX8_lacks_39 : decode cX8_lacks 39 = .ok (.iaload, 1) := by decide +kernel
theorem dX8_lacks_40 : decode cX8_lacks 40 = .ok (.iconst 1, 1) := by decide +kernel
theorem dX8_lacks_41 : decode cX8_lacks 41 = .ok (.isub, 1) := by decide +kernel
theorem dX8_lacks_42 : decode cX8_lacks 42 = .ok (.i2l, 1) := by decide +kernel
theorem dX8_lacks_43 : decode cX8_lacks 43 = .ok (.invokestatic 48, 3) := by decide +kernel
theorem dX8_lacks_46 : decode cX8_lacks 46 = .ok (.ifCond .eq 7, 3) := by decide +kernel
theorem dX8_lacks_49 : decode cX8_lacks 49 = .ok (.iconst 0, 1) := by decide +kernel
theorem dX8_lacks_50 : decode cX8_lacks 50 = .ok (.goto 8, 3) := by decide +kernel
theorem dX8_lacks_53 : decode cX8_lacks 53 = .ok (.aload_n 0, 1) := by decide +kernel
theorem dX8_lacks_54 : decode cX8_lacks 54 = .ok (.iconst 2, 1) := by decide +kernel
theorem dX8_lacks_55 : decode cX8_lacks 55 = .ok (.invokevirtual 64, 3) := by decide +kernel
theorem dX8_lacks_58 : decode cX8_lacks 58 = .ok (.ireturn, 1) := by decide +kernel
theorem dX8_cut_0 : decode cX8_cut 0 = .ok (.iload_n 0, 1) := by decide +kernel
theorem dX8_cut_1 : decode cX8_cut 1 = .ok (.ifCond .ne 8, 3) := by decide +kernel
theorem dX8_cut_4 : decode cX8_cut 4 = .ok (.iload_n 1, 1) := by decide +kernel
theorem dX8_cut_5 : decode cX8_cut 5 = .ok (.i2b, 1) := by decide +kernel
theorem dX8_cut_6 : decode cX8_cut 6 = .ok (.goto 14, 3) := by decide +kernel
theorem dX8_cut_9 : decode cX8_cut 9 = .ok (.iload_n 0, 1) := by decide +kernel
theorem dX8_cut_10 : decode cX8_cut 10 = .ok (.iconst 1, 1) := by decide +kernel
theorem dX8_cut_11 : decode cX8_cut 11 = .ok (.if_icmp .ne 8, 3) := by decide +kernel
theorem dX8_cut_14 : decode cX8_cut 14 = .ok (.iload_n 1, 1) := by decide +kernel
theorem dX8_cut_15 : decode cX8_cut 15 = .ok (.i2s, 1) := by decide +kernel
theorem dX8_cut_16 : decode cX8_cut 16 = .ok (.goto 4, 3) := by decide +kernel
theorem dX8_cut_19 : decode cX8_cut 19 = .ok (.iload_n 1, 1) := by decide +kernel
theorem dX8_cut_20 : decode cX8_cut 20 = .ok (.ireturn, 1) := by decide +kernel
theorem dX8_lay_0 : decode cX8_lay 0 = .ok (.iload_n 1, 1) := by decide +kernel
theorem dX8_lay_1 : decode cX8_lay 1 = .ok (.invokestatic 58, 3) := by decide +kernel
theorem dX8_lay_4 : decode cX8_lay 4 = .ok (.ifCond .eq 15, 3) := by decide +kernel
theorem dX8_lay_7 : decode cX8_lay 7 = .ok (.iload_n 2, 1) := by decide +kernel
theorem dX8_lay_8 : decode cX8_lay 8 = .ok (.i2l, 1) := by decide +kernel
theorem dX8_lay_9 : decode cX8_lay 9 = .ok (.lconst 0, 1) := by decide +kernel
theorem dX8_lay_10 : decode cX8_lay 10 = .ok (.ldc2_w 62, 3) := by decide +kernel
theorem dX8_lay_13 : decode cX8_lay 13 = .ok (.invokestatic 48, 3) := by decide +kernel
theorem dX8_lay_16 : decode cX8_lay 16 = .ok (.ifCond .ne 6, 3) := by decide +kernel
theorem dX8_lay_19 : decode cX8_lay 19 = .ok (.bipush (-2), 2) := by decide +kernel
theorem dX8_lay_21 : decode cX8_lay 21 = .ok (.ireturn, 1) := by decide +kernel
theorem dX8_lay_22 : decode cX8_lay 22 = .ok (.aload_n 0, 1) := by decide +kernel
theorem dX8_lay_23 : decode cX8_lay 23 = .ok (.iload_n 1, 1) := by decide +kernel
theorem dX8_lay_24 : decode cX8_lay 24 = .ok (.iload_n 2, 1) := by decide +kernel
theorem dX8_lay_25 : decode cX8_lay 25 = .ok (.iload_n 3, 1) := by decide +kernel
theorem dX8_lay_26 : decode cX8_lay 26 = .ok (.invokevirtual 68, 3) := by decide +kernel
theorem dX8_lay_29 : decode cX8_lay 29 = .ok (.istore 5, 2) := by decide +kernel
theorem dX8_lay_31 : decode cX8_lay 31 = .ok (.iload 5, 2) := by decide +kernel
theorem dX8_lay_33 : decode cX8_lay 33 = .ok (.ifCond .eq 6, 3) := by decide +kernel
theorem dX8_lay_36 : decode cX8_lay 36 = .ok (.iload 5, 2) := by decide +kernel
theorem dX8_lay_38 : decode cX8_lay 38 = .ok (.ireturn, 1) := by decide +kernel
theorem dX8_lay_39 : decode cX8_lay 39 = .ok (.aload_n 0, 1) := by decide +kernel
theorem dX8_lay_40 : decode cX8_lay 40 = .ok (.getfield 16, 3) := by decide +kernel
theorem dX8_lay_43 : decode cX8_lay 43 = .ok (.bipush 60, 2) := by decide +kernel
theorem dX8_lay_45 : decode cX8_lay 45 = .ok (.iload_n 1, 1) := by decide +kernel
theorem dX8_lay_46 : decode cX8_lay 46 = .ok (.imul, 1) := by decide +kernel
theorem dX8_lay_47 : decode cX8_lay 47 = .ok (.iload_n 3, 1) := by decide +kernel
theorem dX8_lay_48 : decode cX8_lay 48 = .ok (.iadd, 1) := by decide +kernel
theorem dX8_lay_49 : decode cX8_lay 49 = .ok (.iload_n 2, 1) := by decide +kernel
theorem dX8_lay_50 : decode cX8_lay 50 = .ok (.iload 4, 2) := by decide +kernel
theorem dX8_lay_52 : decode cX8_lay 52 = .ok (.invokestatic 72, 3) := by decide +kernel
theorem dX8_lay_55 : decode cX8_lay 55 = .ok (.iastore, 1) := by decide +kernel
theorem dX8_lay_56 : decode cX8_lay 56 = .ok (.iconst 1, 1) := by decide +kernel
theorem dX8_lay_57 : decode cX8_lay 57 = .ok (.ireturn, 1) := by decide +kernel
theorem dX8_get_0 : decode cX8_get 0 = .ok (.iload_n 1, 1) := by decide +kernel
theorem dX8_get_1 : decode cX8_get 1 = .ok (.invokestatic 58, 3) := by decide +kernel
theorem dX8_get_4 : decode cX8_get 4 = .ok (.ifCond .eq 25, 3) := by decide +kernel
theorem dX8_get_7 : decode cX8_get 7 = .ok (.iload_n 2, 1) := by decide +kernel
theorem dX8_get_8 : decode cX8_get 8 = .ok (.i2l, 1) := by decide +kernel
theorem dX8_get_9 : decode cX8_get 9 = .ok (.lconst 0, 1) := by decide +kernel
theorem dX8_get_10 : decode cX8_get 10 = .ok (.ldc2_w 62, 3) := by decide +kernel
theorem dX8_get_13 : decode cX8_get 13 = .ok (.invokestatic 48, 3) := by decide +kernel
theorem dX8_get_16 : decode cX8_get 16 = .ok (.ifCond .eq 13, 3) := by decide +kernel
theorem dX8_get_19 : decode cX8_get 19 = .ok (.aload_n 0, 1) := by decide +kernel
theorem dX8_get_20 : decode cX8_get 20 = .ok (.iload_n 1, 1) := by decide +kernel
theorem dX8_get_21 : decode cX8_get 21 = .ok (.iload_n 2, 1) := by decide +kernel
theorem dX8_get_22 : decode cX8_get 22 = .ok (.iload_n 3, 1) := by decide +kernel
theorem dX8_get_23 : decode cX8_get 23 = .ok (.invokevirtual 68, 3) := by decide +kernel
theorem dX8_get_26 : decode cX8_get 26 = .ok (.ifCond .eq 6, 3) := by decide +kernel
theorem dX8_get_29 : decode cX8_get 29 = .ok (.ldc 76, 2) := by decide +kernel
theorem dX8_get_31 : decode cX8_get 31 = .ok (.ireturn, 1) := by decide +kernel
theorem dX8_get_32 : decode cX8_get 32 = .ok (.aload_n 0, 1) := by decide +kernel
theorem dX8_get_33 : decode cX8_get 33 = .ok (.getfield 16, 3) := by decide +kernel
theorem dX8_get_36 : decode cX8_get 36 = .ok (.bipush 60, 2) := by decide +kernel
theorem dX8_get_38 : decode cX8_get 38 = .ok (.iload_n 1, 1) := by decide +kernel
theorem dX8_get_39 : decode cX8_get 39 = .ok (.imul, 1) := by decide +kernel
theorem dX8_get_40 : decode cX8_get 40 = .ok (.iload_n 3, 1) := by decide +kernel
theorem dX8_get_41 : decode cX8_get 41 = .ok (.iadd, 1) := by decide +kernel
theorem dX8_get_42 : decode cX8_get 42 = .ok (.iaload, 1) := by decide +kernel
theorem dX8_get_43 : decode cX8_get 43 = .ok (.ireturn, 1) := by decide +kernel
theorem dX8_copy_0 : decode cX8_copy 0 = .ok (.iload_n 1, 1) := by decide +kernel
theorem dX8_copy_1 : decode cX8_copy 1 = .ok (.invokestatic 58, 3) := by decide +kernel
theorem dX8_copy_4 : decode cX8_copy 4 = .ok (.ifCond .eq 10, 3) := by decide +kernel
theorem dX8_copy_7 : decode cX8_copy 7 = .ok (.iload_n 3, 1) := by decide +kernel
theorem dX8_copy_8 : decode cX8_copy 8 = .ok (.invokestatic 58, 3) := by decide +kernel
theorem dX8_copy_11 : decode cX8_copy 11 = .ok (.ifCond .ne 6, 3) := by decide +kernel
theorem dX8_copy_14 : decode cX8_copy 14 = .ok (.bipush (-2), 2) := by decide +kernel
theorem dX8_copy_16 : decode cX8_copy 16 = .ok (.ireturn, 1) := by decide +kernel
theorem dX8_copy_17 : decode cX8_copy 17 = .ok (.aload_n 0, 1) := by decide +kernel
theorem dX8_copy_18 : decode cX8_copy 18 = .ok (.getfield 7, 3) := by decide +kernel
theorem dX8_copy_21 : decode cX8_copy 21 = .ok (.iload_n 1, 1) := by decide +kernel
theorem dX8_copy_22 : decode cX8_copy 22 = .ok (.iaload, 1) := by decide +kernel
theorem dX8_copy_23 : decode cX8_copy 23 = .ok (.ifCond .lt 12, 3) := by decide +kernel
theorem dX8_copy_26 : decode cX8_copy 26 = .ok (.aload_n 0, 1) := by decide +kernel
theorem dX8_copy_27 : decode cX8_copy 27 = .ok (.getfield 7, 3) := by decide +kernel
theorem dX8_copy_30 : decode cX8_copy 30 = .ok (.iload_n 3, 1) := by decide +kernel
theorem dX8_copy_31 : decode cX8_copy 31 = .ok (.iaload, 1) := by decide +kernel
theorem dX8_copy_32 : decode cX8_copy 32 = .ok (.ifCond .ge 9, 3) := by decide +kernel
theorem dX8_copy_35 : decode cX8_copy 35 = .ok (.aload_n 0, 1) := by decide +kernel
theorem dX8_copy_36 : decode cX8_copy 36 = .ok (.iconst 1, 1) := by decide +kernel
theorem dX8_copy_37 : decode cX8_copy 37 = .ok (.invokevirtual 64, 3) := by decide +kernel
theorem dX8_copy_40 : decode cX8_copy 40 = .ok (.ireturn, 1) := by decide +kernel
theorem dX8_copy_41 : decode cX8_copy 41 = .ok (.aload_n 0, 1) := by decide +kernel
theorem dX8_copy_42 : decode cX8_copy 42 = .ok (.getfield 7, 3) := by decide +kernel
theorem dX8_copy_45 : decode cX8_copy 45 = .ok (.iload_n 1, 1) := by decide +kernel
theorem dX8_copy_46 : decode cX8_copy 46 = .ok (.iaload, 1) := by decide +kernel
theorem dX8_copy_47 : decode cX8_copy 47 = .ok (.aload_n 0, 1) := by decide +kernel
theorem dX8_copy_48 : decode cX8_copy 48 = .ok (.getfield 7, 3) := by decide +kernel
theorem dX8_copy_51 : decode cX8_copy 51 = .ok (.iload_n 3, 1) := by decide +kernel
theorem dX8_copy_52 : decode cX8_copy 52 = .ok (.iaload, 1) := by decide +kernel
theorem dX8_copy_53 : decode cX8_copy 53 = .ok (.if_icmp .eq 9, 3) := by decide +kernel
theorem dX8_copy_56 : decode cX8_copy 56 = .ok (.aload_n 0, 1) := by decide +kernel
theorem dX8_copy_57 : decode cX8_copy 57 = .ok (.iconst 4, 1) := by decide +kernel
theorem dX8_copy_58 : decode cX8_copy 58 = .ok (.invokevirtual 64, 3) := by decide +kernel
theorem dX8_copy_61 : decode cX8_copy 61 = .ok (.ireturn, 1) := by decide +kernel
theorem dX8_copy_62 : decode cX8_copy 62 = .ok (.iload_n 2, 1) := by decide +kernel
theorem dX8_copy_63 : decode cX8_copy 63 = .ok (.ifCond .lt 48, 3) := by decide +kernel
theorem dX8_copy_66 : decode cX8_copy 66 = .ok (.iload 4, 2) := by decide +kernel
theorem dX8_copy_68 : decode cX8_copy 68 = .ok (.ifCond .lt 43, 3) := by decide +kernel
theorem dX8_copy_71 : decode cX8_copy 71 = .ok (.iload 5, 2) := by decide +kernel
theorem dX8_copy_73 : decode cX8_copy 73 = .ok (.ifCond .lt 38, 3) := by decide +kernel
theorem dX8_copy_76 : decode cX8_copy 76 = .ok (.iload_n 2, 1) := by decide +kernel
theorem dX8_copy_77 : decode cX8_copy 77 = .ok (.i2l, 1) := by decide +kernel
theorem dX8_copy_78 : decode cX8_copy 78 = .ok (.iload 5, 2) := by decide +kernel
theorem dX8_copy_80 : decode cX8_copy 80 = .ok (.i2l, 1) := by decide +kernel
theorem dX8_copy_81 : decode cX8_copy 81 = .ok (.ladd, 1) := by decide +kernel
theorem dX8_copy_82 : decode cX8_copy 82 = .ok (.aload_n 0, 1) := by decide +kernel
theorem dX8_copy_83 : decode cX8_copy 83 = .ok (.getfield 13, 3) := by decide +kernel
theorem dX8_copy_86 : decode cX8_copy 86 = .ok (.iload_n 1, 1) := by decide +kernel
theorem dX8_copy_87 : decode cX8_copy 87 = .ok (.iaload, 1) := by decide +kernel
theorem dX8_copy_88 : decode cX8_copy 88 = .ok (.i2l, 1) := by decide +kernel
theorem dX8_copy_89 : decode cX8_copy 89 = .ok (.lcmp, 1) := by decide +kernel
theorem dX8_copy_90 : decode cX8_copy 90 = .ok (.ifCond .gt 21, 3) := by decide +kernel
theorem dX8_copy_93 : decode cX8_copy 93 = .ok (.iload 4, 2) := by decide +kernel
theorem dX8_copy_95 : decode cX8_copy 95 = .ok (.i2l, 1) := by decide +kernel
theorem dX8_copy_96 : decode cX8_copy 96 = .ok (.iload 5, 2) := by decide +kernel
theorem dX8_copy_98 : decode cX8_copy 98 = .ok (.i2l, 1) := by decide +kernel
theorem dX8_copy_99 : decode cX8_copy 99 = .ok (.ladd, 1) := by decide +kernel
theorem dX8_copy_100 : decode cX8_copy 100 = .ok (.aload_n 0, 1) := by decide +kernel
theorem dX8_copy_101 : decode cX8_copy 101 = .ok (.getfield 13, 3) := by decide +kernel
theorem dX8_copy_104 : decode cX8_copy 104 = .ok (.iload_n 3, 1) := by decide +kernel
theorem dX8_copy_105 : decode cX8_copy 105 = .ok (.iaload, 1) := by decide +kernel
theorem dX8_copy_106 : decode cX8_copy 106 = .ok (.i2l, 1) := by decide +kernel
theorem dX8_copy_107 : decode cX8_copy 107 = .ok (.lcmp, 1) := by decide +kernel
theorem dX8_copy_108 : decode cX8_copy 108 = .ok (.ifCond .le 9, 3) := by decide +kernel
theorem dX8_copy_111 : decode cX8_copy 111 = .ok (.aload_n 0, 1) := by decide +kernel
theorem dX8_copy_112 : decode cX8_copy 112 = .ok (.iconst 2, 1) := by decide +kernel
theorem dX8_copy_113 : decode cX8_copy 113 = .ok (.invokevirtual 64, 3) := by decide +kernel
theorem dX8_copy_116 : decode cX8_copy 116 = .ok (.ireturn, 1) := by decide +kernel
theorem dX8_copy_117 : decode cX8_copy 117 = .ok (.iconst 0, 1) := by decide +kernel
theorem dX8_copy_118 : decode cX8_copy 118 = .ok (.istore 6, 2) := by decide +kernel
theorem dX8_copy_120 : decode cX8_copy 120 = .ok (.iload 6, 2) := by decide +kernel
theorem dX8_copy_122 : decode cX8_copy 122 = .ok (.iload 5, 2) := by decide +kernel
theorem dX8_copy_124 : decode cX8_copy 124 = .ok (.if_icmp .ge 30, 3) := by decide +kernel
theorem dX8_copy_127 : decode cX8_copy 127 = .ok (.aload_n 0, 1) := by decide +kernel
theorem dX8_copy_128 : decode cX8_copy 128 = .ok (.getfield 19, 3) := by decide +kernel
theorem dX8_copy_131 : decode cX8_copy 131 = .ok (.iload 6, 2) := by decide +kernel
theorem dX8_copy_133 : decode cX8_copy 133 = .ok (.aload_n 0, 1) := by decide +kernel
theorem dX8_copy_134 : decode cX8_copy 134 = .ok (.getfield 16, 3) := by decide +kernel
theorem dX8_copy_137 : decode cX8_copy 137 = .ok (.bipush 60, 2) := by decide +kernel
theorem dX8_copy_139 : decode cX8_copy 139 = .ok (.iload_n 1, 1) := by decide +kernel
theorem dX8_copy_140 : decode cX8_copy 140 = .ok (.imul, 1) := by decide +kernel
theorem dX8_copy_141 : decode cX8_copy 141 = .ok (.iload_n 2, 1) := by decide +kernel
theorem dX8_copy_142 : decode cX8_copy 142 = .ok (.iadd, 1) := by decide +kernel
theorem dX8_copy_143 : decode cX8_copy 143 = .ok (.iload 6, 2) := by decide +kernel
theorem dX8_copy_145 : decode cX8_copy 145 = .ok (.iadd, 1) := by decide +kernel
theorem dX8_copy_146 : decode cX8_copy 146 = .ok (.iaload, 1) := by decide +kernel
theorem dX8_copy_147 : decode cX8_copy 147 = .ok (.iastore, 1) := by decide +kernel
theorem dX8_copy_148 : decode cX8_copy 148 = .ok (.iinc 6 1, 3) := by decide +kernel
theorem dX8_copy_151 : decode cX8_copy 151 = .ok (.goto (-31), 3) := by decide +kernel
theorem dX8_copy_154 : decode cX8_copy 154 = .ok (.iconst 0, 1) := by decide +kernel
theorem dX8_copy_155 : decode cX8_copy 155 = .ok (.istore 6, 2) := by decide +kernel
theorem dX8_copy_157 : decode cX8_copy 157 = .ok (.iload 6, 2) := by decide +kernel
theorem dX8_copy_159 : decode cX8_copy 159 = .ok (.iload 5, 2) := by decide +kernel
theorem dX8_copy_161 : decode cX8_copy 161 = .ok (.if_icmp .ge 31, 3) := by decide +kernel
theorem dX8_copy_164 : decode cX8_copy 164 = .ok (.aload_n 0, 1) := by decide +kernel
theorem dX8_copy_165 : decode cX8_copy 165 = .ok (.getfield 16, 3) := by decide +kernel
theorem dX8_copy_168 : decode cX8_copy 168 = .ok (.bipush 60, 2) := by decide +kernel
theorem dX8_copy_170 : decode cX8_copy 170 = .ok (.iload_n 3, 1) := by decide +kernel
theorem dX8_copy_171 : decode cX8_copy 171 = .ok (.imul, 1) := by decide +kernel
theorem dX8_copy_172 : decode cX8_copy 172 = .ok (.iload 4, 2) := by decide +kernel
theorem dX8_copy_174 : decode cX8_copy 174 = .ok (.iadd, 1) := by decide +kernel
theorem dX8_copy_175 : decode cX8_copy 175 = .ok (.iload 6, 2) := by decide +kernel
theorem dX8_copy_177 : decode cX8_copy 177 = .ok (.iadd, 1) := by decide +kernel
theorem dX8_copy_178 : decode cX8_copy 178 = .ok (.aload_n 0, 1) := by decide +kernel
theorem dX8_copy_179 : decode cX8_copy 179 = .ok (.getfield 19, 3) := by decide +kernel
theorem dX8_copy_182 : decode cX8_copy 182 = .ok (.iload 6, 2) := by decide +kernel
theorem dX8_copy_184 : decode cX8_copy 184 = .ok (.iaload, 1) := by decide +kernel
theorem dX8_copy_185 : decode cX8_copy 185 = .ok (.iastore, 1) := by decide +kernel
theorem dX8_copy_186 : decode cX8_copy 186 = .ok (.iinc 6 1, 3) := by decide +kernel
theorem dX8_copy_189 : decode cX8_copy 189 = .ok (.goto (-32), 3) := by decide +kernel
theorem dX8_copy_192 : decode cX8_copy 192 = .ok (.iconst 1, 1) := by decide +kernel
theorem dX8_copy_193 : decode cX8_copy 193 = .ok (.ireturn, 1) := by decide +kernel
theorem dX8_type_0 : decode cX8_type 0 = .ok (.iload_n 1, 1) := by decide +kernel
theorem dX8_type_1 : decode cX8_type 1 = .ok (.i2l, 1) := by decide +kernel
theorem dX8_type_2 : decode cX8_type 2 = .ok (.lconst 0, 1) := by decide +kernel
theorem dX8_type_3 : decode cX8_type 3 = .ok (.ldc2_w 77, 3) := by decide +kernel
theorem dX8_type_6 : decode cX8_type 6 = .ok (.invokestatic 48, 3) := by decide +kernel
theorem dX8_type_9 : decode cX8_type 9 = .ok (.ifCond .ne 6, 3) := by decide +kernel
theorem dX8_type_12 : decode cX8_type 12 = .ok (.bipush (-2), 2) := by decide +kernel
theorem dX8_type_14 : decode cX8_type 14 = .ok (.ireturn, 1) := by decide +kernel
theorem dX8_type_15 : decode cX8_type 15 = .ok (.aload_n 0, 1) := by decide +kernel
theorem dX8_type_16 : decode cX8_type 16 = .ok (.getfield 79, 3) := by decide +kernel
theorem dX8_type_19 : decode cX8_type 19 = .ok (.bipush 40, 2) := by decide +kernel
theorem dX8_type_21 : decode cX8_type 21 = .ok (.if_icmp .ne 6, 3) := by decide +kernel
theorem dX8_type_24 : decode cX8_type 24 = .ok (.bipush (-4), 2) := by decide +kernel
theorem dX8_type_26 : decode cX8_type 26 = .ok (.ireturn, 1) := by decide +kernel
theorem dX8_type_27 : decode cX8_type 27 = .ok (.aload_n 0, 1) := by decide +kernel
theorem dX8_type_28 : decode cX8_type 28 = .ok (.getfield 22, 3) := by decide +kernel
theorem dX8_type_31 : decode cX8_type 31 = .ok (.aload_n 0, 1) := by decide +kernel
theorem dX8_type_32 : decode cX8_type 32 = .ok (.getfield 79, 3) := by decide +kernel
theorem dX8_type_35 : decode cX8_type 35 = .ok (.iload_n 1, 1) := by decide +kernel
theorem dX8_type_36 : decode cX8_type 36 = .ok (.iastore, 1) := by decide +kernel
theorem dX8_type_37 : decode cX8_type 37 = .ok (.aload_n 0, 1) := by decide +kernel
theorem dX8_type_38 : decode cX8_type 38 = .ok (.dup, 1) := by decide +kernel
theorem dX8_type_39 : decode cX8_type 39 = .ok (.getfield 79, 3) := by decide +kernel
theorem dX8_type_42 : decode cX8_type 42 = .ok (.iconst 1, 1) := by decide +kernel
theorem dX8_type_43 : decode cX8_type 43 = .ok (.iadd, 1) := by decide +kernel
theorem dX8_type_44 : decode cX8_type 44 = .ok (.putfield 79, 3) := by decide +kernel
theorem dX8_type_47 : decode cX8_type 47 = .ok (.aload_n 0, 1) := by decide +kernel
theorem dX8_type_48 : decode cX8_type 48 = .ok (.getfield 79, 3) := by decide +kernel
theorem dX8_type_51 : decode cX8_type 51 = .ok (.ireturn, 1) := by decide +kernel
theorem dX8_wipe_0 : decode cX8_wipe 0 = .ok (.aload_n 0, 1) := by decide +kernel
theorem dX8_wipe_1 : decode cX8_wipe 1 = .ok (.getfield 79, 3) := by decide +kernel
theorem dX8_wipe_4 : decode cX8_wipe 4 = .ok (.istore_n 1, 1) := by decide +kernel
theorem dX8_wipe_5 : decode cX8_wipe 5 = .ok (.aload_n 0, 1) := by decide +kernel
theorem dX8_wipe_6 : decode cX8_wipe 6 = .ok (.iconst 0, 1) := by decide +kernel
theorem dX8_wipe_7 : decode cX8_wipe 7 = .ok (.putfield 79, 3) := by decide +kernel
theorem dX8_wipe_10 : decode cX8_wipe 10 = .ok (.iload_n 1, 1) := by decide +kernel
theorem dX8_wipe_11 : decode cX8_wipe 11 = .ok (.ireturn, 1) := by decide +kernel
theorem dX8_undo_0 : decode cX8_undo 0 = .ok (.aload_n 0, 1) := by decide +kernel
theorem dX8_undo_1 : decode cX8_undo 1 = .ok (.getfield 79, 3) := by decide +kernel
theorem dX8_undo_4 : decode cX8_undo 4 = .ok (.ifCond .ne 6, 3) := by decide +kernel
theorem dX8_undo_7 : decode cX8_undo 7 = .ok (.bipush (-3), 2) := by decide +kernel
theorem dX8_undo_9 : decode cX8_undo 9 = .ok (.ireturn, 1) := by decide +kernel
theorem dX8_undo_10 : decode cX8_undo 10 = .ok (.aload_n 0, 1) := by decide +kernel
theorem dX8_undo_11 : decode cX8_undo 11 = .ok (.dup, 1) := by decide +kernel
theorem dX8_undo_12 : decode cX8_undo 12 = .ok (.getfield 79, 3) := by decide +kernel
theorem dX8_undo_15 : decode cX8_undo 15 = .ok (.iconst 1, 1) := by decide +kernel
theorem dX8_undo_16 : decode cX8_undo 16 = .ok (.isub, 1) := by decide +kernel
theorem dX8_undo_17 : decode cX8_undo 17 = .ok (.putfield 79, 3) := by decide +kernel
theorem dX8_undo_20 : decode cX8_undo 20 = .ok (.aload_n 0, 1) := by decide +kernel
theorem dX8_undo_21 : decode cX8_undo 21 = .ok (.getfield 79, 3) := by decide +kernel
theorem dX8_undo_24 : decode cX8_undo 24 = .ok (.ireturn, 1) := by decide +kernel
theorem dX8_here_0 : decode cX8_here 0 = .ok (.aload_n 0, 1) := by decide +kernel
theorem dX8_here_1 : decode cX8_here 1 = .ok (.getfield 82, 3) := by decide +kernel
theorem dX8_here_4 : decode cX8_here 4 = .ok (.aload_n 0, 1) := by decide +kernel
theorem dX8_here_5 : decode cX8_here 5 = .ok (.getfield 79, 3) := by decide +kernel
theorem dX8_here_8 : decode cX8_here 8 = .ok (.if_icmp .ge 15, 3) := by decide +kernel
theorem dX8_here_11 : decode cX8_here 11 = .ok (.aload_n 0, 1) := by decide +kernel
theorem dX8_here_12 : decode cX8_here 12 = .ok (.getfield 22, 3) := by decide +kernel
theorem dX8_here_15 : decode cX8_here 15 = .ok (.aload_n 0, 1) := by decide +kernel
theorem dX8_here_16 : decode cX8_here 16 = .ok (.getfield 82, 3) := by decide +kernel
theorem dX8_here_19 : decode cX8_here 19 = .ok (.iaload, 1) := by decide +kernel
theorem dX8_here_20 : decode cX8_here 20 = .ok (.goto 4, 3) := by decide +kernel
theorem dX8_here_23 : decode cX8_here 23 = .ok (.iconst (-1), 1) := by decide +kernel
theorem dX8_here_24 : decode cX8_here 24 = .ok (.ireturn, 1) := by decide +kernel
theorem dX8_nobody_0 : decode cX8_nobody 0 = .ok (.aload_n 0, 1) := by decide +kernel
theorem dX8_nobody_1 : decode cX8_nobody 1 = .ok (.iconst 0, 1) := by decide +kernel
theorem dX8_nobody_2 : decode cX8_nobody 2 = .ok (.putfield 85, 3) := by decide +kernel
theorem dX8_nobody_5 : decode cX8_nobody 5 = .ok (.aload_n 0, 1) := by decide +kernel
theorem dX8_nobody_6 : decode cX8_nobody 6 = .ok (.getfield 82, 3) := by decide +kernel
theorem dX8_nobody_9 : decode cX8_nobody 9 = .ok (.ireturn, 1) := by decide +kernel
theorem dX8_readsPart_0 : decode cX8_readsPart 0 = .ok (.aload_n 0, 1) := by decide +kernel
theorem dX8_readsPart_1 : decode cX8_readsPart 1 = .ok (.getfield 85, 3) := by decide +kernel
theorem dX8_readsPart_4 : decode cX8_readsPart 4 = .ok (.iconst 5, 1) := by decide +kernel
theorem dX8_readsPart_5 : decode cX8_readsPart 5 = .ok (.if_icmp .ne 5, 3) := by decide +kernel
theorem dX8_readsPart_8 : decode cX8_readsPart 8 = .ok (.iconst 0, 1) := by decide +kernel
theorem dX8_readsPart_9 : decode cX8_readsPart 9 = .ok (.ireturn, 1) := by decide +kernel
theorem dX8_readsPart_10 : decode cX8_readsPart 10 = .ok (.iconst 0, 1) := by decide +kernel
theorem dX8_readsPart_11 : decode cX8_readsPart 11 = .ok (.istore_n 1, 1) := by decide +kernel
theorem dX8_readsPart_12 : decode cX8_readsPart 12 = .ok (.iconst 0, 1) := by decide +kernel
theorem dX8_readsPart_13 : decode cX8_readsPart 13 = .ok (.istore_n 2, 1) := by decide +kernel
theorem dX8_readsPart_14 : decode cX8_readsPart 14 = .ok (.iconst 0, 1) := by decide +kernel
theorem dX8_readsPart_15 : decode cX8_readsPart 15 = .ok (.istore_n 3, 1) := by decide +kernel
theorem dX8_readsPart_16 : decode cX8_readsPart 16 = .ok (.iload_n 3, 1) := by decide +kernel
theorem dX8_readsPart_17 : decode cX8_readsPart 17 = .ok (.bipush 6, 2) := by decide +kernel
theorem dX8_readsPart_19 : decode cX8_readsPart 19 = .ok (.if_icmp .ge 176, 3) := by decide +kernel
theorem dX8_readsPart_22 : decode cX8_readsPart 22 = .ok (.aload_n 0, 1) := by decide +kernel
theorem dX8_readsPart_23 : decode cX8_readsPart 23 = .ok (.invokevirtual 88, 3) := by decide +kernel
theorem dX8_readsPart_26 : decode cX8_readsPart 26 = .ok (.bipush 48, 2) := by decide +kernel
theorem dX8_readsPart_28 : decode cX8_readsPart 28 = .ok (.isub, 1) := by decide +kernel
theorem dX8_readsPart_29 : decode cX8_readsPart 29 = .ok (.istore 4, 2) := by decide +kernel
theorem dX8_readsPart_31 : decode cX8_readsPart 31 = .ok (.iload 4, 2) := by decide +kernel
theorem dX8_readsPart_33 : decode cX8_readsPart 33 = .ok (.i2l, 1) := by decide +kernel
theorem dX8_readsPart_34 : decode cX8_readsPart 34 = .ok (.iload_n 3, 1) := by decide +kernel
theorem dX8_readsPart_35 : decode cX8_readsPart 35 = .ok (.iconst 5, 1) := by decide +kernel
theorem dX8_readsPart_36 : decode cX8_readsPart 36 = .ok (.if_icmp .ne 7, 3) := by decide +kernel
theorem dX8_readsPart_39 : decode cX8_readsPart 39 = .ok (.lconst 1, 1) := by decide +kernel
theorem dX8_readsPart_40 : decode cX8_readsPart 40 = .ok (.goto 4, 3) := by decide +kernel
theorem dX8_readsPart_43 : decode cX8_readsPart 43 = .ok (.lconst 0, 1) := by decide +kernel
theorem dX8_readsPart_44 : decode cX8_readsPart 44 = .ok (.iload_n 3, 1) := by decide +kernel
theorem dX8_readsPart_45 : decode cX8_readsPart 45 = .ok (.iconst 5, 1) := by decide +kernel
theorem dX8_readsPart_46 : decode cX8_readsPart 46 = .ok (.if_icmp .ne 9, 3) := by decide +kernel
theorem dX8_readsPart_49 : decode cX8_readsPart 49 = .ok (.ldc2_w 56, 3) := by decide +kernel
theorem dX8_readsPart_52 : decode cX8_readsPart 52 = .ok (.goto 6, 3) := by decide +kernel
theorem dX8_readsPart_55 : decode cX8_readsPart 55 = .ok (.ldc2_w 92, 3) := by decide +kernel
theorem dX8_readsPart_58 : decode cX8_readsPart 58 = .ok (.invokestatic 48, 3) := by decide +kernel
theorem dX8_readsPart_61 : decode cX8_readsPart 61 = .ok (.ifCond .ne 5, 3) := by decide +kernel
theorem dX8_readsPart_64 : decode cX8_readsPart 64 = .ok (.iconst 0, 1) := by decide +kernel
theorem dX8_readsPart_65 : decode cX8_readsPart 65 = .ok (.ireturn, 1) := by decide +kernel
theorem dX8_readsPart_66 : decode cX8_readsPart 66 = .ok (.iload_n 3, 1) := by decide +kernel
theorem dX8_readsPart_67 : decode cX8_readsPart 67 = .ok (.iconst 2, 1) := by decide +kernel
theorem dX8_readsPart_68 : decode cX8_readsPart 68 = .ok (.if_icmp .ge 13, 3) := by decide +kernel
theorem dX8_readsPart_71 : decode cX8_readsPart 71 = .ok (.bipush 10, 2) := by decide +kernel
theorem dX8_readsPart_73 : decode cX8_readsPart 73 = .ok (.iload_n 1, 1) := by decide +kernel
theorem dX8_readsPart_74 : decode cX8_readsPart 74 = .ok (.imul, 1) := by decide +kernel
theorem dX8_readsPart_75 : decode cX8_readsPart 75 = .ok (.iload 4, 2) := by decide +kernel
theorem dX8_readsPart_77 : decode cX8_readsPart 77 = .ok (.iadd, 1) := by decide +kernel
theorem dX8_readsPart_78 : decode cX8_readsPart 78 = .ok (.goto 4, 3) := by decide +kernel
theorem dX8_readsPart_81 : decode cX8_readsPart 81 = .ok (.iload_n 1, 1) := by decide +kernel
theorem dX8_readsPart_82 : decode cX8_readsPart 82 = .ok (.istore_n 1, 1) := by decide +kernel
theorem dX8_readsPart_83 : decode cX8_readsPart 83 = .ok (.iload_n 3, 1) := by decide +kernel
theorem dX8_readsPart_84 : decode cX8_readsPart 84 = .ok (.iconst 2, 1) := by decide +kernel
theorem dX8_readsPart_85 : decode cX8_readsPart 85 = .ok (.if_icmp .eq 8, 3) := by decide +kernel
theorem dX8_readsPart_88 : decode cX8_readsPart 88 = .ok (.iload_n 3, 1) := by decide +kernel
theorem dX8_readsPart_89 : decode cX8_readsPart 89 = .ok (.iconst 3, 1) := by decide +kernel
theorem dX8_readsPart_90 : decode cX8_readsPart 90 = .ok (.if_icmp .ne 13, 3) := by decide +kernel
theorem dX8_readsPart_93 : decode cX8_readsPart 93 = .ok (.bipush 10, 2) := by decide +kernel
theorem dX8_readsPart_95 : decode cX8_readsPart 95 = .ok (.iload_n 2, 1) := by decide +kernel
theorem dX8_readsPart_96 : decode cX8_readsPart 96 = .ok (.imul, 1) := by decide +kernel
theorem dX8_readsPart_97 : decode cX8_readsPart 97 = .ok (.iload 4, 2) := by decide +kernel
theorem dX8_readsPart_99 : decode cX8_readsPart 99 = .ok (.iadd, 1) := by decide +kernel
theorem dX8_readsPart_100 : decode cX8_readsPart 100 = .ok (.goto 4, 3) := by decide +kernel
theorem dX8_readsPart_103 : decode cX8_readsPart 103 = .ok (.iload_n 2, 1) := by decide +kernel
theorem dX8_readsPart_104 : decode cX8_readsPart 104 = .ok (.istore_n 2, 1) := by decide +kernel
theorem dX8_readsPart_105 : decode cX8_readsPart 105 = .ok (.iload_n 3, 1) := by decide +kernel
theorem dX8_readsPart_106 : decode cX8_readsPart 106 = .ok (.iconst 1, 1) := by decide +kernel
theorem dX8_readsPart_107 : decode cX8_readsPart 107 = .ok (.if_icmp .ne 7, 3) := by decide +kernel
theorem dX8_readsPart_110 : decode cX8_readsPart 110 = .ok (.iload_n 1, 1) := by decide +kernel
theorem dX8_readsPart_111 : decode cX8_readsPart 111 = .ok (.ifCond .eq 13, 3) := by decide +kernel
theorem dX8_readsPart_114 : decode cX8_readsPart 114 = .ok (.iload_n 3, 1) := by decide +kernel
theorem dX8_readsPart_115 : decode cX8_readsPart 115 = .ok (.iconst 3, 1) := by decide +kernel
theorem dX8_readsPart_116 : decode cX8_readsPart 116 = .ok (.if_icmp .ne 10, 3) := by decide +kernel
theorem dX8_readsPart_119 : decode cX8_readsPart 119 = .ok (.iload_n 2, 1) := by decide +kernel
theorem dX8_readsPart_120 : decode cX8_readsPart 120 = .ok (.iload_n 1, 1) := by decide +kernel
theorem dX8_readsPart_121 : decode cX8_readsPart 121 = .ok (.if_icmp .ge 5, 3) := by decide +kernel
theorem dX8_readsPart_124 : decode cX8_readsPart 124 = .ok (.iconst 0, 1) := by decide +kernel
theorem dX8_readsPart_125 : decode cX8_readsPart 125 = .ok (.ireturn, 1) := by decide +kernel
theorem dX8_readsPart_126 : decode cX8_readsPart 126 = .ok (.aload_n 0, 1) := by decide +kernel
theorem dX8_readsPart_127 : decode cX8_readsPart 127 = .ok (.getfield 25, 3) := by decide +kernel
theorem dX8_readsPart_130 : decode cX8_readsPart 130 = .ok (.iconst 4, 1) := by decide +kernel
theorem dX8_readsPart_131 : decode cX8_readsPart 131 = .ok (.aload_n 0, 1) := by decide +kernel
theorem dX8_readsPart_132 : decode cX8_readsPart 132 = .ok (.getfield 85, 3) := by decide +kernel
theorem dX8_readsPart_135 : decode cX8_readsPart 135 = .ok (.imul, 1) := by decide +kernel
theorem dX8_readsPart_136 : decode cX8_readsPart 136 = .ok (.iload_n 3, 1) := by decide +kernel
theorem dX8_readsPart_137 : decode cX8_readsPart 137 = .ok (.iconst 2, 1) := by decide +kernel
theorem dX8_readsPart_138 : decode cX8_readsPart 138 = .ok (.if_icmp .ge 7, 3) := by decide +kernel
theorem dX8_readsPart_141 : decode cX8_readsPart 141 = .ok (.iconst 0, 1) := by decide +kernel
theorem dX8_readsPart_142 : decode cX8_readsPart 142 = .ok (.goto 15, 3) := by decide +kernel
theorem dX8_readsPart_145 : decode cX8_readsPart 145 = .ok (.iload_n 3, 1) := by decide +kernel
theorem dX8_readsPart_146 : decode cX8_readsPart 146 = .ok (.iconst 4, 1) := by decide +kernel
theorem dX8_readsPart_147 : decode cX8_readsPart 147 = .ok (.if_icmp .ge 7, 3) := by decide +kernel
theorem dX8_readsPart_150 : decode cX8_readsPart 150 = .ok (.iconst 1, 1) := by decide +kernel
theorem dX8_readsPart_151 : decode cX8_readsPart 151 = .ok (.goto 6, 3) := by decide +kernel
theorem dX8_readsPart_154 : decode cX8_readsPart 154 = .ok (.iload_n 3, 1) := by decide +kernel
theorem dX8_readsPart_155 : decode cX8_readsPart 155 = .ok (.iconst 2, 1) := by decide +kernel
theorem dX8_readsPart_156 : decode cX8_readsPart 156 = .ok (.isub, 1) := by decide +kernel
theorem dX8_readsPart_157 : decode cX8_readsPart 157 = .ok (.iadd, 1) := by decide +kernel
theorem dX8_readsPart_158 : decode cX8_readsPart 158 = .ok (.iload_n 3, 1) := by decide +kernel
theorem dX8_readsPart_159 : decode cX8_readsPart 159 = .ok (.iconst 2, 1) := by decide +kernel
theorem dX8_readsPart_160 : decode cX8_readsPart 160 = .ok (.if_icmp .ge 7, 3) := by decide +kernel
theorem dX8_readsPart_163 : decode cX8_readsPart 163 = .ok (.iload_n 1, 1) := by decide +kernel
theorem dX8_readsPart_164 : decode cX8_readsPart 164 = .ok (.goto 14, 3) := by decide +kernel
theorem dX8_readsPart_167 : decode cX8_readsPart 167 = .ok (.iload_n 3, 1) := by decide +kernel
theorem dX8_readsPart_168 : decode cX8_readsPart 168 = .ok (.iconst 4, 1) := by decide +kernel
theorem dX8_readsPart_169 : decode cX8_readsPart 169 = .ok (.if_icmp .ge 7, 3) := by decide +kernel
theorem dX8_readsPart_172 : decode cX8_readsPart 172 = .ok (.iload_n 2, 1) := by decide +kernel
theorem dX8_readsPart_173 : decode cX8_readsPart 173 = .ok (.goto 5, 3) := by decide +kernel
theorem dX8_readsPart_176 : decode cX8_readsPart 176 = .ok (.iload 4, 2) := by decide +kernel
theorem dX8_readsPart_178 : decode cX8_readsPart 178 = .ok (.iastore, 1) := by decide +kernel
theorem dX8_readsPart_179 : decode cX8_readsPart 179 = .ok (.aload_n 0, 1) := by decide +kernel
theorem dX8_readsPart_180 : decode cX8_readsPart 180 = .ok (.dup, 1) := by decide +kernel
theorem dX8_readsPart_181 : decode cX8_readsPart 181 = .ok (.getfield 82, 3) := by decide +kernel
theorem dX8_readsPart_184 : decode cX8_readsPart 184 = .ok (.iconst 1, 1) := by decide +kernel
theorem dX8_readsPart_185 : decode cX8_readsPart 185 = .ok (.iadd, 1) := by decide +kernel
theorem dX8_readsPart_186 : decode cX8_readsPart 186 = .ok (.putfield 82, 3) := by decide +kernel
theorem dX8_readsPart_189 : decode cX8_readsPart 189 = .ok (.iinc 3 1, 3) := by decide +kernel
theorem dX8_readsPart_192 : decode cX8_readsPart 192 = .ok (.goto (-176), 3) := by decide +kernel
theorem dX8_readsPart_195 : decode cX8_readsPart 195 = .ok (.aload_n 0, 1) := by decide +kernel
theorem dX8_readsPart_196 : decode cX8_readsPart 196 = .ok (.dup, 1) := by decide +kernel
theorem dX8_readsPart_197 : decode cX8_readsPart 197 = .ok (.getfield 85, 3) := by decide +kernel
theorem dX8_readsPart_200 : decode cX8_readsPart 200 = .ok (.iconst 1, 1) := by decide +kernel
theorem dX8_readsPart_201 : decode cX8_readsPart 201 = .ok (.iadd, 1) := by decide +kernel
theorem dX8_readsPart_202 : decode cX8_readsPart 202 = .ok (.putfield 85, 3) := by decide +kernel
theorem dX8_readsPart_205 : decode cX8_readsPart 205 = .ok (.iconst 1, 1) := by decide +kernel
theorem dX8_readsPart_206 : decode cX8_readsPart 206 = .ok (.ireturn, 1) := by decide +kernel
theorem dX8_reads_0 : decode cX8_reads 0 = .ok (.aload_n 0, 1) := by decide +kernel
theorem dX8_reads_1 : decode cX8_reads 1 = .ok (.iconst 0, 1) := by decide +kernel
theorem dX8_reads_2 : decode cX8_reads 2 = .ok (.putfield 82, 3) := by decide +kernel
theorem dX8_reads_5 : decode cX8_reads 5 = .ok (.aload_n 0, 1) := by decide +kernel
theorem dX8_reads_6 : decode cX8_reads 6 = .ok (.iconst 0, 1) := by decide +kernel
theorem dX8_reads_7 : decode cX8_reads 7 = .ok (.putfield 85, 3) := by decide +kernel
theorem dX8_reads_10 : decode cX8_reads 10 = .ok (.aload_n 0, 1) := by decide +kernel
theorem dX8_reads_11 : decode cX8_reads 11 = .ok (.getfield 79, 3) := by decide +kernel
theorem dX8_reads_14 : decode cX8_reads 14 = .ok (.ifCond .le 7, 3) := by decide +kernel
theorem dX8_reads_17 : decode cX8_reads 17 = .ok (.iconst 1, 1) := by decide +kernel
theorem dX8_reads_18 : decode cX8_reads 18 = .ok (.goto 4, 3) := by decide +kernel
theorem dX8_reads_21 : decode cX8_reads 21 = .ok (.iconst 0, 1) := by decide +kernel
theorem dX8_reads_22 : decode cX8_reads 22 = .ok (.istore_n 1, 1) := by decide +kernel
theorem dX8_reads_23 : decode cX8_reads 23 = .ok (.iload_n 1, 1) := by decide +kernel
theorem dX8_reads_24 : decode cX8_reads 24 = .ok (.ifCond .eq 71, 3) := by decide +kernel
theorem dX8_reads_27 : decode cX8_reads 27 = .ok (.aload_n 0, 1) := by decide +kernel
theorem dX8_reads_28 : decode cX8_reads 28 = .ok (.invokevirtual 94, 3) := by decide +kernel
theorem dX8_reads_31 : decode cX8_reads 31 = .ok (.ifCond .ne 8, 3) := by decide +kernel
theorem dX8_reads_34 : decode cX8_reads 34 = .ok (.aload_n 0, 1) := by decide +kernel
theorem dX8_reads_35 : decode cX8_reads 35 = .ok (.invokevirtual 98, 3) := by decide +kernel
theorem dX8_reads_38 : decode cX8_reads 38 = .ok (.ireturn, 1) := by decide +kernel
theorem dX8_reads_39 : decode cX8_reads 39 = .ok (.aload_n 0, 1) := by decide +kernel
theorem dX8_reads_40 : decode cX8_reads 40 = .ok (.getfield 82, 3) := by decide +kernel
theorem dX8_reads_43 : decode cX8_reads 43 = .ok (.aload_n 0, 1) := by decide +kernel
theorem dX8_reads_44 : decode cX8_reads 44 = .ok (.getfield 79, 3) := by decide +kernel
theorem dX8_reads_47 : decode cX8_reads 47 = .ok (.if_icmp .ge 7, 3) := by decide +kernel
theorem dX8_reads_50 : decode cX8_reads 50 = .ok (.iconst 1, 1) := by decide +kernel
theorem dX8_reads_51 : decode cX8_reads 51 = .ok (.goto 4, 3) := by decide +kernel
theorem dX8_reads_54 : decode cX8_reads 54 = .ok (.iconst 0, 1) := by decide +kernel
theorem dX8_reads_55 : decode cX8_reads 55 = .ok (.istore_n 1, 1) := by decide +kernel
theorem dX8_reads_56 : decode cX8_reads 56 = .ok (.iload_n 1, 1) := by decide +kernel
theorem dX8_reads_57 : decode cX8_reads 57 = .ok (.ifCond .eq 17, 3) := by decide +kernel
theorem dX8_reads_60 : decode cX8_reads 60 = .ok (.aload_n 0, 1) := by decide +kernel
theorem dX8_reads_61 : decode cX8_reads 61 = .ok (.invokevirtual 88, 3) := by decide +kernel
theorem dX8_reads_64 : decode cX8_reads 64 = .ok (.bipush 59, 2) := by decide +kernel
theorem dX8_reads_66 : decode cX8_reads 66 = .ok (.if_icmp .eq 8, 3) := by decide +kernel
theorem dX8_reads_69 : decode cX8_reads 69 = .ok (.aload_n 0, 1) := by decide +kernel
theorem dX8_reads_70 : decode cX8_reads 70 = .ok (.invokevirtual 98, 3) := by decide +kernel
theorem dX8_reads_73 : decode cX8_reads 73 = .ok (.ireturn, 1) := by decide +kernel
theorem dX8_reads_74 : decode cX8_reads 74 = .ok (.aload_n 0, 1) := by decide +kernel
theorem dX8_reads_75 : decode cX8_reads 75 = .ok (.dup, 1) := by decide +kernel
theorem dX8_reads_76 : decode cX8_reads 76 = .ok (.getfield 82, 3) := by decide +kernel
theorem dX8_reads_79 : decode cX8_reads 79 = .ok (.iload_n 1, 1) := by decide +kernel
theorem dX8_reads_80 : decode cX8_reads 80 = .ok (.ifCond .eq 7, 3) := by decide +kernel
theorem dX8_reads_83 : decode cX8_reads 83 = .ok (.iconst 1, 1) := by decide +kernel
theorem dX8_reads_84 : decode cX8_reads 84 = .ok (.goto 4, 3) := by decide +kernel
theorem dX8_reads_87 : decode cX8_reads 87 = .ok (.iconst 0, 1) := by decide +kernel
theorem dX8_reads_88 : decode cX8_reads 88 = .ok (.iadd, 1) := by decide +kernel
theorem dX8_reads_89 : decode cX8_reads 89 = .ok (.putfield 82, 3) := by decide +kernel
theorem dX8_reads_92 : decode cX8_reads 92 = .ok (.goto (-69), 3) := by decide +kernel
theorem dX8_reads_95 : decode cX8_reads 95 = .ok (.iconst (-1), 1) := by decide +kernel
theorem dX8_reads_96 : decode cX8_reads 96 = .ok (.ireturn, 1) := by decide +kernel
theorem dX8_fault_0 : decode cX8_fault 0 = .ok (.aload_n 0, 1) := by decide +kernel
theorem dX8_fault_1 : decode cX8_fault 1 = .ok (.invokevirtual 101, 3) := by decide +kernel
theorem dX8_fault_4 : decode cX8_fault 4 = .ok (.ireturn, 1) := by decide +kernel
theorem dX8_runner_0 : decode cX8_runner 0 = .ok (.aload_n 0, 1) := by decide +kernel
theorem dX8_runner_1 : decode cX8_runner 1 = .ok (.invokevirtual 101, 3) := by decide +kernel
theorem dX8_runner_4 : decode cX8_runner 4 = .ok (.pop, 1) := by decide +kernel
theorem dX8_runner_5 : decode cX8_runner 5 = .ok (.iload_n 1, 1) := by decide +kernel
theorem dX8_runner_6 : decode cX8_runner 6 = .ok (.i2l, 1) := by decide +kernel
theorem dX8_runner_7 : decode cX8_runner 7 = .ok (.lconst 0, 1) := by decide +kernel
theorem dX8_runner_8 : decode cX8_runner 8 = .ok (.aload_n 0, 1) := by decide +kernel
theorem dX8_runner_9 : decode cX8_runner 9 = .ok (.getfield 85, 3) := by decide +kernel
theorem dX8_runner_12 : decode cX8_runner 12 = .ok (.iconst 1, 1) := by decide +kernel
theorem dX8_runner_13 : decode cX8_runner 13 = .ok (.isub, 1) := by decide +kernel
theorem dX8_runner_14 : decode cX8_runner 14 = .ok (.i2l, 1) := by decide +kernel
theorem dX8_runner_15 : decode cX8_runner 15 = .ok (.invokestatic 48, 3) := by decide +kernel
theorem dX8_runner_18 : decode cX8_runner 18 = .ok (.ifCond .eq 28, 3) := by decide +kernel
theorem dX8_runner_21 : decode cX8_runner 21 = .ok (.iload_n 2, 1) := by decide +kernel
theorem dX8_runner_22 : decode cX8_runner 22 = .ok (.i2l, 1) := by decide +kernel
theorem dX8_runner_23 : decode cX8_runner 23 = .ok (.lconst 0, 1) := by decide +kernel
theorem dX8_runner_24 : decode cX8_runner 24 = .ok (.ldc2_w 56, 3) := by decide +kernel
theorem dX8_runner_27 : decode cX8_runner 27 = .ok (.invokestatic 48, 3) := by decide +kernel
theorem dX8_runner_30 : decode cX8_runner 30 = .ok (.ifCond .eq 16, 3) := by decide +kernel
theorem dX8_runner_33 : decode cX8_runner 33 = .ok (.aload_n 0, 1) := by decide +kernel
theorem dX8_runner_34 : decode cX8_runner 34 = .ok (.getfield 25, 3) := by decide +kernel
theorem dX8_runner_37 : decode cX8_runner 37 = .ok (.iconst 4, 1) := by decide +kernel
theorem dX8_runner_38 : decode cX8_runner 38 = .ok (.iload_n 1, 1) := by decide +kernel
theorem dX8_runner_39 : decode cX8_runner 39 = .ok (.imul, 1) := by decide +kernel
theorem dX8_runner_40 : decode cX8_runner 40 = .ok (.iload_n 2, 1) := by decide +kernel
theorem dX8_runner_41 : decode cX8_runner 41 = .ok (.iadd, 1) := by decide +kernel
theorem dX8_runner_42 : decode cX8_runner 42 = .ok (.iaload, 1) := by decide +kernel
theorem dX8_runner_43 : decode cX8_runner 43 = .ok (.goto 5, 3) := by decide +kernel
theorem dX8_runner_46 : decode cX8_runner 46 = .ok (.bipush (-2), 2) := by decide +kernel
theorem dX8_runner_48 : decode cX8_runner 48 = .ok (.ireturn, 1) := by decide +kernel
theorem dX8_isStretch_0 : decode cX8_isStretch 0 = .ok (.iload_n 0, 1) := by decide +kernel
theorem dX8_isStretch_1 : decode cX8_isStretch 1 = .ok (.i2l, 1) := by decide +kernel
theorem dX8_isStretch_2 : decode cX8_isStretch 2 = .ok (.lconst 0, 1) := by decide +kernel
theorem dX8_isStretch_3 : decode cX8_isStretch 3 = .ok (.ldc2_w 56, 3) := by decide +kernel
theorem dX8_isStretch_6 : decode cX8_isStretch 6 = .ok (.invokestatic 48, 3) := by decide +kernel
theorem dX8_isStretch_9 : decode cX8_isStretch 9 = .ok (.ireturn, 1) := by decide +kernel
theorem dX8_isChange_0 : decode cX8_isChange 0 = .ok (.iload_n 0, 1) := by decide +kernel
theorem dX8_isChange_1 : decode cX8_isChange 1 = .ok (.i2l, 1) := by decide +kernel
theorem dX8_isChange_2 : decode cX8_isChange 2 = .ok (.lconst 0, 1) := by decide +kernel
theorem dX8_isChange_3 : decode cX8_isChange 3 = .ok (.ldc2_w 62, 3) := by decide +kernel
theorem dX8_isChange_6 : decode cX8_isChange 6 = .ok (.invokestatic 48, 3) := by decide +kernel
theorem dX8_isChange_9 : decode cX8_isChange 9 = .ok (.ireturn, 1) := by decide +kernel
theorem dX8_runs_0 : decode cX8_runs 0 = .ok (.iload_n 1, 1) := by decide +kernel
theorem dX8_runs_1 : decode cX8_runs 1 = .ok (.invokestatic 104, 3) := by decide +kernel
theorem dX8_runs_4 : decode cX8_runs 4 = .ok (.ifCond .eq 15, 3) := by decide +kernel
theorem dX8_runs_7 : decode cX8_runs 7 = .ok (.iload_n 2, 1) := by decide +kernel
theorem dX8_runs_8 : decode cX8_runs 8 = .ok (.i2l, 1) := by decide +kernel
theorem dX8_runs_9 : decode cX8_runs 9 = .ok (.lconst 0, 1) := by decide +kernel
theorem dX8_runs_10 : decode cX8_runs 10 = .ok (.ldc2_w 107, 3) := by decide +kernel
theorem dX8_runs_13 : decode cX8_runs 13 = .ok (.invokestatic 48, 3) := by decide +kernel
theorem dX8_runs_16 : decode cX8_runs 16 = .ok (.ifCond .ne 6, 3) := by decide +kernel
theorem dX8_runs_19 : decode cX8_runs 19 = .ok (.bipush (-2), 2) := by decide +kernel
theorem dX8_runs_21 : decode cX8_runs 21 = .ok (.ireturn, 1) := by decide +kernel
theorem dX8_runs_22 : decode cX8_runs 22 = .ok (.aload_n 0, 1) := by decide +kernel
theorem dX8_runs_23 : decode cX8_runs 23 = .ok (.getfield 28, 3) := by decide +kernel
theorem dX8_runs_26 : decode cX8_runs 26 = .ok (.iload_n 1, 1) := by decide +kernel
theorem dX8_runs_27 : decode cX8_runs 27 = .ok (.iaload, 1) := by decide +kernel
theorem dX8_runs_28 : decode cX8_runs 28 = .ok (.istore_n 3, 1) := by decide +kernel
theorem dX8_runs_29 : decode cX8_runs 29 = .ok (.aload_n 0, 1) := by decide +kernel
theorem dX8_runs_30 : decode cX8_runs 30 = .ok (.getfield 28, 3) := by decide +kernel
theorem dX8_runs_33 : decode cX8_runs 33 = .ok (.iload_n 1, 1) := by decide +kernel
theorem dX8_runs_34 : decode cX8_runs 34 = .ok (.iload_n 2, 1) := by decide +kernel
theorem dX8_runs_35 : decode cX8_runs 35 = .ok (.iastore, 1) := by decide +kernel
theorem dX8_runs_36 : decode cX8_runs 36 = .ok (.iload_n 3, 1) := by decide +kernel
theorem dX8_runs_37 : decode cX8_runs 37 = .ok (.ireturn, 1) := by decide +kernel
theorem dX8_most_0 : decode cX8_most 0 = .ok (.iload_n 0, 1) := by decide +kernel
theorem dX8_most_1 : decode cX8_most 1 = .ok (.ifCond .eq 9, 3) := by decide +kernel
theorem dX8_most_4 : decode cX8_most 4 = .ok (.iload_n 0, 1) := by decide +kernel
theorem dX8_most_5 : decode cX8_most 5 = .ok (.bipush 6, 2) := by decide +kernel
theorem dX8_most_7 : decode cX8_most 7 = .ok (.if_icmp .ne 8, 3) := by decide +kernel
theorem dX8_most_10 : decode cX8_most 10 = .ok (.bipush 30, 2) := by decide +kernel
theorem dX8_most_12 : decode cX8_most 12 = .ok (.goto 29, 3) := by decide +kernel
theorem dX8_most_15 : decode cX8_most 15 = .ok (.iload_n 0, 1) := by decide +kernel
theorem dX8_most_16 : decode cX8_most 16 = .ok (.iconst 1, 1) := by decide +kernel
theorem dX8_most_17 : decode cX8_most 17 = .ok (.if_icmp .ne 7, 3) := by decide +kernel
theorem dX8_most_20 : decode cX8_most 20 = .ok (.iconst 5, 1) := by decide +kernel
theorem dX8_most_21 : decode cX8_most 21 = .ok (.goto 20, 3) := by decide +kernel
theorem dX8_most_24 : decode cX8_most 24 = .ok (.iload_n 0, 1) := by decide +kernel
theorem dX8_most_25 : decode cX8_most 25 = .ok (.iconst 3, 1) := by decide +kernel
theorem dX8_most_26 : decode cX8_most 26 = .ok (.if_icmp .eq 8, 3) := by decide +kernel
theorem dX8_most_29 : decode cX8_most 29 = .ok (.iload_n 0, 1) := by decide +kernel
theorem dX8_most_30 : decode cX8_most 30 = .ok (.iconst 4, 1) := by decide +kernel
theorem dX8_most_31 : decode cX8_most 31 = .ok (.if_icmp .ne 8, 3) := by decide +kernel
theorem dX8_most_34 : decode cX8_most 34 = .ok (.bipush 9, 2) := by decide +kernel
theorem dX8_most_36 : decode cX8_most 36 = .ok (.goto 5, 3) := by decide +kernel
theorem dX8_most_39 : decode cX8_most 39 = .ok (.bipush 99, 2) := by decide +kernel
theorem dX8_most_41 : decode cX8_most 41 = .ok (.ireturn, 1) := by decide +kernel
theorem dX8_set_0 : decode cX8_set 0 = .ok (.iload_n 1, 1) := by decide +kernel
theorem dX8_set_1 : decode cX8_set 1 = .ok (.i2l, 1) := by decide +kernel
theorem dX8_set_2 : decode cX8_set 2 = .ok (.lconst 0, 1) := by decide +kernel
theorem dX8_set_3 : decode cX8_set 3 = .ok (.ldc2_w 109, 3) := by decide +kernel
theorem dX8_set_6 : decode cX8_set 6 = .ok (.invokestatic 48, 3) := by decide +kernel
theorem dX8_set_9 : decode cX8_set 9 = .ok (.ifCond .eq 27, 3) := by decide +kernel
theorem dX8_set_12 : decode cX8_set 12 = .ok (.iload_n 2, 1) := by decide +kernel
theorem dX8_set_13 : decode cX8_set 13 = .ok (.i2l, 1) := by decide +kernel
theorem dX8_set_14 : decode cX8_set 14 = .ok (.iload_n 1, 1) := by decide +kernel
theorem dX8_set_15 : decode cX8_set 15 = .ok (.ifCond .ne 9, 3) := by decide +kernel
theorem dX8_set_18 : decode cX8_set 18 = .ok (.ldc2_w 111, 3) := by decide +kernel
theorem dX8_set_21 : decode cX8_set 21 = .ok (.goto 4, 3) := by decide +kernel
theorem dX8_set_24 : decode cX8_set 24 = .ok (.lconst 0, 1) := by decide +kernel
theorem dX8_set_25 : decode cX8_set 25 = .ok (.iload_n 1, 1) := by decide +kernel
theorem dX8_set_26 : decode cX8_set 26 = .ok (.invokestatic 113, 3) := by decide +kernel
theorem dX8_set_29 : decode cX8_set 29 = .ok (.i2l, 1) := by decide +kernel
theorem dX8_set_30 : decode cX8_set 30 = .ok (.invokestatic 48, 3) := by decide +kernel
theorem dX8_set_33 : decode cX8_set 33 = .ok (.ifCond .ne 6, 3) := by decide +kernel
theorem dX8_set_36 : decode cX8_set 36 = .ok (.bipush (-2), 2) := by decide +kernel
theorem dX8_set_38 : decode cX8_set 38 = .ok (.ireturn, 1) := by decide +kernel
theorem dX8_set_39 : decode cX8_set 39 = .ok (.aload_n 0, 1) := by decide +kernel
theorem dX8_set_40 : decode cX8_set 40 = .ok (.getfield 31, 3) := by decide +kernel
theorem dX8_set_43 : decode cX8_set 43 = .ok (.iload_n 1, 1) := by decide +kernel
theorem dX8_set_44 : decode cX8_set 44 = .ok (.iaload, 1) := by decide +kernel
theorem dX8_set_45 : decode cX8_set 45 = .ok (.istore_n 3, 1) := by decide +kernel
theorem dX8_set_46 : decode cX8_set 46 = .ok (.aload_n 0, 1) := by decide +kernel
theorem dX8_set_47 : decode cX8_set 47 = .ok (.getfield 31, 3) := by decide +kernel
theorem dX8_set_50 : decode cX8_set 50 = .ok (.iload_n 1, 1) := by decide +kernel
theorem dX8_set_51 : decode cX8_set 51 = .ok (.iload_n 2, 1) := by decide +kernel
theorem dX8_set_52 : decode cX8_set 52 = .ok (.iastore, 1) := by decide +kernel
theorem dX8_set_53 : decode cX8_set 53 = .ok (.iload_n 3, 1) := by decide +kernel
theorem dX8_set_54 : decode cX8_set 54 = .ok (.ireturn, 1) := by decide +kernel
theorem dX8_mark_0 : decode cX8_mark 0 = .ok (.iload_n 1, 1) := by decide +kernel
theorem dX8_mark_1 : decode cX8_mark 1 = .ok (.invokestatic 116, 3) := by decide +kernel
theorem dX8_mark_4 : decode cX8_mark 4 = .ok (.ifCond .eq 15, 3) := by decide +kernel
theorem dX8_mark_7 : decode cX8_mark 7 = .ok (.iload_n 2, 1) := by decide +kernel
theorem dX8_mark_8 : decode cX8_mark 8 = .ok (.i2l, 1) := by decide +kernel
theorem dX8_mark_9 : decode cX8_mark 9 = .ok (.lconst 0, 1) := by decide +kernel
theorem dX8_mark_10 : decode cX8_mark 10 = .ok (.ldc2_w 119, 3) := by decide +kernel
theorem dX8_mark_13 : decode cX8_mark 13 = .ok (.invokestatic 48, 3) := by decide +kernel
theorem dX8_mark_16 : decode cX8_mark 16 = .ok (.ifCond .ne 6, 3) := by decide +kernel
theorem dX8_mark_19 : decode cX8_mark 19 = .ok (.bipush (-2), 2) := by decide +kernel
theorem dX8_mark_21 : decode cX8_mark 21 = .ok (.ireturn, 1) := by decide +kernel
theorem dX8_mark_22 : decode cX8_mark 22 = .ok (.aload_n 0, 1) := by decide +kernel
theorem dX8_mark_23 : decode cX8_mark 23 = .ok (.getfield 34, 3) := by decide +kernel
theorem dX8_mark_26 : decode cX8_mark 26 = .ok (.iload_n 1, 1) := by decide +kernel
theorem dX8_mark_27 : decode cX8_mark 27 = .ok (.iaload, 1) := by decide +kernel
theorem dX8_mark_28 : decode cX8_mark 28 = .ok (.istore_n 3, 1) := by decide +kernel
theorem dX8_mark_29 : decode cX8_mark 29 = .ok (.aload_n 0, 1) := by decide +kernel
theorem dX8_mark_30 : decode cX8_mark 30 = .ok (.getfield 34, 3) := by decide +kernel
theorem dX8_mark_33 : decode cX8_mark 33 = .ok (.iload_n 1, 1) := by decide +kernel
theorem dX8_mark_34 : decode cX8_mark 34 = .ok (.iload_n 2, 1) := by decide +kernel
theorem dX8_mark_35 : decode cX8_mark 35 = .ok (.iastore, 1) := by decide +kernel
theorem dX8_mark_36 : decode cX8_mark 36 = .ok (.iload_n 3, 1) := by decide +kernel
theorem dX8_mark_37 : decode cX8_mark 37 = .ok (.ireturn, 1) := by decide +kernel
theorem dX8_slip_0 : decode cX8_slip 0 = .ok (.iload_n 1, 1) := by decide +kernel
theorem dX8_slip_1 : decode cX8_slip 1 = .ok (.invokestatic 116, 3) := by decide +kernel
theorem dX8_slip_4 : decode cX8_slip 4 = .ok (.ifCond .eq 17, 3) := by decide +kernel
theorem dX8_slip_7 : decode cX8_slip 7 = .ok (.iload_n 2, 1) := by decide +kernel
theorem dX8_slip_8 : decode cX8_slip 8 = .ok (.i2l, 1) := by decide +kernel
theorem dX8_slip_9 : decode cX8_slip 9 = .ok (.ldc2_w 121, 3) := by decide +kernel
theorem dX8_slip_12 : decode cX8_slip 12 = .ok (.ldc2_w 123, 3) := by decide +kernel
theorem dX8_slip_15 : decode cX8_slip 15 = .ok (.invokestatic 48, 3) := by decide +kernel
theorem dX8_slip_18 : decode cX8_slip 18 = .ok (.ifCond .ne 7, 3) := by decide +kernel
theorem dX8_slip_21 : decode cX8_slip 21 = .ok (.sipush (-1002), 3) := by decide +kernel
theorem dX8_slip_24 : decode cX8_slip 24 = .ok (.ireturn, 1) := by decide +kernel
theorem dX8_slip_25 : decode cX8_slip 25 = .ok (.aload_n 0, 1) := by decide +kernel
theorem dX8_slip_26 : decode cX8_slip 26 = .ok (.getfield 37, 3) := by decide +kernel
theorem dX8_slip_29 : decode cX8_slip 29 = .ok (.iload_n 1, 1) := by decide +kernel
theorem dX8_slip_30 : decode cX8_slip 30 = .ok (.iaload, 1) := by decide +kernel
theorem dX8_slip_31 : decode cX8_slip 31 = .ok (.istore_n 3, 1) := by decide +kernel
theorem dX8_slip_32 : decode cX8_slip 32 = .ok (.aload_n 0, 1) := by decide +kernel
theorem dX8_slip_33 : decode cX8_slip 33 = .ok (.getfield 37, 3) := by decide +kernel
theorem dX8_slip_36 : decode cX8_slip 36 = .ok (.iload_n 1, 1) := by decide +kernel
theorem dX8_slip_37 : decode cX8_slip 37 = .ok (.iload_n 2, 1) := by decide +kernel
theorem dX8_slip_38 : decode cX8_slip 38 = .ok (.iastore, 1) := by decide +kernel
theorem dX8_slip_39 : decode cX8_slip 39 = .ok (.iload_n 3, 1) := by decide +kernel
theorem dX8_slip_40 : decode cX8_slip 40 = .ok (.ireturn, 1) := by decide +kernel
theorem dX8_read_0 : decode cX8_read 0 = .ok (.iload_n 1, 1) := by decide +kernel
theorem dX8_read_1 : decode cX8_read 1 = .ok (.invokestatic 58, 3) := by decide +kernel
theorem dX8_read_4 : decode cX8_read 4 = .ok (.ifCond .ne 6, 3) := by decide +kernel
theorem dX8_read_7 : decode cX8_read 7 = .ok (.bipush (-2), 2) := by decide +kernel
theorem dX8_read_9 : decode cX8_read 9 = .ok (.ireturn, 1) := by decide +kernel
theorem dX8_read_10 : decode cX8_read 10 = .ok (.aload_n 0, 1) := by decide +kernel
theorem dX8_read_11 : decode cX8_read 11 = .ok (.getfield 7, 3) := by decide +kernel
theorem dX8_read_14 : decode cX8_read 14 = .ok (.iload_n 1, 1) := by decide +kernel
theorem dX8_read_15 : decode cX8_read 15 = .ok (.iaload, 1) := by decide +kernel
theorem dX8_read_16 : decode cX8_read 16 = .ok (.ifCond .ge 9, 3) := by decide +kernel
theorem dX8_read_19 : decode cX8_read 19 = .ok (.aload_n 0, 1) := by decide +kernel
theorem dX8_read_20 : decode cX8_read 20 = .ok (.iconst 1, 1) := by decide +kernel
theorem dX8_read_21 : decode cX8_read 21 = .ok (.invokevirtual 64, 3) := by decide +kernel
theorem dX8_read_24 : decode cX8_read 24 = .ok (.ireturn, 1) := by decide +kernel
theorem dX8_read_25 : decode cX8_read 25 = .ok (.iconst 0, 1) := by decide +kernel
theorem dX8_read_26 : decode cX8_read 26 = .ok (.istore_n 2, 1) := by decide +kernel
theorem dX8_read_27 : decode cX8_read 27 = .ok (.iload_n 2, 1) := by decide +kernel
theorem dX8_read_28 : decode cX8_read 28 = .ok (.aload_n 0, 1) := by decide +kernel
theorem dX8_read_29 : decode cX8_read 29 = .ok (.getfield 13, 3) := by decide +kernel
theorem dX8_read_32 : decode cX8_read 32 = .ok (.iload_n 1, 1) := by decide +kernel
theorem dX8_read_33 : decode cX8_read 33 = .ok (.iaload, 1) := by decide +kernel
theorem dX8_read_34 : decode cX8_read 34 = .ok (.if_icmp .ge 28, 3) := by decide +kernel
theorem dX8_read_37 : decode cX8_read 37 = .ok (.aload_n 0, 1) := by decide +kernel
theorem dX8_read_38 : decode cX8_read 38 = .ok (.iload_n 2, 1) := by decide +kernel
theorem dX8_read_39 : decode cX8_read 39 = .ok (.aload_n 0, 1) := by decide +kernel
theorem dX8_read_40 : decode cX8_read 40 = .ok (.getfield 16, 3) := by decide +kernel
theorem dX8_read_43 : decode cX8_read 43 = .ok (.bipush 60, 2) := by decide +kernel
theorem dX8_read_45 : decode cX8_read 45 = .ok (.iload_n 1, 1) := by decide +kernel
theorem dX8_read_46 : decode cX8_read 46 = .ok (.imul, 1) := by decide +kernel
theorem dX8_read_47 : decode cX8_read 47 = .ok (.iload_n 2, 1) := by decide +kernel
theorem dX8_read_48 : decode cX8_read 48 = .ok (.iadd, 1) := by decide +kernel
theorem dX8_read_49 : decode cX8_read 49 = .ok (.iaload, 1) := by decide +kernel
theorem dX8_read_50 : decode cX8_read 50 = .ok (.invokevirtual 125, 3) := by decide +kernel
theorem dX8_read_53 : decode cX8_read 53 = .ok (.ifCond .lt 9, 3) := by decide +kernel
theorem dX8_read_56 : decode cX8_read 56 = .ok (.iinc 2 1, 3) := by decide +kernel
theorem dX8_read_59 : decode cX8_read 59 = .ok (.goto (-32), 3) := by decide +kernel
theorem dX8_read_62 : decode cX8_read 62 = .ok (.iload_n 2, 1) := by decide +kernel
theorem dX8_read_63 : decode cX8_read 63 = .ok (.ireturn, 1) := by decide +kernel
theorem dX8_areThere_0 : decode cX8_areThere 0 = .ok (.aload_n 0, 1) := by decide +kernel
theorem dX8_areThere_1 : decode cX8_areThere 1 = .ok (.invokevirtual 101, 3) := by decide +kernel
theorem dX8_areThere_4 : decode cX8_areThere 4 = .ok (.pop, 1) := by decide +kernel
theorem dX8_areThere_5 : decode cX8_areThere 5 = .ok (.iconst 1, 1) := by decide +kernel
theorem dX8_areThere_6 : decode cX8_areThere 6 = .ok (.istore_n 1, 1) := by decide +kernel
theorem dX8_areThere_7 : decode cX8_areThere 7 = .ok (.iconst 0, 1) := by decide +kernel
theorem dX8_areThere_8 : decode cX8_areThere 8 = .ok (.istore_n 2, 1) := by decide +kernel
theorem dX8_areThere_9 : decode cX8_areThere 9 = .ok (.iload_n 2, 1) := by decide +kernel
theorem dX8_areThere_10 : decode cX8_areThere 10 = .ok (.iconst 4, 1) := by decide +kernel
theorem dX8_areThere_11 : decode cX8_areThere 11 = .ok (.if_icmp .ge 32, 3) := by decide +kernel
theorem dX8_areThere_14 : decode cX8_areThere 14 = .ok (.iload_n 1, 1) := by decide +kernel
theorem dX8_areThere_15 : decode cX8_areThere 15 = .ok (.ifCond .eq 20, 3) := by decide +kernel
theorem dX8_areThere_18 : decode cX8_areThere 18 = .ok (.aload_n 0, 1) := by decide +kernel
theorem dX8_areThere_19 : decode cX8_areThere 19 = .ok (.getfield 28, 3) := by decide +kernel
theorem dX8_areThere_22 : decode cX8_areThere 22 = .ok (.iload_n 2, 1) := by decide +kernel
theorem dX8_areThere_23 : decode cX8_areThere 23 = .ok (.iaload, 1) := by decide +kernel
theorem dX8_areThere_24 : decode cX8_areThere 24 = .ok (.aload_n 0, 1) := by decide +kernel
theorem dX8_areThere_25 : decode cX8_areThere 25 = .ok (.getfield 85, 3) := by decide +kernel
theorem dX8_areThere_28 : decode cX8_areThere 28 = .ok (.if_icmp .ge 7, 3) := by decide +kernel
theorem dX8_areThere_31 : decode cX8_areThere 31 = .ok (.iconst 1, 1) := by decide +kernel
theorem dX8_areThere_32 : decode cX8_areThere 32 = .ok (.goto 4, 3) := by decide +kernel
theorem dX8_areThere_35 : decode cX8_areThere 35 = .ok (.iconst 0, 1) := by decide +kernel
theorem dX8_areThere_36 : decode cX8_areThere 36 = .ok (.istore_n 1, 1) := by decide +kernel
theorem dX8_areThere_37 : decode cX8_areThere 37 = .ok (.iinc 2 1, 3) := by decide +kernel
theorem dX8_areThere_40 : decode cX8_areThere 40 = .ok (.goto (-31), 3) := by decide +kernel
theorem dX8_areThere_43 : decode cX8_areThere 43 = .ok (.iload_n 1, 1) := by decide +kernel
theorem dX8_areThere_44 : decode cX8_areThere 44 = .ok (.ireturn, 1) := by decide +kernel
theorem dX8_takesOf_0 : decode cX8_takesOf 0 = .ok (.iload_n 3, 1) := by decide +kernel
theorem dX8_takesOf_1 : decode cX8_takesOf 1 = .ok (.iconst 4, 1) := by decide +kernel
theorem dX8_takesOf_2 : decode cX8_takesOf 2 = .ok (.aload_n 0, 1) := by decide +kernel
theorem dX8_takesOf_3 : decode cX8_takesOf 3 = .ok (.getfield 25, 3) := by decide +kernel
theorem dX8_takesOf_6 : decode cX8_takesOf 6 = .ok (.iconst 4, 1) := by decide +kernel
theorem dX8_takesOf_7 : decode cX8_takesOf 7 = .ok (.iload_n 1, 1) := by decide +kernel
theorem dX8_takesOf_8 : decode cX8_takesOf 8 = .ok (.imul, 1) := by decide +kernel
theorem dX8_takesOf_9 : decode cX8_takesOf 9 = .ok (.iconst 2, 1) := by decide +kernel
theorem dX8_takesOf_10 : decode cX8_takesOf 10 = .ok (.iadd, 1) := by decide +kernel
theorem dX8_takesOf_11 : decode cX8_takesOf 11 = .ok (.iaload, 1) := by decide +kernel
theorem dX8_takesOf_12 : decode cX8_takesOf 12 = .ok (.imul, 1) := by decide +kernel
theorem dX8_takesOf_13 : decode cX8_takesOf 13 = .ok (.invokestatic 128, 3) := by decide +kernel
theorem dX8_takesOf_16 : decode cX8_takesOf 16 = .ok (.istore 4, 2) := by decide +kernel
theorem dX8_takesOf_18 : decode cX8_takesOf 18 = .ok (.aload_n 0, 1) := by decide +kernel
theorem dX8_takesOf_19 : decode cX8_takesOf 19 = .ok (.getfield 31, 3) := by decide +kernel
theorem dX8_takesOf_22 : decode cX8_takesOf 22 = .ok (.iconst 3, 1) := by decide +kernel
theorem dX8_takesOf_23 : decode cX8_takesOf 23 = .ok (.iaload, 1) := by decide +kernel
theorem dX8_takesOf_24 : decode cX8_takesOf 24 = .ok (.iload_n 2, 1) := by decide +kernel
theorem dX8_takesOf_25 : decode cX8_takesOf 25 = .ok (.iconst 2, 1) := by decide +kernel
theorem dX8_takesOf_26 : decode cX8_takesOf 26 = .ok (.irem, 1) := by decide +kernel
theorem dX8_takesOf_27 : decode cX8_takesOf 27 = .ok (.ifCond .ne 12, 3) := by decide +kernel
theorem dX8_takesOf_30 : decode cX8_takesOf 30 = .ok (.aload_n 0, 1) := by decide +kernel
theorem dX8_takesOf_31 : decode cX8_takesOf 31 = .ok (.getfield 31, 3) := by decide +kernel
theorem dX8_takesOf_34 : decode cX8_takesOf 34 = .ok (.iconst 4, 1) := by decide +kernel
theorem dX8_takesOf_35 : decode cX8_takesOf 35 = .ok (.iaload, 1) := by decide +kernel
theorem dX8_takesOf_36 : decode cX8_takesOf 36 = .ok (.goto 4, 3) := by decide +kernel
theorem dX8_takesOf_39 : decode cX8_takesOf 39 = .ok (.iconst 0, 1) := by decide +kernel
theorem dX8_takesOf_40 : decode cX8_takesOf 40 = .ok (.iadd, 1) := by decide +kernel
theorem dX8_takesOf_41 : decode cX8_takesOf 41 = .ok (.istore 5, 2) := by decide +kernel
theorem dX8_takesOf_43 : decode cX8_takesOf 43 = .ok (.iload 4, 2) := by decide +kernel
theorem dX8_takesOf_45 : decode cX8_takesOf 45 = .ok (.aload_n 0, 1) := by decide +kernel
theorem dX8_takesOf_46 : decode cX8_takesOf 46 = .ok (.getfield 25, 3) := by decide +kernel
theorem dX8_takesOf_49 : decode cX8_takesOf 49 = .ok (.iconst 4, 1) := by decide +kernel
theorem dX8_takesOf_50 : decode cX8_takesOf 50 = .ok (.iload_n 1, 1) := by decide +kernel
theorem dX8_takesOf_51 : decode cX8_takesOf 51 = .ok (.imul, 1) := by decide +kernel
theorem dX8_takesOf_52 : decode cX8_takesOf 52 = .ok (.iconst 1, 1) := by decide +kernel
theorem dX8_takesOf_53 : decode cX8_takesOf 53 = .ok (.iadd, 1) := by decide +kernel
theorem dX8_takesOf_54 : decode cX8_takesOf 54 = .ok (.iaload, 1) := by decide +kernel
theorem dX8_takesOf_55 : decode cX8_takesOf 55 = .ok (.imul, 1) := by decide +kernel
theorem dX8_takesOf_56 : decode cX8_takesOf 56 = .ok (.iload_n 3, 1) := by decide +kernel
theorem dX8_takesOf_57 : decode cX8_takesOf 57 = .ok (.iload 4, 2) := by decide +kernel
theorem dX8_takesOf_59 : decode cX8_takesOf 59 = .ok (.isub, 1) := by decide +kernel
theorem dX8_takesOf_60 : decode cX8_takesOf 60 = .ok (.aload_n 0, 1) := by decide +kernel
theorem dX8_takesOf_61 : decode cX8_takesOf 61 = .ok (.getfield 25, 3) := by decide +kernel
theorem dX8_takesOf_64 : decode cX8_takesOf 64 = .ok (.iconst 4, 1) := by decide +kernel
theorem dX8_takesOf_65 : decode cX8_takesOf 65 = .ok (.iload_n 1, 1) := by decide +kernel
theorem dX8_takesOf_66 : decode cX8_takesOf 66 = .ok (.imul, 1) := by decide +kernel
theorem dX8_takesOf_67 : decode cX8_takesOf 67 = .ok (.iaload, 1) := by decide +kernel
theorem dX8_takesOf_68 : decode cX8_takesOf 68 = .ok (.imul, 1) := by decide +kernel
theorem dX8_takesOf_69 : decode cX8_takesOf 69 = .ok (.iadd, 1) := by decide +kernel
theorem dX8_takesOf_70 : decode cX8_takesOf 70 = .ok (.iload_n 3, 1) := by decide +kernel
theorem dX8_takesOf_71 : decode cX8_takesOf 71 = .ok (.iload 5, 2) := by decide +kernel
theorem dX8_takesOf_73 : decode cX8_takesOf 73 = .ok (.imul, 1) := by decide +kernel
theorem dX8_takesOf_74 : decode cX8_takesOf 74 = .ok (.iadd, 1) := by decide +kernel
theorem dX8_takesOf_75 : decode cX8_takesOf 75 = .ok (.ireturn, 1) := by decide +kernel
theorem dX8_takes_0 : decode cX8_takes 0 = .ok (.aload_n 0, 1) := by decide +kernel
theorem dX8_takes_1 : decode cX8_takes 1 = .ok (.invokevirtual 101, 3) := by decide +kernel
theorem dX8_takes_4 : decode cX8_takes 4 = .ok (.pop, 1) := by decide +kernel
theorem dX8_takes_5 : decode cX8_takes 5 = .ok (.iload_n 1, 1) := by decide +kernel
theorem dX8_takes_6 : decode cX8_takes 6 = .ok (.i2l, 1) := by decide +kernel
theorem dX8_takes_7 : decode cX8_takes 7 = .ok (.lconst 0, 1) := by decide +kernel
theorem dX8_takes_8 : decode cX8_takes 8 = .ok (.aload_n 0, 1) := by decide +kernel
theorem dX8_takes_9 : decode cX8_takes 9 = .ok (.getfield 85, 3) := by decide +kernel
theorem dX8_takes_12 : decode cX8_takes 12 = .ok (.iconst 1, 1) := by decide +kernel
theorem dX8_takes_13 : decode cX8_takes 13 = .ok (.isub, 1) := by decide +kernel
theorem dX8_takes_14 : decode cX8_takes 14 = .ok (.i2l, 1) := by decide +kernel
theorem dX8_takes_15 : decode cX8_takes 15 = .ok (.invokestatic 48, 3) := by decide +kernel
theorem dX8_takes_18 : decode cX8_takes 18 = .ok (.ifCond .eq 32, 3) := by decide +kernel
theorem dX8_takes_21 : decode cX8_takes 21 = .ok (.iload_n 2, 1) := by decide +kernel
theorem dX8_takes_22 : decode cX8_takes 22 = .ok (.invokestatic 104, 3) := by decide +kernel
theorem dX8_takes_25 : decode cX8_takes 25 = .ok (.ifCond .eq 25, 3) := by decide +kernel
theorem dX8_takes_28 : decode cX8_takes 28 = .ok (.iload_n 3, 1) := by decide +kernel
theorem dX8_takes_29 : decode cX8_takes 29 = .ok (.i2l, 1) := by decide +kernel
theorem dX8_takes_30 : decode cX8_takes 30 = .ok (.lconst 0, 1) := by decide +kernel
theorem dX8_takes_31 : decode cX8_takes 31 = .ok (.ldc2_w 131, 3) := by decide +kernel
theorem dX8_takes_34 : decode cX8_takes 34 = .ok (.invokestatic 48, 3) := by decide +kernel
theorem dX8_takes_37 : decode cX8_takes 37 = .ok (.ifCond .eq 13, 3) := by decide +kernel
theorem dX8_takes_40 : decode cX8_takes 40 = .ok (.aload_n 0, 1) := by decide +kernel
theorem dX8_takes_41 : decode cX8_takes 41 = .ok (.iload_n 1, 1) := by decide +kernel
theorem dX8_takes_42 : decode cX8_takes 42 = .ok (.iload_n 2, 1) := by decide +kernel
theorem dX8_takes_43 : decode cX8_takes 43 = .ok (.iload_n 3, 1) := by decide +kernel
theorem dX8_takes_44 : decode cX8_takes 44 = .ok (.invokevirtual 133, 3) := by decide +kernel
theorem dX8_takes_47 : decode cX8_takes 47 = .ok (.goto 5, 3) := by decide +kernel
theorem dX8_takes_50 : decode cX8_takes 50 = .ok (.bipush (-2), 2) := by decide +kernel
theorem dX8_takes_52 : decode cX8_takes 52 = .ok (.ireturn, 1) := by decide +kernel
theorem dX8_delay_0 : decode cX8_delay 0 = .ok (.aload_n 0, 1) := by decide +kernel
theorem dX8_delay_1 : decode cX8_delay 1 = .ok (.getfield 31, 3) := by decide +kernel
theorem dX8_delay_4 : decode cX8_delay 4 = .ok (.iconst 2, 1) := by decide +kernel
theorem dX8_delay_5 : decode cX8_delay 5 = .ok (.iaload, 1) := by decide +kernel
theorem dX8_delay_6 : decode cX8_delay 6 = .ok (.iload 4, 2) := by decide +kernel
theorem dX8_delay_8 : decode cX8_delay 8 = .ok (.iadd, 1) := by decide +kernel
theorem dX8_delay_9 : decode cX8_delay 9 = .ok (.istore 5, 2) := by decide +kernel
theorem dX8_delay_11 : decode cX8_delay 11 = .ok (.aload_n 0, 1) := by decide +kernel
theorem dX8_delay_12 : decode cX8_delay 12 = .ok (.iload_n 1, 1) := by decide +kernel
theorem dX8_delay_13 : decode cX8_delay 13 = .ok (.iload_n 2, 1) := by decide +kernel
theorem dX8_delay_14 : decode cX8_delay 14 = .ok (.bipush 100, 2) := by decide +kernel
theorem dX8_delay_16 : decode cX8_delay 16 = .ok (.iload_n 3, 1) := by decide +kernel
theorem dX8_delay_17 : decode cX8_delay 17 = .ok (.isub, 1) := by decide +kernel
theorem dX8_delay_18 : decode cX8_delay 18 = .ok (.invokevirtual 133, 3) := by decide +kernel
theorem dX8_delay_21 : decode cX8_delay 21 = .ok (.iload 5, 2) := by decide +kernel
theorem dX8_delay_23 : decode cX8_delay 23 = .ok (.ifCond .ge 7, 3) := by decide +kernel
theorem dX8_delay_26 : decode cX8_delay 26 = .ok (.iconst 0, 1) := by decide +kernel
theorem dX8_delay_27 : decode cX8_delay 27 = .ok (.goto 5, 3) := by decide +kernel
theorem dX8_delay_30 : decode cX8_delay 30 = .ok (.iload 5, 2) := by decide +kernel
theorem dX8_delay_32 : decode cX8_delay 32 = .ok (.iadd, 1) := by decide +kernel
theorem dX8_delay_33 : decode cX8_delay 33 = .ok (.ireturn, 1) := by decide +kernel
theorem dX8_meetBy_0 : decode cX8_meetBy 0 = .ok (.aload_n 0, 1) := by decide +kernel
theorem dX8_meetBy_1 : decode cX8_meetBy 1 = .ok (.iload_n 1, 1) := by decide +kernel
theorem dX8_meetBy_2 : decode cX8_meetBy 2 = .ok (.iload_n 3, 1) := by decide +kernel
theorem dX8_meetBy_3 : decode cX8_meetBy 3 = .ok (.iload 4, 2) := by decide +kernel
theorem dX8_meetBy_5 : decode cX8_meetBy 5 = .ok (.iload 5, 2) := by decide +kernel
theorem dX8_meetBy_7 : decode cX8_meetBy 7 = .ok (.invokevirtual 136, 3) := by decide +kernel
theorem dX8_meetBy_10 : decode cX8_meetBy 10 = .ok (.istore 6, 2) := by decide +kernel
theorem dX8_meetBy_12 : decode cX8_meetBy 12 = .ok (.iconst 0, 1) := by decide +kernel
theorem dX8_meetBy_13 : decode cX8_meetBy 13 = .ok (.istore 7, 2) := by decide +kernel
theorem dX8_meetBy_15 : decode cX8_meetBy 15 = .ok (.iload 7, 2) := by decide +kernel
theorem dX8_meetBy_17 : decode cX8_meetBy 17 = .ok (.aload_n 0, 1) := by decide +kernel
theorem dX8_meetBy_18 : decode cX8_meetBy 18 = .ok (.getfield 31, 3) := by decide +kernel
theorem dX8_meetBy_21 : decode cX8_meetBy 21 = .ok (.iconst 0, 1) := by decide +kernel
theorem dX8_meetBy_22 : decode cX8_meetBy 22 = .ok (.iaload, 1) := by decide +kernel
theorem dX8_meetBy_23 : decode cX8_meetBy 23 = .ok (.if_icmp .gt 46, 3) := by decide +kernel
theorem dX8_meetBy_26 : decode cX8_meetBy 26 = .ok (.aload_n 0, 1) := by decide +kernel
theorem dX8_meetBy_27 : decode cX8_meetBy 27 = .ok (.iload_n 1, 1) := by decide +kernel
theorem dX8_meetBy_28 : decode cX8_meetBy 28 = .ok (.iload_n 3, 1) := by decide +kernel
theorem dX8_meetBy_29 : decode cX8_meetBy 29 = .ok (.bipush 100, 2) := by decide +kernel
theorem dX8_meetBy_31 : decode cX8_meetBy 31 = .ok (.iload 7, 2) := by decide +kernel
theorem dX8_meetBy_33 : decode cX8_meetBy 33 = .ok (.iadd, 1) := by decide +kernel
theorem dX8_meetBy_34 : decode cX8_meetBy 34 = .ok (.aload_n 0, 1) := by decide +kernel
theorem dX8_meetBy_35 : decode cX8_meetBy 35 = .ok (.getfield 31, 3) := by decide +kernel
theorem dX8_meetBy_38 : decode cX8_meetBy 38 = .ok (.iconst 1, 1) := by decide +kernel
theorem dX8_meetBy_39 : decode cX8_meetBy 39 = .ok (.iaload, 1) := by decide +kernel
theorem dX8_meetBy_40 : decode cX8_meetBy 40 = .ok (.isub, 1) := by decide +kernel
theorem dX8_meetBy_41 : decode cX8_meetBy 41 = .ok (.invokevirtual 133, 3) := by decide +kernel
theorem dX8_meetBy_44 : decode cX8_meetBy 44 = .ok (.iload 6, 2) := by decide +kernel
theorem dX8_meetBy_46 : decode cX8_meetBy 46 = .ok (.aload_n 0, 1) := by decide +kernel
theorem dX8_meetBy_47 : decode cX8_meetBy 47 = .ok (.iload_n 2, 1) := by decide +kernel
theorem dX8_meetBy_48 : decode cX8_meetBy 48 = .ok (.iload_n 3, 1) := by decide +kernel
theorem dX8_meetBy_49 : decode cX8_meetBy 49 = .ok (.iconst 1, 1) := by decide +kernel
theorem dX8_meetBy_50 : decode cX8_meetBy 50 = .ok (.iadd, 1) := by decide +kernel
theorem dX8_meetBy_51 : decode cX8_meetBy 51 = .ok (.iload 7, 2) := by decide +kernel
theorem dX8_meetBy_53 : decode cX8_meetBy 53 = .ok (.invokevirtual 133, 3) := by decide +kernel
theorem dX8_meetBy_56 : decode cX8_meetBy 56 = .ok (.iadd, 1) := by decide +kernel
theorem dX8_meetBy_57 : decode cX8_meetBy 57 = .ok (.if_icmp .gt 6, 3) := by decide +kernel
theorem dX8_meetBy_60 : decode cX8_meetBy 60 = .ok (.iload 7, 2) := by decide +kernel
theorem dX8_meetBy_62 : decode cX8_meetBy 62 = .ok (.ireturn, 1) := by decide +kernel
theorem dX8_meetBy_63 : decode cX8_meetBy 63 = .ok (.iinc 7 1, 3) := by decide +kernel
theorem dX8_meetBy_66 : decode cX8_meetBy 66 = .ok (.goto (-51), 3) := by decide +kernel
theorem dX8_meetBy_69 : decode cX8_meetBy 69 = .ok (.iconst (-1), 1) := by decide +kernel
theorem dX8_meetBy_70 : decode cX8_meetBy 70 = .ok (.ireturn, 1) := by decide +kernel
theorem dX8_meetOf_0 : decode cX8_meetOf 0 = .ok (.aload_n 0, 1) := by decide +kernel
theorem dX8_meetOf_1 : decode cX8_meetOf 1 = .ok (.aload_n 0, 1) := by decide +kernel
theorem dX8_meetOf_2 : decode cX8_meetOf 2 = .ok (.getfield 28, 3) := by decide +kernel
theorem dX8_meetOf_5 : decode cX8_meetOf 5 = .ok (.iload_n 1, 1) := by decide +kernel
theorem dX8_meetOf_6 : decode cX8_meetOf 6 = .ok (.iaload, 1) := by decide +kernel
theorem dX8_meetOf_7 : decode cX8_meetOf 7 = .ok (.aload_n 0, 1) := by decide +kernel
theorem dX8_meetOf_8 : decode cX8_meetOf 8 = .ok (.getfield 28, 3) := by decide +kernel
theorem dX8_meetOf_11 : decode cX8_meetOf 11 = .ok (.iload_n 1, 1) := by decide +kernel
theorem dX8_meetOf_12 : decode cX8_meetOf 12 = .ok (.iconst 1, 1) := by decide +kernel
theorem dX8_meetOf_13 : decode cX8_meetOf 13 = .ok (.iadd, 1) := by decide +kernel
theorem dX8_meetOf_14 : decode cX8_meetOf 14 = .ok (.iaload, 1) := by decide +kernel
theorem dX8_meetOf_15 : decode cX8_meetOf 15 = .ok (.iload_n 1, 1) := by decide +kernel
theorem dX8_meetOf_16 : decode cX8_meetOf 16 = .ok (.iload_n 2, 1) := by decide +kernel
theorem dX8_meetOf_17 : decode cX8_meetOf 17 = .ok (.iload_n 3, 1) := by decide +kernel
theorem dX8_meetOf_18 : decode cX8_meetOf 18 = .ok (.invokevirtual 140, 3) := by decide +kernel
theorem dX8_meetOf_21 : decode cX8_meetOf 21 = .ok (.ireturn, 1) := by decide +kernel
theorem dX8_goesOff_0 : decode cX8_goesOff 0 = .ok (.iconst 0, 1) := by decide +kernel
theorem dX8_goesOff_1 : decode cX8_goesOff 1 = .ok (.istore_n 2, 1) := by decide +kernel
theorem dX8_goesOff_2 : decode cX8_goesOff 2 = .ok (.iconst 0, 1) := by decide +kernel
theorem dX8_goesOff_3 : decode cX8_goesOff 3 = .ok (.istore_n 3, 1) := by decide +kernel
theorem dX8_goesOff_4 : decode cX8_goesOff 4 = .ok (.iload_n 3, 1) := by decide +kernel
theorem dX8_goesOff_5 : decode cX8_goesOff 5 = .ok (.iload_n 1, 1) := by decide +kernel
theorem dX8_goesOff_6 : decode cX8_goesOff 6 = .ok (.if_icmp .ge 35, 3) := by decide +kernel
theorem dX8_goesOff_9 : decode cX8_goesOff 9 = .ok (.iload_n 2, 1) := by decide +kernel
theorem dX8_goesOff_10 : decode cX8_goesOff 10 = .ok (.aload_n 0, 1) := by decide +kernel
theorem dX8_goesOff_11 : decode cX8_goesOff 11 = .ok (.aload_n 0, 1) := by decide +kernel
theorem dX8_goesOff_12 : decode cX8_goesOff 12 = .ok (.getfield 28, 3) := by decide +kernel
theorem dX8_goesOff_15 : decode cX8_goesOff 15 = .ok (.iload_n 3, 1) := by decide +kernel
theorem dX8_goesOff_16 : decode cX8_goesOff 16 = .ok (.iaload, 1) := by decide +kernel
theorem dX8_goesOff_17 : decode cX8_goesOff 17 = .ok (.iload_n 3, 1) := by decide +kernel
theorem dX8_goesOff_18 : decode cX8_goesOff 18 = .ok (.aload_n 0, 1) := by decide +kernel
theorem dX8_goesOff_19 : decode cX8_goesOff 19 = .ok (.getfield 34, 3) := by decide +kernel
theorem dX8_goesOff_22 : decode cX8_goesOff 22 = .ok (.iload_n 3, 1) := by decide +kernel
theorem dX8_goesOff_23 : decode cX8_goesOff 23 = .ok (.iaload, 1) := by decide +kernel
theorem dX8_goesOff_24 : decode cX8_goesOff 24 = .ok (.aload_n 0, 1) := by decide +kernel
theorem dX8_goesOff_25 : decode cX8_goesOff 25 = .ok (.getfield 37, 3) := by decide +kernel
theorem dX8_goesOff_28 : decode cX8_goesOff 28 = .ok (.iload_n 3, 1) := by decide +kernel
theorem dX8_goesOff_29 : decode cX8_goesOff 29 = .ok (.iaload, 1) := by decide +kernel
theorem dX8_goesOff_30 : decode cX8_goesOff 30 = .ok (.invokevirtual 136, 3) := by decide +kernel
theorem dX8_goesOff_33 : decode cX8_goesOff 33 = .ok (.iadd, 1) := by decide +kernel
theorem dX8_goesOff_34 : decode cX8_goesOff 34 = .ok (.istore_n 2, 1) := by decide +kernel
theorem dX8_goesOff_35 : decode cX8_goesOff 35 = .ok (.iinc 3 1, 3) := by decide +kernel
theorem dX8_goesOff_38 : decode cX8_goesOff 38 = .ok (.goto (-34), 3) := by decide +kernel
theorem dX8_goesOff_41 : decode cX8_goesOff 41 = .ok (.iload_n 2, 1) := by decide +kernel
theorem dX8_goesOff_42 : decode cX8_goesOff 42 = .ok (.ireturn, 1) := by decide +kernel
theorem dX8_when_0 : decode cX8_when 0 = .ok (.iload_n 1, 1) := by decide +kernel
theorem dX8_when_1 : decode cX8_when 1 = .ok (.invokestatic 104, 3) := by decide +kernel
theorem dX8_when_4 : decode cX8_when 4 = .ok (.ifCond .eq 10, 3) := by decide +kernel
theorem dX8_when_7 : decode cX8_when 7 = .ok (.iload_n 2, 1) := by decide +kernel
theorem dX8_when_8 : decode cX8_when 8 = .ok (.invokestatic 144, 3) := by decide +kernel
theorem dX8_when_11 : decode cX8_when 11 = .ok (.ifCond .ne 6, 3) := by decide +kernel
theorem dX8_when_14 : decode cX8_when 14 = .ok (.bipush (-2), 2) := by decide +kernel
theorem dX8_when_16 : decode cX8_when 16 = .ok (.ireturn, 1) := by decide +kernel
theorem dX8_when_17 : decode cX8_when 17 = .ok (.aload_n 0, 1) := by decide +kernel
theorem dX8_when_18 : decode cX8_when 18 = .ok (.invokevirtual 147, 3) := by decide +kernel
theorem dX8_when_21 : decode cX8_when 21 = .ok (.ifCond .ne 6, 3) := by decide +kernel
theorem dX8_when_24 : decode cX8_when 24 = .ok (.bipush (-3), 2) := by decide +kernel
theorem dX8_when_26 : decode cX8_when 26 = .ok (.ireturn, 1) := by decide +kernel
theorem dX8_when_27 : decode cX8_when 27 = .ok (.aload_n 0, 1) := by decide +kernel
theorem dX8_when_28 : decode cX8_when 28 = .ok (.iload_n 1, 1) := by decide +kernel
theorem dX8_when_29 : decode cX8_when 29 = .ok (.invokevirtual 150, 3) := by decide +kernel
theorem dX8_when_32 : decode cX8_when 32 = .ok (.iload_n 2, 1) := by decide +kernel
theorem dX8_when_33 : decode cX8_when 33 = .ok (.iconst 1, 1) := by decide +kernel
theorem dX8_when_34 : decode cX8_when 34 = .ok (.if_icmp .ne 19, 3) := by decide +kernel
theorem dX8_when_37 : decode cX8_when 37 = .ok (.aload_n 0, 1) := by decide +kernel
theorem dX8_when_38 : decode cX8_when 38 = .ok (.aload_n 0, 1) := by decide +kernel
theorem dX8_when_39 : decode cX8_when 39 = .ok (.getfield 28, 3) := by decide +kernel
theorem dX8_when_42 : decode cX8_when 42 = .ok (.iload_n 1, 1) := by decide +kernel
theorem dX8_when_43 : decode cX8_when 43 = .ok (.iaload, 1) := by decide +kernel
theorem dX8_when_44 : decode cX8_when 44 = .ok (.iload_n 1, 1) := by decide +kernel
theorem dX8_when_45 : decode cX8_when 45 = .ok (.bipush 100, 2) := by decide +kernel
theorem dX8_when_47 : decode cX8_when 47 = .ok (.invokevirtual 133, 3) := by decide +kernel
theorem dX8_when_50 : decode cX8_when 50 = .ok (.goto 4, 3) := by decide +kernel
theorem dX8_when_53 : decode cX8_when 53 = .ok (.iconst 0, 1) := by decide +kernel
theorem dX8_when_54 : decode cX8_when 54 = .ok (.iadd, 1) := by decide +kernel
theorem dX8_when_55 : decode cX8_when 55 = .ok (.ireturn, 1) := by decide +kernel
theorem dX8_meetNow_0 : decode cX8_meetNow 0 = .ok (.aload_n 0, 1) := by decide +kernel
theorem dX8_meetNow_1 : decode cX8_meetNow 1 = .ok (.invokevirtual 147, 3) := by decide +kernel
theorem dX8_meetNow_4 : decode cX8_meetNow 4 = .ok (.ifCond .eq 23, 3) := by decide +kernel
theorem dX8_meetNow_7 : decode cX8_meetNow 7 = .ok (.aload_n 0, 1) := by decide +kernel
theorem dX8_meetNow_8 : decode cX8_meetNow 8 = .ok (.iload_n 1, 1) := by decide +kernel
theorem dX8_meetNow_9 : decode cX8_meetNow 9 = .ok (.aload_n 0, 1) := by decide +kernel
theorem dX8_meetNow_10 : decode cX8_meetNow 10 = .ok (.getfield 34, 3) := by decide +kernel
theorem dX8_meetNow_13 : decode cX8_meetNow 13 = .ok (.iload_n 1, 1) := by decide +kernel
theorem dX8_meetNow_14 : decode cX8_meetNow 14 = .ok (.iaload, 1) := by decide +kernel
theorem dX8_meetNow_15 : decode cX8_meetNow 15 = .ok (.aload_n 0, 1) := by decide +kernel
theorem dX8_meetNow_16 : decode cX8_meetNow 16 = .ok (.getfield 37, 3) := by decide +kernel
theorem dX8_meetNow_19 : decode cX8_meetNow 19 = .ok (.iload_n 1, 1) := by decide +kernel
theorem dX8_meetNow_20 : decode cX8_meetNow 20 = .ok (.iaload, 1) := by decide +kernel
theorem dX8_meetNow_21 : decode cX8_meetNow 21 = .ok (.invokevirtual 153, 3) := by decide +kernel
theorem dX8_meetNow_24 : decode cX8_meetNow 24 = .ok (.goto 5, 3) := by decide +kernel
theorem dX8_meetNow_27 : decode cX8_meetNow 27 = .ok (.bipush (-3), 2) := by decide +kernel
theorem dX8_meetNow_29 : decode cX8_meetNow 29 = .ok (.ireturn, 1) := by decide +kernel
theorem dX8_meet_0 : decode cX8_meet 0 = .ok (.iload_n 1, 1) := by decide +kernel
theorem dX8_meet_1 : decode cX8_meet 1 = .ok (.invokestatic 116, 3) := by decide +kernel
theorem dX8_meet_4 : decode cX8_meet 4 = .ok (.ifCond .eq 11, 3) := by decide +kernel
theorem dX8_meet_7 : decode cX8_meet 7 = .ok (.aload_n 0, 1) := by decide +kernel
theorem dX8_meet_8 : decode cX8_meet 8 = .ok (.iload_n 1, 1) := by decide +kernel
theorem dX8_meet_9 : decode cX8_meet 9 = .ok (.invokevirtual 156, 3) := by decide +kernel
theorem dX8_meet_12 : decode cX8_meet 12 = .ok (.goto 5, 3) := by decide +kernel
theorem dX8_meet_15 : decode cX8_meet 15 = .ok (.bipush (-2), 2) := by decide +kernel
theorem dX8_meet_17 : decode cX8_meet 17 = .ok (.ireturn, 1) := by decide +kernel
theorem dX8_kindNow_0 : decode cX8_kindNow 0 = .ok (.aload_n 0, 1) := by decide +kernel
theorem dX8_kindNow_1 : decode cX8_kindNow 1 = .ok (.iload_n 1, 1) := by decide +kernel
theorem dX8_kindNow_2 : decode cX8_kindNow 2 = .ok (.invokevirtual 156, 3) := by decide +kernel
theorem dX8_kindNow_5 : decode cX8_kindNow 5 = .ok (.istore_n 2, 1) := by decide +kernel
theorem dX8_kindNow_6 : decode cX8_kindNow 6 = .ok (.iload_n 2, 1) := by decide +kernel
theorem dX8_kindNow_7 : decode cX8_kindNow 7 = .ok (.bipush (-3), 2) := by decide +kernel
theorem dX8_kindNow_9 : decode cX8_kindNow 9 = .ok (.if_icmp .ne 8, 3) := by decide +kernel
theorem dX8_kindNow_12 : decode cX8_kindNow 12 = .ok (.bipush (-3), 2) := by decide +kernel
theorem dX8_kindNow_14 : decode cX8_kindNow 14 = .ok (.goto 37, 3) := by decide +kernel
theorem dX8_kindNow_17 : decode cX8_kindNow 17 = .ok (.iload_n 2, 1) := by decide +kernel
theorem dX8_kindNow_18 : decode cX8_kindNow 18 = .ok (.iconst (-1), 1) := by decide +kernel
theorem dX8_kindNow_19 : decode cX8_kindNow 19 = .ok (.if_icmp .ne 7, 3) := by decide +kernel
theorem dX8_kindNow_22 : decode cX8_kindNow 22 = .ok (.iconst 3, 1) := by decide +kernel
theorem dX8_kindNow_23 : decode cX8_kindNow 23 = .ok (.goto 28, 3) := by decide +kernel
theorem dX8_kindNow_26 : decode cX8_kindNow 26 = .ok (.iload_n 2, 1) := by decide +kernel
theorem dX8_kindNow_27 : decode cX8_kindNow 27 = .ok (.ifCond .ne 7, 3) := by decide +kernel
theorem dX8_kindNow_30 : decode cX8_kindNow 30 = .ok (.iconst 2, 1) := by decide +kernel
theorem dX8_kindNow_31 : decode cX8_kindNow 31 = .ok (.goto 20, 3) := by decide +kernel
theorem dX8_kindNow_34 : decode cX8_kindNow 34 = .ok (.iload_n 2, 1) := by decide +kernel
theorem dX8_kindNow_35 : decode cX8_kindNow 35 = .ok (.aload_n 0, 1) := by decide +kernel
theorem dX8_kindNow_36 : decode cX8_kindNow 36 = .ok (.getfield 31, 3) := by decide +kernel
theorem dX8_kindNow_39 : decode cX8_kindNow 39 = .ok (.iconst 0, 1) := by decide +kernel
theorem dX8_kindNow_40 : decode cX8_kindNow 40 = .ok (.iaload, 1) := by decide +kernel
theorem dX8_kindNow_41 : decode cX8_kindNow 41 = .ok (.iconst 2, 1) := by decide +kernel
theorem dX8_kindNow_42 : decode cX8_kindNow 42 = .ok (.isub, 1) := by decide +kernel
theorem dX8_kindNow_43 : decode cX8_kindNow 43 = .ok (.if_icmp .lt 7, 3) := by decide +kernel
theorem dX8_kindNow_46 : decode cX8_kindNow 46 = .ok (.iconst 1, 1) := by decide +kernel
theorem dX8_kindNow_47 : decode cX8_kindNow 47 = .ok (.goto 4, 3) := by decide +kernel
theorem dX8_kindNow_50 : decode cX8_kindNow 50 = .ok (.iconst 0, 1) := by decide +kernel
theorem dX8_kindNow_51 : decode cX8_kindNow 51 = .ok (.ireturn, 1) := by decide +kernel
theorem dX8_kind_0 : decode cX8_kind 0 = .ok (.iload_n 1, 1) := by decide +kernel
theorem dX8_kind_1 : decode cX8_kind 1 = .ok (.invokestatic 116, 3) := by decide +kernel
theorem dX8_kind_4 : decode cX8_kind 4 = .ok (.ifCond .eq 11, 3) := by decide +kernel
theorem dX8_kind_7 : decode cX8_kind 7 = .ok (.aload_n 0, 1) := by decide +kernel
theorem dX8_kind_8 : decode cX8_kind 8 = .ok (.iload_n 1, 1) := by decide +kernel
theorem dX8_kind_9 : decode cX8_kind 9 = .ok (.invokevirtual 159, 3) := by decide +kernel
theorem dX8_kind_12 : decode cX8_kind 12 = .ok (.goto 5, 3) := by decide +kernel
theorem dX8_kind_15 : decode cX8_kind 15 = .ok (.bipush (-2), 2) := by decide +kernel
theorem dX8_kind_17 : decode cX8_kind 17 = .ok (.ireturn, 1) := by decide +kernel
theorem dX8_timeOf_0 : decode cX8_timeOf 0 = .ok (.aload_n 0, 1) := by decide +kernel
theorem dX8_timeOf_1 : decode cX8_timeOf 1 = .ok (.iconst 3, 1) := by decide +kernel
theorem dX8_timeOf_2 : decode cX8_timeOf 2 = .ok (.invokevirtual 150, 3) := by decide +kernel
theorem dX8_timeOf_5 : decode cX8_timeOf 5 = .ok (.aload_n 0, 1) := by decide +kernel
theorem dX8_timeOf_6 : decode cX8_timeOf 6 = .ok (.aload_n 0, 1) := by decide +kernel
theorem dX8_timeOf_7 : decode cX8_timeOf 7 = .ok (.getfield 28, 3) := by decide +kernel
theorem dX8_timeOf_10 : decode cX8_timeOf 10 = .ok (.iconst 3, 1) := by decide +kernel
theorem dX8_timeOf_11 : decode cX8_timeOf 11 = .ok (.iaload, 1) := by decide +kernel
theorem dX8_timeOf_12 : decode cX8_timeOf 12 = .ok (.iconst 3, 1) := by decide +kernel
theorem dX8_timeOf_13 : decode cX8_timeOf 13 = .ok (.bipush 100, 2) := by decide +kernel
theorem dX8_timeOf_15 : decode cX8_timeOf 15 = .ok (.invokevirtual 133, 3) := by decide +kernel
theorem dX8_timeOf_18 : decode cX8_timeOf 18 = .ok (.iadd, 1) := by decide +kernel
theorem dX8_timeOf_19 : decode cX8_timeOf 19 = .ok (.istore_n 1, 1) := by decide +kernel
theorem dX8_timeOf_20 : decode cX8_timeOf 20 = .ok (.iconst 0, 1) := by decide +kernel
theorem dX8_timeOf_21 : decode cX8_timeOf 21 = .ok (.istore_n 2, 1) := by decide +kernel
theorem dX8_timeOf_22 : decode cX8_timeOf 22 = .ok (.iload_n 2, 1) := by decide +kernel
theorem dX8_timeOf_23 : decode cX8_timeOf 23 = .ok (.iconst 3, 1) := by decide +kernel
theorem dX8_timeOf_24 : decode cX8_timeOf 24 = .ok (.if_icmp .ge 51, 3) := by decide +kernel
theorem dX8_timeOf_27 : decode cX8_timeOf 27 = .ok (.aload_n 0, 1) := by decide +kernel
theorem dX8_timeOf_28 : decode cX8_timeOf 28 = .ok (.iload_n 2, 1) := by decide +kernel
theorem dX8_timeOf_29 : decode cX8_timeOf 29 = .ok (.aload_n 0, 1) := by decide +kernel
theorem dX8_timeOf_30 : decode cX8_timeOf 30 = .ok (.getfield 34, 3) := by decide +kernel
theorem dX8_timeOf_33 : decode cX8_timeOf 33 = .ok (.iload_n 2, 1) := by decide +kernel
theorem dX8_timeOf_34 : decode cX8_timeOf 34 = .ok (.iaload, 1) := by decide +kernel
theorem dX8_timeOf_35 : decode cX8_timeOf 35 = .ok (.aload_n 0, 1) := by decide +kernel
theorem dX8_timeOf_36 : decode cX8_timeOf 36 = .ok (.getfield 37, 3) := by decide +kernel
theorem dX8_timeOf_39 : decode cX8_timeOf 39 = .ok (.iload_n 2, 1) := by decide +kernel
theorem dX8_timeOf_40 : decode cX8_timeOf 40 = .ok (.iaload, 1) := by decide +kernel
theorem dX8_timeOf_41 : decode cX8_timeOf 41 = .ok (.invokevirtual 153, 3) := by decide +kernel
theorem dX8_timeOf_44 : decode cX8_timeOf 44 = .ok (.istore_n 3, 1) := by decide +kernel
theorem dX8_timeOf_45 : decode cX8_timeOf 45 = .ok (.iload_n 3, 1) := by decide +kernel
theorem dX8_timeOf_46 : decode cX8_timeOf 46 = .ok (.iconst (-1), 1) := by decide +kernel
theorem dX8_timeOf_47 : decode cX8_timeOf 47 = .ok (.if_icmp .ne 5, 3) := by decide +kernel
theorem dX8_timeOf_50 : decode cX8_timeOf 50 = .ok (.iconst (-1), 1) := by decide +kernel
theorem dX8_timeOf_51 : decode cX8_timeOf 51 = .ok (.ireturn, 1) := by decide +kernel
theorem dX8_timeOf_52 : decode cX8_timeOf 52 = .ok (.iload_n 1, 1) := by decide +kernel
theorem dX8_timeOf_53 : decode cX8_timeOf 53 = .ok (.iload_n 3, 1) := by decide +kernel
theorem dX8_timeOf_54 : decode cX8_timeOf 54 = .ok (.ifCond .ne 12, 3) := by decide +kernel
theorem dX8_timeOf_57 : decode cX8_timeOf 57 = .ok (.aload_n 0, 1) := by decide +kernel
theorem dX8_timeOf_58 : decode cX8_timeOf 58 = .ok (.getfield 31, 3) := by decide +kernel
theorem dX8_timeOf_61 : decode cX8_timeOf 61 = .ok (.iconst 5, 1) := by decide +kernel
theorem dX8_timeOf_62 : decode cX8_timeOf 62 = .ok (.iaload, 1) := by decide +kernel
theorem dX8_timeOf_63 : decode cX8_timeOf 63 = .ok (.goto 4, 3) := by decide +kernel
theorem dX8_timeOf_66 : decode cX8_timeOf 66 = .ok (.iconst 0, 1) := by decide +kernel
theorem dX8_timeOf_67 : decode cX8_timeOf 67 = .ok (.iadd, 1) := by decide +kernel
theorem dX8_timeOf_68 : decode cX8_timeOf 68 = .ok (.istore_n 1, 1) := by decide +kernel
theorem dX8_timeOf_69 : decode cX8_timeOf 69 = .ok (.iinc 2 1, 3) := by decide +kernel
theorem dX8_timeOf_72 : decode cX8_timeOf 72 = .ok (.goto (-50), 3) := by decide +kernel
theorem dX8_timeOf_75 : decode cX8_timeOf 75 = .ok (.iload_n 1, 1) := by decide +kernel
theorem dX8_timeOf_76 : decode cX8_timeOf 76 = .ok (.ireturn, 1) := by decide +kernel
theorem dX8_time_0 : decode cX8_time 0 = .ok (.aload_n 0, 1) := by decide +kernel
theorem dX8_time_1 : decode cX8_time 1 = .ok (.invokevirtual 147, 3) := by decide +kernel
theorem dX8_time_4 : decode cX8_time 4 = .ok (.ifCond .eq 10, 3) := by decide +kernel
theorem dX8_time_7 : decode cX8_time 7 = .ok (.aload_n 0, 1) := by decide +kernel
theorem dX8_time_8 : decode cX8_time 8 = .ok (.invokevirtual 162, 3) := by decide +kernel
theorem dX8_time_11 : decode cX8_time 11 = .ok (.goto 5, 3) := by decide +kernel
theorem dX8_time_14 : decode cX8_time 14 = .ok (.bipush (-3), 2) := by decide +kernel
theorem dX8_time_16 : decode cX8_time 16 = .ok (.ireturn, 1) := by decide +kernel
theorem dX8_carriesOf_0 : decode cX8_carriesOf 0 = .ok (.iload_n 1, 1) := by decide +kernel
theorem dX8_carriesOf_1 : decode cX8_carriesOf 1 = .ok (.ifCond .ne 7, 3) := by decide +kernel
theorem dX8_carriesOf_4 : decode cX8_carriesOf 4 = .ok (.iconst 0, 1) := by decide +kernel
theorem dX8_carriesOf_5 : decode cX8_carriesOf 5 = .ok (.goto 26, 3) := by decide +kernel
theorem dX8_carriesOf_8 : decode cX8_carriesOf 8 = .ok (.aload_n 0, 1) := by decide +kernel
theorem dX8_carriesOf_9 : decode cX8_carriesOf 9 = .ok (.iload_n 1, 1) := by decide +kernel
theorem dX8_carriesOf_10 : decode cX8_carriesOf 10 = .ok (.iconst 1, 1) := by decide +kernel
theorem dX8_carriesOf_11 : decode cX8_carriesOf 11 = .ok (.isub, 1) := by decide +kernel
theorem dX8_carriesOf_12 : decode cX8_carriesOf 12 = .ok (.aload_n 0, 1) := by decide +kernel
theorem dX8_carriesOf_13 : decode cX8_carriesOf 13 = .ok (.getfield 34, 3) := by decide +kernel
theorem dX8_carriesOf_16 : decode cX8_carriesOf 16 = .ok (.iload_n 1, 1) := by decide +kernel
theorem dX8_carriesOf_17 : decode cX8_carriesOf 17 = .ok (.iconst 1, 1) := by decide +kernel
theorem dX8_carriesOf_18 : decode cX8_carriesOf 18 = .ok (.isub, 1) := by decide +kernel
theorem dX8_carriesOf_19 : decode cX8_carriesOf 19 = .ok (.iaload, 1) := by decide +kernel
theorem dX8_carriesOf_20 : decode cX8_carriesOf 20 = .ok (.aload_n 0, 1) := by decide +kernel
theorem dX8_carriesOf_21 : decode cX8_carriesOf 21 = .ok (.getfield 37, 3) := by decide +kernel
theorem dX8_carriesOf_24 : decode cX8_carriesOf 24 = .ok (.iload_n 1, 1) := by decide +kernel
theorem dX8_carriesOf_25 : decode cX8_carriesOf 25 = .ok (.iconst 1, 1) := by decide +kernel
theorem dX8_carriesOf_26 : decode cX8_carriesOf 26 = .ok (.isub, 1) := by decide +kernel
theorem dX8_carriesOf_27 : decode cX8_carriesOf 27 = .ok (.iaload, 1) := by decide +kernel
theorem dX8_carriesOf_28 : decode cX8_carriesOf 28 = .ok (.invokevirtual 153, 3) := by decide +kernel
theorem dX8_carriesOf_31 : decode cX8_carriesOf 31 = .ok (.istore_n 2, 1) := by decide +kernel
theorem dX8_carriesOf_32 : decode cX8_carriesOf 32 = .ok (.iload_n 1, 1) := by decide +kernel
theorem dX8_carriesOf_33 : decode cX8_carriesOf 33 = .ok (.iconst 3, 1) := by decide +kernel
theorem dX8_carriesOf_34 : decode cX8_carriesOf 34 = .ok (.if_icmp .ne 7, 3) := by decide +kernel
theorem dX8_carriesOf_37 : decode cX8_carriesOf 37 = .ok (.iconst 0, 1) := by decide +kernel
theorem dX8_carriesOf_38 : decode cX8_carriesOf 38 = .ok (.goto 20, 3) := by decide +kernel
theorem dX8_carriesOf_41 : decode cX8_carriesOf 41 = .ok (.aload_n 0, 1) := by decide +kernel
theorem dX8_carriesOf_42 : decode cX8_carriesOf 42 = .ok (.iload_n 1, 1) := by decide +kernel
theorem dX8_carriesOf_43 : decode cX8_carriesOf 43 = .ok (.aload_n 0, 1) := by decide +kernel
theorem dX8_carriesOf_44 : decode cX8_carriesOf 44 = .ok (.getfield 34, 3) := by decide +kernel
theorem dX8_carriesOf_47 : decode cX8_carriesOf 47 = .ok (.iload_n 1, 1) := by decide +kernel
theorem dX8_carriesOf_48 : decode cX8_carriesOf 48 = .ok (.iaload, 1) := by decide +kernel
theorem dX8_carriesOf_49 : decode cX8_carriesOf 49 = .ok (.aload_n 0, 1) := by decide +kernel
theorem dX8_carriesOf_50 : decode cX8_carriesOf 50 = .ok (.getfield 37, 3) := by decide +kernel
theorem dX8_carriesOf_53 : decode cX8_carriesOf 53 = .ok (.iload_n 1, 1) := by decide +kernel
theorem dX8_carriesOf_54 : decode cX8_carriesOf 54 = .ok (.iaload, 1) := by decide +kernel
theorem dX8_carriesOf_55 : decode cX8_carriesOf 55 = .ok (.invokevirtual 153, 3) := by decide +kernel
theorem dX8_carriesOf_58 : decode cX8_carriesOf 58 = .ok (.istore_n 3, 1) := by decide +kernel
theorem dX8_carriesOf_59 : decode cX8_carriesOf 59 = .ok (.iload_n 2, 1) := by decide +kernel
theorem dX8_carriesOf_60 : decode cX8_carriesOf 60 = .ok (.iconst (-1), 1) := by decide +kernel
theorem dX8_carriesOf_61 : decode cX8_carriesOf 61 = .ok (.if_icmp .eq 8, 3) := by decide +kernel
theorem dX8_carriesOf_64 : decode cX8_carriesOf 64 = .ok (.iload_n 3, 1) := by decide +kernel
theorem dX8_carriesOf_65 : decode cX8_carriesOf 65 = .ok (.iconst (-1), 1) := by decide +kernel
theorem dX8_carriesOf_66 : decode cX8_carriesOf 66 = .ok (.if_icmp .ne 7, 3) := by decide +kernel
theorem dX8_carriesOf_69 : decode cX8_carriesOf 69 = .ok (.iconst (-1), 1) := by decide +kernel
theorem dX8_carriesOf_70 : decode cX8_carriesOf 70 = .ok (.goto 9, 3) := by decide +kernel
theorem dX8_carriesOf_73 : decode cX8_carriesOf 73 = .ok (.bipush 100, 2) := by decide +kernel
theorem dX8_carriesOf_75 : decode cX8_carriesOf 75 = .ok (.iload_n 3, 1) := by decide +kernel
theorem dX8_carriesOf_76 : decode cX8_carriesOf 76 = .ok (.iadd, 1) := by decide +kernel
theorem dX8_carriesOf_77 : decode cX8_carriesOf 77 = .ok (.iload_n 2, 1) := by decide +kernel
theorem dX8_carriesOf_78 : decode cX8_carriesOf 78 = .ok (.isub, 1) := by decide +kernel
theorem dX8_carriesOf_79 : decode cX8_carriesOf 79 = .ok (.ireturn, 1) := by decide +kernel
theorem dX8_carriesNow_0 : decode cX8_carriesNow 0 = .ok (.aload_n 0, 1) := by decide +kernel
theorem dX8_carriesNow_1 : decode cX8_carriesNow 1 = .ok (.invokevirtual 147, 3) := by decide +kernel
theorem dX8_carriesNow_4 : decode cX8_carriesNow 4 = .ok (.ifCond .eq 11, 3) := by decide +kernel
theorem dX8_carriesNow_7 : decode cX8_carriesNow 7 = .ok (.aload_n 0, 1) := by decide +kernel
theorem dX8_carriesNow_8 : decode cX8_carriesNow 8 = .ok (.iload_n 1, 1) := by decide +kernel
theorem dX8_carriesNow_9 : decode cX8_carriesNow 9 = .ok (.invokevirtual 165, 3) := by decide +kernel
theorem dX8_carriesNow_12 : decode cX8_carriesNow 12 = .ok (.goto 5, 3) := by decide +kernel
theorem dX8_carriesNow_15 : decode cX8_carriesNow 15 = .ok (.bipush (-3), 2) := by decide +kernel
theorem dX8_carriesNow_17 : decode cX8_carriesNow 17 = .ok (.ireturn, 1) := by decide +kernel
theorem dX8_carries_0 : decode cX8_carries 0 = .ok (.iload_n 1, 1) := by decide +kernel
theorem dX8_carries_1 : decode cX8_carries 1 = .ok (.invokestatic 104, 3) := by decide +kernel
theorem dX8_carries_4 : decode cX8_carries 4 = .ok (.ifCond .eq 11, 3) := by decide +kernel
theorem dX8_carries_7 : decode cX8_carries 7 = .ok (.aload_n 0, 1) := by decide +kernel
theorem dX8_carries_8 : decode cX8_carries 8 = .ok (.iload_n 1, 1) := by decide +kernel
theorem dX8_carries_9 : decode cX8_carries 9 = .ok (.invokevirtual 168, 3) := by decide +kernel
theorem dX8_carries_12 : decode cX8_carries 12 = .ok (.goto 5, 3) := by decide +kernel
theorem dX8_carries_15 : decode cX8_carries 15 = .ok (.bipush (-2), 2) := by decide +kernel
theorem dX8_carries_17 : decode cX8_carries 17 = .ok (.ireturn, 1) := by decide +kernel
theorem dX8_oddsOf_0 : decode cX8_oddsOf 0 = .ok (.iload_n 0, 1) := by decide +kernel
theorem dX8_oddsOf_1 : decode cX8_oddsOf 1 = .ok (.iconst 2, 1) := by decide +kernel
theorem dX8_oddsOf_2 : decode cX8_oddsOf 2 = .ok (.if_icmp .ne 8, 3) := by decide +kernel
theorem dX8_oddsOf_5 : decode cX8_oddsOf 5 = .ok (.bipush 6, 2) := by decide +kernel
theorem dX8_oddsOf_7 : decode cX8_oddsOf 7 = .ok (.goto 15, 3) := by decide +kernel
theorem dX8_oddsOf_10 : decode cX8_oddsOf 10 = .ok (.iload_n 0, 1) := by decide +kernel
theorem dX8_oddsOf_11 : decode cX8_oddsOf 11 = .ok (.iconst 2, 1) := by decide +kernel
theorem dX8_oddsOf_12 : decode cX8_oddsOf 12 = .ok (.irem, 1) := by decide +kernel
theorem dX8_oddsOf_13 : decode cX8_oddsOf 13 = .ok (.iconst 1, 1) := by decide +kernel
theorem dX8_oddsOf_14 : decode cX8_oddsOf 14 = .ok (.if_icmp .ne 7, 3) := by decide +kernel
theorem dX8_oddsOf_17 : decode cX8_oddsOf 17 = .ok (.iconst 4, 1) := by decide +kernel
theorem dX8_oddsOf_18 : decode cX8_oddsOf 18 = .ok (.goto 4, 3) := by decide +kernel
theorem dX8_oddsOf_21 : decode cX8_oddsOf 21 = .ok (.iconst 1, 1) := by decide +kernel
theorem dX8_oddsOf_22 : decode cX8_oddsOf 22 = .ok (.ireturn, 1) := by decide +kernel
theorem dX8_chanceBy_0 : decode cX8_chanceBy 0 = .ok (.iconst 0, 1) := by decide +kernel
theorem dX8_chanceBy_1 : decode cX8_chanceBy 1 = .ok (.istore_n 3, 1) := by decide +kernel
theorem dX8_chanceBy_2 : decode cX8_chanceBy 2 = .ok (.iconst 0, 1) := by decide +kernel
theorem dX8_chanceBy_3 : decode cX8_chanceBy 3 = .ok (.istore 4, 2) := by decide +kernel
theorem dX8_chanceBy_5 : decode cX8_chanceBy 5 = .ok (.iload 4, 2) := by decide +kernel
theorem dX8_chanceBy_7 : decode cX8_chanceBy 7 = .ok (.iconst 5, 1) := by decide +kernel
theorem dX8_chanceBy_8 : decode cX8_chanceBy 8 = .ok (.if_icmp .ge 43, 3) := by decide +kernel
theorem dX8_chanceBy_11 : decode cX8_chanceBy 11 = .ok (.iload_n 3, 1) := by decide +kernel
theorem dX8_chanceBy_12 : decode cX8_chanceBy 12 = .ok (.aload_n 0, 1) := by decide +kernel
theorem dX8_chanceBy_13 : decode cX8_chanceBy 13 = .ok (.iload_n 1, 1) := by decide +kernel
theorem dX8_chanceBy_14 : decode cX8_chanceBy 14 = .ok (.iload_n 2, 1) := by decide +kernel
theorem dX8_chanceBy_15 : decode cX8_chanceBy 15 = .ok (.iload 4, 2) := by decide +kernel
theorem dX8_chanceBy_17 : decode cX8_chanceBy 17 = .ok (.iconst 2, 1) := by decide +kernel
theorem dX8_chanceBy_18 : decode cX8_chanceBy 18 = .ok (.isub, 1) := by decide +kernel
theorem dX8_chanceBy_19 : decode cX8_chanceBy 19 = .ok (.aload_n 0, 1) := by decide +kernel
theorem dX8_chanceBy_20 : decode cX8_chanceBy 20 = .ok (.getfield 31, 3) := by decide +kernel
theorem dX8_chanceBy_23 : decode cX8_chanceBy 23 = .ok (.bipush 6, 2) := by decide +kernel
theorem dX8_chanceBy_25 : decode cX8_chanceBy 25 = .ok (.iaload, 1) := by decide +kernel
theorem dX8_chanceBy_26 : decode cX8_chanceBy 26 = .ok (.imul, 1) := by decide +kernel
theorem dX8_chanceBy_27 : decode cX8_chanceBy 27 = .ok (.invokevirtual 153, 3) := by decide +kernel
theorem dX8_chanceBy_30 : decode cX8_chanceBy 30 = .ok (.iconst (-1), 1) := by decide +kernel
theorem dX8_chanceBy_31 : decode cX8_chanceBy 31 = .ok (.if_icmp .ne 7, 3) := by decide +kernel
theorem dX8_chanceBy_34 : decode cX8_chanceBy 34 = .ok (.iconst 0, 1) := by decide +kernel
theorem dX8_chanceBy_35 : decode cX8_chanceBy 35 = .ok (.goto 8, 3) := by decide +kernel
theorem dX8_chanceBy_38 : decode cX8_chanceBy 38 = .ok (.iload 4, 2) := by decide +kernel
theorem dX8_chanceBy_40 : decode cX8_chanceBy 40 = .ok (.invokestatic 171, 3) := by decide +kernel
theorem dX8_chanceBy_43 : decode cX8_chanceBy 43 = .ok (.iadd, 1) := by decide +kernel
theorem dX8_chanceBy_44 : decode cX8_chanceBy 44 = .ok (.istore_n 3, 1) := by decide +kernel
theorem dX8_chanceBy_45 : decode cX8_chanceBy 45 = .ok (.iinc 4 1, 3) := by decide +kernel
theorem dX8_chanceBy_48 : decode cX8_chanceBy 48 = .ok (.goto (-43), 3) := by decide +kernel
theorem dX8_chanceBy_51 : decode cX8_chanceBy 51 = .ok (.iload_n 3, 1) := by decide +kernel
theorem dX8_chanceBy_52 : decode cX8_chanceBy 52 = .ok (.ireturn, 1) := by decide +kernel
theorem dX8_chanceNow_0 : decode cX8_chanceNow 0 = .ok (.aload_n 0, 1) := by decide +kernel
theorem dX8_chanceNow_1 : decode cX8_chanceNow 1 = .ok (.invokevirtual 147, 3) := by decide +kernel
theorem dX8_chanceNow_4 : decode cX8_chanceNow 4 = .ok (.ifCond .eq 17, 3) := by decide +kernel
theorem dX8_chanceNow_7 : decode cX8_chanceNow 7 = .ok (.aload_n 0, 1) := by decide +kernel
theorem dX8_chanceNow_8 : decode cX8_chanceNow 8 = .ok (.iload_n 1, 1) := by decide +kernel
theorem dX8_chanceNow_9 : decode cX8_chanceNow 9 = .ok (.aload_n 0, 1) := by decide +kernel
theorem dX8_chanceNow_10 : decode cX8_chanceNow 10 = .ok (.getfield 34, 3) := by decide +kernel
theorem dX8_chanceNow_13 : decode cX8_chanceNow 13 = .ok (.iload_n 1, 1) := by decide +kernel
theorem dX8_chanceNow_14 : decode cX8_chanceNow 14 = .ok (.iaload, 1) := by decide +kernel
theorem dX8_chanceNow_15 : decode cX8_chanceNow 15 = .ok (.invokevirtual 174, 3) := by decide +kernel
theorem dX8_chanceNow_18 : decode cX8_chanceNow 18 = .ok (.goto 5, 3) := by decide +kernel
theorem dX8_chanceNow_21 : decode cX8_chanceNow 21 = .ok (.bipush (-3), 2) := by decide +kernel
theorem dX8_chanceNow_23 : decode cX8_chanceNow 23 = .ok (.ireturn, 1) := by decide +kernel
theorem dX8_chance_0 : decode cX8_chance 0 = .ok (.iload_n 1, 1) := by decide +kernel
theorem dX8_chance_1 : decode cX8_chance 1 = .ok (.invokestatic 116, 3) := by decide +kernel
theorem dX8_chance_4 : decode cX8_chance 4 = .ok (.ifCond .eq 11, 3) := by decide +kernel
theorem dX8_chance_7 : decode cX8_chance 7 = .ok (.aload_n 0, 1) := by decide +kernel
theorem dX8_chance_8 : decode cX8_chance 8 = .ok (.iload_n 1, 1) := by decide +kernel
theorem dX8_chance_9 : decode cX8_chance 9 = .ok (.invokevirtual 177, 3) := by decide +kernel
theorem dX8_chance_12 : decode cX8_chance 12 = .ok (.goto 5, 3) := by decide +kernel
theorem dX8_chance_15 : decode cX8_chance 15 = .ok (.bipush (-2), 2) := by decide +kernel
theorem dX8_chance_17 : decode cX8_chance 17 = .ok (.ireturn, 1) := by decide +kernel
theorem dX8_part_0 : decode cX8_part 0 = .ok (.lload_n 0, 1) := by decide +kernel
theorem dX8_part_1 : decode cX8_part 1 = .ok (.lstore 5, 2) := by decide +kernel
theorem dX8_part_3 : decode cX8_part 3 = .ok (.lload_n 2, 1) := by decide +kernel
theorem dX8_part_4 : decode cX8_part 4 = .ok (.lstore 7, 2) := by decide +kernel
theorem dX8_part_6 : decode cX8_part 6 = .ok (.lload 7, 2) := by decide +kernel
theorem dX8_part_8 : decode cX8_part 8 = .ok (.lconst 0, 1) := by decide +kernel
theorem dX8_part_9 : decode cX8_part 9 = .ok (.lcmp, 1) := by decide +kernel
theorem dX8_part_10 : decode cX8_part 10 = .ok (.ifCond .eq 21, 3) := by decide +kernel
theorem dX8_part_13 : decode cX8_part 13 = .ok (.lload 5, 2) := by decide +kernel
theorem dX8_part_15 : decode cX8_part 15 = .ok (.lload 7, 2) := by decide +kernel
theorem dX8_part_17 : decode cX8_part 17 = .ok (.lrem, 1) := by decide +kernel
theorem dX8_part_18 : decode cX8_part 18 = .ok (.lstore 9, 2) := by decide +kernel
theorem dX8_part_20 : decode cX8_part 20 = .ok (.lload 7, 2) := by decide +kernel
theorem dX8_part_22 : decode cX8_part 22 = .ok (.lstore 5, 2) := by decide +kernel
theorem dX8_part_24 : decode cX8_part 24 = .ok (.lload 9, 2) := by decide +kernel
theorem dX8_part_26 : decode cX8_part 26 = .ok (.lstore 7, 2) := by decide +kernel
theorem dX8_part_28 : decode cX8_part 28 = .ok (.goto (-22), 3) := by decide +kernel
theorem dX8_part_31 : decode cX8_part 31 = .ok (.iload 4, 2) := by decide +kernel
theorem dX8_part_33 : decode cX8_part 33 = .ok (.ifCond .ne 7, 3) := by decide +kernel
theorem dX8_part_36 : decode cX8_part 36 = .ok (.lload_n 0, 1) := by decide +kernel
theorem dX8_part_37 : decode cX8_part 37 = .ok (.goto 4, 3) := by decide +kernel
theorem dX8_part_40 : decode cX8_part 40 = .ok (.lload_n 2, 1) := by decide +kernel
theorem dX8_part_41 : decode cX8_part 41 = .ok (.lload 5, 2) := by decide +kernel
theorem dX8_part_43 : decode cX8_part 43 = .ok (.ldiv, 1) := by decide +kernel
theorem dX8_part_44 : decode cX8_part 44 = .ok (.lreturn, 1) := by decide +kernel
theorem dX8_allNow_0 : decode cX8_allNow 0 = .ok (.aload_n 0, 1) := by decide +kernel
theorem dX8_allNow_1 : decode cX8_allNow 1 = .ok (.invokevirtual 147, 3) := by decide +kernel
theorem dX8_allNow_4 : decode cX8_allNow 4 = .ok (.ifCond .ne 9, 3) := by decide +kernel
theorem dX8_allNow_7 : decode cX8_allNow 7 = .ok (.bipush (-3), 2) := by decide +kernel
theorem dX8_allNow_9 : decode cX8_allNow 9 = .ok (.invokestatic 180, 3) := by decide +kernel
theorem dX8_allNow_12 : decode cX8_allNow 12 = .ok (.lreturn, 1) := by decide +kernel
theorem dX8_allNow_13 : decode cX8_allNow 13 = .ok (.lconst 1, 1) := by decide +kernel
theorem dX8_allNow_14 : decode cX8_allNow 14 = .ok (.lstore_n 2, 1) := by decide +kernel
theorem dX8_allNow_15 : decode cX8_allNow 15 = .ok (.iconst 0, 1) := by decide +kernel
theorem dX8_allNow_16 : decode cX8_allNow 16 = .ok (.istore 4, 2) := by decide +kernel
theorem dX8_allNow_18 : decode cX8_allNow 18 = .ok (.iload 4, 2) := by decide +kernel
theorem dX8_allNow_20 : decode cX8_allNow 20 = .ok (.iconst 3, 1) := by decide +kernel
theorem dX8_allNow_21 : decode cX8_allNow 21 = .ok (.if_icmp .ge 26, 3) := by decide +kernel
theorem dX8_allNow_24 : decode cX8_allNow 24 = .ok (.lload_n 2, 1) := by decide +kernel
theorem dX8_allNow_25 : decode cX8_allNow 25 = .ok (.aload_n 0, 1) := by decide +kernel
theorem dX8_allNow_26 : decode cX8_allNow 26 = .ok (.iload 4, 2) := by decide +kernel
theorem dX8_allNow_28 : decode cX8_allNow 28 = .ok (.aload_n 0, 1) := by decide +kernel
theorem dX8_allNow_29 : decode cX8_allNow 29 = .ok (.getfield 34, 3) := by decide +kernel
theorem dX8_allNow_32 : decode cX8_allNow 32 = .ok (.iload 4, 2) := by decide +kernel
theorem dX8_allNow_34 : decode cX8_allNow 34 = .ok (.iaload, 1) := by decide +kernel
theorem dX8_allNow_35 : decode cX8_allNow 35 = .ok (.invokevirtual 174, 3) := by decide +kernel
theorem dX8_allNow_38 : decode cX8_allNow 38 = .ok (.i2l, 1) := by decide +kernel
theorem dX8_allNow_39 : decode cX8_allNow 39 = .ok (.lmul, 1) := by decide +kernel
theorem dX8_allNow_40 : decode cX8_allNow 40 = .ok (.lstore_n 2, 1) := by decide +kernel
theorem dX8_allNow_41 : decode cX8_allNow 41 = .ok (.iinc 4 1, 3) := by decide +kernel
theorem dX8_allNow_44 : decode cX8_allNow 44 = .ok (.goto (-26), 3) := by decide +kernel
theorem dX8_allNow_47 : decode cX8_allNow 47 = .ok (.lload_n 2, 1) := by decide +kernel
theorem dX8_allNow_48 : decode cX8_allNow 48 = .ok (.ldc2_w 184, 3) := by decide +kernel
theorem dX8_allNow_51 : decode cX8_allNow 51 = .ok (.iload_n 1, 1) := by decide +kernel
theorem dX8_allNow_52 : decode cX8_allNow 52 = .ok (.invokestatic 186, 3) := by decide +kernel
theorem dX8_allNow_55 : decode cX8_allNow 55 = .ok (.lreturn, 1) := by decide +kernel
theorem dX8_all_0 : decode cX8_all 0 = .ok (.iload_n 1, 1) := by decide +kernel
theorem dX8_all_1 : decode cX8_all 1 = .ok (.invokestatic 144, 3) := by decide +kernel
theorem dX8_all_4 : decode cX8_all 4 = .ok (.ifCond .eq 11, 3) := by decide +kernel
theorem dX8_all_7 : decode cX8_all 7 = .ok (.aload_n 0, 1) := by decide +kernel
theorem dX8_all_8 : decode cX8_all 8 = .ok (.iload_n 1, 1) := by decide +kernel
theorem dX8_all_9 : decode cX8_all 9 = .ok (.invokevirtual 190, 3) := by decide +kernel
theorem dX8_all_12 : decode cX8_all 12 = .ok (.goto 8, 3) := by decide +kernel
theorem dX8_all_15 : decode cX8_all 15 = .ok (.bipush (-2), 2) := by decide +kernel
theorem dX8_all_17 : decode cX8_all 17 = .ok (.invokestatic 180, 3) := by decide +kernel
theorem dX8_all_20 : decode cX8_all 20 = .ok (.lreturn, 1) := by decide +kernel
theorem dX8_safeNow_0 : decode cX8_safeNow 0 = .ok (.aload_n 0, 1) := by decide +kernel
theorem dX8_safeNow_1 : decode cX8_safeNow 1 = .ok (.invokevirtual 147, 3) := by decide +kernel
theorem dX8_safeNow_4 : decode cX8_safeNow 4 = .ok (.ifCond .ne 6, 3) := by decide +kernel
theorem dX8_safeNow_7 : decode cX8_safeNow 7 = .ok (.bipush (-3), 2) := by decide +kernel
theorem dX8_safeNow_9 : decode cX8_safeNow 9 = .ok (.ireturn, 1) := by decide +kernel
theorem dX8_safeNow_10 : decode cX8_safeNow 10 = .ok (.bipush 40, 2) := by decide +kernel
theorem dX8_safeNow_12 : decode cX8_safeNow 12 = .ok (.istore_n 3, 1) := by decide +kernel
theorem dX8_safeNow_13 : decode cX8_safeNow 13 = .ok (.iload_n 3, 1) := by decide +kernel
theorem dX8_safeNow_14 : decode cX8_safeNow 14 = .ok (.ifCond .lt 19, 3) := by decide +kernel
theorem dX8_safeNow_17 : decode cX8_safeNow 17 = .ok (.aload_n 0, 1) := by decide +kernel
theorem dX8_safeNow_18 : decode cX8_safeNow 18 = .ok (.iload_n 1, 1) := by decide +kernel
theorem dX8_safeNow_19 : decode cX8_safeNow 19 = .ok (.iload_n 3, 1) := by decide +kernel
theorem dX8_safeNow_20 : decode cX8_safeNow 20 = .ok (.invokevirtual 174, 3) := by decide +kernel
theorem dX8_safeNow_23 : decode cX8_safeNow 23 = .ok (.iload_n 2, 1) := by decide +kernel
theorem dX8_safeNow_24 : decode cX8_safeNow 24 = .ok (.if_icmp .ge 9, 3) := by decide +kernel
theorem dX8_safeNow_27 : decode cX8_safeNow 27 = .ok (.iinc 3 (-1), 3) := by decide +kernel
theorem dX8_safeNow_30 : decode cX8_safeNow 30 = .ok (.goto (-17), 3) := by decide +kernel
theorem dX8_safeNow_33 : decode cX8_safeNow 33 = .ok (.iload_n 3, 1) := by decide +kernel
theorem dX8_safeNow_34 : decode cX8_safeNow 34 = .ok (.ireturn, 1) := by decide +kernel
theorem dX8_safe_0 : decode cX8_safe 0 = .ok (.iload_n 1, 1) := by decide +kernel
theorem dX8_safe_1 : decode cX8_safe 1 = .ok (.invokestatic 116, 3) := by decide +kernel
theorem dX8_safe_4 : decode cX8_safe 4 = .ok (.ifCond .eq 24, 3) := by decide +kernel
theorem dX8_safe_7 : decode cX8_safe 7 = .ok (.iload_n 2, 1) := by decide +kernel
theorem dX8_safe_8 : decode cX8_safe 8 = .ok (.i2l, 1) := by decide +kernel
theorem dX8_safe_9 : decode cX8_safe 9 = .ok (.lconst 0, 1) := by decide +kernel
theorem dX8_safe_10 : decode cX8_safe 10 = .ok (.ldc2_w 193, 3) := by decide +kernel
theorem dX8_safe_13 : decode cX8_safe 13 = .ok (.invokestatic 48, 3) := by decide +kernel
theorem dX8_safe_16 : decode cX8_safe 16 = .ok (.ifCond .eq 12, 3) := by decide +kernel
theorem dX8_safe_19 : decode cX8_safe 19 = .ok (.aload_n 0, 1) := by decide +kernel
theorem dX8_safe_20 : decode cX8_safe 20 = .ok (.iload_n 1, 1) := by decide +kernel
theorem dX8_safe_21 : decode cX8_safe 21 = .ok (.iload_n 2, 1) := by decide +kernel
theorem dX8_safe_22 : decode cX8_safe 22 = .ok (.invokevirtual 195, 3) := by decide +kernel
theorem dX8_safe_25 : decode cX8_safe 25 = .ok (.goto 5, 3) := by decide +kernel
theorem dX8_safe_28 : decode cX8_safe 28 = .ok (.bipush (-2), 2) := by decide +kernel
theorem dX8_safe_30 : decode cX8_safe 30 = .ok (.ireturn, 1) := by decide +kernel
theorem dX8_lost_0 : decode cX8_lost 0 = .ok (.iload_n 1, 1) := by decide +kernel
theorem dX8_lost_1 : decode cX8_lost 1 = .ok (.ifCond .ne 12, 3) := by decide +kernel
theorem dX8_lost_4 : decode cX8_lost 4 = .ok (.aload_n 0, 1) := by decide +kernel
theorem dX8_lost_5 : decode cX8_lost 5 = .ok (.getfield 31, 3) := by decide +kernel
theorem dX8_lost_8 : decode cX8_lost 8 = .ok (.iconst 5, 1) := by decide +kernel
theorem dX8_lost_9 : decode cX8_lost 9 = .ok (.iaload, 1) := by decide +kernel
theorem dX8_lost_10 : decode cX8_lost 10 = .ok (.goto 4, 3) := by decide +kernel
theorem dX8_lost_13 : decode cX8_lost 13 = .ok (.iconst 0, 1) := by decide +kernel
theorem dX8_lost_14 : decode cX8_lost 14 = .ok (.ireturn, 1) := by decide +kernel
theorem dX8_bestBy_0 : decode cX8_bestBy 0 = .ok (.iconst (-1), 1) := by decide +kernel
theorem dX8_bestBy_1 : decode cX8_bestBy 1 = .ok (.istore 5, 2) := by decide +kernel
theorem dX8_bestBy_3 : decode cX8_bestBy 3 = .ok (.iconst 0, 1) := by decide +kernel
theorem dX8_bestBy_4 : decode cX8_bestBy 4 = .ok (.istore 6, 2) := by decide +kernel
theorem dX8_bestBy_6 : decode cX8_bestBy 6 = .ok (.iconst 0, 1) := by decide +kernel
theorem dX8_bestBy_7 : decode cX8_bestBy 7 = .ok (.istore 7, 2) := by decide +kernel
theorem dX8_bestBy_9 : decode cX8_bestBy 9 = .ok (.iload 7, 2) := by decide +kernel
theorem dX8_bestBy_11 : decode cX8_bestBy 11 = .ok (.bipush 40, 2) := by decide +kernel
theorem dX8_bestBy_13 : decode cX8_bestBy 13 = .ok (.if_icmp .gt 68, 3) := by decide +kernel
theorem dX8_bestBy_16 : decode cX8_bestBy 16 = .ok (.aload_n 0, 1) := by decide +kernel
theorem dX8_bestBy_17 : decode cX8_bestBy 17 = .ok (.iload_n 1, 1) := by decide +kernel
theorem dX8_bestBy_18 : decode cX8_bestBy 18 = .ok (.iload_n 2, 1) := by decide +kernel
theorem dX8_bestBy_19 : decode cX8_bestBy 19 = .ok (.iload_n 3, 1) := by decide +kernel
theorem dX8_bestBy_20 : decode cX8_bestBy 20 = .ok (.iload 7, 2) := by decide +kernel
theorem dX8_bestBy_22 : decode cX8_bestBy 22 = .ok (.iload 4, 2) := by decide +kernel
theorem dX8_bestBy_24 : decode cX8_bestBy 24 = .ok (.invokevirtual 140, 3) := by decide +kernel
theorem dX8_bestBy_27 : decode cX8_bestBy 27 = .ok (.istore 8, 2) := by decide +kernel
theorem dX8_bestBy_29 : decode cX8_bestBy 29 = .ok (.aload_n 0, 1) := by decide +kernel
theorem dX8_bestBy_30 : decode cX8_bestBy 30 = .ok (.iload_n 1, 1) := by decide +kernel
theorem dX8_bestBy_31 : decode cX8_bestBy 31 = .ok (.iload_n 3, 1) := by decide +kernel
theorem dX8_bestBy_32 : decode cX8_bestBy 32 = .ok (.iload 7, 2) := by decide +kernel
theorem dX8_bestBy_34 : decode cX8_bestBy 34 = .ok (.iload 4, 2) := by decide +kernel
theorem dX8_bestBy_36 : decode cX8_bestBy 36 = .ok (.invokevirtual 136, 3) := by decide +kernel
theorem dX8_bestBy_39 : decode cX8_bestBy 39 = .ok (.aload_n 0, 1) := by decide +kernel
theorem dX8_bestBy_40 : decode cX8_bestBy 40 = .ok (.iload 8, 2) := by decide +kernel
theorem dX8_bestBy_42 : decode cX8_bestBy 42 = .ok (.invokevirtual 198, 3) := by decide +kernel
theorem dX8_bestBy_45 : decode cX8_bestBy 45 = .ok (.iadd, 1) := by decide +kernel
theorem dX8_bestBy_46 : decode cX8_bestBy 46 = .ok (.istore 9, 2) := by decide +kernel
theorem dX8_bestBy_48 : decode cX8_bestBy 48 = .ok (.iload 8, 2) := by decide +kernel
theorem dX8_bestBy_50 : decode cX8_bestBy 50 = .ok (.iconst (-1), 1) := by decide +kernel
theorem dX8_bestBy_51 : decode cX8_bestBy 51 = .ok (.if_icmp .eq 24, 3) := by decide +kernel
theorem dX8_bestBy_54 : decode cX8_bestBy 54 = .ok (.iload 5, 2) := by decide +kernel
theorem dX8_bestBy_56 : decode cX8_bestBy 56 = .ok (.iconst (-1), 1) := by decide +kernel
theorem dX8_bestBy_57 : decode cX8_bestBy 57 = .ok (.if_icmp .eq 10, 3) := by decide +kernel
theorem dX8_bestBy_60 : decode cX8_bestBy 60 = .ok (.iload 9, 2) := by decide +kernel
theorem dX8_bestBy_62 : decode cX8_bestBy 62 = .ok (.iload 6, 2) := by decide +kernel
theorem dX8_bestBy_64 : decode cX8_bestBy 64 = .ok (.if_icmp .ge 11, 3) := by decide +kernel
theorem dX8_bestBy_67 : decode cX8_bestBy 67 = .ok (.iload 7, 2) := by decide +kernel
theorem dX8_bestBy_69 : decode cX8_bestBy 69 = .ok (.istore 5, 2) := by decide +kernel
theorem dX8_bestBy_71 : decode cX8_bestBy 71 = .ok (.iload 9, 2) := by decide +kernel
theorem dX8_bestBy_73 : decode cX8_bestBy 73 = .ok (.istore 6, 2) := by decide +kernel
theorem dX8_bestBy_75 : decode cX8_bestBy 75 = .ok (.iinc 7 1, 3) := by decide +kernel
theorem dX8_bestBy_78 : decode cX8_bestBy 78 = .ok (.goto (-69), 3) := by decide +kernel
theorem dX8_bestBy_81 : decode cX8_bestBy 81 = .ok (.iload 5, 2) := by decide +kernel
theorem dX8_bestBy_83 : decode cX8_bestBy 83 = .ok (.ireturn, 1) := by decide +kernel
theorem dX8_bestNow_0 : decode cX8_bestNow 0 = .ok (.aload_n 0, 1) := by decide +kernel
theorem dX8_bestNow_1 : decode cX8_bestNow 1 = .ok (.invokevirtual 147, 3) := by decide +kernel
theorem dX8_bestNow_4 : decode cX8_bestNow 4 = .ok (.ifCond .eq 31, 3) := by decide +kernel
theorem dX8_bestNow_7 : decode cX8_bestNow 7 = .ok (.aload_n 0, 1) := by decide +kernel
theorem dX8_bestNow_8 : decode cX8_bestNow 8 = .ok (.aload_n 0, 1) := by decide +kernel
theorem dX8_bestNow_9 : decode cX8_bestNow 9 = .ok (.getfield 28, 3) := by decide +kernel
theorem dX8_bestNow_12 : decode cX8_bestNow 12 = .ok (.iload_n 1, 1) := by decide +kernel
theorem dX8_bestNow_13 : decode cX8_bestNow 13 = .ok (.iaload, 1) := by decide +kernel
theorem dX8_bestNow_14 : decode cX8_bestNow 14 = .ok (.aload_n 0, 1) := by decide +kernel
theorem dX8_bestNow_15 : decode cX8_bestNow 15 = .ok (.getfield 28, 3) := by decide +kernel
theorem dX8_bestNow_18 : decode cX8_bestNow 18 = .ok (.iload_n 1, 1) := by decide +kernel
theorem dX8_bestNow_19 : decode cX8_bestNow 19 = .ok (.iconst 1, 1) := by decide +kernel
theorem dX8_bestNow_20 : decode cX8_bestNow 20 = .ok (.iadd, 1) := by decide +kernel
theorem dX8_bestNow_21 : decode cX8_bestNow 21 = .ok (.iaload, 1) := by decide +kernel
theorem dX8_bestNow_22 : decode cX8_bestNow 22 = .ok (.iload_n 1, 1) := by decide +kernel
theorem dX8_bestNow_23 : decode cX8_bestNow 23 = .ok (.aload_n 0, 1) := by decide +kernel
theorem dX8_bestNow_24 : decode cX8_bestNow 24 = .ok (.getfield 37, 3) := by decide +kernel
theorem dX8_bestNow_27 : decode cX8_bestNow 27 = .ok (.iload_n 1, 1) := by decide +kernel
theorem dX8_bestNow_28 : decode cX8_bestNow 28 = .ok (.iaload, 1) := by decide +kernel
theorem dX8_bestNow_29 : decode cX8_bestNow 29 = .ok (.invokevirtual 201, 3) := by decide +kernel
theorem dX8_bestNow_32 : decode cX8_bestNow 32 = .ok (.goto 5, 3) := by decide +kernel
theorem dX8_bestNow_35 : decode cX8_bestNow 35 = .ok (.bipush (-3), 2) := by decide +kernel
theorem dX8_bestNow_37 : decode cX8_bestNow 37 = .ok (.ireturn, 1) := by decide +kernel
theorem dX8_best_0 : decode cX8_best 0 = .ok (.iload_n 1, 1) := by decide +kernel
theorem dX8_best_1 : decode cX8_best 1 = .ok (.invokestatic 116, 3) := by decide +kernel
theorem dX8_best_4 : decode cX8_best 4 = .ok (.ifCond .eq 11, 3) := by decide +kernel
theorem dX8_best_7 : decode cX8_best 7 = .ok (.aload_n 0, 1) := by decide +kernel
theorem dX8_best_8 : decode cX8_best 8 = .ok (.iload_n 1, 1) := by decide +kernel
theorem dX8_best_9 : decode cX8_best 9 = .ok (.invokevirtual 204, 3) := by decide +kernel
theorem dX8_best_12 : decode cX8_best 12 = .ok (.goto 5, 3) := by decide +kernel
theorem dX8_best_15 : decode cX8_best 15 = .ok (.bipush (-2), 2) := by decide +kernel
theorem dX8_best_17 : decode cX8_best 17 = .ok (.ireturn, 1) := by decide +kernel
theorem dX8_hands_0 : decode cX8_hands 0 = .ok (.iconst 1, 1) := by decide +kernel
theorem dX8_hands_1 : decode cX8_hands 1 = .ok (.istore_n 1, 1) := by decide +kernel
theorem dX8_hands_2 : decode cX8_hands 2 = .ok (.iconst 1, 1) := by decide +kernel
theorem dX8_hands_3 : decode cX8_hands 3 = .ok (.istore_n 2, 1) := by decide +kernel
theorem dX8_hands_4 : decode cX8_hands 4 = .ok (.iconst 0, 1) := by decide +kernel
theorem dX8_hands_5 : decode cX8_hands 5 = .ok (.istore_n 3, 1) := by decide +kernel
theorem dX8_hands_6 : decode cX8_hands 6 = .ok (.iload_n 3, 1) := by decide +kernel
theorem dX8_hands_7 : decode cX8_hands 7 = .ok (.iconst 4, 1) := by decide +kernel
theorem dX8_hands_8 : decode cX8_hands 8 = .ok (.if_icmp .ge 82, 3) := by decide +kernel
theorem dX8_hands_11 : decode cX8_hands 11 = .ok (.aload_n 0, 1) := by decide +kernel
theorem dX8_hands_12 : decode cX8_hands 12 = .ok (.getfield 25, 3) := by decide +kernel
theorem dX8_hands_15 : decode cX8_hands 15 = .ok (.iconst 4, 1) := by decide +kernel
theorem dX8_hands_16 : decode cX8_hands 16 = .ok (.aload_n 0, 1) := by decide +kernel
theorem dX8_hands_17 : decode cX8_hands 17 = .ok (.getfield 43, 3) := by decide +kernel
theorem dX8_hands_20 : decode cX8_hands 20 = .ok (.iconst 1, 1) := by decide +kernel
theorem dX8_hands_21 : decode cX8_hands 21 = .ok (.iload_n 3, 1) := by decide +kernel
theorem dX8_hands_22 : decode cX8_hands 22 = .ok (.iadd, 1) := by decide +kernel
theorem dX8_hands_23 : decode cX8_hands 23 = .ok (.iaload, 1) := by decide +kernel
theorem dX8_hands_24 : decode cX8_hands 24 = .ok (.imul, 1) := by decide +kernel
theorem dX8_hands_25 : decode cX8_hands 25 = .ok (.iconst 3, 1) := by decide +kernel
theorem dX8_hands_26 : decode cX8_hands 26 = .ok (.iadd, 1) := by decide +kernel
theorem dX8_hands_27 : decode cX8_hands 27 = .ok (.iaload, 1) := by decide +kernel
theorem dX8_hands_28 : decode cX8_hands 28 = .ok (.istore 4, 2) := by decide +kernel
theorem dX8_hands_30 : decode cX8_hands 30 = .ok (.iload_n 1, 1) := by decide +kernel
theorem dX8_hands_31 : decode cX8_hands 31 = .ok (.ifCond .eq 24, 3) := by decide +kernel
theorem dX8_hands_34 : decode cX8_hands 34 = .ok (.iload 4, 2) := by decide +kernel
theorem dX8_hands_36 : decode cX8_hands 36 = .ok (.iload_n 3, 1) := by decide +kernel
theorem dX8_hands_37 : decode cX8_hands 37 = .ok (.iconst 2, 1) := by decide +kernel
theorem dX8_hands_38 : decode cX8_hands 38 = .ok (.irem, 1) := by decide +kernel
theorem dX8_hands_39 : decode cX8_hands 39 = .ok (.ifCond .ne 7, 3) := by decide +kernel
theorem dX8_hands_42 : decode cX8_hands 42 = .ok (.iconst 1, 1) := by decide +kernel
theorem dX8_hands_43 : decode cX8_hands 43 = .ok (.goto 4, 3) := by decide +kernel
theorem dX8_hands_46 : decode cX8_hands 46 = .ok (.iconst 2, 1) := by decide +kernel
theorem dX8_hands_47 : decode cX8_hands 47 = .ok (.iand, 1) := by decide +kernel
theorem dX8_hands_48 : decode cX8_hands 48 = .ok (.ifCond .eq 7, 3) := by decide +kernel
theorem dX8_hands_51 : decode cX8_hands 51 = .ok (.iconst 1, 1) := by decide +kernel
theorem dX8_hands_52 : decode cX8_hands 52 = .ok (.goto 4, 3) := by decide +kernel
theorem dX8_hands_55 : decode cX8_hands 55 = .ok (.iconst 0, 1) := by decide +kernel
theorem dX8_hands_56 : decode cX8_hands 56 = .ok (.istore_n 1, 1) := by decide +kernel
theorem dX8_hands_57 : decode cX8_hands 57 = .ok (.iload_n 2, 1) := by decide +kernel
theorem dX8_hands_58 : decode cX8_hands 58 = .ok (.ifCond .eq 24, 3) := by decide +kernel
theorem dX8_hands_61 : decode cX8_hands 61 = .ok (.iload 4, 2) := by decide +kernel
theorem dX8_hands_63 : decode cX8_hands 63 = .ok (.iload_n 3, 1) := by decide +kernel
theorem dX8_hands_64 : decode cX8_hands 64 = .ok (.iconst 2, 1) := by decide +kernel
theorem dX8_hands_65 : decode cX8_hands 65 = .ok (.irem, 1) := by decide +kernel
theorem dX8_hands_66 : decode cX8_hands 66 = .ok (.ifCond .ne 7, 3) := by decide +kernel
theorem dX8_hands_69 : decode cX8_hands 69 = .ok (.iconst 2, 1) := by decide +kernel
theorem dX8_hands_70 : decode cX8_hands 70 = .ok (.goto 4, 3) := by decide +kernel
theorem dX8_hands_73 : decode cX8_hands 73 = .ok (.iconst 1, 1) := by decide +kernel
theorem dX8_hands_74 : decode cX8_hands 74 = .ok (.iand, 1) := by decide +kernel
theorem dX8_hands_75 : decode cX8_hands 75 = .ok (.ifCond .eq 7, 3) := by decide +kernel
theorem dX8_hands_78 : decode cX8_hands 78 = .ok (.iconst 1, 1) := by decide +kernel
theorem dX8_hands_79 : decode cX8_hands 79 = .ok (.goto 4, 3) := by decide +kernel
theorem dX8_hands_82 : decode cX8_hands 82 = .ok (.iconst 0, 1) := by decide +kernel
theorem dX8_hands_83 : decode cX8_hands 83 = .ok (.istore_n 2, 1) := by decide +kernel
theorem dX8_hands_84 : decode cX8_hands 84 = .ok (.iinc 3 1, 3) := by decide +kernel
theorem dX8_hands_87 : decode cX8_hands 87 = .ok (.goto (-81), 3) := by decide +kernel
theorem dX8_hands_90 : decode cX8_hands 90 = .ok (.iload_n 1, 1) := by decide +kernel
theorem dX8_hands_91 : decode cX8_hands 91 = .ok (.ifCond .ne 7, 3) := by decide +kernel
theorem dX8_hands_94 : decode cX8_hands 94 = .ok (.iload_n 2, 1) := by decide +kernel
theorem dX8_hands_95 : decode cX8_hands 95 = .ok (.ifCond .eq 7, 3) := by decide +kernel
theorem dX8_hands_98 : decode cX8_hands 98 = .ok (.iconst 1, 1) := by decide +kernel
theorem dX8_hands_99 : decode cX8_hands 99 = .ok (.goto 4, 3) := by decide +kernel
theorem dX8_hands_102 : decode cX8_hands 102 = .ok (.iconst 0, 1) := by decide +kernel
theorem dX8_hands_103 : decode cX8_hands 103 = .ok (.ireturn, 1) := by decide +kernel
theorem dX8_looks_0 : decode cX8_looks 0 = .ok (.aload_n 0, 1) := by decide +kernel
theorem dX8_looks_1 : decode cX8_looks 1 = .ok (.invokevirtual 207, 3) := by decide +kernel
theorem dX8_looks_4 : decode cX8_looks 4 = .ok (.ifCond .ne 4, 3) := by decide +kernel
theorem dX8_looks_7 : decode cX8_looks 7 = .ok (.return_, 1) := by decide +kernel
theorem dX8_looks_8 : decode cX8_looks 8 = .ok (.aload_n 0, 1) := by decide +kernel
theorem dX8_looks_9 : decode cX8_looks 9 = .ok (.getfield 43, 3) := by decide +kernel
theorem dX8_looks_12 : decode cX8_looks 12 = .ok (.iconst 0, 1) := by decide +kernel
theorem dX8_looks_13 : decode cX8_looks 13 = .ok (.aload_n 0, 1) := by decide +kernel
theorem dX8_looks_14 : decode cX8_looks 14 = .ok (.aload_n 0, 1) := by decide +kernel
theorem dX8_looks_15 : decode cX8_looks 15 = .ok (.getfield 43, 3) := by decide +kernel
theorem dX8_looks_18 : decode cX8_looks 18 = .ok (.iconst 4, 1) := by decide +kernel
theorem dX8_looks_19 : decode cX8_looks 19 = .ok (.iaload, 1) := by decide +kernel
theorem dX8_looks_20 : decode cX8_looks 20 = .ok (.iconst 3, 1) := by decide +kernel
theorem dX8_looks_21 : decode cX8_looks 21 = .ok (.bipush 100, 2) := by decide +kernel
theorem dX8_looks_23 : decode cX8_looks 23 = .ok (.invokevirtual 133, 3) := by decide +kernel
theorem dX8_looks_26 : decode cX8_looks 26 = .ok (.iastore, 1) := by decide +kernel
theorem dX8_looks_27 : decode cX8_looks 27 = .ok (.iconst 0, 1) := by decide +kernel
theorem dX8_looks_28 : decode cX8_looks 28 = .ok (.istore_n 1, 1) := by decide +kernel
theorem dX8_looks_29 : decode cX8_looks 29 = .ok (.iload_n 1, 1) := by decide +kernel
theorem dX8_looks_30 : decode cX8_looks 30 = .ok (.iconst 3, 1) := by decide +kernel
theorem dX8_looks_31 : decode cX8_looks 31 = .ok (.if_icmp .ge 99, 3) := by decide +kernel
theorem dX8_looks_34 : decode cX8_looks 34 = .ok (.aload_n 0, 1) := by decide +kernel
theorem dX8_looks_35 : decode cX8_looks 35 = .ok (.aload_n 0, 1) := by decide +kernel
theorem dX8_looks_36 : decode cX8_looks 36 = .ok (.getfield 43, 3) := by decide +kernel
theorem dX8_looks_39 : decode cX8_looks 39 = .ok (.iconst 1, 1) := by decide +kernel
theorem dX8_looks_40 : decode cX8_looks 40 = .ok (.iload_n 1, 1) := by decide +kernel
theorem dX8_looks_41 : decode cX8_looks 41 = .ok (.iadd, 1) := by decide +kernel
theorem dX8_looks_42 : decode cX8_looks 42 = .ok (.iaload, 1) := by decide +kernel
theorem dX8_looks_43 : decode cX8_looks 43 = .ok (.aload_n 0, 1) := by decide +kernel
theorem dX8_looks_44 : decode cX8_looks 44 = .ok (.getfield 43, 3) := by decide +kernel
theorem dX8_looks_47 : decode cX8_looks 47 = .ok (.iconst 2, 1) := by decide +kernel
theorem dX8_looks_48 : decode cX8_looks 48 = .ok (.iload_n 1, 1) := by decide +kernel
theorem dX8_looks_49 : decode cX8_looks 49 = .ok (.iadd, 1) := by decide +kernel
theorem dX8_looks_50 : decode cX8_looks 50 = .ok (.iaload, 1) := by decide +kernel
theorem dX8_looks_51 : decode cX8_looks 51 = .ok (.iload_n 1, 1) := by decide +kernel
theorem dX8_looks_52 : decode cX8_looks 52 = .ok (.iconst 0, 1) := by decide +kernel
theorem dX8_looks_53 : decode cX8_looks 53 = .ok (.invokevirtual 201, 3) := by decide +kernel
theorem dX8_looks_56 : decode cX8_looks 56 = .ok (.istore_n 2, 1) := by decide +kernel
theorem dX8_looks_57 : decode cX8_looks 57 = .ok (.iload_n 2, 1) := by decide +kernel
theorem dX8_looks_58 : decode cX8_looks 58 = .ok (.iconst (-1), 1) := by decide +kernel
theorem dX8_looks_59 : decode cX8_looks 59 = .ok (.if_icmp .ne 4, 3) := by decide +kernel
theorem dX8_looks_62 : decode cX8_looks 62 = .ok (.return_, 1) := by decide +kernel
theorem dX8_looks_63 : decode cX8_looks 63 = .ok (.aload_n 0, 1) := by decide +kernel
theorem dX8_looks_64 : decode cX8_looks 64 = .ok (.getfield 43, 3) := by decide +kernel
theorem dX8_looks_67 : decode cX8_looks 67 = .ok (.iconst 5, 1) := by decide +kernel
theorem dX8_looks_68 : decode cX8_looks 68 = .ok (.iload_n 1, 1) := by decide +kernel
theorem dX8_looks_69 : decode cX8_looks 69 = .ok (.iadd, 1) := by decide +kernel
theorem dX8_looks_70 : decode cX8_looks 70 = .ok (.iload_n 2, 1) := by decide +kernel
theorem dX8_looks_71 : decode cX8_looks 71 = .ok (.iastore, 1) := by decide +kernel
theorem dX8_looks_72 : decode cX8_looks 72 = .ok (.aload_n 0, 1) := by decide +kernel
theorem dX8_looks_73 : decode cX8_looks 73 = .ok (.getfield 43, 3) := by decide +kernel
theorem dX8_looks_76 : decode cX8_looks 76 = .ok (.iconst 0, 1) := by decide +kernel
theorem dX8_looks_77 : decode cX8_looks 77 = .ok (.dup2, 1) := by decide +kernel
theorem dX8_looks_78 : decode cX8_looks 78 = .ok (.iaload, 1) := by decide +kernel
theorem dX8_looks_79 : decode cX8_looks 79 = .ok (.aload_n 0, 1) := by decide +kernel
theorem dX8_looks_80 : decode cX8_looks 80 = .ok (.aload_n 0, 1) := by decide +kernel
theorem dX8_looks_81 : decode cX8_looks 81 = .ok (.getfield 43, 3) := by decide +kernel
theorem dX8_looks_84 : decode cX8_looks 84 = .ok (.iconst 1, 1) := by decide +kernel
theorem dX8_looks_85 : decode cX8_looks 85 = .ok (.iload_n 1, 1) := by decide +kernel
theorem dX8_looks_86 : decode cX8_looks 86 = .ok (.iadd, 1) := by decide +kernel
theorem dX8_looks_87 : decode cX8_looks 87 = .ok (.iaload, 1) := by decide +kernel
theorem dX8_looks_88 : decode cX8_looks 88 = .ok (.iload_n 1, 1) := by decide +kernel
theorem dX8_looks_89 : decode cX8_looks 89 = .ok (.iload_n 2, 1) := by decide +kernel
theorem dX8_looks_90 : decode cX8_looks 90 = .ok (.iconst 0, 1) := by decide +kernel
theorem dX8_looks_91 : decode cX8_looks 91 = .ok (.invokevirtual 136, 3) := by decide +kernel
theorem dX8_looks_94 : decode cX8_looks 94 = .ok (.aload_n 0, 1) := by decide +kernel
theorem dX8_looks_95 : decode cX8_looks 95 = .ok (.aload_n 0, 1) := by decide +kernel
theorem dX8_looks_96 : decode cX8_looks 96 = .ok (.aload_n 0, 1) := by decide +kernel
theorem dX8_looks_97 : decode cX8_looks 97 = .ok (.getfield 43, 3) := by decide +kernel
theorem dX8_looks_100 : decode cX8_looks 100 = .ok (.iconst 1, 1) := by decide +kernel
theorem dX8_looks_101 : decode cX8_looks 101 = .ok (.iload_n 1, 1) := by decide +kernel
theorem dX8_looks_102 : decode cX8_looks 102 = .ok (.iadd, 1) := by decide +kernel
theorem dX8_looks_103 : decode cX8_looks 103 = .ok (.iaload, 1) := by decide +kernel
theorem dX8_looks_104 : decode cX8_looks 104 = .ok (.aload_n 0, 1) := by decide +kernel
theorem dX8_looks_105 : decode cX8_looks 105 = .ok (.getfield 43, 3) := by decide +kernel
theorem dX8_looks_108 : decode cX8_looks 108 = .ok (.iconst 2, 1) := by decide +kernel
theorem dX8_looks_109 : decode cX8_looks 109 = .ok (.iload_n 1, 1) := by decide +kernel
theorem dX8_looks_110 : decode cX8_looks 110 = .ok (.iadd, 1) := by decide +kernel
theorem dX8_looks_111 : decode cX8_looks 111 = .ok (.iaload, 1) := by decide +kernel
theorem dX8_looks_112 : decode cX8_looks 112 = .ok (.iload_n 1, 1) := by decide +kernel
theorem dX8_looks_113 : decode cX8_looks 113 = .ok (.iload_n 2, 1) := by decide +kernel
theorem dX8_looks_114 : decode cX8_looks 114 = .ok (.iconst 0, 1) := by decide +kernel
theorem dX8_looks_115 : decode cX8_looks 115 = .ok (.invokevirtual 140, 3) := by decide +kernel
theorem dX8_looks_118 : decode cX8_looks 118 = .ok (.invokevirtual 198, 3) := by decide +kernel
theorem dX8_looks_121 : decode cX8_looks 121 = .ok (.iadd, 1) := by decide +kernel
theorem dX8_looks_122 : decode cX8_looks 122 = .ok (.iadd, 1) := by decide +kernel
theorem dX8_looks_123 : decode cX8_looks 123 = .ok (.iastore, 1) := by decide +kernel
theorem dX8_looks_124 : decode cX8_looks 124 = .ok (.iinc 1 1, 3) := by decide +kernel
theorem dX8_looks_127 : decode cX8_looks 127 = .ok (.goto (-98), 3) := by decide +kernel
theorem dX8_looks_130 : decode cX8_looks 130 = .ok (.aload_n 0, 1) := by decide +kernel
theorem dX8_looks_131 : decode cX8_looks 131 = .ok (.getfield 40, 3) := by decide +kernel
theorem dX8_looks_134 : decode cX8_looks 134 = .ok (.iconst 0, 1) := by decide +kernel
theorem dX8_looks_135 : decode cX8_looks 135 = .ok (.iaload, 1) := by decide +kernel
theorem dX8_looks_136 : decode cX8_looks 136 = .ok (.iconst (-1), 1) := by decide +kernel
theorem dX8_looks_137 : decode cX8_looks 137 = .ok (.if_icmp .eq 18, 3) := by decide +kernel
theorem dX8_looks_140 : decode cX8_looks 140 = .ok (.aload_n 0, 1) := by decide +kernel
theorem dX8_looks_141 : decode cX8_looks 141 = .ok (.getfield 43, 3) := by decide +kernel
theorem dX8_looks_144 : decode cX8_looks 144 = .ok (.iconst 0, 1) := by decide +kernel
theorem dX8_looks_145 : decode cX8_looks 145 = .ok (.iaload, 1) := by decide +kernel
theorem dX8_looks_146 : decode cX8_looks 146 = .ok (.aload_n 0, 1) := by decide +kernel
theorem dX8_looks_147 : decode cX8_looks 147 = .ok (.getfield 40, 3) := by decide +kernel
theorem dX8_looks_150 : decode cX8_looks 150 = .ok (.iconst 0, 1) := by decide +kernel
theorem dX8_looks_151 : decode cX8_looks 151 = .ok (.iaload, 1) := by decide +kernel
theorem dX8_looks_152 : decode cX8_looks 152 = .ok (.if_icmp .ge 29, 3) := by decide +kernel
theorem dX8_looks_155 : decode cX8_looks 155 = .ok (.iconst 0, 1) := by decide +kernel
theorem dX8_looks_156 : decode cX8_looks 156 = .ok (.istore_n 1, 1) := by decide +kernel
theorem dX8_looks_157 : decode cX8_looks 157 = .ok (.iload_n 1, 1) := by decide +kernel
theorem dX8_looks_158 : decode cX8_looks 158 = .ok (.bipush 8, 2) := by decide +kernel
theorem dX8_looks_160 : decode cX8_looks 160 = .ok (.if_icmp .ge 21, 3) := by decide +kernel
theorem dX8_looks_163 : decode cX8_looks 163 = .ok (.aload_n 0, 1) := by decide +kernel
theorem dX8_looks_164 : decode cX8_looks 164 = .ok (.getfield 40, 3) := by decide +kernel
theorem dX8_looks_167 : decode cX8_looks 167 = .ok (.iload_n 1, 1) := by decide +kernel
theorem dX8_looks_168 : decode cX8_looks 168 = .ok (.aload_n 0, 1) := by decide +kernel
theorem dX8_looks_169 : decode cX8_looks 169 = .ok (.getfield 43, 3) := by decide +kernel
theorem dX8_looks_172 : decode cX8_looks 172 = .ok (.iload_n 1, 1) := by decide +kernel
theorem dX8_looks_173 : decode cX8_looks 173 = .ok (.iaload, 1) := by decide +kernel
theorem dX8_looks_174 : decode cX8_looks 174 = .ok (.iastore, 1) := by decide +kernel
theorem dX8_looks_175 : decode cX8_looks 175 = .ok (.iinc 1 1, 3) := by decide +kernel
theorem dX8_looks_178 : decode cX8_looks 178 = .ok (.goto (-21), 3) := by decide +kernel
theorem dX8_looks_181 : decode cX8_looks 181 = .ok (.return_, 1) := by decide +kernel
theorem dX8_orderOf_0 : decode cX8_orderOf 0 = .ok (.iconst 0, 1) := by decide +kernel
theorem dX8_orderOf_1 : decode cX8_orderOf 1 = .ok (.istore_n 3, 1) := by decide +kernel
theorem dX8_orderOf_2 : decode cX8_orderOf 2 = .ok (.iload_n 3, 1) := by decide +kernel
theorem dX8_orderOf_3 : decode cX8_orderOf 3 = .ok (.bipush 8, 2) := by decide +kernel
theorem dX8_orderOf_5 : decode cX8_orderOf 5 = .ok (.if_icmp .ge 16, 3) := by decide +kernel
theorem dX8_orderOf_8 : decode cX8_orderOf 8 = .ok (.aload_n 0, 1) := by decide +kernel
theorem dX8_orderOf_9 : decode cX8_orderOf 9 = .ok (.getfield 40, 3) := by decide +kernel
theorem dX8_orderOf_12 : decode cX8_orderOf 12 = .ok (.iload_n 3, 1) := by decide +kernel
theorem dX8_orderOf_13 : decode cX8_orderOf 13 = .ok (.iconst (-1), 1) := by decide +kernel
theorem dX8_orderOf_14 : decode cX8_orderOf 14 = .ok (.iastore, 1) := by decide +kernel
theorem dX8_orderOf_15 : decode cX8_orderOf 15 = .ok (.iinc 3 1, 3) := by decide +kernel
theorem dX8_orderOf_18 : decode cX8_orderOf 18 = .ok (.goto (-16), 3) := by decide +kernel
theorem dX8_orderOf_21 : decode cX8_orderOf 21 = .ok (.iconst 0, 1) := by decide +kernel
theorem dX8_orderOf_22 : decode cX8_orderOf 22 = .ok (.istore_n 3, 1) := by decide +kernel
theorem dX8_orderOf_23 : decode cX8_orderOf 23 = .ok (.iload_n 3, 1) := by decide +kernel
theorem dX8_orderOf_24 : decode cX8_orderOf 24 = .ok (.sipush 625, 3) := by decide +kernel
theorem dX8_orderOf_27 : decode cX8_orderOf 27 = .ok (.if_icmp .ge 110, 3) := by decide +kernel
theorem dX8_orderOf_30 : decode cX8_orderOf 30 = .ok (.iload_n 3, 1) := by decide +kernel
theorem dX8_orderOf_31 : decode cX8_orderOf 31 = .ok (.istore 4, 2) := by decide +kernel
theorem dX8_orderOf_33 : decode cX8_orderOf 33 = .ok (.iconst 0, 1) := by decide +kernel
theorem dX8_orderOf_34 : decode cX8_orderOf 34 = .ok (.istore 5, 2) := by decide +kernel
theorem dX8_orderOf_36 : decode cX8_orderOf 36 = .ok (.iconst 1, 1) := by decide +kernel
theorem dX8_orderOf_37 : decode cX8_orderOf 37 = .ok (.istore 6, 2) := by decide +kernel
theorem dX8_orderOf_39 : decode cX8_orderOf 39 = .ok (.iconst 3, 1) := by decide +kernel
theorem dX8_orderOf_40 : decode cX8_orderOf 40 = .ok (.istore 7, 2) := by decide +kernel
theorem dX8_orderOf_42 : decode cX8_orderOf 42 = .ok (.iload 7, 2) := by decide +kernel
theorem dX8_orderOf_44 : decode cX8_orderOf 44 = .ok (.ifCond .lt 78, 3) := by decide +kernel
theorem dX8_orderOf_47 : decode cX8_orderOf 47 = .ok (.iload 4, 2) := by decide +kernel
theorem dX8_orderOf_49 : decode cX8_orderOf 49 = .ok (.iconst 5, 1) := by decide +kernel
theorem dX8_orderOf_50 : decode cX8_orderOf 50 = .ok (.irem, 1) := by decide +kernel
theorem dX8_orderOf_51 : decode cX8_orderOf 51 = .ok (.istore 8, 2) := by decide +kernel
theorem dX8_orderOf_53 : decode cX8_orderOf 53 = .ok (.iload 4, 2) := by decide +kernel
theorem dX8_orderOf_55 : decode cX8_orderOf 55 = .ok (.iconst 5, 1) := by decide +kernel
theorem dX8_orderOf_56 : decode cX8_orderOf 56 = .ok (.idiv, 1) := by decide +kernel
theorem dX8_orderOf_57 : decode cX8_orderOf 57 = .ok (.istore 4, 2) := by decide +kernel
theorem dX8_orderOf_59 : decode cX8_orderOf 59 = .ok (.aload_n 0, 1) := by decide +kernel
theorem dX8_orderOf_60 : decode cX8_orderOf 60 = .ok (.getfield 43, 3) := by decide +kernel
theorem dX8_orderOf_63 : decode cX8_orderOf 63 = .ok (.iconst 1, 1) := by decide +kernel
theorem dX8_orderOf_64 : decode cX8_orderOf 64 = .ok (.iload 7, 2) := by decide +kernel
theorem dX8_orderOf_66 : decode cX8_orderOf 66 = .ok (.iadd, 1) := by decide +kernel
theorem dX8_orderOf_67 : decode cX8_orderOf 67 = .ok (.iload 8, 2) := by decide +kernel
theorem dX8_orderOf_69 : decode cX8_orderOf 69 = .ok (.iastore, 1) := by decide +kernel
theorem dX8_orderOf_70 : decode cX8_orderOf 70 = .ok (.iload 6, 2) := by decide +kernel
theorem dX8_orderOf_72 : decode cX8_orderOf 72 = .ok (.ifCond .eq 32, 3) := by decide +kernel
theorem dX8_orderOf_75 : decode cX8_orderOf 75 = .ok (.iload 8, 2) := by decide +kernel
theorem dX8_orderOf_77 : decode cX8_orderOf 77 = .ok (.aload_n 0, 1) := by decide +kernel
theorem dX8_orderOf_78 : decode cX8_orderOf 78 = .ok (.getfield 85, 3) := by decide +kernel
theorem dX8_orderOf_81 : decode cX8_orderOf 81 = .ok (.if_icmp .ge 23, 3) := by decide +kernel
theorem dX8_orderOf_84 : decode cX8_orderOf 84 = .ok (.iload 8, 2) := by decide +kernel
theorem dX8_orderOf_86 : decode cX8_orderOf 86 = .ok (.iload_n 1, 1) := by decide +kernel
theorem dX8_orderOf_87 : decode cX8_orderOf 87 = .ok (.if_icmp .eq 17, 3) := by decide +kernel
theorem dX8_orderOf_90 : decode cX8_orderOf 90 = .ok (.iload 5, 2) := by decide +kernel
theorem dX8_orderOf_92 : decode cX8_orderOf 92 = .ok (.iload 8, 2) := by decide +kernel
theorem dX8_orderOf_94 : decode cX8_orderOf 94 = .ok (.ishr, 1) := by decide +kernel
theorem dX8_orderOf_95 : decode cX8_orderOf 95 = .ok (.iconst 1, 1) := by decide +kernel
theorem dX8_orderOf_96 : decode cX8_orderOf 96 = .ok (.iand, 1) := by decide +kernel
theorem dX8_orderOf_97 : decode cX8_orderOf 97 = .ok (.ifCond .ne 7, 3) := by decide +kernel
theorem dX8_orderOf_100 : decode cX8_orderOf 100 = .ok (.iconst 1, 1) := by decide +kernel
theorem dX8_orderOf_101 : decode cX8_orderOf 101 = .ok (.goto 4, 3) := by decide +kernel
theorem dX8_orderOf_104 : decode cX8_orderOf 104 = .ok (.iconst 0, 1) := by decide +kernel
theorem dX8_orderOf_105 : decode cX8_orderOf 105 = .ok (.istore 6, 2) := by decide +kernel
theorem dX8_orderOf_107 : decode cX8_orderOf 107 = .ok (.iload 5, 2) := by decide +kernel
theorem dX8_orderOf_109 : decode cX8_orderOf 109 = .ok (.iconst 1, 1) := by decide +kernel
theorem dX8_orderOf_110 : decode cX8_orderOf 110 = .ok (.iload 8, 2) := by decide +kernel
theorem dX8_orderOf_112 : decode cX8_orderOf 112 = .ok (.ishl, 1) := by decide +kernel
theorem dX8_orderOf_113 : decode cX8_orderOf 113 = .ok (.ior, 1) := by decide +kernel
theorem dX8_orderOf_114 : decode cX8_orderOf 114 = .ok (.istore 5, 2) := by decide +kernel
theorem dX8_orderOf_116 : decode cX8_orderOf 116 = .ok (.iinc 7 (-1), 3) := by decide +kernel
theorem dX8_orderOf_119 : decode cX8_orderOf 119 = .ok (.goto (-77), 3) := by decide +kernel
theorem dX8_orderOf_122 : decode cX8_orderOf 122 = .ok (.iload 6, 2) := by decide +kernel
theorem dX8_orderOf_124 : decode cX8_orderOf 124 = .ok (.ifCond .eq 7, 3) := by decide +kernel
theorem dX8_orderOf_127 : decode cX8_orderOf 127 = .ok (.aload_n 0, 1) := by decide +kernel
theorem dX8_orderOf_128 : decode cX8_orderOf 128 = .ok (.invokevirtual 210, 3) := by decide +kernel
theorem dX8_orderOf_131 : decode cX8_orderOf 131 = .ok (.iinc 3 1, 3) := by decide +kernel
theorem dX8_orderOf_134 : decode cX8_orderOf 134 = .ok (.goto (-111), 3) := by decide +kernel
theorem dX8_orderOf_137 : decode cX8_orderOf 137 = .ok (.aload_n 0, 1) := by decide +kernel
theorem dX8_orderOf_138 : decode cX8_orderOf 138 = .ok (.getfield 40, 3) := by decide +kernel
theorem dX8_orderOf_141 : decode cX8_orderOf 141 = .ok (.iload_n 2, 1) := by decide +kernel
theorem dX8_orderOf_142 : decode cX8_orderOf 142 = .ok (.iaload, 1) := by decide +kernel
theorem dX8_orderOf_143 : decode cX8_orderOf 143 = .ok (.ireturn, 1) := by decide +kernel
theorem dX8_order_0 : decode cX8_order 0 = .ok (.aload_n 0, 1) := by decide +kernel
theorem dX8_order_1 : decode cX8_order 1 = .ok (.invokevirtual 101, 3) := by decide +kernel
theorem dX8_order_4 : decode cX8_order 4 = .ok (.pop, 1) := by decide +kernel
theorem dX8_order_5 : decode cX8_order 5 = .ok (.iload_n 1, 1) := by decide +kernel
theorem dX8_order_6 : decode cX8_order 6 = .ok (.i2l, 1) := by decide +kernel
theorem dX8_order_7 : decode cX8_order 7 = .ok (.ldc2_w 213, 3) := by decide +kernel
theorem dX8_order_10 : decode cX8_order 10 = .ok (.ldc2_w 107, 3) := by decide +kernel
theorem dX8_order_13 : decode cX8_order 13 = .ok (.invokestatic 48, 3) := by decide +kernel
theorem dX8_order_16 : decode cX8_order 16 = .ok (.ifCond .eq 24, 3) := by decide +kernel
theorem dX8_order_19 : decode cX8_order 19 = .ok (.iload_n 2, 1) := by decide +kernel
theorem dX8_order_20 : decode cX8_order 20 = .ok (.i2l, 1) := by decide +kernel
theorem dX8_order_21 : decode cX8_order 21 = .ok (.lconst 0, 1) := by decide +kernel
theorem dX8_order_22 : decode cX8_order 22 = .ok (.ldc2_w 215, 3) := by decide +kernel
theorem dX8_order_25 : decode cX8_order 25 = .ok (.invokestatic 48, 3) := by decide +kernel
theorem dX8_order_28 : decode cX8_order 28 = .ok (.ifCond .eq 12, 3) := by decide +kernel
theorem dX8_order_31 : decode cX8_order 31 = .ok (.aload_n 0, 1) := by decide +kernel
theorem dX8_order_32 : decode cX8_order 32 = .ok (.iload_n 1, 1) := by decide +kernel
theorem dX8_order_33 : decode cX8_order 33 = .ok (.iload_n 2, 1) := by decide +kernel
theorem dX8_order_34 : decode cX8_order 34 = .ok (.invokevirtual 217, 3) := by decide +kernel
theorem dX8_order_37 : decode cX8_order 37 = .ok (.goto 5, 3) := by decide +kernel
theorem dX8_order_40 : decode cX8_order 40 = .ok (.bipush (-2), 2) := by decide +kernel
theorem dX8_order_42 : decode cX8_order 42 = .ok (.ireturn, 1) := by decide +kernel
theorem dX8_blameNow_0 : decode cX8_blameNow 0 = .ok (.aload_n 0, 1) := by decide +kernel
theorem dX8_blameNow_1 : decode cX8_blameNow 1 = .ok (.invokevirtual 147, 3) := by decide +kernel
theorem dX8_blameNow_4 : decode cX8_blameNow 4 = .ok (.ifCond .ne 6, 3) := by decide +kernel
theorem dX8_blameNow_7 : decode cX8_blameNow 7 = .ok (.bipush (-3), 2) := by decide +kernel
theorem dX8_blameNow_9 : decode cX8_blameNow 9 = .ok (.ireturn, 1) := by decide +kernel
theorem dX8_blameNow_10 : decode cX8_blameNow 10 = .ok (.iconst 0, 1) := by decide +kernel
theorem dX8_blameNow_11 : decode cX8_blameNow 11 = .ok (.istore_n 3, 1) := by decide +kernel
theorem dX8_blameNow_12 : decode cX8_blameNow 12 = .ok (.iconst 0, 1) := by decide +kernel
theorem dX8_blameNow_13 : decode cX8_blameNow 13 = .ok (.istore 4, 2) := by decide +kernel
theorem dX8_blameNow_15 : decode cX8_blameNow 15 = .ok (.iload 4, 2) := by decide +kernel
theorem dX8_blameNow_17 : decode cX8_blameNow 17 = .ok (.iconst 5, 1) := by decide +kernel
theorem dX8_blameNow_18 : decode cX8_blameNow 18 = .ok (.if_icmp .ge 47, 3) := by decide +kernel
theorem dX8_blameNow_21 : decode cX8_blameNow 21 = .ok (.iload_n 3, 1) := by decide +kernel
theorem dX8_blameNow_22 : decode cX8_blameNow 22 = .ok (.aload_n 0, 1) := by decide +kernel
theorem dX8_blameNow_23 : decode cX8_blameNow 23 = .ok (.iload_n 1, 1) := by decide +kernel
theorem dX8_blameNow_24 : decode cX8_blameNow 24 = .ok (.aload_n 0, 1) := by decide +kernel
theorem dX8_blameNow_25 : decode cX8_blameNow 25 = .ok (.getfield 34, 3) := by decide +kernel
theorem dX8_blameNow_28 : decode cX8_blameNow 28 = .ok (.iload_n 1, 1) := by decide +kernel
theorem dX8_blameNow_29 : decode cX8_blameNow 29 = .ok (.iaload, 1) := by decide +kernel
theorem dX8_blameNow_30 : decode cX8_blameNow 30 = .ok (.iload 4, 2) := by decide +kernel
theorem dX8_blameNow_32 : decode cX8_blameNow 32 = .ok (.iconst 2, 1) := by decide +kernel
theorem dX8_blameNow_33 : decode cX8_blameNow 33 = .ok (.isub, 1) := by decide +kernel
theorem dX8_blameNow_34 : decode cX8_blameNow 34 = .ok (.aload_n 0, 1) := by decide +kernel
theorem dX8_blameNow_35 : decode cX8_blameNow 35 = .ok (.getfield 31, 3) := by decide +kernel
theorem dX8_blameNow_38 : decode cX8_blameNow 38 = .ok (.bipush 6, 2) := by decide +kernel
theorem dX8_blameNow_40 : decode cX8_blameNow 40 = .ok (.iaload, 1) := by decide +kernel
theorem dX8_blameNow_41 : decode cX8_blameNow 41 = .ok (.imul, 1) := by decide +kernel
theorem dX8_blameNow_42 : decode cX8_blameNow 42 = .ok (.invokevirtual 153, 3) := by decide +kernel
theorem dX8_blameNow_45 : decode cX8_blameNow 45 = .ok (.iload_n 2, 1) := by decide +kernel
theorem dX8_blameNow_46 : decode cX8_blameNow 46 = .ok (.if_icmp .ne 10, 3) := by decide +kernel
theorem dX8_blameNow_49 : decode cX8_blameNow 49 = .ok (.iconst 1, 1) := by decide +kernel
theorem dX8_blameNow_50 : decode cX8_blameNow 50 = .ok (.iload 4, 2) := by decide +kernel
theorem dX8_blameNow_52 : decode cX8_blameNow 52 = .ok (.ishl, 1) := by decide +kernel
theorem dX8_blameNow_53 : decode cX8_blameNow 53 = .ok (.goto 4, 3) := by decide +kernel
theorem dX8_blameNow_56 : decode cX8_blameNow 56 = .ok (.iconst 0, 1) := by decide +kernel
theorem dX8_blameNow_57 : decode cX8_blameNow 57 = .ok (.ior, 1) := by decide +kernel
theorem dX8_blameNow_58 : decode cX8_blameNow 58 = .ok (.istore_n 3, 1) := by decide +kernel
theorem dX8_blameNow_59 : decode cX8_blameNow 59 = .ok (.iinc 4 1, 3) := by decide +kernel
theorem dX8_blameNow_62 : decode cX8_blameNow 62 = .ok (.goto (-47), 3) := by decide +kernel
theorem dX8_blameNow_65 : decode cX8_blameNow 65 = .ok (.iload_n 3, 1) := by decide +kernel
theorem dX8_blameNow_66 : decode cX8_blameNow 66 = .ok (.ireturn, 1) := by decide +kernel
theorem dX8_blame_0 : decode cX8_blame 0 = .ok (.iload_n 1, 1) := by decide +kernel
theorem dX8_blame_1 : decode cX8_blame 1 = .ok (.invokestatic 116, 3) := by decide +kernel
theorem dX8_blame_4 : decode cX8_blame 4 = .ok (.ifCond .eq 28, 3) := by decide +kernel
theorem dX8_blame_7 : decode cX8_blame 7 = .ok (.iload_n 2, 1) := by decide +kernel
theorem dX8_blame_8 : decode cX8_blame 8 = .ok (.i2l, 1) := by decide +kernel
theorem dX8_blame_9 : decode cX8_blame 9 = .ok (.lconst 0, 1) := by decide +kernel
theorem dX8_blame_10 : decode cX8_blame 10 = .ok (.aload_n 0, 1) := by decide +kernel
theorem dX8_blame_11 : decode cX8_blame 11 = .ok (.getfield 31, 3) := by decide +kernel
theorem dX8_blame_14 : decode cX8_blame 14 = .ok (.iconst 0, 1) := by decide +kernel
theorem dX8_blame_15 : decode cX8_blame 15 = .ok (.iaload, 1) := by decide +kernel
theorem dX8_blame_16 : decode cX8_blame 16 = .ok (.i2l, 1) := by decide +kernel
theorem dX8_blame_17 : decode cX8_blame 17 = .ok (.invokestatic 48, 3) := by decide +kernel
theorem dX8_blame_20 : decode cX8_blame 20 = .ok (.ifCond .eq 12, 3) := by decide +kernel
theorem dX8_blame_23 : decode cX8_blame 23 = .ok (.aload_n 0, 1) := by decide +kernel
theorem dX8_blame_24 : decode cX8_blame 24 = .ok (.iload_n 1, 1) := by decide +kernel
theorem dX8_blame_25 : decode cX8_blame 25 = .ok (.iload_n 2, 1) := by decide +kernel
theorem dX8_blame_26 : decode cX8_blame 26 = .ok (.invokevirtual 220, 3) := by decide +kernel
theorem dX8_blame_29 : decode cX8_blame 29 = .ok (.goto 5, 3) := by decide +kernel
theorem dX8_blame_32 : decode cX8_blame 32 = .ok (.bipush (-2), 2) := by decide +kernel
theorem dX8_blame_34 : decode cX8_blame 34 = .ok (.ireturn, 1) := by decide +kernel
theorem dX8_slipByLot_0 : decode cX8_slipByLot 0 = .ok (.aload_n 0, 1) := by decide +kernel
theorem dX8_slipByLot_1 : decode cX8_slipByLot 1 = .ok (.ldc 223, 2) := by decide +kernel
theorem dX8_slipByLot_3 : decode cX8_slipByLot 3 = .ok (.aload_n 0, 1) := by decide +kernel
theorem dX8_slipByLot_4 : decode cX8_slipByLot 4 = .ok (.getfield 224, 3) := by decide +kernel
theorem dX8_slipByLot_7 : decode cX8_slipByLot 7 = .ok (.imul, 1) := by decide +kernel
theorem dX8_slipByLot_8 : decode cX8_slipByLot 8 = .ok (.sipush 12345, 3) := by decide +kernel
theorem dX8_slipByLot_11 : decode cX8_slipByLot 11 = .ok (.iadd, 1) := by decide +kernel
theorem dX8_slipByLot_12 : decode cX8_slipByLot 12 = .ok (.putfield 224, 3) := by decide +kernel
theorem dX8_slipByLot_15 : decode cX8_slipByLot 15 = .ok (.aload_n 0, 1) := by decide +kernel
theorem dX8_slipByLot_16 : decode cX8_slipByLot 16 = .ok (.getfield 224, 3) := by decide +kernel
theorem dX8_slipByLot_19 : decode cX8_slipByLot 19 = .ok (.bipush 16, 2) := by decide +kernel
theorem dX8_slipByLot_21 : decode cX8_slipByLot 21 = .ok (.iushr, 1) := by decide +kernel
theorem dX8_slipByLot_22 : decode cX8_slipByLot 22 = .ok (.bipush 16, 2) := by decide +kernel
theorem dX8_slipByLot_24 : decode cX8_slipByLot 24 = .ok (.irem, 1) := by decide +kernel
theorem dX8_slipByLot_25 : decode cX8_slipByLot 25 = .ok (.istore_n 1, 1) := by decide +kernel
theorem dX8_slipByLot_26 : decode cX8_slipByLot 26 = .ok (.iload_n 1, 1) := by decide +kernel
theorem dX8_slipByLot_27 : decode cX8_slipByLot 27 = .ok (.ifCond .ne 8, 3) := by decide +kernel
theorem dX8_slipByLot_30 : decode cX8_slipByLot 30 = .ok (.bipush (-2), 2) := by decide +kernel
theorem dX8_slipByLot_32 : decode cX8_slipByLot 32 = .ok (.goto 33, 3) := by decide +kernel
theorem dX8_slipByLot_35 : decode cX8_slipByLot 35 = .ok (.iload_n 1, 1) := by decide +kernel
theorem dX8_slipByLot_36 : decode cX8_slipByLot 36 = .ok (.iconst 5, 1) := by decide +kernel
theorem dX8_slipByLot_37 : decode cX8_slipByLot 37 = .ok (.if_icmp .ge 7, 3) := by decide +kernel
theorem dX8_slipByLot_40 : decode cX8_slipByLot 40 = .ok (.iconst (-1), 1) := by decide +kernel
theorem dX8_slipByLot_41 : decode cX8_slipByLot 41 = .ok (.goto 24, 3) := by decide +kernel
theorem dX8_slipByLot_44 : decode cX8_slipByLot 44 = .ok (.iload_n 1, 1) := by decide +kernel
theorem dX8_slipByLot_45 : decode cX8_slipByLot 45 = .ok (.bipush 11, 2) := by decide +kernel
theorem dX8_slipByLot_47 : decode cX8_slipByLot 47 = .ok (.if_icmp .ge 7, 3) := by decide +kernel
theorem dX8_slipByLot_50 : decode cX8_slipByLot 50 = .ok (.iconst 0, 1) := by decide +kernel
theorem dX8_slipByLot_51 : decode cX8_slipByLot 51 = .ok (.goto 14, 3) := by decide +kernel
theorem dX8_slipByLot_54 : decode cX8_slipByLot 54 = .ok (.iload_n 1, 1) := by decide +kernel
theorem dX8_slipByLot_55 : decode cX8_slipByLot 55 = .ok (.bipush 15, 2) := by decide +kernel
theorem dX8_slipByLot_57 : decode cX8_slipByLot 57 = .ok (.if_icmp .ge 7, 3) := by decide +kernel
theorem dX8_slipByLot_60 : decode cX8_slipByLot 60 = .ok (.iconst 1, 1) := by decide +kernel
theorem dX8_slipByLot_61 : decode cX8_slipByLot 61 = .ok (.goto 4, 3) := by decide +kernel
theorem dX8_slipByLot_64 : decode cX8_slipByLot 64 = .ok (.iconst 2, 1) := by decide +kernel
theorem dX8_slipByLot_65 : decode cX8_slipByLot 65 = .ok (.istore_n 2, 1) := by decide +kernel
theorem dX8_slipByLot_66 : decode cX8_slipByLot 66 = .ok (.iload_n 2, 1) := by decide +kernel
theorem dX8_slipByLot_67 : decode cX8_slipByLot 67 = .ok (.aload_n 0, 1) := by decide +kernel
theorem dX8_slipByLot_68 : decode cX8_slipByLot 68 = .ok (.getfield 31, 3) := by decide +kernel
theorem dX8_slipByLot_71 : decode cX8_slipByLot 71 = .ok (.bipush 6, 2) := by decide +kernel
theorem dX8_slipByLot_73 : decode cX8_slipByLot 73 = .ok (.iaload, 1) := by decide +kernel
theorem dX8_slipByLot_74 : decode cX8_slipByLot 74 = .ok (.imul, 1) := by decide +kernel
theorem dX8_slipByLot_75 : decode cX8_slipByLot 75 = .ok (.ireturn, 1) := by decide +kernel
theorem dX8_raceOn_0 : decode cX8_raceOn 0 = .ok (.aload_n 0, 1) := by decide +kernel
theorem dX8_raceOn_1 : decode cX8_raceOn 1 = .ok (.aload_n 0, 1) := by decide +kernel
theorem dX8_raceOn_2 : decode cX8_raceOn 2 = .ok (.getfield 28, 3) := by decide +kernel
theorem dX8_raceOn_5 : decode cX8_raceOn 5 = .ok (.iconst 3, 1) := by decide +kernel
theorem dX8_raceOn_6 : decode cX8_raceOn 6 = .ok (.iaload, 1) := by decide +kernel
theorem dX8_raceOn_7 : decode cX8_raceOn 7 = .ok (.iconst 3, 1) := by decide +kernel
theorem dX8_raceOn_8 : decode cX8_raceOn 8 = .ok (.bipush 100, 2) := by decide +kernel
theorem dX8_raceOn_10 : decode cX8_raceOn 10 = .ok (.invokevirtual 133, 3) := by decide +kernel
theorem dX8_raceOn_13 : decode cX8_raceOn 13 = .ok (.istore_n 1, 1) := by decide +kernel
theorem dX8_raceOn_14 : decode cX8_raceOn 14 = .ok (.iconst 0, 1) := by decide +kernel
theorem dX8_raceOn_15 : decode cX8_raceOn 15 = .ok (.istore_n 2, 1) := by decide +kernel
theorem dX8_raceOn_16 : decode cX8_raceOn 16 = .ok (.iconst 0, 1) := by decide +kernel
theorem dX8_raceOn_17 : decode cX8_raceOn 17 = .ok (.istore_n 3, 1) := by decide +kernel
theorem dX8_raceOn_18 : decode cX8_raceOn 18 = .ok (.iload_n 3, 1) := by decide +kernel
theorem dX8_raceOn_19 : decode cX8_raceOn 19 = .ok (.iconst 3, 1) := by decide +kernel
theorem dX8_raceOn_20 : decode cX8_raceOn 20 = .ok (.if_icmp .ge 75, 3) := by decide +kernel
theorem dX8_raceOn_23 : decode cX8_raceOn 23 = .ok (.aload_n 0, 1) := by decide +kernel
theorem dX8_raceOn_24 : decode cX8_raceOn 24 = .ok (.invokevirtual 227, 3) := by decide +kernel
theorem dX8_raceOn_27 : decode cX8_raceOn 27 = .ok (.istore 4, 2) := by decide +kernel
theorem dX8_raceOn_29 : decode cX8_raceOn 29 = .ok (.aload_n 0, 1) := by decide +kernel
theorem dX8_raceOn_30 : decode cX8_raceOn 30 = .ok (.iload_n 3, 1) := by decide +kernel
theorem dX8_raceOn_31 : decode cX8_raceOn 31 = .ok (.aload_n 0, 1) := by decide +kernel
theorem dX8_raceOn_32 : decode cX8_raceOn 32 = .ok (.getfield 34, 3) := by decide +kernel
theorem dX8_raceOn_35 : decode cX8_raceOn 35 = .ok (.iload_n 3, 1) := by decide +kernel
theorem dX8_raceOn_36 : decode cX8_raceOn 36 = .ok (.iaload, 1) := by decide +kernel
theorem dX8_raceOn_37 : decode cX8_raceOn 37 = .ok (.iload 4, 2) := by decide +kernel
theorem dX8_raceOn_39 : decode cX8_raceOn 39 = .ok (.invokevirtual 153, 3) := by decide +kernel
theorem dX8_raceOn_42 : decode cX8_raceOn 42 = .ok (.istore 5, 2) := by decide +kernel
theorem dX8_raceOn_44 : decode cX8_raceOn 44 = .ok (.iload_n 2, 1) := by decide +kernel
theorem dX8_raceOn_45 : decode cX8_raceOn 45 = .ok (.ifCond .ne 9, 3) := by decide +kernel
theorem dX8_raceOn_48 : decode cX8_raceOn 48 = .ok (.iload 5, 2) := by decide +kernel
theorem dX8_raceOn_50 : decode cX8_raceOn 50 = .ok (.iconst (-1), 1) := by decide +kernel
theorem dX8_raceOn_51 : decode cX8_raceOn 51 = .ok (.if_icmp .ne 7, 3) := by decide +kernel
theorem dX8_raceOn_54 : decode cX8_raceOn 54 = .ok (.iconst 1, 1) := by decide +kernel
theorem dX8_raceOn_55 : decode cX8_raceOn 55 = .ok (.goto 4, 3) := by decide +kernel
theorem dX8_raceOn_58 : decode cX8_raceOn 58 = .ok (.iconst 0, 1) := by decide +kernel
theorem dX8_raceOn_59 : decode cX8_raceOn 59 = .ok (.istore_n 2, 1) := by decide +kernel
theorem dX8_raceOn_60 : decode cX8_raceOn 60 = .ok (.iload_n 1, 1) := by decide +kernel
theorem dX8_raceOn_61 : decode cX8_raceOn 61 = .ok (.aload_n 0, 1) := by decide +kernel
theorem dX8_raceOn_62 : decode cX8_raceOn 62 = .ok (.aload_n 0, 1) := by decide +kernel
theorem dX8_raceOn_63 : decode cX8_raceOn 63 = .ok (.getfield 28, 3) := by decide +kernel
theorem dX8_raceOn_66 : decode cX8_raceOn 66 = .ok (.iload_n 3, 1) := by decide +kernel
theorem dX8_raceOn_67 : decode cX8_raceOn 67 = .ok (.iaload, 1) := by decide +kernel
theorem dX8_raceOn_68 : decode cX8_raceOn 68 = .ok (.iload_n 3, 1) := by decide +kernel
theorem dX8_raceOn_69 : decode cX8_raceOn 69 = .ok (.aload_n 0, 1) := by decide +kernel
theorem dX8_raceOn_70 : decode cX8_raceOn 70 = .ok (.getfield 34, 3) := by decide +kernel
theorem dX8_raceOn_73 : decode cX8_raceOn 73 = .ok (.iload_n 3, 1) := by decide +kernel
theorem dX8_raceOn_74 : decode cX8_raceOn 74 = .ok (.iaload, 1) := by decide +kernel
theorem dX8_raceOn_75 : decode cX8_raceOn 75 = .ok (.iload 4, 2) := by decide +kernel
theorem dX8_raceOn_77 : decode cX8_raceOn 77 = .ok (.invokevirtual 136, 3) := by decide +kernel
theorem dX8_raceOn_80 : decode cX8_raceOn 80 = .ok (.aload_n 0, 1) := by decide +kernel
theorem dX8_raceOn_81 : decode cX8_raceOn 81 = .ok (.iload 5, 2) := by decide +kernel
theorem dX8_raceOn_83 : decode cX8_raceOn 83 = .ok (.invokevirtual 198, 3) := by decide +kernel
theorem dX8_raceOn_86 : decode cX8_raceOn 86 = .ok (.iadd, 1) := by decide +kernel
theorem dX8_raceOn_87 : decode cX8_raceOn 87 = .ok (.iadd, 1) := by decide +kernel
theorem dX8_raceOn_88 : decode cX8_raceOn 88 = .ok (.istore_n 1, 1) := by decide +kernel
theorem dX8_raceOn_89 : decode cX8_raceOn 89 = .ok (.iinc 3 1, 3) := by decide +kernel
theorem dX8_raceOn_92 : decode cX8_raceOn 92 = .ok (.goto (-74), 3) := by decide +kernel
theorem dX8_raceOn_95 : decode cX8_raceOn 95 = .ok (.iload_n 2, 1) := by decide +kernel
theorem dX8_raceOn_96 : decode cX8_raceOn 96 = .ok (.ifCond .eq 7, 3) := by decide +kernel
theorem dX8_raceOn_99 : decode cX8_raceOn 99 = .ok (.iconst (-1), 1) := by decide +kernel
theorem dX8_raceOn_100 : decode cX8_raceOn 100 = .ok (.goto 4, 3) := by decide +kernel
theorem dX8_raceOn_103 : decode cX8_raceOn 103 = .ok (.iload_n 1, 1) := by decide +kernel
theorem dX8_raceOn_104 : decode cX8_raceOn 104 = .ok (.ireturn, 1) := by decide +kernel
theorem dX8_lot_0 : decode cX8_lot 0 = .ok (.aload_n 0, 1) := by decide +kernel
theorem dX8_lot_1 : decode cX8_lot 1 = .ok (.invokevirtual 147, 3) := by decide +kernel
theorem dX8_lot_4 : decode cX8_lot 4 = .ok (.ifCond .ne 6, 3) := by decide +kernel
theorem dX8_lot_7 : decode cX8_lot 7 = .ok (.bipush (-3), 2) := by decide +kernel
theorem dX8_lot_9 : decode cX8_lot 9 = .ok (.ireturn, 1) := by decide +kernel
theorem dX8_lot_10 : decode cX8_lot 10 = .ok (.aload_n 0, 1) := by decide +kernel
theorem dX8_lot_11 : decode cX8_lot 11 = .ok (.iload_n 1, 1) := by decide +kernel
theorem dX8_lot_12 : decode cX8_lot 12 = .ok (.putfield 224, 3) := by decide +kernel
theorem dX8_lot_15 : decode cX8_lot 15 = .ok (.aload_n 0, 1) := by decide +kernel
theorem dX8_lot_16 : decode cX8_lot 16 = .ok (.invokevirtual 230, 3) := by decide +kernel
theorem dX8_lot_19 : decode cX8_lot 19 = .ok (.ireturn, 1) := by decide +kernel
theorem dX8_racesNow_0 : decode cX8_racesNow 0 = .ok (.aload_n 0, 1) := by decide +kernel
theorem dX8_racesNow_1 : decode cX8_racesNow 1 = .ok (.invokevirtual 147, 3) := by decide +kernel
theorem dX8_racesNow_4 : decode cX8_racesNow 4 = .ok (.ifCond .ne 6, 3) := by decide +kernel
theorem dX8_racesNow_7 : decode cX8_racesNow 7 = .ok (.bipush (-3), 2) := by decide +kernel
theorem dX8_racesNow_9 : decode cX8_racesNow 9 = .ok (.ireturn, 1) := by decide +kernel
theorem dX8_racesNow_10 : decode cX8_racesNow 10 = .ok (.aload_n 0, 1) := by decide +kernel
theorem dX8_racesNow_11 : decode cX8_racesNow 11 = .ok (.iload_n 1, 1) := by decide +kernel
theorem dX8_racesNow_12 : decode cX8_racesNow 12 = .ok (.putfield 224, 3) := by decide +kernel
theorem dX8_racesNow_15 : decode cX8_racesNow 15 = .ok (.iconst 0, 1) := by decide +kernel
theorem dX8_racesNow_16 : decode cX8_racesNow 16 = .ok (.istore 4, 2) := by decide +kernel
theorem dX8_racesNow_18 : decode cX8_racesNow 18 = .ok (.iconst 0, 1) := by decide +kernel
theorem dX8_racesNow_19 : decode cX8_racesNow 19 = .ok (.istore 5, 2) := by decide +kernel
theorem dX8_racesNow_21 : decode cX8_racesNow 21 = .ok (.iload 5, 2) := by decide +kernel
theorem dX8_racesNow_23 : decode cX8_racesNow 23 = .ok (.iload_n 2, 1) := by decide +kernel
theorem dX8_racesNow_24 : decode cX8_racesNow 24 = .ok (.if_icmp .ge 33, 3) := by decide +kernel
theorem dX8_racesNow_27 : decode cX8_racesNow 27 = .ok (.iload 4, 2) := by decide +kernel
theorem dX8_racesNow_29 : decode cX8_racesNow 29 = .ok (.aload_n 0, 1) := by decide +kernel
theorem dX8_racesNow_30 : decode cX8_racesNow 30 = .ok (.invokevirtual 230, 3) := by decide +kernel
theorem dX8_racesNow_33 : decode cX8_racesNow 33 = .ok (.i2l, 1) := by decide +kernel
theorem dX8_racesNow_34 : decode cX8_racesNow 34 = .ok (.lconst 0, 1) := by decide +kernel
theorem dX8_racesNow_35 : decode cX8_racesNow 35 = .ok (.iload_n 3, 1) := by decide +kernel
theorem dX8_racesNow_36 : decode cX8_racesNow 36 = .ok (.i2l, 1) := by decide +kernel
theorem dX8_racesNow_37 : decode cX8_racesNow 37 = .ok (.invokestatic 48, 3) := by decide +kernel
theorem dX8_racesNow_40 : decode cX8_racesNow 40 = .ok (.ifCond .eq 7, 3) := by decide +kernel
theorem dX8_racesNow_43 : decode cX8_racesNow 43 = .ok (.iconst 1, 1) := by decide +kernel
theorem dX8_racesNow_44 : decode cX8_racesNow 44 = .ok (.goto 4, 3) := by decide +kernel
theorem dX8_racesNow_47 : decode cX8_racesNow 47 = .ok (.iconst 0, 1) := by decide +kernel
theorem dX8_racesNow_48 : decode cX8_racesNow 48 = .ok (.iadd, 1) := by decide +kernel
theorem dX8_racesNow_49 : decode cX8_racesNow 49 = .ok (.istore 4, 2) := by decide +kernel
theorem dX8_racesNow_51 : decode cX8_racesNow 51 = .ok (.iinc 5 1, 3) := by decide +kernel
theorem dX8_racesNow_54 : decode cX8_racesNow 54 = .ok (.goto (-33), 3) := by decide +kernel
theorem dX8_racesNow_57 : decode cX8_racesNow 57 = .ok (.iload 4, 2) := by decide +kernel
theorem dX8_racesNow_59 : decode cX8_racesNow 59 = .ok (.ireturn, 1) := by decide +kernel
theorem dX8_races_0 : decode cX8_races 0 = .ok (.iload_n 2, 1) := by decide +kernel
theorem dX8_races_1 : decode cX8_races 1 = .ok (.i2l, 1) := by decide +kernel
theorem dX8_races_2 : decode cX8_races 2 = .ok (.lconst 0, 1) := by decide +kernel
theorem dX8_races_3 : decode cX8_races 3 = .ok (.ldc2_w 123, 3) := by decide +kernel
theorem dX8_races_6 : decode cX8_races 6 = .ok (.invokestatic 48, 3) := by decide +kernel
theorem dX8_races_9 : decode cX8_races 9 = .ok (.ifCond .eq 25, 3) := by decide +kernel
theorem dX8_races_12 : decode cX8_races 12 = .ok (.iload_n 3, 1) := by decide +kernel
theorem dX8_races_13 : decode cX8_races 13 = .ok (.i2l, 1) := by decide +kernel
theorem dX8_races_14 : decode cX8_races 14 = .ok (.lconst 0, 1) := by decide +kernel
theorem dX8_races_15 : decode cX8_races 15 = .ok (.ldc2_w 233, 3) := by decide +kernel
theorem dX8_races_18 : decode cX8_races 18 = .ok (.invokestatic 48, 3) := by decide +kernel
theorem dX8_races_21 : decode cX8_races 21 = .ok (.ifCond .eq 13, 3) := by decide +kernel
theorem dX8_races_24 : decode cX8_races 24 = .ok (.aload_n 0, 1) := by decide +kernel
theorem dX8_races_25 : decode cX8_races 25 = .ok (.iload_n 1, 1) := by decide +kernel
theorem dX8_races_26 : decode cX8_races 26 = .ok (.iload_n 2, 1) := by decide +kernel
theorem dX8_races_27 : decode cX8_races 27 = .ok (.iload_n 3, 1) := by decide +kernel
theorem dX8_races_28 : decode cX8_races 28 = .ok (.invokevirtual 235, 3) := by decide +kernel
theorem dX8_races_31 : decode cX8_races 31 = .ok (.goto 5, 3) := by decide +kernel
theorem dX8_races_34 : decode cX8_races 34 = .ok (.bipush (-2), 2) := by decide +kernel
theorem dX8_races_36 : decode cX8_races 36 = .ok (.ireturn, 1) := by decide +kernel
theorem dX8_write_0 : decode cX8_write 0 = .ok (.iload_n 1, 1) := by decide +kernel
theorem dX8_write_1 : decode cX8_write 1 = .ok (.invokestatic 58, 3) := by decide +kernel
theorem dX8_write_4 : decode cX8_write 4 = .ok (.ifCond .ne 6, 3) := by decide +kernel
theorem dX8_write_7 : decode cX8_write 7 = .ok (.bipush (-2), 2) := by decide +kernel
theorem dX8_write_9 : decode cX8_write 9 = .ok (.ireturn, 1) := by decide +kernel
theorem dX8_write_10 : decode cX8_write 10 = .ok (.aload_n 0, 1) := by decide +kernel
theorem dX8_write_11 : decode cX8_write 11 = .ok (.getfield 7, 3) := by decide +kernel
theorem dX8_write_14 : decode cX8_write 14 = .ok (.iload_n 1, 1) := by decide +kernel
theorem dX8_write_15 : decode cX8_write 15 = .ok (.iaload, 1) := by decide +kernel
theorem dX8_write_16 : decode cX8_write 16 = .ok (.ifCond .ge 9, 3) := by decide +kernel
theorem dX8_write_19 : decode cX8_write 19 = .ok (.aload_n 0, 1) := by decide +kernel
theorem dX8_write_20 : decode cX8_write 20 = .ok (.iconst 1, 1) := by decide +kernel
theorem dX8_write_21 : decode cX8_write 21 = .ok (.invokevirtual 64, 3) := by decide +kernel
theorem dX8_write_24 : decode cX8_write 24 = .ok (.ireturn, 1) := by decide +kernel
theorem dX8_write_25 : decode cX8_write 25 = .ok (.aload_n 0, 1) := by decide +kernel
theorem dX8_write_26 : decode cX8_write 26 = .ok (.invokevirtual 147, 3) := by decide +kernel
theorem dX8_write_29 : decode cX8_write 29 = .ok (.ifCond .ne 6, 3) := by decide +kernel
theorem dX8_write_32 : decode cX8_write 32 = .ok (.bipush (-3), 2) := by decide +kernel
theorem dX8_write_34 : decode cX8_write 34 = .ok (.ireturn, 1) := by decide +kernel
theorem dX8_write_35 : decode cX8_write 35 = .ok (.aload_n 0, 1) := by decide +kernel
theorem dX8_write_36 : decode cX8_write 36 = .ok (.getfield 13, 3) := by decide +kernel
theorem dX8_write_39 : decode cX8_write 39 = .ok (.iload_n 1, 1) := by decide +kernel
theorem dX8_write_40 : decode cX8_write 40 = .ok (.iaload, 1) := by decide +kernel
theorem dX8_write_41 : decode cX8_write 41 = .ok (.iconst 4, 1) := by decide +kernel
theorem dX8_write_42 : decode cX8_write 42 = .ok (.invokestatic 128, 3) := by decide +kernel
theorem dX8_write_45 : decode cX8_write 45 = .ok (.istore_n 2, 1) := by decide +kernel
theorem dX8_write_46 : decode cX8_write 46 = .ok (.iconst 0, 1) := by decide +kernel
theorem dX8_write_47 : decode cX8_write 47 = .ok (.istore_n 3, 1) := by decide +kernel
theorem dX8_write_48 : decode cX8_write 48 = .ok (.iload_n 3, 1) := by decide +kernel
theorem dX8_write_49 : decode cX8_write 49 = .ok (.iload_n 2, 1) := by decide +kernel
theorem dX8_write_50 : decode cX8_write 50 = .ok (.if_icmp .ge 34, 3) := by decide +kernel
theorem dX8_write_53 : decode cX8_write 53 = .ok (.aload_n 0, 1) := by decide +kernel
theorem dX8_write_54 : decode cX8_write 54 = .ok (.getfield 16, 3) := by decide +kernel
theorem dX8_write_57 : decode cX8_write 57 = .ok (.bipush 60, 2) := by decide +kernel
theorem dX8_write_59 : decode cX8_write 59 = .ok (.iload_n 1, 1) := by decide +kernel
theorem dX8_write_60 : decode cX8_write 60 = .ok (.imul, 1) := by decide +kernel
theorem dX8_write_61 : decode cX8_write 61 = .ok (.iload_n 3, 1) := by decide +kernel
theorem dX8_write_62 : decode cX8_write 62 = .ok (.iadd, 1) := by decide +kernel
theorem dX8_write_63 : decode cX8_write 63 = .ok (.aload_n 0, 1) := by decide +kernel
theorem dX8_write_64 : decode cX8_write 64 = .ok (.getfield 7, 3) := by decide +kernel
theorem dX8_write_67 : decode cX8_write 67 = .ok (.iload_n 1, 1) := by decide +kernel
theorem dX8_write_68 : decode cX8_write 68 = .ok (.iaload, 1) := by decide +kernel
theorem dX8_write_69 : decode cX8_write 69 = .ok (.aload_n 0, 1) := by decide +kernel
theorem dX8_write_70 : decode cX8_write 70 = .ok (.iload_n 3, 1) := by decide +kernel
theorem dX8_write_71 : decode cX8_write 71 = .ok (.invokevirtual 165, 3) := by decide +kernel
theorem dX8_write_74 : decode cX8_write 74 = .ok (.invokestatic 72, 3) := by decide +kernel
theorem dX8_write_77 : decode cX8_write 77 = .ok (.iastore, 1) := by decide +kernel
theorem dX8_write_78 : decode cX8_write 78 = .ok (.iinc 3 1, 3) := by decide +kernel
theorem dX8_write_81 : decode cX8_write 81 = .ok (.goto (-33), 3) := by decide +kernel
theorem dX8_write_84 : decode cX8_write 84 = .ok (.iload_n 2, 1) := by decide +kernel
theorem dX8_write_85 : decode cX8_write 85 = .ok (.ireturn, 1) := by decide +kernel
theorem dX8_unlike_0 : decode cX8_unlike 0 = .ok (.iconst 0, 1) := by decide +kernel
theorem dX8_unlike_1 : decode cX8_unlike 1 = .ok (.istore_n 1, 1) := by decide +kernel
theorem dX8_unlike_2 : decode cX8_unlike 2 = .ok (.iconst 0, 1) := by decide +kernel
theorem dX8_unlike_3 : decode cX8_unlike 3 = .ok (.istore_n 2, 1) := by decide +kernel
theorem dX8_unlike_4 : decode cX8_unlike 4 = .ok (.iload_n 2, 1) := by decide +kernel
theorem dX8_unlike_5 : decode cX8_unlike 5 = .ok (.iconst 4, 1) := by decide +kernel
theorem dX8_unlike_6 : decode cX8_unlike 6 = .ok (.if_icmp .ge 20, 3) := by decide +kernel
theorem dX8_unlike_9 : decode cX8_unlike 9 = .ok (.iload_n 1, 1) := by decide +kernel
theorem dX8_unlike_10 : decode cX8_unlike 10 = .ok (.iconst 1, 1) := by decide +kernel
theorem dX8_unlike_11 : decode cX8_unlike 11 = .ok (.aload_n 0, 1) := by decide +kernel
theorem dX8_unlike_12 : decode cX8_unlike 12 = .ok (.getfield 28, 3) := by decide +kernel
theorem dX8_unlike_15 : decode cX8_unlike 15 = .ok (.iload_n 2, 1) := by decide +kernel
theorem dX8_unlike_16 : decode cX8_unlike 16 = .ok (.iaload, 1) := by decide +kernel
theorem dX8_unlike_17 : decode cX8_unlike 17 = .ok (.ishl, 1) := by decide +kernel
theorem dX8_unlike_18 : decode cX8_unlike 18 = .ok (.ior, 1) := by decide +kernel
theorem dX8_unlike_19 : decode cX8_unlike 19 = .ok (.istore_n 1, 1) := by decide +kernel
theorem dX8_unlike_20 : decode cX8_unlike 20 = .ok (.iinc 2 1, 3) := by decide +kernel
theorem dX8_unlike_23 : decode cX8_unlike 23 = .ok (.goto (-19), 3) := by decide +kernel
theorem dX8_unlike_26 : decode cX8_unlike 26 = .ok (.iconst 0, 1) := by decide +kernel
theorem dX8_unlike_27 : decode cX8_unlike 27 = .ok (.istore_n 2, 1) := by decide +kernel
theorem dX8_unlike_28 : decode cX8_unlike 28 = .ok (.iload_n 1, 1) := by decide +kernel
theorem dX8_unlike_29 : decode cX8_unlike 29 = .ok (.istore_n 3, 1) := by decide +kernel
theorem dX8_unlike_30 : decode cX8_unlike 30 = .ok (.iload_n 3, 1) := by decide +kernel
theorem dX8_unlike_31 : decode cX8_unlike 31 = .ok (.ifCond .eq 15, 3) := by decide +kernel
theorem dX8_unlike_34 : decode cX8_unlike 34 = .ok (.iinc 2 1, 3) := by decide +kernel
theorem dX8_unlike_37 : decode cX8_unlike 37 = .ok (.iload_n 3, 1) := by decide +kernel
theorem dX8_unlike_38 : decode cX8_unlike 38 = .ok (.iload_n 3, 1) := by decide +kernel
theorem dX8_unlike_39 : decode cX8_unlike 39 = .ok (.iconst 1, 1) := by decide +kernel
theorem dX8_unlike_40 : decode cX8_unlike 40 = .ok (.isub, 1) := by decide +kernel
theorem dX8_unlike_41 : decode cX8_unlike 41 = .ok (.iand, 1) := by decide +kernel
theorem dX8_unlike_42 : decode cX8_unlike 42 = .ok (.istore_n 3, 1) := by decide +kernel
theorem dX8_unlike_43 : decode cX8_unlike 43 = .ok (.goto (-13), 3) := by decide +kernel
theorem dX8_unlike_46 : decode cX8_unlike 46 = .ok (.iload_n 2, 1) := by decide +kernel
theorem dX8_unlike_47 : decode cX8_unlike 47 = .ok (.ireturn, 1) := by decide +kernel
theorem dX8_count_0 : decode cX8_count 0 = .ok (.aload_n 0, 1) := by decide +kernel
theorem dX8_count_1 : decode cX8_count 1 = .ok (.invokevirtual 101, 3) := by decide +kernel
theorem dX8_count_4 : decode cX8_count 4 = .ok (.pop, 1) := by decide +kernel
theorem dX8_count_5 : decode cX8_count 5 = .ok (.iload_n 1, 1) := by decide +kernel
theorem dX8_count_6 : decode cX8_count 6 = .ok (.tableswitch 93 0 8 #[50, 55, 60, 67, 67, 67, 76, 81, 88], 50) := by decide +kernel
theorem dX8_count_56 : decode cX8_count 56 = .ok (.aload_n 0, 1) := by decide +kernel
theorem dX8_count_57 : decode cX8_count 57 = .ok (.getfield 85, 3) := by decide +kernel
theorem dX8_count_60 : decode cX8_count 60 = .ok (.ireturn, 1) := by decide +kernel
theorem dX8_count_61 : decode cX8_count 61 = .ok (.aload_n 0, 1) := by decide +kernel
theorem dX8_count_62 : decode cX8_count 62 = .ok (.getfield 79, 3) := by decide +kernel
theorem dX8_count_65 : decode cX8_count 65 = .ok (.ireturn, 1) := by decide +kernel
theorem dX8_count_66 : decode cX8_count 66 = .ok (.aload_n 0, 1) := by decide +kernel
theorem dX8_count_67 : decode cX8_count 67 = .ok (.getfield 31, 3) := by decide +kernel
theorem dX8_count_70 : decode cX8_count 70 = .ok (.iconst 0, 1) := by decide +kernel
theorem dX8_count_71 : decode cX8_count 71 = .ok (.iaload, 1) := by decide +kernel
theorem dX8_count_72 : decode cX8_count 72 = .ok (.ireturn, 1) := by decide +kernel
theorem dX8_count_73 : decode cX8_count 73 = .ok (.aload_n 0, 1) := by decide +kernel
theorem dX8_count_74 : decode cX8_count 74 = .ok (.getfield 34, 3) := by decide +kernel
theorem dX8_count_77 : decode cX8_count 77 = .ok (.iload_n 1, 1) := by decide +kernel
theorem dX8_count_78 : decode cX8_count 78 = .ok (.iconst 3, 1) := by decide +kernel
theorem dX8_count_79 : decode cX8_count 79 = .ok (.isub, 1) := by decide +kernel
theorem dX8_count_80 : decode cX8_count 80 = .ok (.iaload, 1) := by decide +kernel
theorem dX8_count_81 : decode cX8_count 81 = .ok (.ireturn, 1) := by decide +kernel
theorem dX8_count_82 : decode cX8_count 82 = .ok (.aload_n 0, 1) := by decide +kernel
theorem dX8_count_83 : decode cX8_count 83 = .ok (.invokevirtual 238, 3) := by decide +kernel
theorem dX8_count_86 : decode cX8_count 86 = .ok (.ireturn, 1) := by decide +kernel
theorem dX8_count_87 : decode cX8_count 87 = .ok (.aload_n 0, 1) := by decide +kernel
theorem dX8_count_88 : decode cX8_count 88 = .ok (.getfield 31, 3) := by decide +kernel
theorem dX8_count_91 : decode cX8_count 91 = .ok (.iconst 2, 1) := by decide +kernel
theorem dX8_count_92 : decode cX8_count 92 = .ok (.iaload, 1) := by decide +kernel
theorem dX8_count_93 : decode cX8_count 93 = .ok (.ireturn, 1) := by decide +kernel
theorem dX8_count_94 : decode cX8_count 94 = .ok (.aload_n 0, 1) := by decide +kernel
theorem dX8_count_95 : decode cX8_count 95 = .ok (.getfield 52, 3) := by decide +kernel
theorem dX8_count_98 : decode cX8_count 98 = .ok (.ireturn, 1) := by decide +kernel
theorem dX8_count_99 : decode cX8_count 99 = .ok (.bipush (-2), 2) := by decide +kernel
theorem dX8_count_101 : decode cX8_count 101 = .ok (.ireturn, 1) := by decide +kernel
theorem dX8_digest_0 : decode cX8_digest 0 = .ok (.ldc2_w 241, 3) := by decide +kernel
theorem dX8_digest_3 : decode cX8_digest 3 = .ok (.lstore_n 1, 1) := by decide +kernel
theorem dX8_digest_4 : decode cX8_digest 4 = .ok (.iconst 0, 1) := by decide +kernel
theorem dX8_digest_5 : decode cX8_digest 5 = .ok (.istore_n 3, 1) := by decide +kernel
theorem dX8_digest_6 : decode cX8_digest 6 = .ok (.iload_n 3, 1) := by decide +kernel
theorem dX8_digest_7 : decode cX8_digest 7 = .ok (.bipush 8, 2) := by decide +kernel
theorem dX8_digest_9 : decode cX8_digest 9 = .ok (.if_icmp .ge 22, 3) := by decide +kernel
theorem dX8_digest_12 : decode cX8_digest 12 = .ok (.ldc2_w 243, 3) := by decide +kernel
theorem dX8_digest_15 : decode cX8_digest 15 = .ok (.lload_n 1, 1) := by decide +kernel
theorem dX8_digest_16 : decode cX8_digest 16 = .ok (.lmul, 1) := by decide +kernel
theorem dX8_digest_17 : decode cX8_digest 17 = .ok (.aload_n 0, 1) := by decide +kernel
theorem dX8_digest_18 : decode cX8_digest 18 = .ok (.iload_n 3, 1) := by decide +kernel
theorem dX8_digest_19 : decode cX8_digest 19 = .ok (.invokevirtual 245, 3) := by decide +kernel
theorem dX8_digest_22 : decode cX8_digest 22 = .ok (.i2l, 1) := by decide +kernel
theorem dX8_digest_23 : decode cX8_digest 23 = .ok (.ladd, 1) := by decide +kernel
theorem dX8_digest_24 : decode cX8_digest 24 = .ok (.lstore_n 1, 1) := by decide +kernel
theorem dX8_digest_25 : decode cX8_digest 25 = .ok (.iinc 3 1, 3) := by decide +kernel
theorem dX8_digest_28 : decode cX8_digest 28 = .ok (.goto (-22), 3) := by decide +kernel
theorem dX8_digest_31 : decode cX8_digest 31 = .ok (.ldc2_w 243, 3) := by decide +kernel
theorem dX8_digest_34 : decode cX8_digest 34 = .ok (.lload_n 1, 1) := by decide +kernel
theorem dX8_digest_35 : decode cX8_digest 35 = .ok (.lmul, 1) := by decide +kernel
theorem dX8_digest_36 : decode cX8_digest 36 = .ok (.aload_n 0, 1) := by decide +kernel
theorem dX8_digest_37 : decode cX8_digest 37 = .ok (.invokevirtual 101, 3) := by decide +kernel
theorem dX8_digest_40 : decode cX8_digest 40 = .ok (.i2l, 1) := by decide +kernel
theorem dX8_digest_41 : decode cX8_digest 41 = .ok (.ladd, 1) := by decide +kernel
theorem dX8_digest_42 : decode cX8_digest 42 = .ok (.lstore_n 1, 1) := by decide +kernel
theorem dX8_digest_43 : decode cX8_digest 43 = .ok (.iconst 0, 1) := by decide +kernel
theorem dX8_digest_44 : decode cX8_digest 44 = .ok (.istore_n 3, 1) := by decide +kernel
theorem dX8_digest_45 : decode cX8_digest 45 = .ok (.iload_n 3, 1) := by decide +kernel
theorem dX8_digest_46 : decode cX8_digest 46 = .ok (.aload_n 0, 1) := by decide +kernel
theorem dX8_digest_47 : decode cX8_digest 47 = .ok (.getfield 85, 3) := by decide +kernel
theorem dX8_digest_50 : decode cX8_digest 50 = .ok (.if_icmp .ge 59, 3) := by decide +kernel
theorem dX8_digest_53 : decode cX8_digest 53 = .ok (.iconst 0, 1) := by decide +kernel
theorem dX8_digest_54 : decode cX8_digest 54 = .ok (.istore 4, 2) := by decide +kernel
theorem dX8_digest_56 : decode cX8_digest 56 = .ok (.iload 4, 2) := by decide +kernel
theorem dX8_digest_58 : decode cX8_digest 58 = .ok (.iconst 4, 1) := by decide +kernel
theorem dX8_digest_59 : decode cX8_digest 59 = .ok (.if_icmp .ge 28, 3) := by decide +kernel
theorem dX8_digest_62 : decode cX8_digest 62 = .ok (.ldc2_w 243, 3) := by decide +kernel
theorem dX8_digest_65 : decode cX8_digest 65 = .ok (.lload_n 1, 1) := by decide +kernel
theorem dX8_digest_66 : decode cX8_digest 66 = .ok (.lmul, 1) := by decide +kernel
theorem dX8_digest_67 : decode cX8_digest 67 = .ok (.aload_n 0, 1) := by decide +kernel
theorem dX8_digest_68 : decode cX8_digest 68 = .ok (.getfield 25, 3) := by decide +kernel
theorem dX8_digest_71 : decode cX8_digest 71 = .ok (.iconst 4, 1) := by decide +kernel
theorem dX8_digest_72 : decode cX8_digest 72 = .ok (.iload_n 3, 1) := by decide +kernel
theorem dX8_digest_73 : decode cX8_digest 73 = .ok (.imul, 1) := by decide +kernel
theorem dX8_digest_74 : decode cX8_digest 74 = .ok (.iload 4, 2) := by decide +kernel
theorem dX8_digest_76 : decode cX8_digest 76 = .ok (.iadd, 1) := by decide +kernel
theorem dX8_digest_77 : decode cX8_digest 77 = .ok (.iaload, 1) := by decide +kernel
theorem dX8_digest_78 : decode cX8_digest 78 = .ok (.i2l, 1) := by decide +kernel
theorem dX8_digest_79 : decode cX8_digest 79 = .ok (.ladd, 1) := by decide +kernel
theorem dX8_digest_80 : decode cX8_digest 80 = .ok (.lstore_n 1, 1) := by decide +kernel
theorem dX8_digest_81 : decode cX8_digest 81 = .ok (.iinc 4 1, 3) := by decide +kernel
theorem dX8_digest_84 : decode cX8_digest 84 = .ok (.goto (-28), 3) := by decide +kernel
theorem dX8_digest_87 : decode cX8_digest 87 = .ok (.ldc2_w 243, 3) := by decide +kernel
theorem dX8_digest_90 : decode cX8_digest 90 = .ok (.lload_n 1, 1) := by decide +kernel
theorem dX8_digest_91 : decode cX8_digest 91 = .ok (.lmul, 1) := by decide +kernel
theorem dX8_digest_92 : decode cX8_digest 92 = .ok (.aload_n 0, 1) := by decide +kernel
theorem dX8_digest_93 : decode cX8_digest 93 = .ok (.iload_n 3, 1) := by decide +kernel
theorem dX8_digest_94 : decode cX8_digest 94 = .ok (.iconst 1, 1) := by decide +kernel
theorem dX8_digest_95 : decode cX8_digest 95 = .ok (.bipush 50, 2) := by decide +kernel
theorem dX8_digest_97 : decode cX8_digest 97 = .ok (.invokevirtual 133, 3) := by decide +kernel
theorem dX8_digest_100 : decode cX8_digest 100 = .ok (.i2l, 1) := by decide +kernel
theorem dX8_digest_101 : decode cX8_digest 101 = .ok (.ladd, 1) := by decide +kernel
theorem dX8_digest_102 : decode cX8_digest 102 = .ok (.lstore_n 1, 1) := by decide +kernel
theorem dX8_digest_103 : decode cX8_digest 103 = .ok (.iinc 3 1, 3) := by decide +kernel
theorem dX8_digest_106 : decode cX8_digest 106 = .ok (.goto (-61), 3) := by decide +kernel
theorem dX8_digest_109 : decode cX8_digest 109 = .ok (.iconst 0, 1) := by decide +kernel
theorem dX8_digest_110 : decode cX8_digest 110 = .ok (.istore_n 3, 1) := by decide +kernel
theorem dX8_digest_111 : decode cX8_digest 111 = .ok (.iload_n 3, 1) := by decide +kernel
theorem dX8_digest_112 : decode cX8_digest 112 = .ok (.iconst 4, 1) := by decide +kernel
theorem dX8_digest_113 : decode cX8_digest 113 = .ok (.if_icmp .ge 50, 3) := by decide +kernel
theorem dX8_digest_116 : decode cX8_digest 116 = .ok (.ldc2_w 243, 3) := by decide +kernel
theorem dX8_digest_119 : decode cX8_digest 119 = .ok (.lload_n 1, 1) := by decide +kernel
theorem dX8_digest_120 : decode cX8_digest 120 = .ok (.lmul, 1) := by decide +kernel
theorem dX8_digest_121 : decode cX8_digest 121 = .ok (.aload_n 0, 1) := by decide +kernel
theorem dX8_digest_122 : decode cX8_digest 122 = .ok (.iload_n 3, 1) := by decide +kernel
theorem dX8_digest_123 : decode cX8_digest 123 = .ok (.iconst 0, 1) := by decide +kernel
theorem dX8_digest_124 : decode cX8_digest 124 = .ok (.invokevirtual 248, 3) := by decide +kernel
theorem dX8_digest_127 : decode cX8_digest 127 = .ok (.i2l, 1) := by decide +kernel
theorem dX8_digest_128 : decode cX8_digest 128 = .ok (.ladd, 1) := by decide +kernel
theorem dX8_digest_129 : decode cX8_digest 129 = .ok (.lstore_n 1, 1) := by decide +kernel
theorem dX8_digest_130 : decode cX8_digest 130 = .ok (.ldc2_w 243, 3) := by decide +kernel
theorem dX8_digest_133 : decode cX8_digest 133 = .ok (.lload_n 1, 1) := by decide +kernel
theorem dX8_digest_134 : decode cX8_digest 134 = .ok (.lmul, 1) := by decide +kernel
theorem dX8_digest_135 : decode cX8_digest 135 = .ok (.aload_n 0, 1) := by decide +kernel
theorem dX8_digest_136 : decode cX8_digest 136 = .ok (.iload_n 3, 1) := by decide +kernel
theorem dX8_digest_137 : decode cX8_digest 137 = .ok (.iconst 1, 1) := by decide +kernel
theorem dX8_digest_138 : decode cX8_digest 138 = .ok (.invokevirtual 248, 3) := by decide +kernel
theorem dX8_digest_141 : decode cX8_digest 141 = .ok (.i2l, 1) := by decide +kernel
theorem dX8_digest_142 : decode cX8_digest 142 = .ok (.ladd, 1) := by decide +kernel
theorem dX8_digest_143 : decode cX8_digest 143 = .ok (.lstore_n 1, 1) := by decide +kernel
theorem dX8_digest_144 : decode cX8_digest 144 = .ok (.ldc2_w 243, 3) := by decide +kernel
theorem dX8_digest_147 : decode cX8_digest 147 = .ok (.lload_n 1, 1) := by decide +kernel
theorem dX8_digest_148 : decode cX8_digest 148 = .ok (.lmul, 1) := by decide +kernel
theorem dX8_digest_149 : decode cX8_digest 149 = .ok (.aload_n 0, 1) := by decide +kernel
theorem dX8_digest_150 : decode cX8_digest 150 = .ok (.iload_n 3, 1) := by decide +kernel
theorem dX8_digest_151 : decode cX8_digest 151 = .ok (.invokevirtual 168, 3) := by decide +kernel
theorem dX8_digest_154 : decode cX8_digest 154 = .ok (.i2l, 1) := by decide +kernel
theorem dX8_digest_155 : decode cX8_digest 155 = .ok (.ladd, 1) := by decide +kernel
theorem dX8_digest_156 : decode cX8_digest 156 = .ok (.lstore_n 1, 1) := by decide +kernel
theorem dX8_digest_157 : decode cX8_digest 157 = .ok (.iinc 3 1, 3) := by decide +kernel
theorem dX8_digest_160 : decode cX8_digest 160 = .ok (.goto (-49), 3) := by decide +kernel
theorem dX8_digest_163 : decode cX8_digest 163 = .ok (.iconst 0, 1) := by decide +kernel
theorem dX8_digest_164 : decode cX8_digest 164 = .ok (.istore_n 3, 1) := by decide +kernel
theorem dX8_digest_165 : decode cX8_digest 165 = .ok (.iload_n 3, 1) := by decide +kernel
theorem dX8_digest_166 : decode cX8_digest 166 = .ok (.iconst 3, 1) := by decide +kernel
theorem dX8_digest_167 : decode cX8_digest 167 = .ok (.if_icmp .ge 90, 3) := by decide +kernel
theorem dX8_digest_170 : decode cX8_digest 170 = .ok (.ldc2_w 243, 3) := by decide +kernel
theorem dX8_digest_173 : decode cX8_digest 173 = .ok (.lload_n 1, 1) := by decide +kernel
theorem dX8_digest_174 : decode cX8_digest 174 = .ok (.lmul, 1) := by decide +kernel
theorem dX8_digest_175 : decode cX8_digest 175 = .ok (.aload_n 0, 1) := by decide +kernel
theorem dX8_digest_176 : decode cX8_digest 176 = .ok (.iload_n 3, 1) := by decide +kernel
theorem dX8_digest_177 : decode cX8_digest 177 = .ok (.invokevirtual 156, 3) := by decide +kernel
theorem dX8_digest_180 : decode cX8_digest 180 = .ok (.i2l, 1) := by decide +kernel
theorem dX8_digest_181 : decode cX8_digest 181 = .ok (.ladd, 1) := by decide +kernel
theorem dX8_digest_182 : decode cX8_digest 182 = .ok (.lstore_n 1, 1) := by decide +kernel
theorem dX8_digest_183 : decode cX8_digest 183 = .ok (.ldc2_w 243, 3) := by decide +kernel
theorem dX8_digest_186 : decode cX8_digest 186 = .ok (.lload_n 1, 1) := by decide +kernel
theorem dX8_digest_187 : decode cX8_digest 187 = .ok (.lmul, 1) := by decide +kernel
theorem dX8_digest_188 : decode cX8_digest 188 = .ok (.aload_n 0, 1) := by decide +kernel
theorem dX8_digest_189 : decode cX8_digest 189 = .ok (.iload_n 3, 1) := by decide +kernel
theorem dX8_digest_190 : decode cX8_digest 190 = .ok (.invokevirtual 159, 3) := by decide +kernel
theorem dX8_digest_193 : decode cX8_digest 193 = .ok (.i2l, 1) := by decide +kernel
theorem dX8_digest_194 : decode cX8_digest 194 = .ok (.ladd, 1) := by decide +kernel
theorem dX8_digest_195 : decode cX8_digest 195 = .ok (.lstore_n 1, 1) := by decide +kernel
theorem dX8_digest_196 : decode cX8_digest 196 = .ok (.ldc2_w 243, 3) := by decide +kernel
theorem dX8_digest_199 : decode cX8_digest 199 = .ok (.lload_n 1, 1) := by decide +kernel
theorem dX8_digest_200 : decode cX8_digest 200 = .ok (.lmul, 1) := by decide +kernel
theorem dX8_digest_201 : decode cX8_digest 201 = .ok (.aload_n 0, 1) := by decide +kernel
theorem dX8_digest_202 : decode cX8_digest 202 = .ok (.iload_n 3, 1) := by decide +kernel
theorem dX8_digest_203 : decode cX8_digest 203 = .ok (.invokevirtual 177, 3) := by decide +kernel
theorem dX8_digest_206 : decode cX8_digest 206 = .ok (.i2l, 1) := by decide +kernel
theorem dX8_digest_207 : decode cX8_digest 207 = .ok (.ladd, 1) := by decide +kernel
theorem dX8_digest_208 : decode cX8_digest 208 = .ok (.lstore_n 1, 1) := by decide +kernel
theorem dX8_digest_209 : decode cX8_digest 209 = .ok (.ldc2_w 243, 3) := by decide +kernel
theorem dX8_digest_212 : decode cX8_digest 212 = .ok (.lload_n 1, 1) := by decide +kernel
theorem dX8_digest_213 : decode cX8_digest 213 = .ok (.lmul, 1) := by decide +kernel
theorem dX8_digest_214 : decode cX8_digest 214 = .ok (.aload_n 0, 1) := by decide +kernel
theorem dX8_digest_215 : decode cX8_digest 215 = .ok (.iload_n 3, 1) := by decide +kernel
theorem dX8_digest_216 : decode cX8_digest 216 = .ok (.bipush 10, 2) := by decide +kernel
theorem dX8_digest_218 : decode cX8_digest 218 = .ok (.invokevirtual 195, 3) := by decide +kernel
theorem dX8_digest_221 : decode cX8_digest 221 = .ok (.i2l, 1) := by decide +kernel
theorem dX8_digest_222 : decode cX8_digest 222 = .ok (.ladd, 1) := by decide +kernel
theorem dX8_digest_223 : decode cX8_digest 223 = .ok (.lstore_n 1, 1) := by decide +kernel
theorem dX8_digest_224 : decode cX8_digest 224 = .ok (.ldc2_w 243, 3) := by decide +kernel
theorem dX8_digest_227 : decode cX8_digest 227 = .ok (.lload_n 1, 1) := by decide +kernel
theorem dX8_digest_228 : decode cX8_digest 228 = .ok (.lmul, 1) := by decide +kernel
theorem dX8_digest_229 : decode cX8_digest 229 = .ok (.aload_n 0, 1) := by decide +kernel
theorem dX8_digest_230 : decode cX8_digest 230 = .ok (.iload_n 3, 1) := by decide +kernel
theorem dX8_digest_231 : decode cX8_digest 231 = .ok (.invokevirtual 204, 3) := by decide +kernel
theorem dX8_digest_234 : decode cX8_digest 234 = .ok (.i2l, 1) := by decide +kernel
theorem dX8_digest_235 : decode cX8_digest 235 = .ok (.ladd, 1) := by decide +kernel
theorem dX8_digest_236 : decode cX8_digest 236 = .ok (.lstore_n 1, 1) := by decide +kernel
theorem dX8_digest_237 : decode cX8_digest 237 = .ok (.ldc2_w 243, 3) := by decide +kernel
theorem dX8_digest_240 : decode cX8_digest 240 = .ok (.lload_n 1, 1) := by decide +kernel
theorem dX8_digest_241 : decode cX8_digest 241 = .ok (.lmul, 1) := by decide +kernel
theorem dX8_digest_242 : decode cX8_digest 242 = .ok (.aload_n 0, 1) := by decide +kernel
theorem dX8_digest_243 : decode cX8_digest 243 = .ok (.iload_n 3, 1) := by decide +kernel
theorem dX8_digest_244 : decode cX8_digest 244 = .ok (.iconst 5, 1) := by decide +kernel
theorem dX8_digest_245 : decode cX8_digest 245 = .ok (.invokevirtual 251, 3) := by decide +kernel
theorem dX8_digest_248 : decode cX8_digest 248 = .ok (.i2l, 1) := by decide +kernel
theorem dX8_digest_249 : decode cX8_digest 249 = .ok (.ladd, 1) := by decide +kernel
theorem dX8_digest_250 : decode cX8_digest 250 = .ok (.lstore_n 1, 1) := by decide +kernel
theorem dX8_digest_251 : decode cX8_digest 251 = .ok (.iinc 3 1, 3) := by decide +kernel
theorem dX8_digest_254 : decode cX8_digest 254 = .ok (.goto (-89), 3) := by decide +kernel
theorem dX8_digest_257 : decode cX8_digest 257 = .ok (.ldc2_w 243, 3) := by decide +kernel
theorem dX8_digest_260 : decode cX8_digest 260 = .ok (.lload_n 1, 1) := by decide +kernel
theorem dX8_digest_261 : decode cX8_digest 261 = .ok (.lmul, 1) := by decide +kernel
theorem dX8_digest_262 : decode cX8_digest 262 = .ok (.aload_n 0, 1) := by decide +kernel
theorem dX8_digest_263 : decode cX8_digest 263 = .ok (.invokevirtual 254, 3) := by decide +kernel
theorem dX8_digest_266 : decode cX8_digest 266 = .ok (.i2l, 1) := by decide +kernel
theorem dX8_digest_267 : decode cX8_digest 267 = .ok (.ladd, 1) := by decide +kernel
theorem dX8_digest_268 : decode cX8_digest 268 = .ok (.lstore_n 1, 1) := by decide +kernel
theorem dX8_digest_269 : decode cX8_digest 269 = .ok (.iconst 0, 1) := by decide +kernel
theorem dX8_digest_270 : decode cX8_digest 270 = .ok (.istore_n 3, 1) := by decide +kernel
theorem dX8_digest_271 : decode cX8_digest 271 = .ok (.iload_n 3, 1) := by decide +kernel
theorem dX8_digest_272 : decode cX8_digest 272 = .ok (.iconst 2, 1) := by decide +kernel
theorem dX8_digest_273 : decode cX8_digest 273 = .ok (.if_icmp .ge 21, 3) := by decide +kernel
theorem dX8_digest_276 : decode cX8_digest 276 = .ok (.ldc2_w 243, 3) := by decide +kernel
theorem dX8_digest_279 : decode cX8_digest 279 = .ok (.lload_n 1, 1) := by decide +kernel
theorem dX8_digest_280 : decode cX8_digest 280 = .ok (.lmul, 1) := by decide +kernel
theorem dX8_digest_281 : decode cX8_digest 281 = .ok (.aload_n 0, 1) := by decide +kernel
theorem dX8_digest_282 : decode cX8_digest 282 = .ok (.iload_n 3, 1) := by decide +kernel
theorem dX8_digest_283 : decode cX8_digest 283 = .ok (.invokevirtual 190, 3) := by decide +kernel
theorem dX8_digest_286 : decode cX8_digest 286 = .ok (.ladd, 1) := by decide +kernel
theorem dX8_digest_287 : decode cX8_digest 287 = .ok (.lstore_n 1, 1) := by decide +kernel
theorem dX8_digest_288 : decode cX8_digest 288 = .ok (.iinc 3 1, 3) := by decide +kernel
theorem dX8_digest_291 : decode cX8_digest 291 = .ok (.goto (-20), 3) := by decide +kernel
theorem dX8_digest_294 : decode cX8_digest 294 = .ok (.aload_n 0, 1) := by decide +kernel
theorem dX8_digest_295 : decode cX8_digest 295 = .ok (.iconst (-1), 1) := by decide +kernel
theorem dX8_digest_296 : decode cX8_digest 296 = .ok (.iconst 0, 1) := by decide +kernel
theorem dX8_digest_297 : decode cX8_digest 297 = .ok (.invokevirtual 217, 3) := by decide +kernel
theorem dX8_digest_300 : decode cX8_digest 300 = .ok (.pop, 1) := by decide +kernel
theorem dX8_digest_301 : decode cX8_digest 301 = .ok (.iconst 0, 1) := by decide +kernel
theorem dX8_digest_302 : decode cX8_digest 302 = .ok (.istore_n 3, 1) := by decide +kernel
theorem dX8_digest_303 : decode cX8_digest 303 = .ok (.iload_n 3, 1) := by decide +kernel
theorem dX8_digest_304 : decode cX8_digest 304 = .ok (.bipush 8, 2) := by decide +kernel
theorem dX8_digest_306 : decode cX8_digest 306 = .ok (.if_icmp .ge 23, 3) := by decide +kernel
theorem dX8_digest_309 : decode cX8_digest 309 = .ok (.ldc2_w 243, 3) := by decide +kernel
theorem dX8_digest_312 : decode cX8_digest 312 = .ok (.lload_n 1, 1) := by decide +kernel
theorem dX8_digest_313 : decode cX8_digest 313 = .ok (.lmul, 1) := by decide +kernel
theorem dX8_digest_314 : decode cX8_digest 314 = .ok (.aload_n 0, 1) := by decide +kernel
theorem dX8_digest_315 : decode cX8_digest 315 = .ok (.getfield 40, 3) := by decide +kernel
theorem dX8_digest_318 : decode cX8_digest 318 = .ok (.iload_n 3, 1) := by decide +kernel
theorem dX8_digest_319 : decode cX8_digest 319 = .ok (.iaload, 1) := by decide +kernel
theorem dX8_digest_320 : decode cX8_digest 320 = .ok (.i2l, 1) := by decide +kernel
theorem dX8_digest_321 : decode cX8_digest 321 = .ok (.ladd, 1) := by decide +kernel
theorem dX8_digest_322 : decode cX8_digest 322 = .ok (.lstore_n 1, 1) := by decide +kernel
theorem dX8_digest_323 : decode cX8_digest 323 = .ok (.iinc 3 1, 3) := by decide +kernel
theorem dX8_digest_326 : decode cX8_digest 326 = .ok (.goto (-23), 3) := by decide +kernel
theorem dX8_digest_329 : decode cX8_digest 329 = .ok (.ldc2_w 243, 3) := by decide +kernel
theorem dX8_digest_332 : decode cX8_digest 332 = .ok (.lload_n 1, 1) := by decide +kernel
theorem dX8_digest_333 : decode cX8_digest 333 = .ok (.lmul, 1) := by decide +kernel
theorem dX8_digest_334 : decode cX8_digest 334 = .ok (.aload_n 0, 1) := by decide +kernel
theorem dX8_digest_335 : decode cX8_digest 335 = .ok (.iconst 1, 1) := by decide +kernel
theorem dX8_digest_336 : decode cX8_digest 336 = .ok (.iconst 0, 1) := by decide +kernel
theorem dX8_digest_337 : decode cX8_digest 337 = .ok (.invokevirtual 217, 3) := by decide +kernel
theorem dX8_digest_340 : decode cX8_digest 340 = .ok (.i2l, 1) := by decide +kernel
theorem dX8_digest_341 : decode cX8_digest 341 = .ok (.ladd, 1) := by decide +kernel
theorem dX8_digest_342 : decode cX8_digest 342 = .ok (.lstore_n 1, 1) := by decide +kernel
theorem dX8_digest_343 : decode cX8_digest 343 = .ok (.ldc2_w 243, 3) := by decide +kernel
theorem dX8_digest_346 : decode cX8_digest 346 = .ok (.lload_n 1, 1) := by decide +kernel
theorem dX8_digest_347 : decode cX8_digest 347 = .ok (.lmul, 1) := by decide +kernel
theorem dX8_digest_348 : decode cX8_digest 348 = .ok (.aload_n 0, 1) := by decide +kernel
theorem dX8_digest_349 : decode cX8_digest 349 = .ok (.bipush 7, 2) := by decide +kernel
theorem dX8_digest_351 : decode cX8_digest 351 = .ok (.invokevirtual 257, 3) := by decide +kernel
theorem dX8_digest_354 : decode cX8_digest 354 = .ok (.i2l, 1) := by decide +kernel
theorem dX8_digest_355 : decode cX8_digest 355 = .ok (.ladd, 1) := by decide +kernel
theorem dX8_digest_356 : decode cX8_digest 356 = .ok (.lstore_n 1, 1) := by decide +kernel
theorem dX8_digest_357 : decode cX8_digest 357 = .ok (.ldc2_w 243, 3) := by decide +kernel
theorem dX8_digest_360 : decode cX8_digest 360 = .ok (.lload_n 1, 1) := by decide +kernel
theorem dX8_digest_361 : decode cX8_digest 361 = .ok (.lmul, 1) := by decide +kernel
theorem dX8_digest_362 : decode cX8_digest 362 = .ok (.aload_n 0, 1) := by decide +kernel
theorem dX8_digest_363 : decode cX8_digest 363 = .ok (.bipush 7, 2) := by decide +kernel
theorem dX8_digest_365 : decode cX8_digest 365 = .ok (.bipush 10, 2) := by decide +kernel
theorem dX8_digest_367 : decode cX8_digest 367 = .ok (.sipush 5000, 3) := by decide +kernel
theorem dX8_digest_370 : decode cX8_digest 370 = .ok (.invokevirtual 260, 3) := by decide +kernel
theorem dX8_digest_373 : decode cX8_digest 373 = .ok (.i2l, 1) := by decide +kernel
theorem dX8_digest_374 : decode cX8_digest 374 = .ok (.ladd, 1) := by decide +kernel
theorem dX8_digest_375 : decode cX8_digest 375 = .ok (.lreturn, 1) := by decide +kernel
theorem dJ6_bitCount_0f7a4_0 : decode cJ6_bitCount_0f7a4 0 = .ok (.iload_n 0, 1) := by decide +kernel
theorem dJ6_bitCount_0f7a4_1 : decode cJ6_bitCount_0f7a4 1 = .ok (.iload_n 0, 1) := by decide +kernel
theorem dJ6_bitCount_0f7a4_2 : decode cJ6_bitCount_0f7a4 2 = .ok (.iconst 1, 1) := by decide +kernel
theorem dJ6_bitCount_0f7a4_3 : decode cJ6_bitCount_0f7a4 3 = .ok (.iushr, 1) := by decide +kernel
theorem dJ6_bitCount_0f7a4_4 : decode cJ6_bitCount_0f7a4 4 = .ok (.ldc_w 265, 3) := by decide +kernel
theorem dJ6_bitCount_0f7a4_7 : decode cJ6_bitCount_0f7a4 7 = .ok (.iand, 1) := by decide +kernel
theorem dJ6_bitCount_0f7a4_8 : decode cJ6_bitCount_0f7a4 8 = .ok (.isub, 1) := by decide +kernel
theorem dJ6_bitCount_0f7a4_9 : decode cJ6_bitCount_0f7a4 9 = .ok (.istore_n 0, 1) := by decide +kernel
theorem dJ6_bitCount_0f7a4_10 : decode cJ6_bitCount_0f7a4 10 = .ok (.iload_n 0, 1) := by decide +kernel
theorem dJ6_bitCount_0f7a4_11 : decode cJ6_bitCount_0f7a4 11 = .ok (.ldc_w 266, 3) := by decide +kernel
theorem dJ6_bitCount_0f7a4_14 : decode cJ6_bitCount_0f7a4 14 = .ok (.iand, 1) := by decide +kernel
theorem dJ6_bitCount_0f7a4_15 : decode cJ6_bitCount_0f7a4 15 = .ok (.iload_n 0, 1) := by decide +kernel
theorem dJ6_bitCount_0f7a4_16 : decode cJ6_bitCount_0f7a4 16 = .ok (.iconst 2, 1) := by decide +kernel
theorem dJ6_bitCount_0f7a4_17 : decode cJ6_bitCount_0f7a4 17 = .ok (.iushr, 1) := by decide +kernel
theorem dJ6_bitCount_0f7a4_18 : decode cJ6_bitCount_0f7a4 18 = .ok (.ldc_w 266, 3) := by decide +kernel
theorem dJ6_bitCount_0f7a4_21 : decode cJ6_bitCount_0f7a4 21 = .ok (.iand, 1) := by decide +kernel
theorem dJ6_bitCount_0f7a4_22 : decode cJ6_bitCount_0f7a4 22 = .ok (.iadd, 1) := by decide +kernel
theorem dJ6_bitCount_0f7a4_23 : decode cJ6_bitCount_0f7a4 23 = .ok (.istore_n 0, 1) := by decide +kernel
theorem dJ6_bitCount_0f7a4_24 : decode cJ6_bitCount_0f7a4 24 = .ok (.iload_n 0, 1) := by decide +kernel
theorem dJ6_bitCount_0f7a4_25 : decode cJ6_bitCount_0f7a4 25 = .ok (.iload_n 0, 1) := by decide +kernel
theorem dJ6_bitCount_0f7a4_26 : decode cJ6_bitCount_0f7a4 26 = .ok (.iconst 4, 1) := by decide +kernel
theorem dJ6_bitCount_0f7a4_27 : decode cJ6_bitCount_0f7a4 27 = .ok (.iushr, 1) := by decide +kernel
theorem dJ6_bitCount_0f7a4_28 : decode cJ6_bitCount_0f7a4 28 = .ok (.iadd, 1) := by decide +kernel
theorem dJ6_bitCount_0f7a4_29 : decode cJ6_bitCount_0f7a4 29 = .ok (.ldc_w 267, 3) := by decide +kernel
theorem dJ6_bitCount_0f7a4_32 : decode cJ6_bitCount_0f7a4 32 = .ok (.iand, 1) := by decide +kernel
theorem dJ6_bitCount_0f7a4_33 : decode cJ6_bitCount_0f7a4 33 = .ok (.istore_n 0, 1) := by decide +kernel
theorem dJ6_bitCount_0f7a4_34 : decode cJ6_bitCount_0f7a4 34 = .ok (.iload_n 0, 1) := by decide +kernel
theorem dJ6_bitCount_0f7a4_35 : decode cJ6_bitCount_0f7a4 35 = .ok (.iload_n 0, 1) := by decide +kernel
theorem dJ6_bitCount_0f7a4_36 : decode cJ6_bitCount_0f7a4 36 = .ok (.bipush 8, 2) := by decide +kernel
theorem dJ6_bitCount_0f7a4_38 : decode cJ6_bitCount_0f7a4 38 = .ok (.iushr, 1) := by decide +kernel
theorem dJ6_bitCount_0f7a4_39 : decode cJ6_bitCount_0f7a4 39 = .ok (.iadd, 1) := by decide +kernel
theorem dJ6_bitCount_0f7a4_40 : decode cJ6_bitCount_0f7a4 40 = .ok (.istore_n 0, 1) := by decide +kernel
theorem dJ6_bitCount_0f7a4_41 : decode cJ6_bitCount_0f7a4 41 = .ok (.iload_n 0, 1) := by decide +kernel
theorem dJ6_bitCount_0f7a4_42 : decode cJ6_bitCount_0f7a4 42 = .ok (.iload_n 0, 1) := by decide +kernel
theorem dJ6_bitCount_0f7a4_43 : decode cJ6_bitCount_0f7a4 43 = .ok (.bipush 16, 2) := by decide +kernel
theorem dJ6_bitCount_0f7a4_45 : decode cJ6_bitCount_0f7a4 45 = .ok (.iushr, 1) := by decide +kernel
theorem dJ6_bitCount_0f7a4_46 : decode cJ6_bitCount_0f7a4 46 = .ok (.iadd, 1) := by decide +kernel
theorem dJ6_bitCount_0f7a4_47 : decode cJ6_bitCount_0f7a4 47 = .ok (.istore_n 0, 1) := by decide +kernel
theorem dJ6_bitCount_0f7a4_48 : decode cJ6_bitCount_0f7a4 48 = .ok (.iload_n 0, 1) := by decide +kernel
theorem dJ6_bitCount_0f7a4_49 : decode cJ6_bitCount_0f7a4 49 = .ok (.bipush 63, 2) := by decide +kernel
theorem dJ6_bitCount_0f7a4_51 : decode cJ6_bitCount_0f7a4 51 = .ok (.iand, 1) := by decide +kernel
theorem dJ6_bitCount_0f7a4_52 : decode cJ6_bitCount_0f7a4 52 = .ok (.ireturn, 1) := by decide +kernel
theorem dJ9_max_7cf53_0 : decode cJ9_max_7cf53 0 = .ok (.iload_n 0, 1) := by decide +kernel
theorem dJ9_max_7cf53_1 : decode cJ9_max_7cf53 1 = .ok (.iload_n 1, 1) := by decide +kernel
theorem dJ9_max_7cf53_2 : decode cJ9_max_7cf53 2 = .ok (.if_icmp .lt 7, 3) := by decide +kernel
theorem dJ9_max_7cf53_5 : decode cJ9_max_7cf53 5 = .ok (.iload_n 0, 1) := by decide +kernel
theorem dJ9_max_7cf53_6 : decode cJ9_max_7cf53 6 = .ok (.goto 4, 3) := by decide +kernel
theorem dJ9_max_7cf53_9 : decode cJ9_max_7cf53 9 = .ok (.iload_n 1, 1) := by decide +kernel
theorem dJ9_max_7cf53_10 : decode cJ9_max_7cf53 10 = .ok (.ireturn, 1) := by decide +kernel
theorem dJ9_min_7cf53_0 : decode cJ9_min_7cf53 0 = .ok (.iload_n 0, 1) := by decide +kernel
theorem dJ9_min_7cf53_1 : decode cJ9_min_7cf53 1 = .ok (.iload_n 1, 1) := by decide +kernel
theorem dJ9_min_7cf53_2 : decode cJ9_min_7cf53 2 = .ok (.if_icmp .gt 7, 3) := by decide +kernel
theorem dJ9_min_7cf53_5 : decode cJ9_min_7cf53 5 = .ok (.iload_n 0, 1) := by decide +kernel
theorem dJ9_min_7cf53_6 : decode cJ9_min_7cf53 6 = .ok (.goto 4, 3) := by decide +kernel
theorem dJ9_min_7cf53_9 : decode cJ9_min_7cf53 9 = .ok (.iload_n 1, 1) := by decide +kernel
theorem dJ9_min_7cf53_10 : decode cJ9_min_7cf53 10 = .ok (.ireturn, 1) := by decide +kernel
theorem dJ7_fill_53178_0 : decode cJ7_fill_53178 0 = .ok (.iconst 0, 1) := by decide +kernel
theorem dJ7_fill_53178_1 : decode cJ7_fill_53178 1 = .ok (.istore_n 2, 1) := by decide +kernel
theorem dJ7_fill_53178_2 : decode cJ7_fill_53178 2 = .ok (.aload_n 0, 1) := by decide +kernel
theorem dJ7_fill_53178_3 : decode cJ7_fill_53178 3 = .ok (.arraylength, 1) := by decide +kernel
theorem dJ7_fill_53178_4 : decode cJ7_fill_53178 4 = .ok (.istore_n 3, 1) := by decide +kernel
theorem dJ7_fill_53178_5 : decode cJ7_fill_53178 5 = .ok (.iload_n 2, 1) := by decide +kernel
theorem dJ7_fill_53178_6 : decode cJ7_fill_53178 6 = .ok (.iload_n 3, 1) := by decide +kernel
theorem dJ7_fill_53178_7 : decode cJ7_fill_53178 7 = .ok (.if_icmp .ge 13, 3) := by decide +kernel
theorem dJ7_fill_53178_10 : decode cJ7_fill_53178 10 = .ok (.aload_n 0, 1) := by decide +kernel
theorem dJ7_fill_53178_11 : decode cJ7_fill_53178 11 = .ok (.iload_n 2, 1) := by decide +kernel
theorem dJ7_fill_53178_12 : decode cJ7_fill_53178 12 = .ok (.iload_n 1, 1) := by decide +kernel
theorem dJ7_fill_53178_13 : decode cJ7_fill_53178 13 = .ok (.iastore, 1) := by decide +kernel
theorem dJ7_fill_53178_14 : decode cJ7_fill_53178 14 = .ok (.iinc 2 1, 3) := by decide +kernel
theorem dJ7_fill_53178_17 : decode cJ7_fill_53178 17 = .ok (.goto (-12), 3) := by decide +kernel
theorem dJ7_fill_53178_20 : decode cJ7_fill_53178 20 = .ok (.return_, 1) := by decide +kernel
