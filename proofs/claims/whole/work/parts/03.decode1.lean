theorem dX0_init_0 : decode cX0_init 0 = .ok (.aload_n 0, 1) := by decide +kernel
theorem dX0_init_1 : decode cX0_init 1 = .ok (.invokespecial 3, 3) := by decide +kernel
theorem dX0_init_4 : decode cX0_init 4 = .ok (.aload_n 0, 1) := by decide +kernel
theorem dX0_init_5 : decode cX0_init 5 = .ok (.bipush 24, 2) := by decide +kernel
theorem dX0_init_7 : decode cX0_init 7 = .ok (.newarray .int, 2) := by decide +kernel
theorem dX0_init_9 : decode cX0_init 9 = .ok (.putfield 9, 3) := by decide +kernel
theorem dX0_init_12 : decode cX0_init 12 = .ok (.aload_n 0, 1) := by decide +kernel
theorem dX0_init_13 : decode cX0_init 13 = .ok (.bipush 24, 2) := by decide +kernel
theorem dX0_init_15 : decode cX0_init 15 = .ok (.newarray .int, 2) := by decide +kernel
theorem dX0_init_17 : decode cX0_init 17 = .ok (.putfield 15, 3) := by decide +kernel
theorem dX0_init_20 : decode cX0_init 20 = .ok (.aload_n 0, 1) := by decide +kernel
theorem dX0_init_21 : decode cX0_init 21 = .ok (.bipush 24, 2) := by decide +kernel
theorem dX0_init_23 : decode cX0_init 23 = .ok (.newarray .int, 2) := by decide +kernel
theorem dX0_init_25 : decode cX0_init 25 = .ok (.putfield 18, 3) := by decide +kernel
theorem dX0_init_28 : decode cX0_init 28 = .ok (.aload_n 0, 1) := by decide +kernel
theorem dX0_init_29 : decode cX0_init 29 = .ok (.bipush 24, 2) := by decide +kernel
theorem dX0_init_31 : decode cX0_init 31 = .ok (.newarray .int, 2) := by decide +kernel
theorem dX0_init_33 : decode cX0_init 33 = .ok (.putfield 21, 3) := by decide +kernel
theorem dX0_init_36 : decode cX0_init 36 = .ok (.aload_n 0, 1) := by decide +kernel
theorem dX0_init_37 : decode cX0_init 37 = .ok (.bipush 47, 2) := by decide +kernel
theorem dX0_init_39 : decode cX0_init 39 = .ok (.newarray .int, 2) := by decide +kernel
theorem dX0_init_41 : decode cX0_init 41 = .ok (.putfield 24, 3) := by decide +kernel
theorem dX0_init_44 : decode cX0_init 44 = .ok (.aload_n 0, 1) := by decide +kernel
theorem dX0_init_45 : decode cX0_init 45 = .ok (.new 27, 3) := by decide +kernel
theorem dX0_init_48 : decode cX0_init 48 = .ok (.dup, 1) := by decide +kernel
theorem dX0_init_49 : decode cX0_init 49 = .ok (.invokespecial 29, 3) := by decide +kernel
theorem dX0_init_52 : decode cX0_init 52 = .ok (.putfield 30, 3) := by decide +kernel
theorem dX0_init_55 : decode cX0_init 55 = .ok (.aload_n 0, 1) := by decide +kernel
theorem dX0_init_56 : decode cX0_init 56 = .ok (.new 34, 3) := by decide +kernel
theorem dX0_init_59 : decode cX0_init 59 = .ok (.dup, 1) := by decide +kernel
theorem dX0_init_60 : decode cX0_init 60 = .ok (.invokespecial 36, 3) := by decide +kernel
theorem dX0_init_63 : decode cX0_init 63 = .ok (.putfield 37, 3) := by decide +kernel
theorem dX0_init_66 : decode cX0_init 66 = .ok (.aload_n 0, 1) := by decide +kernel
theorem dX0_init_67 : decode cX0_init 67 = .ok (.iconst 0, 1) := by decide +kernel
theorem dX0_init_68 : decode cX0_init 68 = .ok (.putfield 41, 3) := by decide +kernel
theorem dX0_init_71 : decode cX0_init 71 = .ok (.return_, 1) := by decide +kernel
theorem dX0_lacks_0 : decode cX0_lacks 0 = .ok (.iload_n 1, 1) := by decide +kernel
theorem dX0_lacks_1 : decode cX0_lacks 1 = .ok (.ifCond .lt 11, 3) := by decide +kernel
theorem dX0_lacks_4 : decode cX0_lacks 4 = .ok (.iload_n 1, 1) := by decide +kernel
theorem dX0_lacks_5 : decode cX0_lacks 5 = .ok (.aload_n 0, 1) := by decide +kernel
theorem dX0_lacks_6 : decode cX0_lacks 6 = .ok (.getfield 41, 3) := by decide +kernel
theorem dX0_lacks_9 : decode cX0_lacks 9 = .ok (.if_icmp .lt 7, 3) := by decide +kernel
theorem dX0_lacks_12 : decode cX0_lacks 12 = .ok (.iconst 1, 1) := by decide +kernel
theorem dX0_lacks_13 : decode cX0_lacks 13 = .ok (.goto 4, 3) := by decide +kernel
theorem dX0_lacks_16 : decode cX0_lacks 16 = .ok (.iconst 0, 1) := by decide +kernel
theorem dX0_lacks_17 : decode cX0_lacks 17 = .ok (.ireturn, 1) := by decide +kernel
theorem dX0_isTold_0 : decode cX0_isTold 0 = .ok (.iconst 0, 1) := by decide +kernel
theorem dX0_isTold_1 : decode cX0_isTold 1 = .ok (.istore_n 1, 1) := by decide +kernel
theorem dX0_isTold_2 : decode cX0_isTold 2 = .ok (.iconst 0, 1) := by decide +kernel
theorem dX0_isTold_3 : decode cX0_isTold 3 = .ok (.istore_n 2, 1) := by decide +kernel
theorem dX0_isTold_4 : decode cX0_isTold 4 = .ok (.iload_n 2, 1) := by decide +kernel
theorem dX0_isTold_5 : decode cX0_isTold 5 = .ok (.aload_n 0, 1) := by decide +kernel
theorem dX0_isTold_6 : decode cX0_isTold 6 = .ok (.getfield 45, 3) := by decide +kernel
theorem dX0_isTold_9 : decode cX0_isTold 9 = .ok (.if_icmp .ge 40, 3) := by decide +kernel
theorem dX0_isTold_12 : decode cX0_isTold 12 = .ok (.aload_n 0, 1) := by decide +kernel
theorem dX0_isTold_13 : decode cX0_isTold 13 = .ok (.getfield 48, 3) := by decide +kernel
theorem dX0_isTold_16 : decode cX0_isTold 16 = .ok (.iload_n 2, 1) := by decide +kernel
theorem dX0_isTold_17 : decode cX0_isTold 17 = .ok (.iaload, 1) := by decide +kernel
theorem dX0_isTold_18 : decode cX0_isTold 18 = .ok (.iconst (-1), 1) := by decide +kernel
theorem dX0_isTold_19 : decode cX0_isTold 19 = .ok (.if_icmp .ne 9, 3) := by decide +kernel
theorem dX0_isTold_22 : decode cX0_isTold 22 = .ok (.iinc 1 1, 3) := by decide +kernel
theorem dX0_isTold_25 : decode cX0_isTold 25 = .ok (.goto 18, 3) := by decide +kernel
theorem dX0_isTold_28 : decode cX0_isTold 28 = .ok (.aload_n 0, 1) := by decide +kernel
theorem dX0_isTold_29 : decode cX0_isTold 29 = .ok (.aload_n 0, 1) := by decide +kernel
theorem dX0_isTold_30 : decode cX0_isTold 30 = .ok (.getfield 48, 3) := by decide +kernel
theorem dX0_isTold_33 : decode cX0_isTold 33 = .ok (.iload_n 2, 1) := by decide +kernel
theorem dX0_isTold_34 : decode cX0_isTold 34 = .ok (.iaload, 1) := by decide +kernel
theorem dX0_isTold_35 : decode cX0_isTold 35 = .ok (.invokevirtual 51, 3) := by decide +kernel
theorem dX0_isTold_38 : decode cX0_isTold 38 = .ok (.ifCond .eq 5, 3) := by decide +kernel
theorem dX0_isTold_41 : decode cX0_isTold 41 = .ok (.iconst 0, 1) := by decide +kernel
theorem dX0_isTold_42 : decode cX0_isTold 42 = .ok (.ireturn, 1) := by decide +kernel
theorem dX0_isTold_43 : decode cX0_isTold 43 = .ok (.iinc 2 1, 3) := by decide +kernel
theorem dX0_isTold_46 : decode cX0_isTold 46 = .ok (.goto (-42), 3) := by decide +kernel
theorem dX0_isTold_49 : decode cX0_isTold 49 = .ok (.iload_n 1, 1) := by decide +kernel
theorem dX0_isTold_50 : decode cX0_isTold 50 = .ok (.iconst 1, 1) := by decide +kernel
theorem dX0_isTold_51 : decode cX0_isTold 51 = .ok (.if_icmp .ne 14, 3) := by decide +kernel
theorem dX0_isTold_54 : decode cX0_isTold 54 = .ok (.aload_n 0, 1) := by decide +kernel
theorem dX0_isTold_55 : decode cX0_isTold 55 = .ok (.invokestatic 55, 3) := by decide +kernel
theorem dX0_isTold_58 : decode cX0_isTold 58 = .ok (.ifCond .eq 7, 3) := by decide +kernel
theorem dX0_isTold_61 : decode cX0_isTold 61 = .ok (.iconst 1, 1) := by decide +kernel
theorem dX0_isTold_62 : decode cX0_isTold 62 = .ok (.goto 4, 3) := by decide +kernel
theorem dX0_isTold_65 : decode cX0_isTold 65 = .ok (.iconst 0, 1) := by decide +kernel
theorem dX0_isTold_66 : decode cX0_isTold 66 = .ok (.ireturn, 1) := by decide +kernel
theorem dX0_allComeToTheRoot_0 : decode cX0_allComeToTheRoot 0 = .ok (.iconst 0, 1) := by decide +kernel
theorem dX0_allComeToTheRoot_1 : decode cX0_allComeToTheRoot 1 = .ok (.istore_n 1, 1) := by decide +kernel
theorem dX0_allComeToTheRoot_2 : decode cX0_allComeToTheRoot 2 = .ok (.iload_n 1, 1) := by decide +kernel
theorem dX0_allComeToTheRoot_3 : decode cX0_allComeToTheRoot 3 = .ok (.aload_n 0, 1) := by decide +kernel
theorem dX0_allComeToTheRoot_4 : decode cX0_allComeToTheRoot 4 = .ok (.getfield 45, 3) := by decide +kernel
theorem dX0_allComeToTheRoot_7 : decode cX0_allComeToTheRoot 7 = .ok (.if_icmp .ge 30, 3) := by decide +kernel
theorem dX0_allComeToTheRoot_10 : decode cX0_allComeToTheRoot 10 = .ok (.aload_n 0, 1) := by decide +kernel
theorem dX0_allComeToTheRoot_11 : decode cX0_allComeToTheRoot 11 = .ok (.getfield 48, 3) := by decide +kernel
theorem dX0_allComeToTheRoot_14 : decode cX0_allComeToTheRoot 14 = .ok (.iload_n 1, 1) := by decide +kernel
theorem dX0_allComeToTheRoot_15 : decode cX0_allComeToTheRoot 15 = .ok (.aload_n 0, 1) := by decide +kernel
theorem dX0_allComeToTheRoot_16 : decode cX0_allComeToTheRoot 16 = .ok (.getfield 45, 3) := by decide +kernel
theorem dX0_allComeToTheRoot_19 : decode cX0_allComeToTheRoot 19 = .ok (.invokestatic 59, 3) := by decide +kernel
theorem dX0_allComeToTheRoot_22 : decode cX0_allComeToTheRoot 22 = .ok (.aload_n 0, 1) := by decide +kernel
theorem dX0_allComeToTheRoot_23 : decode cX0_allComeToTheRoot 23 = .ok (.getfield 45, 3) := by decide +kernel
theorem dX0_allComeToTheRoot_26 : decode cX0_allComeToTheRoot 26 = .ok (.if_icmp .lt 5, 3) := by decide +kernel
theorem dX0_allComeToTheRoot_29 : decode cX0_allComeToTheRoot 29 = .ok (.iconst 0, 1) := by decide +kernel
theorem dX0_allComeToTheRoot_30 : decode cX0_allComeToTheRoot 30 = .ok (.ireturn, 1) := by decide +kernel
theorem dX0_allComeToTheRoot_31 : decode cX0_allComeToTheRoot 31 = .ok (.iinc 1 1, 3) := by decide +kernel
theorem dX0_allComeToTheRoot_34 : decode cX0_allComeToTheRoot 34 = .ok (.goto (-32), 3) := by decide +kernel
theorem dX0_allComeToTheRoot_37 : decode cX0_allComeToTheRoot 37 = .ok (.iconst 1, 1) := by decide +kernel
theorem dX0_allComeToTheRoot_38 : decode cX0_allComeToTheRoot 38 = .ok (.ireturn, 1) := by decide +kernel
theorem dX0_stepsToTheRoot_0 : decode cX0_stepsToTheRoot 0 = .ok (.iconst 0, 1) := by decide +kernel
theorem dX0_stepsToTheRoot_1 : decode cX0_stepsToTheRoot 1 = .ok (.istore_n 3, 1) := by decide +kernel
theorem dX0_stepsToTheRoot_2 : decode cX0_stepsToTheRoot 2 = .ok (.iload_n 1, 1) := by decide +kernel
theorem dX0_stepsToTheRoot_3 : decode cX0_stepsToTheRoot 3 = .ok (.istore 4, 2) := by decide +kernel
theorem dX0_stepsToTheRoot_5 : decode cX0_stepsToTheRoot 5 = .ok (.iload_n 3, 1) := by decide +kernel
theorem dX0_stepsToTheRoot_6 : decode cX0_stepsToTheRoot 6 = .ok (.iload_n 2, 1) := by decide +kernel
theorem dX0_stepsToTheRoot_7 : decode cX0_stepsToTheRoot 7 = .ok (.if_icmp .ge 23, 3) := by decide +kernel
theorem dX0_stepsToTheRoot_10 : decode cX0_stepsToTheRoot 10 = .ok (.aload_n 0, 1) := by decide +kernel
theorem dX0_stepsToTheRoot_11 : decode cX0_stepsToTheRoot 11 = .ok (.iload 4, 2) := by decide +kernel
theorem dX0_stepsToTheRoot_13 : decode cX0_stepsToTheRoot 13 = .ok (.iaload, 1) := by decide +kernel
theorem dX0_stepsToTheRoot_14 : decode cX0_stepsToTheRoot 14 = .ok (.iconst (-1), 1) := by decide +kernel
theorem dX0_stepsToTheRoot_15 : decode cX0_stepsToTheRoot 15 = .ok (.if_icmp .eq 15, 3) := by decide +kernel
theorem dX0_stepsToTheRoot_18 : decode cX0_stepsToTheRoot 18 = .ok (.aload_n 0, 1) := by decide +kernel
theorem dX0_stepsToTheRoot_19 : decode cX0_stepsToTheRoot 19 = .ok (.iload 4, 2) := by decide +kernel
theorem dX0_stepsToTheRoot_21 : decode cX0_stepsToTheRoot 21 = .ok (.iaload, 1) := by decide +kernel
theorem dX0_stepsToTheRoot_22 : decode cX0_stepsToTheRoot 22 = .ok (.istore 4, 2) := by decide +kernel
theorem dX0_stepsToTheRoot_24 : decode cX0_stepsToTheRoot 24 = .ok (.iinc 3 1, 3) := by decide +kernel
theorem dX0_stepsToTheRoot_27 : decode cX0_stepsToTheRoot 27 = .ok (.goto (-22), 3) := by decide +kernel
theorem dX0_stepsToTheRoot_30 : decode cX0_stepsToTheRoot 30 = .ok (.iload_n 3, 1) := by decide +kernel
theorem dX0_stepsToTheRoot_31 : decode cX0_stepsToTheRoot 31 = .ok (.ireturn, 1) := by decide +kernel
theorem dX0_becomeTold_0 : decode cX0_becomeTold 0 = .ok (.aload_n 0, 1) := by decide +kernel
theorem dX0_becomeTold_1 : decode cX0_becomeTold 1 = .ok (.aload_n 1, 1) := by decide +kernel
theorem dX0_becomeTold_2 : decode cX0_becomeTold 2 = .ok (.getfield 45, 3) := by decide +kernel
theorem dX0_becomeTold_5 : decode cX0_becomeTold 5 = .ok (.putfield 41, 3) := by decide +kernel
theorem dX0_becomeTold_8 : decode cX0_becomeTold 8 = .ok (.aload_n 1, 1) := by decide +kernel
theorem dX0_becomeTold_9 : decode cX0_becomeTold 9 = .ok (.getfield 48, 3) := by decide +kernel
theorem dX0_becomeTold_12 : decode cX0_becomeTold 12 = .ok (.iconst 0, 1) := by decide +kernel
theorem dX0_becomeTold_13 : decode cX0_becomeTold 13 = .ok (.aload_n 0, 1) := by decide +kernel
theorem dX0_becomeTold_14 : decode cX0_becomeTold 14 = .ok (.getfield 9, 3) := by decide +kernel
theorem dX0_becomeTold_17 : decode cX0_becomeTold 17 = .ok (.iconst 0, 1) := by decide +kernel
theorem dX0_becomeTold_18 : decode cX0_becomeTold 18 = .ok (.aload_n 0, 1) := by decide +kernel
theorem dX0_becomeTold_19 : decode cX0_becomeTold 19 = .ok (.getfield 41, 3) := by decide +kernel
theorem dX0_becomeTold_22 : decode cX0_becomeTold 22 = .ok (.invokestatic 63, 3) := by decide +kernel
theorem dX0_becomeTold_25 : decode cX0_becomeTold 25 = .ok (.iconst 0, 1) := by decide +kernel
theorem dX0_becomeTold_26 : decode cX0_becomeTold 26 = .ok (.istore_n 2, 1) := by decide +kernel
theorem dX0_becomeTold_27 : decode cX0_becomeTold 27 = .ok (.iload_n 2, 1) := by decide +kernel
theorem dX0_becomeTold_28 : decode cX0_becomeTold 28 = .ok (.aload_n 0, 1) := by decide +kernel
theorem dX0_becomeTold_29 : decode cX0_becomeTold 29 = .ok (.getfield 41, 3) := by decide +kernel
theorem dX0_becomeTold_32 : decode cX0_becomeTold 32 = .ok (.if_icmp .ge 27, 3) := by decide +kernel
theorem dX0_becomeTold_35 : decode cX0_becomeTold 35 = .ok (.aload_n 0, 1) := by decide +kernel
theorem dX0_becomeTold_36 : decode cX0_becomeTold 36 = .ok (.getfield 15, 3) := by decide +kernel
theorem dX0_becomeTold_39 : decode cX0_becomeTold 39 = .ok (.iload_n 2, 1) := by decide +kernel
theorem dX0_becomeTold_40 : decode cX0_becomeTold 40 = .ok (.aload_n 0, 1) := by decide +kernel
theorem dX0_becomeTold_41 : decode cX0_becomeTold 41 = .ok (.getfield 9, 3) := by decide +kernel
theorem dX0_becomeTold_44 : decode cX0_becomeTold 44 = .ok (.iload_n 2, 1) := by decide +kernel
theorem dX0_becomeTold_45 : decode cX0_becomeTold 45 = .ok (.aload_n 0, 1) := by decide +kernel
theorem dX0_becomeTold_46 : decode cX0_becomeTold 46 = .ok (.getfield 41, 3) := by decide +kernel
theorem dX0_becomeTold_49 : decode cX0_becomeTold 49 = .ok (.invokestatic 59, 3) := by decide +kernel
theorem dX0_becomeTold_52 : decode cX0_becomeTold 52 = .ok (.iastore, 1) := by decide +kernel
theorem dX0_becomeTold_53 : decode cX0_becomeTold 53 = .ok (.iinc 2 1, 3) := by decide +kernel
theorem dX0_becomeTold_56 : decode cX0_becomeTold 56 = .ok (.goto (-29), 3) := by decide +kernel
theorem dX0_becomeTold_59 : decode cX0_becomeTold 59 = .ok (.aload_n 0, 1) := by decide +kernel
theorem dX0_becomeTold_60 : decode cX0_becomeTold 60 = .ok (.invokevirtual 69, 3) := by decide +kernel
theorem dX0_becomeTold_63 : decode cX0_becomeTold 63 = .ok (.aload_n 0, 1) := by decide +kernel
theorem dX0_becomeTold_64 : decode cX0_becomeTold 64 = .ok (.invokevirtual 72, 3) := by decide +kernel
theorem dX0_becomeTold_67 : decode cX0_becomeTold 67 = .ok (.return_, 1) := by decide +kernel
theorem dX0_countSizes_0 : decode cX0_countSizes 0 = .ok (.aload_n 0, 1) := by decide +kernel
theorem dX0_countSizes_1 : decode cX0_countSizes 1 = .ok (.getfield 18, 3) := by decide +kernel
theorem dX0_countSizes_4 : decode cX0_countSizes 4 = .ok (.iconst 0, 1) := by decide +kernel
theorem dX0_countSizes_5 : decode cX0_countSizes 5 = .ok (.invokestatic 75, 3) := by decide +kernel
theorem dX0_countSizes_8 : decode cX0_countSizes 8 = .ok (.iconst 0, 1) := by decide +kernel
theorem dX0_countSizes_9 : decode cX0_countSizes 9 = .ok (.istore_n 1, 1) := by decide +kernel
theorem dX0_countSizes_10 : decode cX0_countSizes 10 = .ok (.iload_n 1, 1) := by decide +kernel
theorem dX0_countSizes_11 : decode cX0_countSizes 11 = .ok (.aload_n 0, 1) := by decide +kernel
theorem dX0_countSizes_12 : decode cX0_countSizes 12 = .ok (.getfield 41, 3) := by decide +kernel
theorem dX0_countSizes_15 : decode cX0_countSizes 15 = .ok (.if_icmp .ge 46, 3) := by decide +kernel
theorem dX0_countSizes_18 : decode cX0_countSizes 18 = .ok (.iload_n 1, 1) := by decide +kernel
theorem dX0_countSizes_19 : decode cX0_countSizes 19 = .ok (.istore_n 2, 1) := by decide +kernel
theorem dX0_countSizes_20 : decode cX0_countSizes 20 = .ok (.iconst 0, 1) := by decide +kernel
theorem dX0_countSizes_21 : decode cX0_countSizes 21 = .ok (.istore_n 3, 1) := by decide +kernel
theorem dX0_countSizes_22 : decode cX0_countSizes 22 = .ok (.iload_n 3, 1) := by decide +kernel
theorem dX0_countSizes_23 : decode cX0_countSizes 23 = .ok (.aload_n 0, 1) := by decide +kernel
theorem dX0_countSizes_24 : decode cX0_countSizes 24 = .ok (.getfield 15, 3) := by decide +kernel
theorem dX0_countSizes_27 : decode cX0_countSizes 27 = .ok (.iload_n 1, 1) := by decide +kernel
theorem dX0_countSizes_28 : decode cX0_countSizes 28 = .ok (.iaload, 1) := by decide +kernel
theorem dX0_countSizes_29 : decode cX0_countSizes 29 = .ok (.if_icmp .gt 26, 3) := by decide +kernel
theorem dX0_countSizes_32 : decode cX0_countSizes 32 = .ok (.aload_n 0, 1) := by decide +kernel
theorem dX0_countSizes_33 : decode cX0_countSizes 33 = .ok (.getfield 18, 3) := by decide +kernel
theorem dX0_countSizes_36 : decode cX0_countSizes 36 = .ok (.iload_n 2, 1) := by decide +kernel
theorem dX0_countSizes_37 : decode cX0_countSizes 37 = .ok (.dup2, 1) := by decide +kernel
theorem dX0_countSizes_38 : decode cX0_countSizes 38 = .ok (.iaload, 1) := by decide +kernel
theorem dX0_countSizes_39 : decode cX0_countSizes 39 = .ok (.iconst 1, 1) := by decide +kernel
theorem dX0_countSizes_40 : decode cX0_countSizes 40 = .ok (.iadd, 1) := by decide +kernel
theorem dX0_countSizes_41 : decode cX0_countSizes 41 = .ok (.iastore, 1) := by decide +kernel
theorem dX0_countSizes_42 : decode cX0_countSizes 42 = .ok (.aload_n 0, 1) := by decide +kernel
theorem dX0_countSizes_43 : decode cX0_countSizes 43 = .ok (.getfield 9, 3) := by decide +kernel
theorem dX0_countSizes_46 : decode cX0_countSizes 46 = .ok (.iload_n 2, 1) := by decide +kernel
theorem dX0_countSizes_47 : decode cX0_countSizes 47 = .ok (.iaload, 1) := by decide +kernel
theorem dX0_countSizes_48 : decode cX0_countSizes 48 = .ok (.istore_n 2, 1) := by decide +kernel
theorem dX0_countSizes_49 : decode cX0_countSizes 49 = .ok (.iinc 3 1, 3) := by decide +kernel
theorem dX0_countSizes_52 : decode cX0_countSizes 52 = .ok (.goto (-30), 3) := by decide +kernel
theorem dX0_countSizes_55 : decode cX0_countSizes 55 = .ok (.iinc 1 1, 3) := by decide +kernel
theorem dX0_countSizes_58 : decode cX0_countSizes 58 = .ok (.goto (-48), 3) := by decide +kernel
theorem dX0_countSizes_61 : decode cX0_countSizes 61 = .ok (.return_, 1) := by decide +kernel
theorem dX0_root_0 : decode cX0_root 0 = .ok (.iconst 0, 1) := by decide +kernel
theorem dX0_root_1 : decode cX0_root 1 = .ok (.istore_n 1, 1) := by decide +kernel
theorem dX0_root_2 : decode cX0_root 2 = .ok (.iload_n 1, 1) := by decide +kernel
theorem dX0_root_3 : decode cX0_root 3 = .ok (.aload_n 0, 1) := by decide +kernel
theorem dX0_root_4 : decode cX0_root 4 = .ok (.getfield 41, 3) := by decide +kernel
theorem dX0_root_7 : decode cX0_root 7 = .ok (.iconst 1, 1) := by decide +kernel
theorem dX0_root_8 : decode cX0_root 8 = .ok (.isub, 1) := by decide +kernel
theorem dX0_root_9 : decode cX0_root 9 = .ok (.if_icmp .ge 19, 3) := by decide +kernel
theorem dX0_root_12 : decode cX0_root 12 = .ok (.aload_n 0, 1) := by decide +kernel
theorem dX0_root_13 : decode cX0_root 13 = .ok (.getfield 9, 3) := by decide +kernel
theorem dX0_root_16 : decode cX0_root 16 = .ok (.iload_n 1, 1) := by decide +kernel
theorem dX0_root_17 : decode cX0_root 17 = .ok (.iaload, 1) := by decide +kernel
theorem dX0_root_18 : decode cX0_root 18 = .ok (.iconst (-1), 1) := by decide +kernel
theorem dX0_root_19 : decode cX0_root 19 = .ok (.if_icmp .eq 9, 3) := by decide +kernel
theorem dX0_root_22 : decode cX0_root 22 = .ok (.iinc 1 1, 3) := by decide +kernel
theorem dX0_root_25 : decode cX0_root 25 = .ok (.goto (-23), 3) := by decide +kernel
theorem dX0_root_28 : decode cX0_root 28 = .ok (.iload_n 1, 1) := by decide +kernel
theorem dX0_root_29 : decode cX0_root 29 = .ok (.ireturn, 1) := by decide +kernel
theorem dX0_goTour_0 : decode cX0_goTour 0 = .ok (.aload_n 0, 1) := by decide +kernel
theorem dX0_goTour_1 : decode cX0_goTour 1 = .ok (.getfield 21, 3) := by decide +kernel
theorem dX0_goTour_4 : decode cX0_goTour 4 = .ok (.iconst (-1), 1) := by decide +kernel
theorem dX0_goTour_5 : decode cX0_goTour 5 = .ok (.invokestatic 75, 3) := by decide +kernel
theorem dX0_goTour_8 : decode cX0_goTour 8 = .ok (.iconst 2, 1) := by decide +kernel
theorem dX0_goTour_9 : decode cX0_goTour 9 = .ok (.aload_n 0, 1) := by decide +kernel
theorem dX0_goTour_10 : decode cX0_goTour 10 = .ok (.getfield 41, 3) := by decide +kernel
theorem dX0_goTour_13 : decode cX0_goTour 13 = .ok (.imul, 1) := by decide +kernel
theorem dX0_goTour_14 : decode cX0_goTour 14 = .ok (.iconst 1, 1) := by decide +kernel
theorem dX0_goTour_15 : decode cX0_goTour 15 = .ok (.isub, 1) := by decide +kernel
theorem dX0_goTour_16 : decode cX0_goTour 16 = .ok (.istore_n 1, 1) := by decide +kernel
theorem dX0_goTour_17 : decode cX0_goTour 17 = .ok (.aload_n 0, 1) := by decide +kernel
theorem dX0_goTour_18 : decode cX0_goTour 18 = .ok (.invokevirtual 81, 3) := by decide +kernel
theorem dX0_goTour_21 : decode cX0_goTour 21 = .ok (.istore_n 2, 1) := by decide +kernel
theorem dX0_goTour_22 : decode cX0_goTour 22 = .ok (.iconst (-1), 1) := by decide +kernel
theorem dX0_goTour_23 : decode cX0_goTour 23 = .ok (.istore_n 3, 1) := by decide +kernel
theorem dX0_goTour_24 : decode cX0_goTour 24 = .ok (.aload_n 0, 1) := by decide +kernel
theorem dX0_goTour_25 : decode cX0_goTour 25 = .ok (.getfield 30, 3) := by decide +kernel
theorem dX0_goTour_28 : decode cX0_goTour 28 = .ok (.iload_n 1, 1) := by decide +kernel
theorem dX0_goTour_29 : decode cX0_goTour 29 = .ok (.invokevirtual 85, 3) := by decide +kernel
theorem dX0_goTour_32 : decode cX0_goTour 32 = .ok (.iconst 0, 1) := by decide +kernel
theorem dX0_goTour_33 : decode cX0_goTour 33 = .ok (.istore 4, 2) := by decide +kernel
theorem dX0_goTour_35 : decode cX0_goTour 35 = .ok (.iload 4, 2) := by decide +kernel
theorem dX0_goTour_37 : decode cX0_goTour 37 = .ok (.iload_n 1, 1) := by decide +kernel
theorem dX0_goTour_38 : decode cX0_goTour 38 = .ok (.if_icmp .ge 100, 3) := by decide +kernel
theorem dX0_goTour_41 : decode cX0_goTour 41 = .ok (.iload_n 2, 1) := by decide +kernel
theorem dX0_goTour_42 : decode cX0_goTour 42 = .ok (.iconst (-1), 1) := by decide +kernel
theorem dX0_goTour_43 : decode cX0_goTour 43 = .ok (.if_icmp .eq 95, 3) := by decide +kernel
theorem dX0_goTour_46 : decode cX0_goTour 46 = .ok (.aload_n 0, 1) := by decide +kernel
theorem dX0_goTour_47 : decode cX0_goTour 47 = .ok (.getfield 24, 3) := by decide +kernel
theorem dX0_goTour_50 : decode cX0_goTour 50 = .ok (.iload 4, 2) := by decide +kernel
theorem dX0_goTour_52 : decode cX0_goTour 52 = .ok (.iload_n 2, 1) := by decide +kernel
theorem dX0_goTour_53 : decode cX0_goTour 53 = .ok (.iastore, 1) := by decide +kernel
theorem dX0_goTour_54 : decode cX0_goTour 54 = .ok (.aload_n 0, 1) := by decide +kernel
theorem dX0_goTour_55 : decode cX0_goTour 55 = .ok (.getfield 30, 3) := by decide +kernel
theorem dX0_goTour_58 : decode cX0_goTour 58 = .ok (.getfield 48, 3) := by decide +kernel
theorem dX0_goTour_61 : decode cX0_goTour 61 = .ok (.iload 4, 2) := by decide +kernel
theorem dX0_goTour_63 : decode cX0_goTour 63 = .ok (.aload_n 0, 1) := by decide +kernel
theorem dX0_goTour_64 : decode cX0_goTour 64 = .ok (.getfield 15, 3) := by decide +kernel
theorem dX0_goTour_67 : decode cX0_goTour 67 = .ok (.iload_n 2, 1) := by decide +kernel
theorem dX0_goTour_68 : decode cX0_goTour 68 = .ok (.iaload, 1) := by decide +kernel
theorem dX0_goTour_69 : decode cX0_goTour 69 = .ok (.iastore, 1) := by decide +kernel
theorem dX0_goTour_70 : decode cX0_goTour 70 = .ok (.aload_n 0, 1) := by decide +kernel
theorem dX0_goTour_71 : decode cX0_goTour 71 = .ok (.getfield 21, 3) := by decide +kernel
theorem dX0_goTour_74 : decode cX0_goTour 74 = .ok (.iload_n 2, 1) := by decide +kernel
theorem dX0_goTour_75 : decode cX0_goTour 75 = .ok (.iaload, 1) := by decide +kernel
theorem dX0_goTour_76 : decode cX0_goTour 76 = .ok (.iconst (-1), 1) := by decide +kernel
theorem dX0_goTour_77 : decode cX0_goTour 77 = .ok (.if_icmp .ne 11, 3) := by decide +kernel
theorem dX0_goTour_80 : decode cX0_goTour 80 = .ok (.aload_n 0, 1) := by decide +kernel
theorem dX0_goTour_81 : decode cX0_goTour 81 = .ok (.getfield 21, 3) := by decide +kernel
theorem dX0_goTour_84 : decode cX0_goTour 84 = .ok (.iload_n 2, 1) := by decide +kernel
theorem dX0_goTour_85 : decode cX0_goTour 85 = .ok (.iload 4, 2) := by decide +kernel
theorem dX0_goTour_87 : decode cX0_goTour 87 = .ok (.iastore, 1) := by decide +kernel
theorem dX0_goTour_88 : decode cX0_goTour 88 = .ok (.aload_n 0, 1) := by decide +kernel
theorem dX0_goTour_89 : decode cX0_goTour 89 = .ok (.iload_n 2, 1) := by decide +kernel
theorem dX0_goTour_90 : decode cX0_goTour 90 = .ok (.iload_n 3, 1) := by decide +kernel
theorem dX0_goTour_91 : decode cX0_goTour 91 = .ok (.invokevirtual 89, 3) := by decide +kernel
theorem dX0_goTour_94 : decode cX0_goTour 94 = .ok (.istore 5, 2) := by decide +kernel
theorem dX0_goTour_96 : decode cX0_goTour 96 = .ok (.iload 5, 2) := by decide +kernel
theorem dX0_goTour_98 : decode cX0_goTour 98 = .ok (.aload_n 0, 1) := by decide +kernel
theorem dX0_goTour_99 : decode cX0_goTour 99 = .ok (.getfield 41, 3) := by decide +kernel
theorem dX0_goTour_102 : decode cX0_goTour 102 = .ok (.if_icmp .ge 7, 3) := by decide +kernel
theorem dX0_goTour_105 : decode cX0_goTour 105 = .ok (.iconst (-1), 1) := by decide +kernel
theorem dX0_goTour_106 : decode cX0_goTour 106 = .ok (.goto 4, 3) := by decide +kernel
theorem dX0_goTour_109 : decode cX0_goTour 109 = .ok (.iload_n 2, 1) := by decide +kernel
theorem dX0_goTour_110 : decode cX0_goTour 110 = .ok (.istore_n 3, 1) := by decide +kernel
theorem dX0_goTour_111 : decode cX0_goTour 111 = .ok (.iload 5, 2) := by decide +kernel
theorem dX0_goTour_113 : decode cX0_goTour 113 = .ok (.aload_n 0, 1) := by decide +kernel
theorem dX0_goTour_114 : decode cX0_goTour 114 = .ok (.getfield 41, 3) := by decide +kernel
theorem dX0_goTour_117 : decode cX0_goTour 117 = .ok (.if_icmp .ge 8, 3) := by decide +kernel
theorem dX0_goTour_120 : decode cX0_goTour 120 = .ok (.iload 5, 2) := by decide +kernel
theorem dX0_goTour_122 : decode cX0_goTour 122 = .ok (.goto 9, 3) := by decide +kernel
theorem dX0_goTour_125 : decode cX0_goTour 125 = .ok (.aload_n 0, 1) := by decide +kernel
theorem dX0_goTour_126 : decode cX0_goTour 126 = .ok (.getfield 9, 3) := by decide +kernel
theorem dX0_goTour_129 : decode cX0_goTour 129 = .ok (.iload_n 2, 1) := by decide +kernel
theorem dX0_goTour_130 : decode cX0_goTour 130 = .ok (.iaload, 1) := by decide +kernel
theorem dX0_goTour_131 : decode cX0_goTour 131 = .ok (.istore_n 2, 1) := by decide +kernel
theorem dX0_goTour_132 : decode cX0_goTour 132 = .ok (.iinc 4 1, 3) := by decide +kernel
theorem dX0_goTour_135 : decode cX0_goTour 135 = .ok (.goto (-100), 3) := by decide +kernel
theorem dX0_goTour_138 : decode cX0_goTour 138 = .ok (.aload_n 0, 1) := by decide +kernel
theorem dX0_goTour_139 : decode cX0_goTour 139 = .ok (.getfield 37, 3) := by decide +kernel
theorem dX0_goTour_142 : decode cX0_goTour 142 = .ok (.aload_n 0, 1) := by decide +kernel
theorem dX0_goTour_143 : decode cX0_goTour 143 = .ok (.getfield 30, 3) := by decide +kernel
theorem dX0_goTour_146 : decode cX0_goTour 146 = .ok (.iconst 4, 1) := by decide +kernel
theorem dX0_goTour_147 : decode cX0_goTour 147 = .ok (.invokevirtual 93, 3) := by decide +kernel
theorem dX0_goTour_150 : decode cX0_goTour 150 = .ok (.return_, 1) := by decide +kernel
theorem dX0_sonBehind_0 : decode cX0_sonBehind 0 = .ok (.iload_n 2, 1) := by decide +kernel
theorem dX0_sonBehind_1 : decode cX0_sonBehind 1 = .ok (.iconst 1, 1) := by decide +kernel
theorem dX0_sonBehind_2 : decode cX0_sonBehind 2 = .ok (.iadd, 1) := by decide +kernel
theorem dX0_sonBehind_3 : decode cX0_sonBehind 3 = .ok (.istore_n 3, 1) := by decide +kernel
theorem dX0_sonBehind_4 : decode cX0_sonBehind 4 = .ok (.iload_n 3, 1) := by decide +kernel
theorem dX0_sonBehind_5 : decode cX0_sonBehind 5 = .ok (.aload_n 0, 1) := by decide +kernel
theorem dX0_sonBehind_6 : decode cX0_sonBehind 6 = .ok (.getfield 41, 3) := by decide +kernel
theorem dX0_sonBehind_9 : decode cX0_sonBehind 9 = .ok (.if_icmp .ge 19, 3) := by decide +kernel
theorem dX0_sonBehind_12 : decode cX0_sonBehind 12 = .ok (.aload_n 0, 1) := by decide +kernel
theorem dX0_sonBehind_13 : decode cX0_sonBehind 13 = .ok (.getfield 9, 3) := by decide +kernel
theorem dX0_sonBehind_16 : decode cX0_sonBehind 16 = .ok (.iload_n 3, 1) := by decide +kernel
theorem dX0_sonBehind_17 : decode cX0_sonBehind 17 = .ok (.iaload, 1) := by decide +kernel
theorem dX0_sonBehind_18 : decode cX0_sonBehind 18 = .ok (.iload_n 1, 1) := by decide +kernel
theorem dX0_sonBehind_19 : decode cX0_sonBehind 19 = .ok (.if_icmp .eq 9, 3) := by decide +kernel
theorem dX0_sonBehind_22 : decode cX0_sonBehind 22 = .ok (.iinc 3 1, 3) := by decide +kernel
theorem dX0_sonBehind_25 : decode cX0_sonBehind 25 = .ok (.goto (-21), 3) := by decide +kernel
theorem dX0_sonBehind_28 : decode cX0_sonBehind 28 = .ok (.iload_n 3, 1) := by decide +kernel
theorem dX0_sonBehind_29 : decode cX0_sonBehind 29 = .ok (.ireturn, 1) := by decide +kernel
theorem dX0_meetingNode_0 : decode cX0_meetingNode 0 = .ok (.aload_n 0, 1) := by decide +kernel
theorem dX0_meetingNode_1 : decode cX0_meetingNode 1 = .ok (.getfield 21, 3) := by decide +kernel
theorem dX0_meetingNode_4 : decode cX0_meetingNode 4 = .ok (.iload_n 1, 1) := by decide +kernel
theorem dX0_meetingNode_5 : decode cX0_meetingNode 5 = .ok (.iaload, 1) := by decide +kernel
theorem dX0_meetingNode_6 : decode cX0_meetingNode 6 = .ok (.aload_n 0, 1) := by decide +kernel
theorem dX0_meetingNode_7 : decode cX0_meetingNode 7 = .ok (.getfield 21, 3) := by decide +kernel
theorem dX0_meetingNode_10 : decode cX0_meetingNode 10 = .ok (.iload_n 2, 1) := by decide +kernel
theorem dX0_meetingNode_11 : decode cX0_meetingNode 11 = .ok (.iaload, 1) := by decide +kernel
theorem dX0_meetingNode_12 : decode cX0_meetingNode 12 = .ok (.invokestatic 97, 3) := by decide +kernel
theorem dX0_meetingNode_15 : decode cX0_meetingNode 15 = .ok (.istore_n 3, 1) := by decide +kernel
theorem dX0_meetingNode_16 : decode cX0_meetingNode 16 = .ok (.aload_n 0, 1) := by decide +kernel
theorem dX0_meetingNode_17 : decode cX0_meetingNode 17 = .ok (.getfield 21, 3) := by decide +kernel
theorem dX0_meetingNode_20 : decode cX0_meetingNode 20 = .ok (.iload_n 1, 1) := by decide +kernel
theorem dX0_meetingNode_21 : decode cX0_meetingNode 21 = .ok (.iaload, 1) := by decide +kernel
theorem dX0_meetingNode_22 : decode cX0_meetingNode 22 = .ok (.aload_n 0, 1) := by decide +kernel
theorem dX0_meetingNode_23 : decode cX0_meetingNode 23 = .ok (.getfield 21, 3) := by decide +kernel
theorem dX0_meetingNode_26 : decode cX0_meetingNode 26 = .ok (.iload_n 2, 1) := by decide +kernel
theorem dX0_meetingNode_27 : decode cX0_meetingNode 27 = .ok (.iaload, 1) := by decide +kernel
theorem dX0_meetingNode_28 : decode cX0_meetingNode 28 = .ok (.invokestatic 102, 3) := by decide +kernel
theorem dX0_meetingNode_31 : decode cX0_meetingNode 31 = .ok (.istore 4, 2) := by decide +kernel
theorem dX0_meetingNode_33 : decode cX0_meetingNode 33 = .ok (.aload_n 0, 1) := by decide +kernel
theorem dX0_meetingNode_34 : decode cX0_meetingNode 34 = .ok (.getfield 24, 3) := by decide +kernel
theorem dX0_meetingNode_37 : decode cX0_meetingNode 37 = .ok (.aload_n 0, 1) := by decide +kernel
theorem dX0_meetingNode_38 : decode cX0_meetingNode 38 = .ok (.getfield 37, 3) := by decide +kernel
theorem dX0_meetingNode_41 : decode cX0_meetingNode 41 = .ok (.iload_n 3, 1) := by decide +kernel
theorem dX0_meetingNode_42 : decode cX0_meetingNode 42 = .ok (.iload 4, 2) := by decide +kernel
theorem dX0_meetingNode_44 : decode cX0_meetingNode 44 = .ok (.invokevirtual 105, 3) := by decide +kernel
theorem dX0_meetingNode_47 : decode cX0_meetingNode 47 = .ok (.iaload, 1) := by decide +kernel
theorem dX0_meetingNode_48 : decode cX0_meetingNode 48 = .ok (.ireturn, 1) := by decide +kernel
theorem dX0_ancestorAt_0 : decode cX0_ancestorAt 0 = .ok (.iload_n 2, 1) := by decide +kernel
theorem dX0_ancestorAt_1 : decode cX0_ancestorAt 1 = .ok (.aload_n 0, 1) := by decide +kernel
theorem dX0_ancestorAt_2 : decode cX0_ancestorAt 2 = .ok (.getfield 15, 3) := by decide +kernel
theorem dX0_ancestorAt_5 : decode cX0_ancestorAt 5 = .ok (.iload_n 1, 1) := by decide +kernel
theorem dX0_ancestorAt_6 : decode cX0_ancestorAt 6 = .ok (.iaload, 1) := by decide +kernel
theorem dX0_ancestorAt_7 : decode cX0_ancestorAt 7 = .ok (.if_icmp .le 6, 3) := by decide +kernel
theorem dX0_ancestorAt_10 : decode cX0_ancestorAt 10 = .ok (.bipush (-9), 2) := by decide +kernel
theorem dX0_ancestorAt_12 : decode cX0_ancestorAt 12 = .ok (.ireturn, 1) := by decide +kernel
theorem dX0_ancestorAt_13 : decode cX0_ancestorAt 13 = .ok (.iload_n 1, 1) := by decide +kernel
theorem dX0_ancestorAt_14 : decode cX0_ancestorAt 14 = .ok (.istore_n 3, 1) := by decide +kernel
theorem dX0_ancestorAt_15 : decode cX0_ancestorAt 15 = .ok (.aload_n 0, 1) := by decide +kernel
theorem dX0_ancestorAt_16 : decode cX0_ancestorAt 16 = .ok (.getfield 15, 3) := by decide +kernel
theorem dX0_ancestorAt_19 : decode cX0_ancestorAt 19 = .ok (.iload_n 1, 1) := by decide +kernel
theorem dX0_ancestorAt_20 : decode cX0_ancestorAt 20 = .ok (.iaload, 1) := by decide +kernel
theorem dX0_ancestorAt_21 : decode cX0_ancestorAt 21 = .ok (.istore 4, 2) := by decide +kernel
theorem dX0_ancestorAt_23 : decode cX0_ancestorAt 23 = .ok (.iload 4, 2) := by decide +kernel
theorem dX0_ancestorAt_25 : decode cX0_ancestorAt 25 = .ok (.iload_n 2, 1) := by decide +kernel
theorem dX0_ancestorAt_26 : decode cX0_ancestorAt 26 = .ok (.if_icmp .le 16, 3) := by decide +kernel
theorem dX0_ancestorAt_29 : decode cX0_ancestorAt 29 = .ok (.aload_n 0, 1) := by decide +kernel
theorem dX0_ancestorAt_30 : decode cX0_ancestorAt 30 = .ok (.getfield 9, 3) := by decide +kernel
theorem dX0_ancestorAt_33 : decode cX0_ancestorAt 33 = .ok (.iload_n 3, 1) := by decide +kernel
theorem dX0_ancestorAt_34 : decode cX0_ancestorAt 34 = .ok (.iaload, 1) := by decide +kernel
theorem dX0_ancestorAt_35 : decode cX0_ancestorAt 35 = .ok (.istore_n 3, 1) := by decide +kernel
theorem dX0_ancestorAt_36 : decode cX0_ancestorAt 36 = .ok (.iinc 4 (-1), 3) := by decide +kernel
theorem dX0_ancestorAt_39 : decode cX0_ancestorAt 39 = .ok (.goto (-16), 3) := by decide +kernel
theorem dX0_ancestorAt_42 : decode cX0_ancestorAt 42 = .ok (.iload_n 3, 1) := by decide +kernel
theorem dX0_ancestorAt_43 : decode cX0_ancestorAt 43 = .ok (.ireturn, 1) := by decide +kernel
theorem dX1_init_0 : decode cX1_init 0 = .ok (.aload_n 0, 1) := by decide +kernel
theorem dX1_init_1 : decode cX1_init 1 = .ok (.invokespecial 3, 3) := by decide +kernel
theorem dX1_init_4 : decode cX1_init 4 = .ok (.aload_n 0, 1) := by decide +kernel
theorem dX1_init_5 : decode cX1_init 5 = .ok (.bipush 10, 2) := by decide +kernel
theorem dX1_init_7 : decode cX1_init 7 = .ok (.newarray .int, 2) := by decide +kernel
theorem dX1_init_9 : decode cX1_init 9 = .ok (.putfield 9, 3) := by decide +kernel
theorem dX1_init_12 : decode cX1_init 12 = .ok (.aload_n 0, 1) := by decide +kernel
theorem dX1_init_13 : decode cX1_init 13 = .ok (.bipush 10, 2) := by decide +kernel
theorem dX1_init_15 : decode cX1_init 15 = .ok (.newarray .int, 2) := by decide +kernel
theorem dX1_init_17 : decode cX1_init 17 = .ok (.putfield 15, 3) := by decide +kernel
theorem dX1_init_20 : decode cX1_init 20 = .ok (.aload_n 0, 1) := by decide +kernel
theorem dX1_init_21 : decode cX1_init 21 = .ok (.iconst 0, 1) := by decide +kernel
theorem dX1_init_22 : decode cX1_init 22 = .ok (.putfield 18, 3) := by decide +kernel
theorem dX1_init_25 : decode cX1_init 25 = .ok (.return_, 1) := by decide +kernel
theorem dX1_forget_0 : decode cX1_forget 0 = .ok (.aload_n 0, 1) := by decide +kernel
theorem dX1_forget_1 : decode cX1_forget 1 = .ok (.iconst 0, 1) := by decide +kernel
theorem dX1_forget_2 : decode cX1_forget 2 = .ok (.putfield 18, 3) := by decide +kernel
theorem dX1_forget_5 : decode cX1_forget 5 = .ok (.return_, 1) := by decide +kernel
theorem dX1_remember_0 : decode cX1_remember 0 = .ok (.aload_n 0, 1) := by decide +kernel
theorem dX1_remember_1 : decode cX1_remember 1 = .ok (.getfield 18, 3) := by decide +kernel
theorem dX1_remember_4 : decode cX1_remember 4 = .ok (.bipush 10, 2) := by decide +kernel
theorem dX1_remember_6 : decode cX1_remember 6 = .ok (.if_icmp .lt 7, 3) := by decide +kernel
theorem dX1_remember_9 : decode cX1_remember 9 = .ok (.aload_n 0, 1) := by decide +kernel
theorem dX1_remember_10 : decode cX1_remember 10 = .ok (.invokevirtual 22, 3) := by decide +kernel
theorem dX1_remember_13 : decode cX1_remember 13 = .ok (.aload_n 0, 1) := by decide +kernel
theorem dX1_remember_14 : decode cX1_remember 14 = .ok (.getfield 9, 3) := by decide +kernel
theorem dX1_remember_17 : decode cX1_remember 17 = .ok (.aload_n 0, 1) := by decide +kernel
theorem dX1_remember_18 : decode cX1_remember 18 = .ok (.getfield 18, 3) := by decide +kernel
theorem dX1_remember_21 : decode cX1_remember 21 = .ok (.iload_n 1, 1) := by decide +kernel
theorem dX1_remember_22 : decode cX1_remember 22 = .ok (.iastore, 1) := by decide +kernel
theorem dX1_remember_23 : decode cX1_remember 23 = .ok (.aload_n 0, 1) := by decide +kernel
theorem dX1_remember_24 : decode cX1_remember 24 = .ok (.getfield 15, 3) := by decide +kernel
theorem dX1_remember_27 : decode cX1_remember 27 = .ok (.aload_n 0, 1) := by decide +kernel
theorem dX1_remember_28 : decode cX1_remember 28 = .ok (.getfield 18, 3) := by decide +kernel
theorem dX1_remember_31 : decode cX1_remember 31 = .ok (.iload_n 2, 1) := by decide +kernel
theorem dX1_remember_32 : decode cX1_remember 32 = .ok (.iastore, 1) := by decide +kernel
theorem dX1_remember_33 : decode cX1_remember 33 = .ok (.aload_n 0, 1) := by decide +kernel
theorem dX1_remember_34 : decode cX1_remember 34 = .ok (.dup, 1) := by decide +kernel
theorem dX1_remember_35 : decode cX1_remember 35 = .ok (.getfield 18, 3) := by decide +kernel
theorem dX1_remember_38 : decode cX1_remember 38 = .ok (.iconst 1, 1) := by decide +kernel
theorem dX1_remember_39 : decode cX1_remember 39 = .ok (.iadd, 1) := by decide +kernel
theorem dX1_remember_40 : decode cX1_remember 40 = .ok (.putfield 18, 3) := by decide +kernel
theorem dX1_remember_43 : decode cX1_remember 43 = .ok (.return_, 1) := by decide +kernel
theorem dX1_loseOldest_0 : decode cX1_loseOldest 0 = .ok (.iconst 1, 1) := by decide +kernel
theorem dX1_loseOldest_1 : decode cX1_loseOldest 1 = .ok (.istore_n 1, 1) := by decide +kernel
theorem dX1_loseOldest_2 : decode cX1_loseOldest 2 = .ok (.iload_n 1, 1) := by decide +kernel
theorem dX1_loseOldest_3 : decode cX1_loseOldest 3 = .ok (.bipush 10, 2) := by decide +kernel
theorem dX1_loseOldest_5 : decode cX1_loseOldest 5 = .ok (.if_icmp .ge 37, 3) := by decide +kernel
theorem dX1_loseOldest_8 : decode cX1_loseOldest 8 = .ok (.aload_n 0, 1) := by decide +kernel
theorem dX1_loseOldest_9 : decode cX1_loseOldest 9 = .ok (.getfield 9, 3) := by decide +kernel
theorem dX1_loseOldest_12 : decode cX1_loseOldest 12 = .ok (.iload_n 1, 1) := by decide +kernel
theorem dX1_loseOldest_13 : decode cX1_loseOldest 13 = .ok (.iconst 1, 1) := by decide +kernel
theorem dX1_loseOldest_14 : decode cX1_loseOldest 14 = .ok (.isub, 1) := by decide +kernel
theorem dX1_loseOldest_15 : decode cX1_loseOldest 15 = .ok (.aload_n 0, 1) := by decide +kernel
theorem dX1_loseOldest_16 : decode cX1_loseOldest 16 = .ok (.getfield 9, 3) := by decide +kernel
theorem dX1_loseOldest_19 : decode cX1_loseOldest 19 = .ok (.iload_n 1, 1) := by decide +kernel
theorem dX1_loseOldest_20 : decode cX1_loseOldest 20 = .ok (.iaload, 1) := by decide +kernel
theorem dX1_loseOldest_21 : decode cX1_loseOldest 21 = .ok (.iastore, 1) := by decide +kernel
theorem dX1_loseOldest_22 : decode cX1_loseOldest 22 = .ok (.aload_n 0, 1) := by decide +kernel
theorem dX1_loseOldest_23 : decode cX1_loseOldest 23 = .ok (.getfield 15, 3) := by decide +kernel
theorem dX1_loseOldest_26 : decode cX1_loseOldest 26 = .ok (.iload_n 1, 1) := by decide +kernel
theorem dX1_loseOldest_27 : decode cX1_loseOldest 27 = .ok (.iconst 1, 1) := by decide +kernel
theorem dX1_loseOldest_28 : decode cX1_loseOldest 28 = .ok (.isub, 1) := by decide +kernel
theorem dX1_loseOldest_29 : decode cX1_loseOldest 29 = .ok (.aload_n 0, 1) := by decide +kernel
theorem dX1_loseOldest_30 : decode cX1_loseOldest 30 = .ok (.getfield 15, 3) := by decide +kernel
theorem dX1_loseOldest_33 : decode cX1_loseOldest 33 = .ok (.iload_n 1, 1) := by decide +kernel
theorem dX1_loseOldest_34 : decode cX1_loseOldest 34 = .ok (.iaload, 1) := by decide +kernel
theorem dX1_loseOldest_35 : decode cX1_loseOldest 35 = .ok (.iastore, 1) := by decide +kernel
theorem dX1_loseOldest_36 : decode cX1_loseOldest 36 = .ok (.iinc 1 1, 3) := by decide +kernel
theorem dX1_loseOldest_39 : decode cX1_loseOldest 39 = .ok (.goto (-37), 3) := by decide +kernel
theorem dX1_loseOldest_42 : decode cX1_loseOldest 42 = .ok (.aload_n 0, 1) := by decide +kernel
theorem dX1_loseOldest_43 : decode cX1_loseOldest 43 = .ok (.bipush 9, 2) := by decide +kernel
theorem dX1_loseOldest_45 : decode cX1_loseOldest 45 = .ok (.putfield 18, 3) := by decide +kernel
theorem dX1_loseOldest_48 : decode cX1_loseOldest 48 = .ok (.return_, 1) := by decide +kernel
theorem dX2_init_0 : decode cX2_init 0 = .ok (.aload_n 0, 1) := by decide +kernel
theorem dX2_init_1 : decode cX2_init 1 = .ok (.invokespecial 1, 3) := by decide +kernel
theorem dX2_init_4 : decode cX2_init 4 = .ok (.aload_n 0, 1) := by decide +kernel
theorem dX2_init_5 : decode cX2_init 5 = .ok (.new 7, 3) := by decide +kernel
theorem dX2_init_8 : decode cX2_init 8 = .ok (.dup, 1) := by decide +kernel
theorem dX2_init_9 : decode cX2_init 9 = .ok (.invokespecial 9, 3) := by decide +kernel
theorem dX2_init_12 : decode cX2_init 12 = .ok (.putfield 10, 3) := by decide +kernel
theorem dX2_init_15 : decode cX2_init 15 = .ok (.aload_n 0, 1) := by decide +kernel
theorem dX2_init_16 : decode cX2_init 16 = .ok (.iconst 0, 1) := by decide +kernel
theorem dX2_init_17 : decode cX2_init 17 = .ok (.putfield 16, 3) := by decide +kernel
theorem dX2_init_20 : decode cX2_init 20 = .ok (.return_, 1) := by decide +kernel
theorem dX3_init_0 : decode cX3_init 0 = .ok (.aload_n 0, 1) := by decide +kernel
theorem dX3_init_1 : decode cX3_init 1 = .ok (.invokespecial 3, 3) := by decide +kernel
theorem dX3_init_4 : decode cX3_init 4 = .ok (.aload_n 0, 1) := by decide +kernel
theorem dX3_init_5 : decode cX3_init 5 = .ok (.new 9, 3) := by decide +kernel
theorem dX3_init_8 : decode cX3_init 8 = .ok (.dup, 1) := by decide +kernel
theorem dX3_init_9 : decode cX3_init 9 = .ok (.invokespecial 11, 3) := by decide +kernel
theorem dX3_init_12 : decode cX3_init 12 = .ok (.putfield 12, 3) := by decide +kernel
theorem dX3_init_15 : decode cX3_init 15 = .ok (.aload_n 0, 1) := by decide +kernel
theorem dX3_init_16 : decode cX3_init 16 = .ok (.bipush 48, 2) := by decide +kernel
theorem dX3_init_18 : decode cX3_init 18 = .ok (.newarray .int, 2) := by decide +kernel
theorem dX3_init_20 : decode cX3_init 20 = .ok (.putfield 18, 3) := by decide +kernel
theorem dX3_init_23 : decode cX3_init 23 = .ok (.aload_n 0, 1) := by decide +kernel
theorem dX3_init_24 : decode cX3_init 24 = .ok (.new 22, 3) := by decide +kernel
theorem dX3_init_27 : decode cX3_init 27 = .ok (.dup, 1) := by decide +kernel
theorem dX3_init_28 : decode cX3_init 28 = .ok (.invokespecial 24, 3) := by decide +kernel
theorem dX3_init_31 : decode cX3_init 31 = .ok (.putfield 25, 3) := by decide +kernel
theorem dX3_init_34 : decode cX3_init 34 = .ok (.aload_n 0, 1) := by decide +kernel
theorem dX3_init_35 : decode cX3_init 35 = .ok (.bipush 6, 2) := by decide +kernel
theorem dX3_init_37 : decode cX3_init 37 = .ok (.newarray .int, 2) := by decide +kernel
theorem dX3_init_39 : decode cX3_init 39 = .ok (.putfield 29, 3) := by decide +kernel
theorem dX3_init_42 : decode cX3_init 42 = .ok (.aload_n 0, 1) := by decide +kernel
theorem dX3_init_43 : decode cX3_init 43 = .ok (.iconst 0, 1) := by decide +kernel
theorem dX3_init_44 : decode cX3_init 44 = .ok (.putfield 32, 3) := by decide +kernel
theorem dX3_init_47 : decode cX3_init 47 = .ok (.aload_n 0, 1) := by decide +kernel
theorem dX3_init_48 : decode cX3_init 48 = .ok (.iconst 0, 1) := by decide +kernel
theorem dX3_init_49 : decode cX3_init 49 = .ok (.putfield 36, 3) := by decide +kernel
theorem dX3_init_52 : decode cX3_init 52 = .ok (.return_, 1) := by decide +kernel
theorem dX3_isNone_0 : decode cX3_isNone 0 = .ok (.aload_n 0, 1) := by decide +kernel
theorem dX3_isNone_1 : decode cX3_isNone 1 = .ok (.getfield 12, 3) := by decide +kernel
theorem dX3_isNone_4 : decode cX3_isNone 4 = .ok (.invokevirtual 39, 3) := by decide +kernel
theorem dX3_isNone_7 : decode cX3_isNone 7 = .ok (.ireturn, 1) := by decide +kernel
theorem dX3_becomeOver_0 : decode cX3_becomeOver 0 = .ok (.aload_n 0, 1) := by decide +kernel
theorem dX3_becomeOver_1 : decode cX3_becomeOver 1 = .ok (.getfield 12, 3) := by decide +kernel
theorem dX3_becomeOver_4 : decode cX3_becomeOver 4 = .ok (.aload_n 1, 1) := by decide +kernel
theorem dX3_becomeOver_5 : decode cX3_becomeOver 5 = .ok (.invokevirtual 43, 3) := by decide +kernel
theorem dX3_becomeOver_8 : decode cX3_becomeOver 8 = .ok (.aload_n 0, 1) := by decide +kernel
theorem dX3_becomeOver_9 : decode cX3_becomeOver 9 = .ok (.iload_n 2, 1) := by decide +kernel
theorem dX3_becomeOver_10 : decode cX3_becomeOver 10 = .ok (.putfield 32, 3) := by decide +kernel
theorem dX3_becomeOver_13 : decode cX3_becomeOver 13 = .ok (.aload_n 0, 1) := by decide +kernel
theorem dX3_becomeOver_14 : decode cX3_becomeOver 14 = .ok (.iload_n 2, 1) := by decide +kernel
theorem dX3_becomeOver_15 : decode cX3_becomeOver 15 = .ok (.iconst 1, 1) := by decide +kernel
theorem dX3_becomeOver_16 : decode cX3_becomeOver 16 = .ok (.if_icmp .ge 7, 3) := by decide +kernel
theorem dX3_becomeOver_19 : decode cX3_becomeOver 19 = .ok (.iconst 0, 1) := by decide +kernel
theorem dX3_becomeOver_20 : decode cX3_becomeOver 20 = .ok (.goto 16, 3) := by decide +kernel
theorem dX3_becomeOver_23 : decode cX3_becomeOver 23 = .ok (.aload_n 0, 1) := by decide +kernel
theorem dX3_becomeOver_24 : decode cX3_becomeOver 24 = .ok (.getfield 12, 3) := by decide +kernel
theorem dX3_becomeOver_27 : decode cX3_becomeOver 27 = .ok (.getfield 47, 3) := by decide +kernel
theorem dX3_becomeOver_30 : decode cX3_becomeOver 30 = .ok (.iload_n 2, 1) := by decide +kernel
theorem dX3_becomeOver_31 : decode cX3_becomeOver 31 = .ok (.iadd, 1) := by decide +kernel
theorem dX3_becomeOver_32 : decode cX3_becomeOver 32 = .ok (.iconst 1, 1) := by decide +kernel
theorem dX3_becomeOver_33 : decode cX3_becomeOver 33 = .ok (.isub, 1) := by decide +kernel
theorem dX3_becomeOver_34 : decode cX3_becomeOver 34 = .ok (.iload_n 2, 1) := by decide +kernel
theorem dX3_becomeOver_35 : decode cX3_becomeOver 35 = .ok (.idiv, 1) := by decide +kernel
theorem dX3_becomeOver_36 : decode cX3_becomeOver 36 = .ok (.putfield 36, 3) := by decide +kernel
theorem dX3_becomeOver_39 : decode cX3_becomeOver 39 = .ok (.aload_n 0, 1) := by decide +kernel
theorem dX3_becomeOver_40 : decode cX3_becomeOver 40 = .ok (.getfield 25, 3) := by decide +kernel
theorem dX3_becomeOver_43 : decode cX3_becomeOver 43 = .ok (.invokevirtual 50, 3) := by decide +kernel
theorem dX3_becomeOver_46 : decode cX3_becomeOver 46 = .ok (.iconst 0, 1) := by decide +kernel
theorem dX3_becomeOver_47 : decode cX3_becomeOver 47 = .ok (.istore_n 3, 1) := by decide +kernel
theorem dX3_becomeOver_48 : decode cX3_becomeOver 48 = .ok (.iload_n 3, 1) := by decide +kernel
theorem dX3_becomeOver_49 : decode cX3_becomeOver 49 = .ok (.aload_n 0, 1) := by decide +kernel
theorem dX3_becomeOver_50 : decode cX3_becomeOver 50 = .ok (.getfield 36, 3) := by decide +kernel
theorem dX3_becomeOver_53 : decode cX3_becomeOver 53 = .ok (.if_icmp .ge 33, 3) := by decide +kernel
theorem dX3_becomeOver_56 : decode cX3_becomeOver 56 = .ok (.aload_n 0, 1) := by decide +kernel
theorem dX3_becomeOver_57 : decode cX3_becomeOver 57 = .ok (.getfield 18, 3) := by decide +kernel
theorem dX3_becomeOver_60 : decode cX3_becomeOver 60 = .ok (.iload_n 3, 1) := by decide +kernel
theorem dX3_becomeOver_61 : decode cX3_becomeOver 61 = .ok (.aload_n 0, 1) := by decide +kernel
theorem dX3_becomeOver_62 : decode cX3_becomeOver 62 = .ok (.iload_n 3, 1) := by decide +kernel
theorem dX3_becomeOver_63 : decode cX3_becomeOver 63 = .ok (.invokevirtual 53, 3) := by decide +kernel
theorem dX3_becomeOver_66 : decode cX3_becomeOver 66 = .ok (.iastore, 1) := by decide +kernel
theorem dX3_becomeOver_67 : decode cX3_becomeOver 67 = .ok (.aload_n 0, 1) := by decide +kernel
theorem dX3_becomeOver_68 : decode cX3_becomeOver 68 = .ok (.getfield 25, 3) := by decide +kernel
theorem dX3_becomeOver_71 : decode cX3_becomeOver 71 = .ok (.aload_n 0, 1) := by decide +kernel
theorem dX3_becomeOver_72 : decode cX3_becomeOver 72 = .ok (.getfield 18, 3) := by decide +kernel
theorem dX3_becomeOver_75 : decode cX3_becomeOver 75 = .ok (.iload_n 3, 1) := by decide +kernel
theorem dX3_becomeOver_76 : decode cX3_becomeOver 76 = .ok (.iaload, 1) := by decide +kernel
theorem dX3_becomeOver_77 : decode cX3_becomeOver 77 = .ok (.invokevirtual 57, 3) := by decide +kernel
theorem dX3_becomeOver_80 : decode cX3_becomeOver 80 = .ok (.iinc 3 1, 3) := by decide +kernel
theorem dX3_becomeOver_83 : decode cX3_becomeOver 83 = .ok (.goto (-35), 3) := by decide +kernel
theorem dX3_becomeOver_86 : decode cX3_becomeOver 86 = .ok (.return_, 1) := by decide +kernel
theorem dX3_change_0 : decode cX3_change 0 = .ok (.aload_n 0, 1) := by decide +kernel
theorem dX3_change_1 : decode cX3_change 1 = .ok (.getfield 12, 3) := by decide +kernel
theorem dX3_change_4 : decode cX3_change 4 = .ok (.iload_n 1, 1) := by decide +kernel
theorem dX3_change_5 : decode cX3_change 5 = .ok (.invokevirtual 61, 3) := by decide +kernel
theorem dX3_change_8 : decode cX3_change 8 = .ok (.ifCond .ne 11, 3) := by decide +kernel
theorem dX3_change_11 : decode cX3_change 11 = .ok (.aload_n 0, 1) := by decide +kernel
theorem dX3_change_12 : decode cX3_change 12 = .ok (.getfield 32, 3) := by decide +kernel
theorem dX3_change_15 : decode cX3_change 15 = .ok (.iconst 1, 1) := by decide +kernel
theorem dX3_change_16 : decode cX3_change 16 = .ok (.if_icmp .ge 5, 3) := by decide +kernel
theorem dX3_change_19 : decode cX3_change 19 = .ok (.iconst 0, 1) := by decide +kernel
theorem dX3_change_20 : decode cX3_change 20 = .ok (.ireturn, 1) := by decide +kernel
theorem dX3_change_21 : decode cX3_change 21 = .ok (.aload_n 0, 1) := by decide +kernel
theorem dX3_change_22 : decode cX3_change 22 = .ok (.getfield 12, 3) := by decide +kernel
theorem dX3_change_25 : decode cX3_change 25 = .ok (.getfield 65, 3) := by decide +kernel
theorem dX3_change_28 : decode cX3_change 28 = .ok (.iload_n 1, 1) := by decide +kernel
theorem dX3_change_29 : decode cX3_change 29 = .ok (.iload_n 2, 1) := by decide +kernel
theorem dX3_change_30 : decode cX3_change 30 = .ok (.iastore, 1) := by decide +kernel
theorem dX3_change_31 : decode cX3_change 31 = .ok (.iload_n 1, 1) := by decide +kernel
theorem dX3_change_32 : decode cX3_change 32 = .ok (.aload_n 0, 1) := by decide +kernel
theorem dX3_change_33 : decode cX3_change 33 = .ok (.getfield 32, 3) := by decide +kernel
theorem dX3_change_36 : decode cX3_change 36 = .ok (.idiv, 1) := by decide +kernel
theorem dX3_change_37 : decode cX3_change 37 = .ok (.istore_n 3, 1) := by decide +kernel
theorem dX3_change_38 : decode cX3_change 38 = .ok (.aload_n 0, 1) := by decide +kernel
theorem dX3_change_39 : decode cX3_change 39 = .ok (.getfield 18, 3) := by decide +kernel
theorem dX3_change_42 : decode cX3_change 42 = .ok (.iload_n 3, 1) := by decide +kernel
theorem dX3_change_43 : decode cX3_change 43 = .ok (.iaload, 1) := by decide +kernel
theorem dX3_change_44 : decode cX3_change 44 = .ok (.istore 4, 2) := by decide +kernel
theorem dX3_change_46 : decode cX3_change 46 = .ok (.aload_n 0, 1) := by decide +kernel
theorem dX3_change_47 : decode cX3_change 47 = .ok (.getfield 18, 3) := by decide +kernel
theorem dX3_change_50 : decode cX3_change 50 = .ok (.iload_n 3, 1) := by decide +kernel
theorem dX3_change_51 : decode cX3_change 51 = .ok (.aload_n 0, 1) := by decide +kernel
theorem dX3_change_52 : decode cX3_change 52 = .ok (.iload_n 3, 1) := by decide +kernel
theorem dX3_change_53 : decode cX3_change 53 = .ok (.invokevirtual 53, 3) := by decide +kernel
theorem dX3_change_56 : decode cX3_change 56 = .ok (.iastore, 1) := by decide +kernel
theorem dX3_change_57 : decode cX3_change 57 = .ok (.aload_n 0, 1) := by decide +kernel
theorem dX3_change_58 : decode cX3_change 58 = .ok (.getfield 25, 3) := by decide +kernel
theorem dX3_change_61 : decode cX3_change 61 = .ok (.aload_n 0, 1) := by decide +kernel
theorem dX3_change_62 : decode cX3_change 62 = .ok (.getfield 18, 3) := by decide +kernel
theorem dX3_change_65 : decode cX3_change 65 = .ok (.iload_n 3, 1) := by decide +kernel
theorem dX3_change_66 : decode cX3_change 66 = .ok (.iaload, 1) := by decide +kernel
theorem dX3_change_67 : decode cX3_change 67 = .ok (.invokevirtual 57, 3) := by decide +kernel
theorem dX3_change_70 : decode cX3_change 70 = .ok (.aload_n 0, 1) := by decide +kernel
theorem dX3_change_71 : decode cX3_change 71 = .ok (.getfield 18, 3) := by decide +kernel
theorem dX3_change_74 : decode cX3_change 74 = .ok (.iload_n 3, 1) := by decide +kernel
theorem dX3_change_75 : decode cX3_change 75 = .ok (.iaload, 1) := by decide +kernel
theorem dX3_change_76 : decode cX3_change 76 = .ok (.iload 4, 2) := by decide +kernel
theorem dX3_change_78 : decode cX3_change 78 = .ok (.if_icmp .eq 7, 3) := by decide +kernel
theorem dX3_change_81 : decode cX3_change 81 = .ok (.iconst 1, 1) := by decide +kernel
theorem dX3_change_82 : decode cX3_change 82 = .ok (.goto 4, 3) := by decide +kernel
theorem dX3_change_85 : decode cX3_change 85 = .ok (.iconst 0, 1) := by decide +kernel
theorem dX3_change_86 : decode cX3_change 86 = .ok (.ireturn, 1) := by decide +kernel
theorem dX3_shapeNow_0 : decode cX3_shapeNow 0 = .ok (.iload_n 1, 1) := by decide +kernel
theorem dX3_shapeNow_1 : decode cX3_shapeNow 1 = .ok (.aload_n 0, 1) := by decide +kernel
theorem dX3_shapeNow_2 : decode cX3_shapeNow 2 = .ok (.getfield 32, 3) := by decide +kernel
theorem dX3_shapeNow_5 : decode cX3_shapeNow 5 = .ok (.imul, 1) := by decide +kernel
theorem dX3_shapeNow_6 : decode cX3_shapeNow 6 = .ok (.istore_n 2, 1) := by decide +kernel
theorem dX3_shapeNow_7 : decode cX3_shapeNow 7 = .ok (.iload_n 2, 1) := by decide +kernel
theorem dX3_shapeNow_8 : decode cX3_shapeNow 8 = .ok (.aload_n 0, 1) := by decide +kernel
theorem dX3_shapeNow_9 : decode cX3_shapeNow 9 = .ok (.getfield 32, 3) := by decide +kernel
theorem dX3_shapeNow_12 : decode cX3_shapeNow 12 = .ok (.iadd, 1) := by decide +kernel
theorem dX3_shapeNow_13 : decode cX3_shapeNow 13 = .ok (.aload_n 0, 1) := by decide +kernel
theorem dX3_shapeNow_14 : decode cX3_shapeNow 14 = .ok (.getfield 12, 3) := by decide +kernel
theorem dX3_shapeNow_17 : decode cX3_shapeNow 17 = .ok (.getfield 47, 3) := by decide +kernel
theorem dX3_shapeNow_20 : decode cX3_shapeNow 20 = .ok (.invokestatic 68, 3) := by decide +kernel
theorem dX3_shapeNow_23 : decode cX3_shapeNow 23 = .ok (.istore_n 3, 1) := by decide +kernel
theorem dX3_shapeNow_24 : decode cX3_shapeNow 24 = .ok (.iconst 1, 1) := by decide +kernel
theorem dX3_shapeNow_25 : decode cX3_shapeNow 25 = .ok (.istore 4, 2) := by decide +kernel
theorem dX3_shapeNow_27 : decode cX3_shapeNow 27 = .ok (.iconst 0, 1) := by decide +kernel
theorem dX3_shapeNow_28 : decode cX3_shapeNow 28 = .ok (.istore 5, 2) := by decide +kernel
theorem dX3_shapeNow_30 : decode cX3_shapeNow 30 = .ok (.iload_n 2, 1) := by decide +kernel
theorem dX3_shapeNow_31 : decode cX3_shapeNow 31 = .ok (.istore 6, 2) := by decide +kernel
theorem dX3_shapeNow_33 : decode cX3_shapeNow 33 = .ok (.iload 6, 2) := by decide +kernel
theorem dX3_shapeNow_35 : decode cX3_shapeNow 35 = .ok (.iload_n 3, 1) := by decide +kernel
theorem dX3_shapeNow_36 : decode cX3_shapeNow 36 = .ok (.if_icmp .ge 83, 3) := by decide +kernel
theorem dX3_shapeNow_39 : decode cX3_shapeNow 39 = .ok (.iload 5, 2) := by decide +kernel
theorem dX3_shapeNow_41 : decode cX3_shapeNow 41 = .ok (.bipush 6, 2) := by decide +kernel
theorem dX3_shapeNow_43 : decode cX3_shapeNow 43 = .ok (.if_icmp .ge 76, 3) := by decide +kernel
theorem dX3_shapeNow_46 : decode cX3_shapeNow 46 = .ok (.iload 5, 2) := by decide +kernel
theorem dX3_shapeNow_48 : decode cX3_shapeNow 48 = .ok (.ifCond .le 37, 3) := by decide +kernel
theorem dX3_shapeNow_51 : decode cX3_shapeNow 51 = .ok (.aload_n 0, 1) := by decide +kernel
theorem dX3_shapeNow_52 : decode cX3_shapeNow 52 = .ok (.getfield 29, 3) := by decide +kernel
theorem dX3_shapeNow_55 : decode cX3_shapeNow 55 = .ok (.iload 5, 2) := by decide +kernel
theorem dX3_shapeNow_57 : decode cX3_shapeNow 57 = .ok (.iconst 1, 1) := by decide +kernel
theorem dX3_shapeNow_58 : decode cX3_shapeNow 58 = .ok (.isub, 1) := by decide +kernel
theorem dX3_shapeNow_59 : decode cX3_shapeNow 59 = .ok (.iaload, 1) := by decide +kernel
theorem dX3_shapeNow_60 : decode cX3_shapeNow 60 = .ok (.aload_n 0, 1) := by decide +kernel
theorem dX3_shapeNow_61 : decode cX3_shapeNow 61 = .ok (.getfield 12, 3) := by decide +kernel
theorem dX3_shapeNow_64 : decode cX3_shapeNow 64 = .ok (.getfield 65, 3) := by decide +kernel
theorem dX3_shapeNow_67 : decode cX3_shapeNow 67 = .ok (.iload 6, 2) := by decide +kernel
theorem dX3_shapeNow_69 : decode cX3_shapeNow 69 = .ok (.iaload, 1) := by decide +kernel
theorem dX3_shapeNow_70 : decode cX3_shapeNow 70 = .ok (.if_icmp .le 15, 3) := by decide +kernel
theorem dX3_shapeNow_73 : decode cX3_shapeNow 73 = .ok (.iinc 5 (-1), 3) := by decide +kernel
theorem dX3_shapeNow_76 : decode cX3_shapeNow 76 = .ok (.iconst 2, 1) := by decide +kernel
theorem dX3_shapeNow_77 : decode cX3_shapeNow 77 = .ok (.iload 4, 2) := by decide +kernel
theorem dX3_shapeNow_79 : decode cX3_shapeNow 79 = .ok (.imul, 1) := by decide +kernel
theorem dX3_shapeNow_80 : decode cX3_shapeNow 80 = .ok (.istore 4, 2) := by decide +kernel
theorem dX3_shapeNow_82 : decode cX3_shapeNow 82 = .ok (.goto (-36), 3) := by decide +kernel
theorem dX3_shapeNow_85 : decode cX3_shapeNow 85 = .ok (.aload_n 0, 1) := by decide +kernel
theorem dX3_shapeNow_86 : decode cX3_shapeNow 86 = .ok (.getfield 29, 3) := by decide +kernel
theorem dX3_shapeNow_89 : decode cX3_shapeNow 89 = .ok (.iload 5, 2) := by decide +kernel
theorem dX3_shapeNow_91 : decode cX3_shapeNow 91 = .ok (.aload_n 0, 1) := by decide +kernel
theorem dX3_shapeNow_92 : decode cX3_shapeNow 92 = .ok (.getfield 12, 3) := by decide +kernel
theorem dX3_shapeNow_95 : decode cX3_shapeNow 95 = .ok (.getfield 65, 3) := by decide +kernel
theorem dX3_shapeNow_98 : decode cX3_shapeNow 98 = .ok (.iload 6, 2) := by decide +kernel
theorem dX3_shapeNow_100 : decode cX3_shapeNow 100 = .ok (.iaload, 1) := by decide +kernel
theorem dX3_shapeNow_101 : decode cX3_shapeNow 101 = .ok (.iastore, 1) := by decide +kernel
theorem dX3_shapeNow_102 : decode cX3_shapeNow 102 = .ok (.iinc 5 1, 3) := by decide +kernel
theorem dX3_shapeNow_105 : decode cX3_shapeNow 105 = .ok (.iconst 2, 1) := by decide +kernel
theorem dX3_shapeNow_106 : decode cX3_shapeNow 106 = .ok (.iload 4, 2) := by decide +kernel
theorem dX3_shapeNow_108 : decode cX3_shapeNow 108 = .ok (.imul, 1) := by decide +kernel
theorem dX3_shapeNow_109 : decode cX3_shapeNow 109 = .ok (.iconst 1, 1) := by decide +kernel
theorem dX3_shapeNow_110 : decode cX3_shapeNow 110 = .ok (.iadd, 1) := by decide +kernel
theorem dX3_shapeNow_111 : decode cX3_shapeNow 111 = .ok (.istore 4, 2) := by decide +kernel
theorem dX3_shapeNow_113 : decode cX3_shapeNow 113 = .ok (.iinc 6 1, 3) := by decide +kernel
theorem dX3_shapeNow_116 : decode cX3_shapeNow 116 = .ok (.goto (-83), 3) := by decide +kernel
theorem dX3_shapeNow_119 : decode cX3_shapeNow 119 = .ok (.iload 4, 2) := by decide +kernel
theorem dX3_shapeNow_121 : decode cX3_shapeNow 121 = .ok (.ireturn, 1) := by decide +kernel
theorem dX3_tableEntry_0 : decode cX3_tableEntry 0 = .ok (.iconst 0, 1) := by decide +kernel
theorem dX3_tableEntry_1 : decode cX3_tableEntry 1 = .ok (.istore 4, 2) := by decide +kernel
theorem dX3_tableEntry_3 : decode cX3_tableEntry 3 = .ok (.iconst 0, 1) := by decide +kernel
theorem dX3_tableEntry_4 : decode cX3_tableEntry 4 = .ok (.istore 5, 2) := by decide +kernel
theorem dX3_tableEntry_6 : decode cX3_tableEntry 6 = .ok (.iload_n 1, 1) := by decide +kernel
theorem dX3_tableEntry_7 : decode cX3_tableEntry 7 = .ok (.invokestatic 74, 3) := by decide +kernel
theorem dX3_tableEntry_10 : decode cX3_tableEntry 10 = .ok (.iconst 1, 1) := by decide +kernel
theorem dX3_tableEntry_11 : decode cX3_tableEntry 11 = .ok (.isub, 1) := by decide +kernel
theorem dX3_tableEntry_12 : decode cX3_tableEntry 12 = .ok (.istore 6, 2) := by decide +kernel
theorem dX3_tableEntry_14 : decode cX3_tableEntry 14 = .ok (.iload 6, 2) := by decide +kernel
theorem dX3_tableEntry_16 : decode cX3_tableEntry 16 = .ok (.ifCond .lt 59, 3) := by decide +kernel
theorem dX3_tableEntry_19 : decode cX3_tableEntry 19 = .ok (.iload 5, 2) := by decide +kernel
theorem dX3_tableEntry_21 : decode cX3_tableEntry 21 = .ok (.iload_n 3, 1) := by decide +kernel
theorem dX3_tableEntry_22 : decode cX3_tableEntry 22 = .ok (.if_icmp .gt 53, 3) := by decide +kernel
theorem dX3_tableEntry_25 : decode cX3_tableEntry 25 = .ok (.iload_n 1, 1) := by decide +kernel
theorem dX3_tableEntry_26 : decode cX3_tableEntry 26 = .ok (.iload 6, 2) := by decide +kernel
theorem dX3_tableEntry_28 : decode cX3_tableEntry 28 = .ok (.ishr, 1) := by decide +kernel
theorem dX3_tableEntry_29 : decode cX3_tableEntry 29 = .ok (.iconst 1, 1) := by decide +kernel
theorem dX3_tableEntry_30 : decode cX3_tableEntry 30 = .ok (.iand, 1) := by decide +kernel
theorem dX3_tableEntry_31 : decode cX3_tableEntry 31 = .ok (.ifCond .ne 16, 3) := by decide +kernel
theorem dX3_tableEntry_34 : decode cX3_tableEntry 34 = .ok (.iconst 0, 1) := by decide +kernel
theorem dX3_tableEntry_35 : decode cX3_tableEntry 35 = .ok (.iload 4, 2) := by decide +kernel
theorem dX3_tableEntry_37 : decode cX3_tableEntry 37 = .ok (.iconst 1, 1) := by decide +kernel
theorem dX3_tableEntry_38 : decode cX3_tableEntry 38 = .ok (.isub, 1) := by decide +kernel
theorem dX3_tableEntry_39 : decode cX3_tableEntry 39 = .ok (.invokestatic 77, 3) := by decide +kernel
theorem dX3_tableEntry_42 : decode cX3_tableEntry 42 = .ok (.istore 4, 2) := by decide +kernel
theorem dX3_tableEntry_44 : decode cX3_tableEntry 44 = .ok (.goto 25, 3) := by decide +kernel
theorem dX3_tableEntry_47 : decode cX3_tableEntry 47 = .ok (.iload 4, 2) := by decide +kernel
theorem dX3_tableEntry_49 : decode cX3_tableEntry 49 = .ok (.bipush 6, 2) := by decide +kernel
theorem dX3_tableEntry_51 : decode cX3_tableEntry 51 = .ok (.if_icmp .ge 18, 3) := by decide +kernel
theorem dX3_tableEntry_54 : decode cX3_tableEntry 54 = .ok (.aload_n 0, 1) := by decide +kernel
theorem dX3_tableEntry_55 : decode cX3_tableEntry 55 = .ok (.getfield 29, 3) := by decide +kernel
theorem dX3_tableEntry_58 : decode cX3_tableEntry 58 = .ok (.iload 4, 2) := by decide +kernel
theorem dX3_tableEntry_60 : decode cX3_tableEntry 60 = .ok (.iload 5, 2) := by decide +kernel
theorem dX3_tableEntry_62 : decode cX3_tableEntry 62 = .ok (.iastore, 1) := by decide +kernel
theorem dX3_tableEntry_63 : decode cX3_tableEntry 63 = .ok (.iinc 4 1, 3) := by decide +kernel
theorem dX3_tableEntry_66 : decode cX3_tableEntry 66 = .ok (.iinc 5 1, 3) := by decide +kernel
theorem dX3_tableEntry_69 : decode cX3_tableEntry 69 = .ok (.iinc 6 (-1), 3) := by decide +kernel
theorem dX3_tableEntry_72 : decode cX3_tableEntry 72 = .ok (.goto (-58), 3) := by decide +kernel
theorem dX3_tableEntry_75 : decode cX3_tableEntry 75 = .ok (.iconst 0, 1) := by decide +kernel
theorem dX3_tableEntry_76 : decode cX3_tableEntry 76 = .ok (.istore 6, 2) := by decide +kernel
theorem dX3_tableEntry_78 : decode cX3_tableEntry 78 = .ok (.iload 6, 2) := by decide +kernel
theorem dX3_tableEntry_80 : decode cX3_tableEntry 80 = .ok (.iload 4, 2) := by decide +kernel
theorem dX3_tableEntry_82 : decode cX3_tableEntry 82 = .ok (.if_icmp .ge 28, 3) := by decide +kernel
theorem dX3_tableEntry_85 : decode cX3_tableEntry 85 = .ok (.aload_n 0, 1) := by decide +kernel
theorem dX3_tableEntry_86 : decode cX3_tableEntry 86 = .ok (.getfield 29, 3) := by decide +kernel
theorem dX3_tableEntry_89 : decode cX3_tableEntry 89 = .ok (.iload 6, 2) := by decide +kernel
theorem dX3_tableEntry_91 : decode cX3_tableEntry 91 = .ok (.iaload, 1) := by decide +kernel
theorem dX3_tableEntry_92 : decode cX3_tableEntry 92 = .ok (.iload_n 2, 1) := by decide +kernel
theorem dX3_tableEntry_93 : decode cX3_tableEntry 93 = .ok (.if_icmp .lt 11, 3) := by decide +kernel
theorem dX3_tableEntry_96 : decode cX3_tableEntry 96 = .ok (.aload_n 0, 1) := by decide +kernel
theorem dX3_tableEntry_97 : decode cX3_tableEntry 97 = .ok (.getfield 29, 3) := by decide +kernel
theorem dX3_tableEntry_100 : decode cX3_tableEntry 100 = .ok (.iload 6, 2) := by decide +kernel
theorem dX3_tableEntry_102 : decode cX3_tableEntry 102 = .ok (.iaload, 1) := by decide +kernel
theorem dX3_tableEntry_103 : decode cX3_tableEntry 103 = .ok (.ireturn, 1) := by decide +kernel
theorem dX3_tableEntry_104 : decode cX3_tableEntry 104 = .ok (.iinc 6 1, 3) := by decide +kernel
theorem dX3_tableEntry_107 : decode cX3_tableEntry 107 = .ok (.goto (-29), 3) := by decide +kernel
theorem dX3_tableEntry_110 : decode cX3_tableEntry 110 = .ok (.iload_n 3, 1) := by decide +kernel
theorem dX3_tableEntry_111 : decode cX3_tableEntry 111 = .ok (.ireturn, 1) := by decide +kernel
theorem dX3_leadingDigit_0 : decode cX3_leadingDigit 0 = .ok (.bipush 11, 2) := by decide +kernel
theorem dX3_leadingDigit_2 : decode cX3_leadingDigit 2 = .ok (.istore_n 1, 1) := by decide +kernel
theorem dX3_leadingDigit_3 : decode cX3_leadingDigit 3 = .ok (.iload_n 1, 1) := by decide +kernel
theorem dX3_leadingDigit_4 : decode cX3_leadingDigit 4 = .ok (.ifCond .le 15, 3) := by decide +kernel
theorem dX3_leadingDigit_7 : decode cX3_leadingDigit 7 = .ok (.iload_n 0, 1) := by decide +kernel
theorem dX3_leadingDigit_8 : decode cX3_leadingDigit 8 = .ok (.iload_n 1, 1) := by decide +kernel
theorem dX3_leadingDigit_9 : decode cX3_leadingDigit 9 = .ok (.ishr, 1) := by decide +kernel
theorem dX3_leadingDigit_10 : decode cX3_leadingDigit 10 = .ok (.ifCond .ne 9, 3) := by decide +kernel
theorem dX3_leadingDigit_13 : decode cX3_leadingDigit 13 = .ok (.iinc 1 (-1), 3) := by decide +kernel
theorem dX3_leadingDigit_16 : decode cX3_leadingDigit 16 = .ok (.goto (-13), 3) := by decide +kernel
theorem dX3_leadingDigit_19 : decode cX3_leadingDigit 19 = .ok (.iload_n 1, 1) := by decide +kernel
theorem dX3_leadingDigit_20 : decode cX3_leadingDigit 20 = .ok (.ireturn, 1) := by decide +kernel
theorem dX3_unlikeShapes_0 : decode cX3_unlikeShapes 0 = .ok (.iconst 0, 1) := by decide +kernel
theorem dX3_unlikeShapes_1 : decode cX3_unlikeShapes 1 = .ok (.istore_n 1, 1) := by decide +kernel
theorem dX3_unlikeShapes_2 : decode cX3_unlikeShapes 2 = .ok (.iconst 0, 1) := by decide +kernel
theorem dX3_unlikeShapes_3 : decode cX3_unlikeShapes 3 = .ok (.istore_n 2, 1) := by decide +kernel
theorem dX3_unlikeShapes_4 : decode cX3_unlikeShapes 4 = .ok (.iload_n 2, 1) := by decide +kernel
theorem dX3_unlikeShapes_5 : decode cX3_unlikeShapes 5 = .ok (.aload_n 0, 1) := by decide +kernel
theorem dX3_unlikeShapes_6 : decode cX3_unlikeShapes 6 = .ok (.getfield 36, 3) := by decide +kernel
theorem dX3_unlikeShapes_9 : decode cX3_unlikeShapes 9 = .ok (.if_icmp .ge 45, 3) := by decide +kernel
theorem dX3_unlikeShapes_12 : decode cX3_unlikeShapes 12 = .ok (.iconst 0, 1) := by decide +kernel
theorem dX3_unlikeShapes_13 : decode cX3_unlikeShapes 13 = .ok (.istore_n 3, 1) := by decide +kernel
theorem dX3_unlikeShapes_14 : decode cX3_unlikeShapes 14 = .ok (.iload_n 3, 1) := by decide +kernel
theorem dX3_unlikeShapes_15 : decode cX3_unlikeShapes 15 = .ok (.iload_n 2, 1) := by decide +kernel
theorem dX3_unlikeShapes_16 : decode cX3_unlikeShapes 16 = .ok (.if_icmp .ge 24, 3) := by decide +kernel
theorem dX3_unlikeShapes_19 : decode cX3_unlikeShapes 19 = .ok (.aload_n 0, 1) := by decide +kernel
theorem dX3_unlikeShapes_20 : decode cX3_unlikeShapes 20 = .ok (.getfield 18, 3) := by decide +kernel
theorem dX3_unlikeShapes_23 : decode cX3_unlikeShapes 23 = .ok (.iload_n 3, 1) := by decide +kernel
theorem dX3_unlikeShapes_24 : decode cX3_unlikeShapes 24 = .ok (.iaload, 1) := by decide +kernel
theorem dX3_unlikeShapes_25 : decode cX3_unlikeShapes 25 = .ok (.aload_n 0, 1) := by decide +kernel
theorem dX3_unlikeShapes_26 : decode cX3_unlikeShapes 26 = .ok (.getfield 18, 3) := by decide +kernel
theorem dX3_unlikeShapes_29 : decode cX3_unlikeShapes 29 = .ok (.iload_n 2, 1) := by decide +kernel
theorem dX3_unlikeShapes_30 : decode cX3_unlikeShapes 30 = .ok (.iaload, 1) := by decide +kernel
theorem dX3_unlikeShapes_31 : decode cX3_unlikeShapes 31 = .ok (.if_icmp .eq 9, 3) := by decide +kernel
theorem dX3_unlikeShapes_34 : decode cX3_unlikeShapes 34 = .ok (.iinc 3 1, 3) := by decide +kernel
theorem dX3_unlikeShapes_37 : decode cX3_unlikeShapes 37 = .ok (.goto (-23), 3) := by decide +kernel
theorem dX3_unlikeShapes_40 : decode cX3_unlikeShapes 40 = .ok (.iload_n 3, 1) := by decide +kernel
theorem dX3_unlikeShapes_41 : decode cX3_unlikeShapes 41 = .ok (.iload_n 2, 1) := by decide +kernel
theorem dX3_unlikeShapes_42 : decode cX3_unlikeShapes 42 = .ok (.if_icmp .ne 6, 3) := by decide +kernel
theorem dX3_unlikeShapes_45 : decode cX3_unlikeShapes 45 = .ok (.iinc 1 1, 3) := by decide +kernel
theorem dX3_unlikeShapes_48 : decode cX3_unlikeShapes 48 = .ok (.iinc 2 1, 3) := by decide +kernel
theorem dX3_unlikeShapes_51 : decode cX3_unlikeShapes 51 = .ok (.goto (-47), 3) := by decide +kernel
theorem dX3_unlikeShapes_54 : decode cX3_unlikeShapes 54 = .ok (.iload_n 1, 1) := by decide +kernel
theorem dX3_unlikeShapes_55 : decode cX3_unlikeShapes 55 = .ok (.ireturn, 1) := by decide +kernel
theorem dX3_levels_0 : decode cX3_levels 0 = .ok (.iconst 0, 1) := by decide +kernel
theorem dX3_levels_1 : decode cX3_levels 1 = .ok (.istore_n 1, 1) := by decide +kernel
theorem dX3_levels_2 : decode cX3_levels 2 = .ok (.iconst 1, 1) := by decide +kernel
theorem dX3_levels_3 : decode cX3_levels 3 = .ok (.istore_n 2, 1) := by decide +kernel
theorem dX3_levels_4 : decode cX3_levels 4 = .ok (.iload_n 2, 1) := by decide +kernel
theorem dX3_levels_5 : decode cX3_levels 5 = .ok (.aload_n 0, 1) := by decide +kernel
theorem dX3_levels_6 : decode cX3_levels 6 = .ok (.getfield 36, 3) := by decide +kernel
theorem dX3_levels_9 : decode cX3_levels 9 = .ok (.if_icmp .gt 13, 3) := by decide +kernel
theorem dX3_levels_12 : decode cX3_levels 12 = .ok (.iinc 1 1, 3) := by decide +kernel
theorem dX3_levels_15 : decode cX3_levels 15 = .ok (.iload_n 2, 1) := by decide +kernel
theorem dX3_levels_16 : decode cX3_levels 16 = .ok (.iconst 2, 1) := by decide +kernel
theorem dX3_levels_17 : decode cX3_levels 17 = .ok (.imul, 1) := by decide +kernel
theorem dX3_levels_18 : decode cX3_levels 18 = .ok (.istore_n 2, 1) := by decide +kernel
theorem dX3_levels_19 : decode cX3_levels 19 = .ok (.goto (-15), 3) := by decide +kernel
theorem dX3_levels_22 : decode cX3_levels 22 = .ok (.iload_n 1, 1) := by decide +kernel
theorem dX3_levels_23 : decode cX3_levels 23 = .ok (.ireturn, 1) := by decide +kernel
theorem dX3_entries_0 : decode cX3_entries 0 = .ok (.iconst 0, 1) := by decide +kernel
theorem dX3_entries_1 : decode cX3_entries 1 = .ok (.istore_n 1, 1) := by decide +kernel
theorem dX3_entries_2 : decode cX3_entries 2 = .ok (.iconst 1, 1) := by decide +kernel
theorem dX3_entries_3 : decode cX3_entries 3 = .ok (.istore_n 2, 1) := by decide +kernel
theorem dX3_entries_4 : decode cX3_entries 4 = .ok (.iload_n 2, 1) := by decide +kernel
theorem dX3_entries_5 : decode cX3_entries 5 = .ok (.aload_n 0, 1) := by decide +kernel
theorem dX3_entries_6 : decode cX3_entries 6 = .ok (.getfield 36, 3) := by decide +kernel
theorem dX3_entries_9 : decode cX3_entries 9 = .ok (.if_icmp .gt 21, 3) := by decide +kernel
theorem dX3_entries_12 : decode cX3_entries 12 = .ok (.iload_n 1, 1) := by decide +kernel
theorem dX3_entries_13 : decode cX3_entries 13 = .ok (.aload_n 0, 1) := by decide +kernel
theorem dX3_entries_14 : decode cX3_entries 14 = .ok (.getfield 36, 3) := by decide +kernel
theorem dX3_entries_17 : decode cX3_entries 17 = .ok (.iload_n 2, 1) := by decide +kernel
theorem dX3_entries_18 : decode cX3_entries 18 = .ok (.isub, 1) := by decide +kernel
theorem dX3_entries_19 : decode cX3_entries 19 = .ok (.iconst 1, 1) := by decide +kernel
theorem dX3_entries_20 : decode cX3_entries 20 = .ok (.iadd, 1) := by decide +kernel
theorem dX3_entries_21 : decode cX3_entries 21 = .ok (.iadd, 1) := by decide +kernel
theorem dX3_entries_22 : decode cX3_entries 22 = .ok (.istore_n 1, 1) := by decide +kernel
theorem dX3_entries_23 : decode cX3_entries 23 = .ok (.iload_n 2, 1) := by decide +kernel
theorem dX3_entries_24 : decode cX3_entries 24 = .ok (.iconst 2, 1) := by decide +kernel
theorem dX3_entries_25 : decode cX3_entries 25 = .ok (.imul, 1) := by decide +kernel
theorem dX3_entries_26 : decode cX3_entries 26 = .ok (.istore_n 2, 1) := by decide +kernel
theorem dX3_entries_27 : decode cX3_entries 27 = .ok (.goto (-23), 3) := by decide +kernel
theorem dX3_entries_30 : decode cX3_entries 30 = .ok (.iload_n 1, 1) := by decide +kernel
theorem dX3_entries_31 : decode cX3_entries 31 = .ok (.ireturn, 1) := by decide +kernel
theorem dX3_bits_0 : decode cX3_bits 0 = .ok (.iconst 3, 1) := by decide +kernel
theorem dX3_bits_1 : decode cX3_bits 1 = .ok (.aload_n 0, 1) := by decide +kernel
theorem dX3_bits_2 : decode cX3_bits 2 = .ok (.getfield 32, 3) := by decide +kernel
theorem dX3_bits_5 : decode cX3_bits 5 = .ok (.imul, 1) := by decide +kernel
theorem dX3_bits_6 : decode cX3_bits 6 = .ok (.aload_n 0, 1) := by decide +kernel
theorem dX3_bits_7 : decode cX3_bits 7 = .ok (.getfield 32, 3) := by decide +kernel
theorem dX3_bits_10 : decode cX3_bits 10 = .ok (.imul, 1) := by decide +kernel
theorem dX3_bits_11 : decode cX3_bits 11 = .ok (.aload_n 0, 1) := by decide +kernel
theorem dX3_bits_12 : decode cX3_bits 12 = .ok (.invokevirtual 80, 3) := by decide +kernel
theorem dX3_bits_15 : decode cX3_bits 15 = .ok (.imul, 1) := by decide +kernel
theorem dX3_bits_16 : decode cX3_bits 16 = .ok (.istore_n 1, 1) := by decide +kernel
theorem dX3_bits_17 : decode cX3_bits 17 = .ok (.iconst 2, 1) := by decide +kernel
theorem dX3_bits_18 : decode cX3_bits 18 = .ok (.aload_n 0, 1) := by decide +kernel
theorem dX3_bits_19 : decode cX3_bits 19 = .ok (.getfield 32, 3) := by decide +kernel
theorem dX3_bits_22 : decode cX3_bits 22 = .ok (.imul, 1) := by decide +kernel
theorem dX3_bits_23 : decode cX3_bits 23 = .ok (.aload_n 0, 1) := by decide +kernel
theorem dX3_bits_24 : decode cX3_bits 24 = .ok (.getfield 36, 3) := by decide +kernel
theorem dX3_bits_27 : decode cX3_bits 27 = .ok (.imul, 1) := by decide +kernel
theorem dX3_bits_28 : decode cX3_bits 28 = .ok (.bipush 6, 2) := by decide +kernel
theorem dX3_bits_30 : decode cX3_bits 30 = .ok (.aload_n 0, 1) := by decide +kernel
theorem dX3_bits_31 : decode cX3_bits 31 = .ok (.invokevirtual 84, 3) := by decide +kernel
theorem dX3_bits_34 : decode cX3_bits 34 = .ok (.imul, 1) := by decide +kernel
theorem dX3_bits_35 : decode cX3_bits 35 = .ok (.iadd, 1) := by decide +kernel
theorem dX3_bits_36 : decode cX3_bits 36 = .ok (.iload_n 1, 1) := by decide +kernel
theorem dX3_bits_37 : decode cX3_bits 37 = .ok (.iadd, 1) := by decide +kernel
theorem dX3_bits_38 : decode cX3_bits 38 = .ok (.ireturn, 1) := by decide +kernel
theorem dX3_leastPlace_0 : decode cX3_leastPlace 0 = .ok (.iload_n 1, 1) := by decide +kernel
theorem dX3_leastPlace_1 : decode cX3_leastPlace 1 = .ok (.istore_n 3, 1) := by decide +kernel
theorem dX3_leastPlace_2 : decode cX3_leastPlace 2 = .ok (.iload_n 1, 1) := by decide +kernel
theorem dX3_leastPlace_3 : decode cX3_leastPlace 3 = .ok (.iconst 1, 1) := by decide +kernel
theorem dX3_leastPlace_4 : decode cX3_leastPlace 4 = .ok (.iadd, 1) := by decide +kernel
theorem dX3_leastPlace_5 : decode cX3_leastPlace 5 = .ok (.istore 4, 2) := by decide +kernel
theorem dX3_leastPlace_7 : decode cX3_leastPlace 7 = .ok (.iload 4, 2) := by decide +kernel
theorem dX3_leastPlace_9 : decode cX3_leastPlace 9 = .ok (.iload_n 2, 1) := by decide +kernel
theorem dX3_leastPlace_10 : decode cX3_leastPlace 10 = .ok (.if_icmp .gt 34, 3) := by decide +kernel
theorem dX3_leastPlace_13 : decode cX3_leastPlace 13 = .ok (.aload_n 0, 1) := by decide +kernel
theorem dX3_leastPlace_14 : decode cX3_leastPlace 14 = .ok (.getfield 12, 3) := by decide +kernel
theorem dX3_leastPlace_17 : decode cX3_leastPlace 17 = .ok (.getfield 65, 3) := by decide +kernel
theorem dX3_leastPlace_20 : decode cX3_leastPlace 20 = .ok (.iload 4, 2) := by decide +kernel
theorem dX3_leastPlace_22 : decode cX3_leastPlace 22 = .ok (.iaload, 1) := by decide +kernel
theorem dX3_leastPlace_23 : decode cX3_leastPlace 23 = .ok (.aload_n 0, 1) := by decide +kernel
theorem dX3_leastPlace_24 : decode cX3_leastPlace 24 = .ok (.getfield 12, 3) := by decide +kernel
theorem dX3_leastPlace_27 : decode cX3_leastPlace 27 = .ok (.getfield 65, 3) := by decide +kernel
theorem dX3_leastPlace_30 : decode cX3_leastPlace 30 = .ok (.iload_n 3, 1) := by decide +kernel
theorem dX3_leastPlace_31 : decode cX3_leastPlace 31 = .ok (.iaload, 1) := by decide +kernel
theorem dX3_leastPlace_32 : decode cX3_leastPlace 32 = .ok (.if_icmp .ge 6, 3) := by decide +kernel
theorem dX3_leastPlace_35 : decode cX3_leastPlace 35 = .ok (.iload 4, 2) := by decide +kernel
theorem dX3_leastPlace_37 : decode cX3_leastPlace 37 = .ok (.istore_n 3, 1) := by decide +kernel
theorem dX3_leastPlace_38 : decode cX3_leastPlace 38 = .ok (.iinc 4 1, 3) := by decide +kernel
theorem dX3_leastPlace_41 : decode cX3_leastPlace 41 = .ok (.goto (-34), 3) := by decide +kernel
theorem dX3_leastPlace_44 : decode cX3_leastPlace 44 = .ok (.iload_n 3, 1) := by decide +kernel
theorem dX3_leastPlace_45 : decode cX3_leastPlace 45 = .ok (.ireturn, 1) := by decide +kernel
theorem dX3_kthPlace_0 : decode cX3_kthPlace 0 = .ok (.iload_n 1, 1) := by decide +kernel
theorem dX3_kthPlace_1 : decode cX3_kthPlace 1 = .ok (.istore 4, 2) := by decide +kernel
theorem dX3_kthPlace_3 : decode cX3_kthPlace 3 = .ok (.iload 4, 2) := by decide +kernel
theorem dX3_kthPlace_5 : decode cX3_kthPlace 5 = .ok (.iload_n 2, 1) := by decide +kernel
theorem dX3_kthPlace_6 : decode cX3_kthPlace 6 = .ok (.if_icmp .ge 21, 3) := by decide +kernel
theorem dX3_kthPlace_9 : decode cX3_kthPlace 9 = .ok (.aload_n 0, 1) := by decide +kernel
theorem dX3_kthPlace_10 : decode cX3_kthPlace 10 = .ok (.iload_n 1, 1) := by decide +kernel
theorem dX3_kthPlace_11 : decode cX3_kthPlace 11 = .ok (.iload_n 2, 1) := by decide +kernel
theorem dX3_kthPlace_12 : decode cX3_kthPlace 12 = .ok (.iload 4, 2) := by decide +kernel
theorem dX3_kthPlace_14 : decode cX3_kthPlace 14 = .ok (.invokevirtual 87, 3) := by decide +kernel
theorem dX3_kthPlace_17 : decode cX3_kthPlace 17 = .ok (.iload_n 3, 1) := by decide +kernel
theorem dX3_kthPlace_18 : decode cX3_kthPlace 18 = .ok (.if_icmp .eq 9, 3) := by decide +kernel
theorem dX3_kthPlace_21 : decode cX3_kthPlace 21 = .ok (.iinc 4 1, 3) := by decide +kernel
theorem dX3_kthPlace_24 : decode cX3_kthPlace 24 = .ok (.goto (-21), 3) := by decide +kernel
theorem dX3_kthPlace_27 : decode cX3_kthPlace 27 = .ok (.iload 4, 2) := by decide +kernel
theorem dX3_kthPlace_29 : decode cX3_kthPlace 29 = .ok (.ireturn, 1) := by decide +kernel
theorem dX3_rank_0 : decode cX3_rank 0 = .ok (.iconst 0, 1) := by decide +kernel
theorem dX3_rank_1 : decode cX3_rank 1 = .ok (.istore 4, 2) := by decide +kernel
theorem dX3_rank_3 : decode cX3_rank 3 = .ok (.iload_n 1, 1) := by decide +kernel
theorem dX3_rank_4 : decode cX3_rank 4 = .ok (.istore 5, 2) := by decide +kernel
theorem dX3_rank_6 : decode cX3_rank 6 = .ok (.iload 5, 2) := by decide +kernel
theorem dX3_rank_8 : decode cX3_rank 8 = .ok (.iload_n 2, 1) := by decide +kernel
theorem dX3_rank_9 : decode cX3_rank 9 = .ok (.if_icmp .gt 74, 3) := by decide +kernel
theorem dX3_rank_12 : decode cX3_rank 12 = .ok (.aload_n 0, 1) := by decide +kernel
theorem dX3_rank_13 : decode cX3_rank 13 = .ok (.getfield 12, 3) := by decide +kernel
theorem dX3_rank_16 : decode cX3_rank 16 = .ok (.getfield 65, 3) := by decide +kernel
theorem dX3_rank_19 : decode cX3_rank 19 = .ok (.iload 5, 2) := by decide +kernel
theorem dX3_rank_21 : decode cX3_rank 21 = .ok (.iaload, 1) := by decide +kernel
theorem dX3_rank_22 : decode cX3_rank 22 = .ok (.aload_n 0, 1) := by decide +kernel
theorem dX3_rank_23 : decode cX3_rank 23 = .ok (.getfield 12, 3) := by decide +kernel
theorem dX3_rank_26 : decode cX3_rank 26 = .ok (.getfield 65, 3) := by decide +kernel
theorem dX3_rank_29 : decode cX3_rank 29 = .ok (.iload_n 3, 1) := by decide +kernel
theorem dX3_rank_30 : decode cX3_rank 30 = .ok (.iaload, 1) := by decide +kernel
theorem dX3_rank_31 : decode cX3_rank 31 = .ok (.if_icmp .ge 7, 3) := by decide +kernel
theorem dX3_rank_34 : decode cX3_rank 34 = .ok (.iconst 1, 1) := by decide +kernel
theorem dX3_rank_35 : decode cX3_rank 35 = .ok (.goto 4, 3) := by decide +kernel
theorem dX3_rank_38 : decode cX3_rank 38 = .ok (.iconst 0, 1) := by decide +kernel
theorem dX3_rank_39 : decode cX3_rank 39 = .ok (.istore 6, 2) := by decide +kernel
theorem dX3_rank_41 : decode cX3_rank 41 = .ok (.iload 6, 2) := by decide +kernel
theorem dX3_rank_43 : decode cX3_rank 43 = .ok (.ifCond .ne 31, 3) := by decide +kernel
theorem dX3_rank_46 : decode cX3_rank 46 = .ok (.iload 5, 2) := by decide +kernel
theorem dX3_rank_48 : decode cX3_rank 48 = .ok (.iload_n 3, 1) := by decide +kernel
theorem dX3_rank_49 : decode cX3_rank 49 = .ok (.if_icmp .ge 28, 3) := by decide +kernel
theorem dX3_rank_52 : decode cX3_rank 52 = .ok (.aload_n 0, 1) := by decide +kernel
theorem dX3_rank_53 : decode cX3_rank 53 = .ok (.getfield 12, 3) := by decide +kernel
theorem dX3_rank_56 : decode cX3_rank 56 = .ok (.getfield 65, 3) := by decide +kernel
theorem dX3_rank_59 : decode cX3_rank 59 = .ok (.iload 5, 2) := by decide +kernel
theorem dX3_rank_61 : decode cX3_rank 61 = .ok (.iaload, 1) := by decide +kernel
theorem dX3_rank_62 : decode cX3_rank 62 = .ok (.aload_n 0, 1) := by decide +kernel
theorem dX3_rank_63 : decode cX3_rank 63 = .ok (.getfield 12, 3) := by decide +kernel
theorem dX3_rank_66 : decode cX3_rank 66 = .ok (.getfield 65, 3) := by decide +kernel
theorem dX3_rank_69 : decode cX3_rank 69 = .ok (.iload_n 3, 1) := by decide +kernel
theorem dX3_rank_70 : decode cX3_rank 70 = .ok (.iaload, 1) := by decide +kernel
theorem dX3_rank_71 : decode cX3_rank 71 = .ok (.if_icmp .ne 6, 3) := by decide +kernel
theorem dX3_rank_74 : decode cX3_rank 74 = .ok (.iinc 4 1, 3) := by decide +kernel
theorem dX3_rank_77 : decode cX3_rank 77 = .ok (.iinc 5 1, 3) := by decide +kernel
theorem dX3_rank_80 : decode cX3_rank 80 = .ok (.goto (-74), 3) := by decide +kernel
theorem dX3_rank_83 : decode cX3_rank 83 = .ok (.iload 4, 2) := by decide +kernel
theorem dX3_rank_85 : decode cX3_rank 85 = .ok (.ireturn, 1) := by decide +kernel
theorem dX3_leftEdge_0 : decode cX3_leftEdge 0 = .ok (.iload_n 1, 1) := by decide +kernel
theorem dX3_leftEdge_1 : decode cX3_leftEdge 1 = .ok (.iconst 1, 1) := by decide +kernel
theorem dX3_leftEdge_2 : decode cX3_leftEdge 2 = .ok (.isub, 1) := by decide +kernel
theorem dX3_leftEdge_3 : decode cX3_leftEdge 3 = .ok (.istore_n 2, 1) := by decide +kernel
theorem dX3_leftEdge_4 : decode cX3_leftEdge 4 = .ok (.iload_n 2, 1) := by decide +kernel
theorem dX3_leftEdge_5 : decode cX3_leftEdge 5 = .ok (.ifCond .lt 30, 3) := by decide +kernel
theorem dX3_leftEdge_8 : decode cX3_leftEdge 8 = .ok (.aload_n 0, 1) := by decide +kernel
theorem dX3_leftEdge_9 : decode cX3_leftEdge 9 = .ok (.getfield 12, 3) := by decide +kernel
theorem dX3_leftEdge_12 : decode cX3_leftEdge 12 = .ok (.getfield 65, 3) := by decide +kernel
theorem dX3_leftEdge_15 : decode cX3_leftEdge 15 = .ok (.iload_n 2, 1) := by decide +kernel
theorem dX3_leftEdge_16 : decode cX3_leftEdge 16 = .ok (.iaload, 1) := by decide +kernel
theorem dX3_leftEdge_17 : decode cX3_leftEdge 17 = .ok (.aload_n 0, 1) := by decide +kernel
theorem dX3_leftEdge_18 : decode cX3_leftEdge 18 = .ok (.getfield 12, 3) := by decide +kernel
theorem dX3_leftEdge_21 : decode cX3_leftEdge 21 = .ok (.getfield 65, 3) := by decide +kernel
theorem dX3_leftEdge_24 : decode cX3_leftEdge 24 = .ok (.iload_n 1, 1) := by decide +kernel
theorem dX3_leftEdge_25 : decode cX3_leftEdge 25 = .ok (.iaload, 1) := by decide +kernel
theorem dX3_leftEdge_26 : decode cX3_leftEdge 26 = .ok (.if_icmp .le 9, 3) := by decide +kernel
theorem dX3_leftEdge_29 : decode cX3_leftEdge 29 = .ok (.iinc 2 (-1), 3) := by decide +kernel
theorem dX3_leftEdge_32 : decode cX3_leftEdge 32 = .ok (.goto (-28), 3) := by decide +kernel
theorem dX3_leftEdge_35 : decode cX3_leftEdge 35 = .ok (.iload_n 2, 1) := by decide +kernel
theorem dX3_leftEdge_36 : decode cX3_leftEdge 36 = .ok (.ireturn, 1) := by decide +kernel
theorem dX3_rightEdge_0 : decode cX3_rightEdge 0 = .ok (.iload_n 1, 1) := by decide +kernel
theorem dX3_rightEdge_1 : decode cX3_rightEdge 1 = .ok (.iconst 1, 1) := by decide +kernel
theorem dX3_rightEdge_2 : decode cX3_rightEdge 2 = .ok (.iadd, 1) := by decide +kernel
theorem dX3_rightEdge_3 : decode cX3_rightEdge 3 = .ok (.istore_n 2, 1) := by decide +kernel
theorem dX3_rightEdge_4 : decode cX3_rightEdge 4 = .ok (.iload_n 2, 1) := by decide +kernel
theorem dX3_rightEdge_5 : decode cX3_rightEdge 5 = .ok (.aload_n 0, 1) := by decide +kernel
theorem dX3_rightEdge_6 : decode cX3_rightEdge 6 = .ok (.getfield 12, 3) := by decide +kernel
theorem dX3_rightEdge_9 : decode cX3_rightEdge 9 = .ok (.getfield 47, 3) := by decide +kernel
theorem dX3_rightEdge_12 : decode cX3_rightEdge 12 = .ok (.if_icmp .ge 30, 3) := by decide +kernel
theorem dX3_rightEdge_15 : decode cX3_rightEdge 15 = .ok (.aload_n 0, 1) := by decide +kernel
theorem dX3_rightEdge_16 : decode cX3_rightEdge 16 = .ok (.getfield 12, 3) := by decide +kernel
theorem dX3_rightEdge_19 : decode cX3_rightEdge 19 = .ok (.getfield 65, 3) := by decide +kernel
theorem dX3_rightEdge_22 : decode cX3_rightEdge 22 = .ok (.iload_n 2, 1) := by decide +kernel
theorem dX3_rightEdge_23 : decode cX3_rightEdge 23 = .ok (.iaload, 1) := by decide +kernel
theorem dX3_rightEdge_24 : decode cX3_rightEdge 24 = .ok (.aload_n 0, 1) := by decide +kernel
theorem dX3_rightEdge_25 : decode cX3_rightEdge 25 = .ok (.getfield 12, 3) := by decide +kernel
theorem dX3_rightEdge_28 : decode cX3_rightEdge 28 = .ok (.getfield 65, 3) := by decide +kernel
theorem dX3_rightEdge_31 : decode cX3_rightEdge 31 = .ok (.iload_n 1, 1) := by decide +kernel
theorem dX3_rightEdge_32 : decode cX3_rightEdge 32 = .ok (.iaload, 1) := by decide +kernel
theorem dX3_rightEdge_33 : decode cX3_rightEdge 33 = .ok (.if_icmp .lt 9, 3) := by decide +kernel
theorem dX3_rightEdge_36 : decode cX3_rightEdge 36 = .ok (.iinc 2 1, 3) := by decide +kernel
theorem dX3_rightEdge_39 : decode cX3_rightEdge 39 = .ok (.goto (-35), 3) := by decide +kernel
theorem dX3_rightEdge_42 : decode cX3_rightEdge 42 = .ok (.iload_n 2, 1) := by decide +kernel
theorem dX3_rightEdge_43 : decode cX3_rightEdge 43 = .ok (.ireturn, 1) := by decide +kernel
theorem dX3_runsOwned_0 : decode cX3_runsOwned 0 = .ok (.iload_n 1, 1) := by decide +kernel
theorem dX3_runsOwned_1 : decode cX3_runsOwned 1 = .ok (.aload_n 0, 1) := by decide +kernel
theorem dX3_runsOwned_2 : decode cX3_runsOwned 2 = .ok (.iload_n 1, 1) := by decide +kernel
theorem dX3_runsOwned_3 : decode cX3_runsOwned 3 = .ok (.invokevirtual 91, 3) := by decide +kernel
theorem dX3_runsOwned_6 : decode cX3_runsOwned 6 = .ok (.isub, 1) := by decide +kernel
theorem dX3_runsOwned_7 : decode cX3_runsOwned 7 = .ok (.aload_n 0, 1) := by decide +kernel
theorem dX3_runsOwned_8 : decode cX3_runsOwned 8 = .ok (.iload_n 1, 1) := by decide +kernel
theorem dX3_runsOwned_9 : decode cX3_runsOwned 9 = .ok (.invokevirtual 94, 3) := by decide +kernel
theorem dX3_runsOwned_12 : decode cX3_runsOwned 12 = .ok (.iload_n 1, 1) := by decide +kernel
theorem dX3_runsOwned_13 : decode cX3_runsOwned 13 = .ok (.isub, 1) := by decide +kernel
theorem dX3_runsOwned_14 : decode cX3_runsOwned 14 = .ok (.imul, 1) := by decide +kernel
theorem dX3_runsOwned_15 : decode cX3_runsOwned 15 = .ok (.ireturn, 1) := by decide +kernel
theorem dX3_parentPlace_0 : decode cX3_parentPlace 0 = .ok (.aload_n 0, 1) := by decide +kernel
theorem dX3_parentPlace_1 : decode cX3_parentPlace 1 = .ok (.iload_n 1, 1) := by decide +kernel
theorem dX3_parentPlace_2 : decode cX3_parentPlace 2 = .ok (.invokevirtual 91, 3) := by decide +kernel
theorem dX3_parentPlace_5 : decode cX3_parentPlace 5 = .ok (.istore_n 2, 1) := by decide +kernel
theorem dX3_parentPlace_6 : decode cX3_parentPlace 6 = .ok (.aload_n 0, 1) := by decide +kernel
theorem dX3_parentPlace_7 : decode cX3_parentPlace 7 = .ok (.iload_n 1, 1) := by decide +kernel
theorem dX3_parentPlace_8 : decode cX3_parentPlace 8 = .ok (.invokevirtual 94, 3) := by decide +kernel
theorem dX3_parentPlace_11 : decode cX3_parentPlace 11 = .ok (.istore_n 3, 1) := by decide +kernel
theorem dX3_parentPlace_12 : decode cX3_parentPlace 12 = .ok (.iload_n 3, 1) := by decide +kernel
theorem dX3_parentPlace_13 : decode cX3_parentPlace 13 = .ok (.aload_n 0, 1) := by decide +kernel
theorem dX3_parentPlace_14 : decode cX3_parentPlace 14 = .ok (.getfield 12, 3) := by decide +kernel
theorem dX3_parentPlace_17 : decode cX3_parentPlace 17 = .ok (.getfield 47, 3) := by decide +kernel
theorem dX3_parentPlace_20 : decode cX3_parentPlace 20 = .ok (.if_icmp .lt 14, 3) := by decide +kernel
theorem dX3_parentPlace_23 : decode cX3_parentPlace 23 = .ok (.iload_n 2, 1) := by decide +kernel
theorem dX3_parentPlace_24 : decode cX3_parentPlace 24 = .ok (.ifCond .ge 8, 3) := by decide +kernel
theorem dX3_parentPlace_27 : decode cX3_parentPlace 27 = .ok (.bipush (-9), 2) := by decide +kernel
theorem dX3_parentPlace_29 : decode cX3_parentPlace 29 = .ok (.goto 4, 3) := by decide +kernel
theorem dX3_parentPlace_32 : decode cX3_parentPlace 32 = .ok (.iload_n 2, 1) := by decide +kernel
theorem dX3_parentPlace_33 : decode cX3_parentPlace 33 = .ok (.ireturn, 1) := by decide +kernel
theorem dX3_parentPlace_34 : decode cX3_parentPlace 34 = .ok (.iload_n 2, 1) := by decide +kernel
theorem dX3_parentPlace_35 : decode cX3_parentPlace 35 = .ok (.ifCond .ge 5, 3) := by decide +kernel
theorem dX3_parentPlace_38 : decode cX3_parentPlace 38 = .ok (.iload_n 3, 1) := by decide +kernel
theorem dX3_parentPlace_39 : decode cX3_parentPlace 39 = .ok (.ireturn, 1) := by decide +kernel
theorem dX3_parentPlace_40 : decode cX3_parentPlace 40 = .ok (.aload_n 0, 1) := by decide +kernel
theorem dX3_parentPlace_41 : decode cX3_parentPlace 41 = .ok (.getfield 12, 3) := by decide +kernel
theorem dX3_parentPlace_44 : decode cX3_parentPlace 44 = .ok (.getfield 65, 3) := by decide +kernel
theorem dX3_parentPlace_47 : decode cX3_parentPlace 47 = .ok (.iload_n 2, 1) := by decide +kernel
theorem dX3_parentPlace_48 : decode cX3_parentPlace 48 = .ok (.iaload, 1) := by decide +kernel
theorem dX3_parentPlace_49 : decode cX3_parentPlace 49 = .ok (.aload_n 0, 1) := by decide +kernel
theorem dX3_parentPlace_50 : decode cX3_parentPlace 50 = .ok (.getfield 12, 3) := by decide +kernel
theorem dX3_parentPlace_53 : decode cX3_parentPlace 53 = .ok (.getfield 65, 3) := by decide +kernel
theorem dX3_parentPlace_56 : decode cX3_parentPlace 56 = .ok (.iload_n 3, 1) := by decide +kernel
theorem dX3_parentPlace_57 : decode cX3_parentPlace 57 = .ok (.iaload, 1) := by decide +kernel
theorem dX3_parentPlace_58 : decode cX3_parentPlace 58 = .ok (.if_icmp .le 7, 3) := by decide +kernel
theorem dX3_parentPlace_61 : decode cX3_parentPlace 61 = .ok (.iload_n 2, 1) := by decide +kernel
theorem dX3_parentPlace_62 : decode cX3_parentPlace 62 = .ok (.goto 4, 3) := by decide +kernel
theorem dX3_parentPlace_65 : decode cX3_parentPlace 65 = .ok (.iload_n 3, 1) := by decide +kernel
theorem dX3_parentPlace_66 : decode cX3_parentPlace 66 = .ok (.ireturn, 1) := by decide +kernel
theorem dX3_depthOf_0 : decode cX3_depthOf 0 = .ok (.iconst 0, 1) := by decide +kernel
theorem dX3_depthOf_1 : decode cX3_depthOf 1 = .ok (.istore_n 2, 1) := by decide +kernel
theorem dX3_depthOf_2 : decode cX3_depthOf 2 = .ok (.aload_n 0, 1) := by decide +kernel
theorem dX3_depthOf_3 : decode cX3_depthOf 3 = .ok (.iload_n 1, 1) := by decide +kernel
theorem dX3_depthOf_4 : decode cX3_depthOf 4 = .ok (.invokevirtual 97, 3) := by decide +kernel
theorem dX3_depthOf_7 : decode cX3_depthOf 7 = .ok (.istore_n 3, 1) := by decide +kernel
theorem dX3_depthOf_8 : decode cX3_depthOf 8 = .ok (.iload_n 2, 1) := by decide +kernel
theorem dX3_depthOf_9 : decode cX3_depthOf 9 = .ok (.aload_n 0, 1) := by decide +kernel
theorem dX3_depthOf_10 : decode cX3_depthOf 10 = .ok (.getfield 12, 3) := by decide +kernel
theorem dX3_depthOf_13 : decode cX3_depthOf 13 = .ok (.getfield 47, 3) := by decide +kernel
theorem dX3_depthOf_16 : decode cX3_depthOf 16 = .ok (.if_icmp .ge 21, 3) := by decide +kernel
theorem dX3_depthOf_19 : decode cX3_depthOf 19 = .ok (.iload_n 3, 1) := by decide +kernel
theorem dX3_depthOf_20 : decode cX3_depthOf 20 = .ok (.bipush (-9), 2) := by decide +kernel
theorem dX3_depthOf_22 : decode cX3_depthOf 22 = .ok (.if_icmp .eq 15, 3) := by decide +kernel
theorem dX3_depthOf_25 : decode cX3_depthOf 25 = .ok (.aload_n 0, 1) := by decide +kernel
theorem dX3_depthOf_26 : decode cX3_depthOf 26 = .ok (.iload_n 3, 1) := by decide +kernel
theorem dX3_depthOf_27 : decode cX3_depthOf 27 = .ok (.invokevirtual 97, 3) := by decide +kernel
theorem dX3_depthOf_30 : decode cX3_depthOf 30 = .ok (.istore_n 3, 1) := by decide +kernel
theorem dX3_depthOf_31 : decode cX3_depthOf 31 = .ok (.iinc 2 1, 3) := by decide +kernel
theorem dX3_depthOf_34 : decode cX3_depthOf 34 = .ok (.goto (-26), 3) := by decide +kernel
theorem dX3_depthOf_37 : decode cX3_depthOf 37 = .ok (.iload_n 2, 1) := by decide +kernel
theorem dX3_depthOf_38 : decode cX3_depthOf 38 = .ok (.ireturn, 1) := by decide +kernel
theorem dX3_ancestor_0 : decode cX3_ancestor 0 = .ok (.iload_n 2, 1) := by decide +kernel
theorem dX3_ancestor_1 : decode cX3_ancestor 1 = .ok (.aload_n 0, 1) := by decide +kernel
theorem dX3_ancestor_2 : decode cX3_ancestor 2 = .ok (.getfield 12, 3) := by decide +kernel
theorem dX3_ancestor_5 : decode cX3_ancestor 5 = .ok (.getfield 47, 3) := by decide +kernel
theorem dX3_ancestor_8 : decode cX3_ancestor 8 = .ok (.invokestatic 68, 3) := by decide +kernel
theorem dX3_ancestor_11 : decode cX3_ancestor 11 = .ok (.istore_n 3, 1) := by decide +kernel
theorem dX3_ancestor_12 : decode cX3_ancestor 12 = .ok (.iload_n 1, 1) := by decide +kernel
theorem dX3_ancestor_13 : decode cX3_ancestor 13 = .ok (.istore 4, 2) := by decide +kernel
theorem dX3_ancestor_15 : decode cX3_ancestor 15 = .ok (.iconst 0, 1) := by decide +kernel
theorem dX3_ancestor_16 : decode cX3_ancestor 16 = .ok (.istore 5, 2) := by decide +kernel
theorem dX3_ancestor_18 : decode cX3_ancestor 18 = .ok (.iload 5, 2) := by decide +kernel
theorem dX3_ancestor_20 : decode cX3_ancestor 20 = .ok (.iload_n 3, 1) := by decide +kernel
theorem dX3_ancestor_21 : decode cX3_ancestor 21 = .ok (.if_icmp .ge 24, 3) := by decide +kernel
theorem dX3_ancestor_24 : decode cX3_ancestor 24 = .ok (.iload 4, 2) := by decide +kernel
theorem dX3_ancestor_26 : decode cX3_ancestor 26 = .ok (.bipush (-9), 2) := by decide +kernel
theorem dX3_ancestor_28 : decode cX3_ancestor 28 = .ok (.if_icmp .eq 17, 3) := by decide +kernel
theorem dX3_ancestor_31 : decode cX3_ancestor 31 = .ok (.aload_n 0, 1) := by decide +kernel
theorem dX3_ancestor_32 : decode cX3_ancestor 32 = .ok (.iload 4, 2) := by decide +kernel
theorem dX3_ancestor_34 : decode cX3_ancestor 34 = .ok (.invokevirtual 97, 3) := by decide +kernel
theorem dX3_ancestor_37 : decode cX3_ancestor 37 = .ok (.istore 4, 2) := by decide +kernel
theorem dX3_ancestor_39 : decode cX3_ancestor 39 = .ok (.iinc 5 1, 3) := by decide +kernel
theorem dX3_ancestor_42 : decode cX3_ancestor 42 = .ok (.goto (-24), 3) := by decide +kernel
theorem dX3_ancestor_45 : decode cX3_ancestor 45 = .ok (.iload 4, 2) := by decide +kernel
theorem dX3_ancestor_47 : decode cX3_ancestor 47 = .ok (.ireturn, 1) := by decide +kernel
theorem dX3_areAlike_0 : decode cX3_areAlike 0 = .ok (.iconst 0, 1) := by decide +kernel
theorem dX3_areAlike_1 : decode cX3_areAlike 1 = .ok (.istore 4, 2) := by decide +kernel
theorem dX3_areAlike_3 : decode cX3_areAlike 3 = .ok (.iload 4, 2) := by decide +kernel
theorem dX3_areAlike_5 : decode cX3_areAlike 5 = .ok (.iload_n 3, 1) := by decide +kernel
theorem dX3_areAlike_6 : decode cX3_areAlike 6 = .ok (.if_icmp .ge 32, 3) := by decide +kernel
theorem dX3_areAlike_9 : decode cX3_areAlike 9 = .ok (.aload_n 0, 1) := by decide +kernel
theorem dX3_areAlike_10 : decode cX3_areAlike 10 = .ok (.iload_n 1, 1) := by decide +kernel
theorem dX3_areAlike_11 : decode cX3_areAlike 11 = .ok (.iload_n 1, 1) := by decide +kernel
theorem dX3_areAlike_12 : decode cX3_areAlike 12 = .ok (.iload 4, 2) := by decide +kernel
theorem dX3_areAlike_14 : decode cX3_areAlike 14 = .ok (.iadd, 1) := by decide +kernel
theorem dX3_areAlike_15 : decode cX3_areAlike 15 = .ok (.invokevirtual 100, 3) := by decide +kernel
theorem dX3_areAlike_18 : decode cX3_areAlike 18 = .ok (.aload_n 0, 1) := by decide +kernel
theorem dX3_areAlike_19 : decode cX3_areAlike 19 = .ok (.iload_n 2, 1) := by decide +kernel
theorem dX3_areAlike_20 : decode cX3_areAlike 20 = .ok (.iload_n 2, 1) := by decide +kernel
theorem dX3_areAlike_21 : decode cX3_areAlike 21 = .ok (.iload 4, 2) := by decide +kernel
theorem dX3_areAlike_23 : decode cX3_areAlike 23 = .ok (.iadd, 1) := by decide +kernel
theorem dX3_areAlike_24 : decode cX3_areAlike 24 = .ok (.invokevirtual 100, 3) := by decide +kernel
theorem dX3_areAlike_27 : decode cX3_areAlike 27 = .ok (.if_icmp .eq 5, 3) := by decide +kernel
theorem dX3_areAlike_30 : decode cX3_areAlike 30 = .ok (.iconst 0, 1) := by decide +kernel
theorem dX3_areAlike_31 : decode cX3_areAlike 31 = .ok (.ireturn, 1) := by decide +kernel
theorem dX3_areAlike_32 : decode cX3_areAlike 32 = .ok (.iinc 4 1, 3) := by decide +kernel
theorem dX3_areAlike_35 : decode cX3_areAlike 35 = .ok (.goto (-32), 3) := by decide +kernel
theorem dX3_areAlike_38 : decode cX3_areAlike 38 = .ok (.iconst 1, 1) := by decide +kernel
theorem dX3_areAlike_39 : decode cX3_areAlike 39 = .ok (.ireturn, 1) := by decide +kernel
theorem dX3_stepsToLeftWithin_0 : decode cX3_stepsToLeftWithin 0 = .ok (.iload_n 2, 1) := by decide +kernel
theorem dX3_stepsToLeftWithin_1 : decode cX3_stepsToLeftWithin 1 = .ok (.iload_n 1, 1) := by decide +kernel
theorem dX3_stepsToLeftWithin_2 : decode cX3_stepsToLeftWithin 2 = .ok (.iconst 1, 1) := by decide +kernel
theorem dX3_stepsToLeftWithin_3 : decode cX3_stepsToLeftWithin 3 = .ok (.isub, 1) := by decide +kernel
theorem dX3_stepsToLeftWithin_4 : decode cX3_stepsToLeftWithin 4 = .ok (.aload_n 0, 1) := by decide +kernel
theorem dX3_stepsToLeftWithin_5 : decode cX3_stepsToLeftWithin 5 = .ok (.iload_n 2, 1) := by decide +kernel
theorem dX3_stepsToLeftWithin_6 : decode cX3_stepsToLeftWithin 6 = .ok (.invokevirtual 91, 3) := by decide +kernel
theorem dX3_stepsToLeftWithin_9 : decode cX3_stepsToLeftWithin 9 = .ok (.invokestatic 77, 3) := by decide +kernel
theorem dX3_stepsToLeftWithin_12 : decode cX3_stepsToLeftWithin 12 = .ok (.isub, 1) := by decide +kernel
theorem dX3_stepsToLeftWithin_13 : decode cX3_stepsToLeftWithin 13 = .ok (.ireturn, 1) := by decide +kernel
theorem dX4_init_0 : decode cX4_init 0 = .ok (.aload_n 0, 1) := by decide +kernel
theorem dX4_init_1 : decode cX4_init 1 = .ok (.invokespecial 3, 3) := by decide +kernel
theorem dX4_init_4 : decode cX4_init 4 = .ok (.aload_n 0, 1) := by decide +kernel
theorem dX4_init_5 : decode cX4_init 5 = .ok (.bipush 48, 2) := by decide +kernel
theorem dX4_init_7 : decode cX4_init 7 = .ok (.newarray .int, 2) := by decide +kernel
theorem dX4_init_9 : decode cX4_init 9 = .ok (.putfield 9, 3) := by decide +kernel
theorem dX4_init_12 : decode cX4_init 12 = .ok (.aload_n 0, 1) := by decide +kernel
theorem dX4_init_13 : decode cX4_init 13 = .ok (.iconst (-1), 1) := by decide +kernel
theorem dX4_init_14 : decode cX4_init 14 = .ok (.putfield 15, 3) := by decide +kernel
theorem dX4_init_17 : decode cX4_init 17 = .ok (.return_, 1) := by decide +kernel
theorem dX4_isMissing_0 : decode cX4_isMissing 0 = .ok (.aload_n 0, 1) := by decide +kernel
theorem dX4_isMissing_1 : decode cX4_isMissing 1 = .ok (.getfield 15, 3) := by decide +kernel
theorem dX4_isMissing_4 : decode cX4_isMissing 4 = .ok (.ifCond .ge 7, 3) := by decide +kernel
theorem dX4_isMissing_7 : decode cX4_isMissing 7 = .ok (.iconst 1, 1) := by decide +kernel
theorem dX4_isMissing_8 : decode cX4_isMissing 8 = .ok (.goto 4, 3) := by decide +kernel
theorem dX4_isMissing_11 : decode cX4_isMissing 11 = .ok (.iconst 0, 1) := by decide +kernel
theorem dX4_isMissing_12 : decode cX4_isMissing 12 = .ok (.ireturn, 1) := by decide +kernel
theorem dX4_lacks_0 : decode cX4_lacks 0 = .ok (.iload_n 1, 1) := by decide +kernel
theorem dX4_lacks_1 : decode cX4_lacks 1 = .ok (.ifCond .lt 11, 3) := by decide +kernel
theorem dX4_lacks_4 : decode cX4_lacks 4 = .ok (.iload_n 1, 1) := by decide +kernel
theorem dX4_lacks_5 : decode cX4_lacks 5 = .ok (.aload_n 0, 1) := by decide +kernel
theorem dX4_lacks_6 : decode cX4_lacks 6 = .ok (.getfield 15, 3) := by decide +kernel
theorem dX4_lacks_9 : decode cX4_lacks 9 = .ok (.if_icmp .lt 7, 3) := by decide +kernel
theorem dX4_lacks_12 : decode cX4_lacks 12 = .ok (.iconst 1, 1) := by decide +kernel
theorem dX4_lacks_13 : decode cX4_lacks 13 = .ok (.goto 4, 3) := by decide +kernel
theorem dX4_lacks_16 : decode cX4_lacks 16 = .ok (.iconst 0, 1) := by decide +kernel
theorem dX4_lacks_17 : decode cX4_lacks 17 = .ok (.ireturn, 1) := by decide +kernel
theorem dX4_lacksSome_0 : decode cX4_lacksSome 0 = .ok (.iload_n 1, 1) := by decide +kernel
theorem dX4_lacksSome_1 : decode cX4_lacksSome 1 = .ok (.ifCond .lt 17, 3) := by decide +kernel
theorem dX4_lacksSome_4 : decode cX4_lacksSome 4 = .ok (.iload_n 2, 1) := by decide +kernel
theorem dX4_lacksSome_5 : decode cX4_lacksSome 5 = .ok (.ifCond .lt 13, 3) := by decide +kernel
theorem dX4_lacksSome_8 : decode cX4_lacksSome 8 = .ok (.iload_n 2, 1) := by decide +kernel
theorem dX4_lacksSome_9 : decode cX4_lacksSome 9 = .ok (.aload_n 0, 1) := by decide +kernel
theorem dX4_lacksSome_10 : decode cX4_lacksSome 10 = .ok (.getfield 15, 3) := by decide +kernel
theorem dX4_lacksSome_13 : decode cX4_lacksSome 13 = .ok (.iload_n 1, 1) := by decide +kernel
theorem dX4_lacksSome_14 : decode cX4_lacksSome 14 = .ok (.isub, 1) := by decide +kernel
theorem dX4_lacksSome_15 : decode cX4_lacksSome 15 = .ok (.if_icmp .le 7, 3) := by decide +kernel
theorem dX4_lacksSome_18 : decode cX4_lacksSome 18 = .ok (.iconst 1, 1) := by decide +kernel
theorem dX4_lacksSome_19 : decode cX4_lacksSome 19 = .ok (.goto 4, 3) := by decide +kernel
theorem dX4_lacksSome_22 : decode cX4_lacksSome 22 = .ok (.iconst 0, 1) := by decide +kernel
theorem dX4_lacksSome_23 : decode cX4_lacksSome 23 = .ok (.ireturn, 1) := by decide +kernel
theorem dX4_becomeZeros_0 : decode cX4_becomeZeros 0 = .ok (.aload_n 0, 1) := by decide +kernel
theorem dX4_becomeZeros_1 : decode cX4_becomeZeros 1 = .ok (.getfield 9, 3) := by decide +kernel
theorem dX4_becomeZeros_4 : decode cX4_becomeZeros 4 = .ok (.iconst 0, 1) := by decide +kernel
theorem dX4_becomeZeros_5 : decode cX4_becomeZeros 5 = .ok (.invokestatic 19, 3) := by decide +kernel
theorem dX4_becomeZeros_8 : decode cX4_becomeZeros 8 = .ok (.aload_n 0, 1) := by decide +kernel
theorem dX4_becomeZeros_9 : decode cX4_becomeZeros 9 = .ok (.iload_n 1, 1) := by decide +kernel
theorem dX4_becomeZeros_10 : decode cX4_becomeZeros 10 = .ok (.putfield 15, 3) := by decide +kernel
theorem dX4_becomeZeros_13 : decode cX4_becomeZeros 13 = .ok (.return_, 1) := by decide +kernel
theorem dX4_become_0 : decode cX4_become 0 = .ok (.aload_n 1, 1) := by decide +kernel
theorem dX4_become_1 : decode cX4_become 1 = .ok (.getfield 9, 3) := by decide +kernel
theorem dX4_become_4 : decode cX4_become 4 = .ok (.iconst 0, 1) := by decide +kernel
theorem dX4_become_5 : decode cX4_become 5 = .ok (.aload_n 0, 1) := by decide +kernel
theorem dX4_become_6 : decode cX4_become 6 = .ok (.getfield 9, 3) := by decide +kernel
theorem dX4_become_9 : decode cX4_become 9 = .ok (.iconst 0, 1) := by decide +kernel
theorem dX4_become_10 : decode cX4_become 10 = .ok (.bipush 48, 2) := by decide +kernel
theorem dX4_become_12 : decode cX4_become 12 = .ok (.invokestatic 25, 3) := by decide +kernel
theorem dX4_become_15 : decode cX4_become 15 = .ok (.aload_n 0, 1) := by decide +kernel
theorem dX4_become_16 : decode cX4_become 16 = .ok (.aload_n 1, 1) := by decide +kernel
theorem dX4_become_17 : decode cX4_become 17 = .ok (.getfield 15, 3) := by decide +kernel
theorem dX4_become_20 : decode cX4_become 20 = .ok (.putfield 15, 3) := by decide +kernel
theorem dX4_become_23 : decode cX4_become 23 = .ok (.return_, 1) := by decide +kernel
theorem dX4_digestOn_0 : decode cX4_digestOn 0 = .ok (.lload_n 1, 1) := by decide +kernel
theorem dX4_digestOn_1 : decode cX4_digestOn 1 = .ok (.lstore_n 3, 1) := by decide +kernel
theorem dX4_digestOn_2 : decode cX4_digestOn 2 = .ok (.iconst 0, 1) := by decide +kernel
theorem dX4_digestOn_3 : decode cX4_digestOn 3 = .ok (.istore 5, 2) := by decide +kernel
theorem dX4_digestOn_5 : decode cX4_digestOn 5 = .ok (.iload 5, 2) := by decide +kernel
theorem dX4_digestOn_7 : decode cX4_digestOn 7 = .ok (.aload_n 0, 1) := by decide +kernel
theorem dX4_digestOn_8 : decode cX4_digestOn 8 = .ok (.getfield 15, 3) := by decide +kernel
theorem dX4_digestOn_11 : decode cX4_digestOn 11 = .ok (.if_icmp .ge 24, 3) := by decide +kernel
theorem dX4_digestOn_14 : decode cX4_digestOn 14 = .ok (.ldc2_w 31, 3) := by decide +kernel
theorem dX4_digestOn_17 : decode cX4_digestOn 17 = .ok (.lload_n 3, 1) := by decide +kernel
theorem dX4_digestOn_18 : decode cX4_digestOn 18 = .ok (.lmul, 1) := by decide +kernel
theorem dX4_digestOn_19 : decode cX4_digestOn 19 = .ok (.aload_n 0, 1) := by decide +kernel
theorem dX4_digestOn_20 : decode cX4_digestOn 20 = .ok (.getfield 9, 3) := by decide +kernel
theorem dX4_digestOn_23 : decode cX4_digestOn 23 = .ok (.iload 5, 2) := by decide +kernel
theorem dX4_digestOn_25 : decode cX4_digestOn 25 = .ok (.iaload, 1) := by decide +kernel
theorem dX4_digestOn_26 : decode cX4_digestOn 26 = .ok (.i2l, 1) := by decide +kernel
theorem dX4_digestOn_27 : decode cX4_digestOn 27 = .ok (.ladd, 1) := by decide +kernel
theorem dX4_digestOn_28 : decode cX4_digestOn 28 = .ok (.lstore_n 3, 1) := by decide +kernel
theorem dX4_digestOn_29 : decode cX4_digestOn 29 = .ok (.iinc 5 1, 3) := by decide +kernel
theorem dX4_digestOn_32 : decode cX4_digestOn 32 = .ok (.goto (-27), 3) := by decide +kernel
theorem dX4_digestOn_35 : decode cX4_digestOn 35 = .ok (.lload_n 3, 1) := by decide +kernel
theorem dX4_digestOn_36 : decode cX4_digestOn 36 = .ok (.lreturn, 1) := by decide +kernel
theorem dX5_init_0 : decode cX5_init 0 = .ok (.aload_n 0, 1) := by decide +kernel
theorem dX5_init_1 : decode cX5_init 1 = .ok (.invokespecial 3, 3) := by decide +kernel
theorem dX5_init_4 : decode cX5_init 4 = .ok (.aload_n 0, 1) := by decide +kernel
theorem dX5_init_5 : decode cX5_init 5 = .ok (.bipush 64, 2) := by decide +kernel
theorem dX5_init_7 : decode cX5_init 7 = .ok (.newarray .long, 2) := by decide +kernel
theorem dX5_init_9 : decode cX5_init 9 = .ok (.putfield 9, 3) := by decide +kernel
theorem dX5_init_12 : decode cX5_init 12 = .ok (.aload_n 0, 1) := by decide +kernel
theorem dX5_init_13 : decode cX5_init 13 = .ok (.iconst 0, 1) := by decide +kernel
theorem dX5_init_14 : decode cX5_init 14 = .ok (.putfield 15, 3) := by decide +kernel
theorem dX5_init_17 : decode cX5_init 17 = .ok (.return_, 1) := by decide +kernel
theorem dX5_becomeEmpty_0 : decode cX5_becomeEmpty 0 = .ok (.aload_n 0, 1) := by decide +kernel
theorem dX5_becomeEmpty_1 : decode cX5_becomeEmpty 1 = .ok (.getfield 9, 3) := by decide +kernel
theorem dX5_becomeEmpty_4 : decode cX5_becomeEmpty 4 = .ok (.lconst 0, 1) := by decide +kernel
theorem dX5_becomeEmpty_5 : decode cX5_becomeEmpty 5 = .ok (.invokestatic 19, 3) := by decide +kernel
theorem dX5_becomeEmpty_8 : decode cX5_becomeEmpty 8 = .ok (.aload_n 0, 1) := by decide +kernel
theorem dX5_becomeEmpty_9 : decode cX5_becomeEmpty 9 = .ok (.iconst 0, 1) := by decide +kernel
theorem dX5_becomeEmpty_10 : decode cX5_becomeEmpty 10 = .ok (.putfield 15, 3) := by decide +kernel
theorem dX5_becomeEmpty_13 : decode cX5_becomeEmpty 13 = .ok (.return_, 1) := by decide +kernel
theorem dX5_has_0 : decode cX5_has 0 = .ok (.iload_n 1, 1) := by decide +kernel
theorem dX5_has_1 : decode cX5_has 1 = .ok (.ifCond .lt 35, 3) := by decide +kernel
theorem dX5_has_4 : decode cX5_has 4 = .ok (.iload_n 1, 1) := by decide +kernel
theorem dX5_has_5 : decode cX5_has 5 = .ok (.sipush 4096, 3) := by decide +kernel
theorem dX5_has_8 : decode cX5_has 8 = .ok (.if_icmp .ge 28, 3) := by decide +kernel
theorem dX5_has_11 : decode cX5_has 11 = .ok (.aload_n 0, 1) := by decide +kernel
theorem dX5_has_12 : decode cX5_has 12 = .ok (.getfield 9, 3) := by decide +kernel
theorem dX5_has_15 : decode cX5_has 15 = .ok (.iload_n 1, 1) := by decide +kernel
theorem dX5_has_16 : decode cX5_has 16 = .ok (.bipush 6, 2) := by decide +kernel
theorem dX5_has_18 : decode cX5_has 18 = .ok (.ishr, 1) := by decide +kernel
theorem dX5_has_19 : decode cX5_has 19 = .ok (.laload, 1) := by decide +kernel
theorem dX5_has_20 : decode cX5_has 20 = .ok (.iload_n 1, 1) := by decide +kernel
theorem dX5_has_21 : decode cX5_has 21 = .ok (.bipush 63, 2) := by decide +kernel
theorem dX5_has_23 : decode cX5_has 23 = .ok (.iand, 1) := by decide +kernel
theorem dX5_has_24 : decode cX5_has 24 = .ok (.lushr, 1) := by decide +kernel
theorem dX5_has_25 : decode cX5_has 25 = .ok (.lconst 1, 1) := by decide +kernel
theorem dX5_has_26 : decode cX5_has 26 = .ok (.land, 1) := by decide +kernel
theorem dX5_has_27 : decode cX5_has 27 = .ok (.lconst 0, 1) := by decide +kernel
theorem dX5_has_28 : decode cX5_has 28 = .ok (.lcmp, 1) := by decide +kernel
theorem dX5_has_29 : decode cX5_has 29 = .ok (.ifCond .eq 7, 3) := by decide +kernel
theorem dX5_has_32 : decode cX5_has 32 = .ok (.iconst 1, 1) := by decide +kernel
theorem dX5_has_33 : decode cX5_has 33 = .ok (.goto 4, 3) := by decide +kernel
theorem dX5_has_36 : decode cX5_has 36 = .ok (.iconst 0, 1) := by decide +kernel
theorem dX5_has_37 : decode cX5_has 37 = .ok (.ireturn, 1) := by decide +kernel
theorem dX5_include_0 : decode cX5_include 0 = .ok (.iload_n 1, 1) := by decide +kernel
theorem dX5_include_1 : decode cX5_include 1 = .ok (.ifCond .lt 46, 3) := by decide +kernel
theorem dX5_include_4 : decode cX5_include 4 = .ok (.iload_n 1, 1) := by decide +kernel
theorem dX5_include_5 : decode cX5_include 5 = .ok (.sipush 4096, 3) := by decide +kernel
theorem dX5_include_8 : decode cX5_include 8 = .ok (.if_icmp .ge 39, 3) := by decide +kernel
theorem dX5_include_11 : decode cX5_include 11 = .ok (.aload_n 0, 1) := by decide +kernel
theorem dX5_include_12 : decode cX5_include 12 = .ok (.iload_n 1, 1) := by decide +kernel
theorem dX5_include_13 : decode cX5_include 13 = .ok (.invokevirtual 25, 3) := by decide +kernel
theorem dX5_include_16 : decode cX5_include 16 = .ok (.ifCond .ne 31, 3) := by decide +kernel
theorem dX5_include_19 : decode cX5_include 19 = .ok (.aload_n 0, 1) := by decide +kernel
theorem dX5_include_20 : decode cX5_include 20 = .ok (.getfield 9, 3) := by decide +kernel
theorem dX5_include_23 : decode cX5_include 23 = .ok (.iload_n 1, 1) := by decide +kernel
theorem dX5_include_24 : decode cX5_include 24 = .ok (.bipush 6, 2) := by decide +kernel
theorem dX5_include_26 : decode cX5_include 26 = .ok (.ishr, 1) := by decide +kernel
theorem dX5_include_27 : decode cX5_include 27 = .ok (.dup2, 1) := by decide +kernel
theorem dX5_include_28 : decode cX5_include 28 = .ok (.laload, 1) := by decide +kernel
theorem dX5_include_29 : decode cX5_include 29 = .ok (.lconst 1, 1) := by decide +kernel
theorem dX5_include_30 : decode cX5_include 30 = .ok (.iload_n 1, 1) := by decide +kernel
theorem dX5_include_31 : decode cX5_include 31 = .ok (.bipush 63, 2) := by decide +kernel
theorem dX5_include_33 : decode cX5_include 33 = .ok (.iand, 1) := by decide +kernel
theorem dX5_include_34 : decode cX5_include 34 = .ok (.lshl, 1) := by decide +kernel
theorem dX5_include_35 : decode cX5_include 35 = .ok (.lor, 1) := by decide +kernel
theorem dX5_include_36 : decode cX5_include 36 = .ok (.lastore, 1) := by decide +kernel
theorem dX5_include_37 : decode cX5_include 37 = .ok (.aload_n 0, 1) := by decide +kernel
theorem dX5_include_38 : decode cX5_include 38 = .ok (.dup, 1) := by decide +kernel
theorem dX5_include_39 : decode cX5_include 39 = .ok (.getfield 15, 3) := by decide +kernel
theorem dX5_include_42 : decode cX5_include 42 = .ok (.iconst 1, 1) := by decide +kernel
theorem dX5_include_43 : decode cX5_include 43 = .ok (.iadd, 1) := by decide +kernel
theorem dX5_include_44 : decode cX5_include 44 = .ok (.putfield 15, 3) := by decide +kernel
theorem dX5_include_47 : decode cX5_include 47 = .ok (.return_, 1) := by decide +kernel
theorem dX6_init_0 : decode cX6_init 0 = .ok (.aload_n 0, 1) := by decide +kernel
theorem dX6_init_1 : decode cX6_init 1 = .ok (.invokespecial 3, 3) := by decide +kernel
theorem dX6_init_4 : decode cX6_init 4 = .ok (.aload_n 0, 1) := by decide +kernel
theorem dX6_init_5 : decode cX6_init 5 = .ok (.iconst 4, 1) := by decide +kernel
theorem dX6_init_6 : decode cX6_init 6 = .ok (.anewarray 9, 3) := by decide +kernel
theorem dX6_init_9 : decode cX6_init 9 = .ok (.putfield 11, 3) := by decide +kernel
theorem dX6_init_12 : decode cX6_init 12 = .ok (.iconst 0, 1) := by decide +kernel
theorem dX6_init_13 : decode cX6_init 13 = .ok (.istore_n 1, 1) := by decide +kernel
theorem dX6_init_14 : decode cX6_init 14 = .ok (.iload_n 1, 1) := by decide +kernel
theorem dX6_init_15 : decode cX6_init 15 = .ok (.iconst 4, 1) := by decide +kernel
theorem dX6_init_16 : decode cX6_init 16 = .ok (.if_icmp .ge 22, 3) := by decide +kernel
theorem dX6_init_19 : decode cX6_init 19 = .ok (.aload_n 0, 1) := by decide +kernel
theorem dX6_init_20 : decode cX6_init 20 = .ok (.getfield 11, 3) := by decide +kernel
theorem dX6_init_23 : decode cX6_init 23 = .ok (.iload_n 1, 1) := by decide +kernel
theorem dX6_init_24 : decode cX6_init 24 = .ok (.new 9, 3) := by decide +kernel
theorem dX6_init_27 : decode cX6_init 27 = .ok (.dup, 1) := by decide +kernel
theorem dX6_init_28 : decode cX6_init 28 = .ok (.invokespecial 15, 3) := by decide +kernel
theorem dX6_init_31 : decode cX6_init 31 = .ok (.aastore, 1) := by decide +kernel
theorem dX6_init_32 : decode cX6_init 32 = .ok (.iinc 1 1, 3) := by decide +kernel
theorem dX6_init_35 : decode cX6_init 35 = .ok (.goto (-21), 3) := by decide +kernel
theorem dX6_init_38 : decode cX6_init 38 = .ok (.aload_n 0, 1) := by decide +kernel
theorem dX6_init_39 : decode cX6_init 39 = .ok (.iconst 2, 1) := by decide +kernel
theorem dX6_init_40 : decode cX6_init 40 = .ok (.anewarray 16, 3) := by decide +kernel
theorem dX6_init_43 : decode cX6_init 43 = .ok (.putfield 18, 3) := by decide +kernel
theorem dX6_init_46 : decode cX6_init 46 = .ok (.iconst 0, 1) := by decide +kernel
theorem dX6_init_47 : decode cX6_init 47 = .ok (.istore_n 1, 1) := by decide +kernel
theorem dX6_init_48 : decode cX6_init 48 = .ok (.iload_n 1, 1) := by decide +kernel
theorem dX6_init_49 : decode cX6_init 49 = .ok (.iconst 2, 1) := by decide +kernel
theorem dX6_init_50 : decode cX6_init 50 = .ok (.if_icmp .ge 22, 3) := by decide +kernel
theorem dX6_init_53 : decode cX6_init 53 = .ok (.aload_n 0, 1) := by decide +kernel
theorem dX6_init_54 : decode cX6_init 54 = .ok (.getfield 18, 3) := by decide +kernel
theorem dX6_init_57 : decode cX6_init 57 = .ok (.iload_n 1, 1) := by decide +kernel
theorem dX6_init_58 : decode cX6_init 58 = .ok (.new 16, 3) := by decide +kernel
theorem dX6_init_61 : decode cX6_init 61 = .ok (.dup, 1) := by decide +kernel
theorem dX6_init_62 : decode cX6_init 62 = .ok (.invokespecial 22, 3) := by decide +kernel
theorem dX6_init_65 : decode cX6_init 65 = .ok (.aastore, 1) := by decide +kernel
theorem dX6_init_66 : decode cX6_init 66 = .ok (.iinc 1 1, 3) := by decide +kernel
theorem dX6_init_69 : decode cX6_init 69 = .ok (.goto (-21), 3) := by decide +kernel
theorem dX6_init_72 : decode cX6_init 72 = .ok (.aload_n 0, 1) := by decide +kernel
theorem dX6_init_73 : decode cX6_init 73 = .ok (.new 23, 3) := by decide +kernel
theorem dX6_init_76 : decode cX6_init 76 = .ok (.dup, 1) := by decide +kernel
theorem dX6_init_77 : decode cX6_init 77 = .ok (.invokespecial 25, 3) := by decide +kernel
theorem dX6_init_80 : decode cX6_init 80 = .ok (.putfield 26, 3) := by decide +kernel
theorem dX6_init_83 : decode cX6_init 83 = .ok (.aload_n 0, 1) := by decide +kernel
theorem dX6_init_84 : decode cX6_init 84 = .ok (.new 30, 3) := by decide +kernel
theorem dX6_init_87 : decode cX6_init 87 = .ok (.dup, 1) := by decide +kernel
theorem dX6_init_88 : decode cX6_init 88 = .ok (.invokespecial 32, 3) := by decide +kernel
theorem dX6_init_91 : decode cX6_init 91 = .ok (.putfield 33, 3) := by decide +kernel
theorem dX6_init_94 : decode cX6_init 94 = .ok (.aload_n 0, 1) := by decide +kernel
theorem dX6_init_95 : decode cX6_init 95 = .ok (.new 37, 3) := by decide +kernel
theorem dX6_init_98 : decode cX6_init 98 = .ok (.dup, 1) := by decide +kernel
theorem dX6_init_99 : decode cX6_init 99 = .ok (.invokespecial 39, 3) := by decide +kernel
theorem dX6_init_102 : decode cX6_init 102 = .ok (.putfield 40, 3) := by decide +kernel
theorem dX6_init_105 : decode cX6_init 105 = .ok (.aload_n 0, 1) := by decide +kernel
theorem dX6_init_106 : decode cX6_init 106 = .ok (.iconst 5, 1) := by decide +kernel
theorem dX6_init_107 : decode cX6_init 107 = .ok (.newarray .int, 2) := by decide +kernel
theorem dX6_init_109 : decode cX6_init 109 = .ok (.putfield 44, 3) := by decide +kernel
theorem dX6_init_112 : decode cX6_init 112 = .ok (.aload_n 0, 1) := by decide +kernel
theorem dX6_init_113 : decode cX6_init 113 = .ok (.iconst 0, 1) := by decide +kernel
theorem dX6_init_114 : decode cX6_init 114 = .ok (.putfield 48, 3) := by decide +kernel
theorem dX6_init_117 : decode cX6_init 117 = .ok (.aload_n 0, 1) := by decide +kernel
theorem dX6_init_118 : decode cX6_init 118 = .ok (.iconst 0, 1) := by decide +kernel
theorem dX6_init_119 : decode cX6_init 119 = .ok (.putfield 52, 3) := by decide +kernel
theorem dX6_init_122 : decode cX6_init 122 = .ok (.return_, 1) := by decide +kernel
theorem dX6_row_0 : decode cX6_row 0 = .ok (.iload_n 1, 1) := by decide +kernel
theorem dX6_row_1 : decode cX6_row 1 = .ok (.invokestatic 55, 3) := by decide +kernel
theorem dX6_row_4 : decode cX6_row 4 = .ok (.ifCond .ne 9, 3) := by decide +kernel
theorem dX6_row_7 : decode cX6_row 7 = .ok (.iload_n 2, 1) := by decide +kernel
theorem dX6_row_8 : decode cX6_row 8 = .ok (.bipush 48, 2) := by decide +kernel
theorem dX6_row_10 : decode cX6_row 10 = .ok (.if_icmp .le 5, 3) := by decide +kernel
theorem dX6_row_13 : decode cX6_row 13 = .ok (.iconst (-1), 1) := by decide +kernel
theorem dX6_row_14 : decode cX6_row 14 = .ok (.ireturn, 1) := by decide +kernel
theorem dX6_row_15 : decode cX6_row 15 = .ok (.iload_n 2, 1) := by decide +kernel
theorem dX6_row_16 : decode cX6_row 16 = .ok (.ifCond .ge 9, 3) := by decide +kernel
theorem dX6_row_19 : decode cX6_row 19 = .ok (.aload_n 0, 1) := by decide +kernel
theorem dX6_row_20 : decode cX6_row 20 = .ok (.iconst 3, 1) := by decide +kernel
theorem dX6_row_21 : decode cX6_row 21 = .ok (.invokevirtual 59, 3) := by decide +kernel
theorem dX6_row_24 : decode cX6_row 24 = .ok (.ireturn, 1) := by decide +kernel
theorem dX6_row_25 : decode cX6_row 25 = .ok (.aload_n 0, 1) := by decide +kernel
theorem dX6_row_26 : decode cX6_row 26 = .ok (.getfield 11, 3) := by decide +kernel
theorem dX6_row_29 : decode cX6_row 29 = .ok (.iload_n 1, 1) := by decide +kernel
theorem dX6_row_30 : decode cX6_row 30 = .ok (.aaload, 1) := by decide +kernel
theorem dX6_row_31 : decode cX6_row 31 = .ok (.iload_n 2, 1) := by decide +kernel
theorem dX6_row_32 : decode cX6_row 32 = .ok (.invokevirtual 63, 3) := by decide +kernel
theorem dX6_row_35 : decode cX6_row 35 = .ok (.iload_n 2, 1) := by decide +kernel
theorem dX6_row_36 : decode cX6_row 36 = .ok (.ireturn, 1) := by decide +kernel
theorem dX6_lay_0 : decode cX6_lay 0 = .ok (.aload_n 0, 1) := by decide +kernel
theorem dX6_lay_1 : decode cX6_lay 1 = .ok (.iload_n 1, 1) := by decide +kernel
theorem dX6_lay_2 : decode cX6_lay 2 = .ok (.iload_n 2, 1) := by decide +kernel
theorem dX6_lay_3 : decode cX6_lay 3 = .ok (.invokevirtual 67, 3) := by decide +kernel
theorem dX6_lay_6 : decode cX6_lay 6 = .ok (.istore 4, 2) := by decide +kernel
theorem dX6_lay_8 : decode cX6_lay 8 = .ok (.iload 4, 2) := by decide +kernel
theorem dX6_lay_10 : decode cX6_lay 10 = .ok (.ifCond .eq 6, 3) := by decide +kernel
theorem dX6_lay_13 : decode cX6_lay 13 = .ok (.iload 4, 2) := by decide +kernel
theorem dX6_lay_15 : decode cX6_lay 15 = .ok (.ireturn, 1) := by decide +kernel
theorem dX6_lay_16 : decode cX6_lay 16 = .ok (.aload_n 0, 1) := by decide +kernel
theorem dX6_lay_17 : decode cX6_lay 17 = .ok (.aload_n 0, 1) := by decide +kernel
theorem dX6_lay_18 : decode cX6_lay 18 = .ok (.getfield 11, 3) := by decide +kernel
theorem dX6_lay_21 : decode cX6_lay 21 = .ok (.iload_n 1, 1) := by decide +kernel
theorem dX6_lay_22 : decode cX6_lay 22 = .ok (.aaload, 1) := by decide +kernel
theorem dX6_lay_23 : decode cX6_lay 23 = .ok (.getfield 71, 3) := by decide +kernel
theorem dX6_lay_26 : decode cX6_lay 26 = .ok (.iload_n 2, 1) := by decide +kernel
theorem dX6_lay_27 : decode cX6_lay 27 = .ok (.iaload, 1) := by decide +kernel
theorem dX6_lay_28 : decode cX6_lay 28 = .ok (.putfield 52, 3) := by decide +kernel
theorem dX6_lay_31 : decode cX6_lay 31 = .ok (.aload_n 0, 1) := by decide +kernel
theorem dX6_lay_32 : decode cX6_lay 32 = .ok (.getfield 11, 3) := by decide +kernel
theorem dX6_lay_35 : decode cX6_lay 35 = .ok (.iload_n 1, 1) := by decide +kernel
theorem dX6_lay_36 : decode cX6_lay 36 = .ok (.aaload, 1) := by decide +kernel
theorem dX6_lay_37 : decode cX6_lay 37 = .ok (.getfield 71, 3) := by decide +kernel
theorem dX6_lay_40 : decode cX6_lay 40 = .ok (.iload_n 2, 1) := by decide +kernel
theorem dX6_lay_41 : decode cX6_lay 41 = .ok (.iload_n 3, 1) := by decide +kernel
theorem dX6_lay_42 : decode cX6_lay 42 = .ok (.iastore, 1) := by decide +kernel
theorem dX6_lay_43 : decode cX6_lay 43 = .ok (.iconst 1, 1) := by decide +kernel
theorem dX6_lay_44 : decode cX6_lay 44 = .ok (.ireturn, 1) := by decide +kernel
theorem dX6_at_0 : decode cX6_at 0 = .ok (.aload_n 0, 1) := by decide +kernel
theorem dX6_at_1 : decode cX6_at 1 = .ok (.iload_n 1, 1) := by decide +kernel
theorem dX6_at_2 : decode cX6_at 2 = .ok (.iload_n 2, 1) := by decide +kernel
theorem dX6_at_3 : decode cX6_at 3 = .ok (.invokevirtual 67, 3) := by decide +kernel
theorem dX6_at_6 : decode cX6_at 6 = .ok (.istore_n 3, 1) := by decide +kernel
theorem dX6_at_7 : decode cX6_at 7 = .ok (.iload_n 3, 1) := by decide +kernel
theorem dX6_at_8 : decode cX6_at 8 = .ok (.ifCond .eq 5, 3) := by decide +kernel
theorem dX6_at_11 : decode cX6_at 11 = .ok (.iload_n 3, 1) := by decide +kernel
theorem dX6_at_12 : decode cX6_at 12 = .ok (.ireturn, 1) := by decide +kernel
theorem dX6_at_13 : decode cX6_at 13 = .ok (.aload_n 0, 1) := by decide +kernel
theorem dX6_at_14 : decode cX6_at 14 = .ok (.aload_n 0, 1) := by decide +kernel
theorem dX6_at_15 : decode cX6_at 15 = .ok (.getfield 11, 3) := by decide +kernel
theorem dX6_at_18 : decode cX6_at 18 = .ok (.iload_n 1, 1) := by decide +kernel
theorem dX6_at_19 : decode cX6_at 19 = .ok (.aaload, 1) := by decide +kernel
theorem dX6_at_20 : decode cX6_at 20 = .ok (.getfield 71, 3) := by decide +kernel
theorem dX6_at_23 : decode cX6_at 23 = .ok (.iload_n 2, 1) := by decide +kernel
theorem dX6_at_24 : decode cX6_at 24 = .ok (.iaload, 1) := by decide +kernel
theorem dX6_at_25 : decode cX6_at 25 = .ok (.putfield 52, 3) := by decide +kernel
theorem dX6_at_28 : decode cX6_at 28 = .ok (.iconst 1, 1) := by decide +kernel
theorem dX6_at_29 : decode cX6_at 29 = .ok (.ireturn, 1) := by decide +kernel
theorem dX6_tear_0 : decode cX6_tear 0 = .ok (.iload_n 1, 1) := by decide +kernel
theorem dX6_tear_1 : decode cX6_tear 1 = .ok (.invokestatic 55, 3) := by decide +kernel
theorem dX6_tear_4 : decode cX6_tear 4 = .ok (.ifCond .eq 5, 3) := by decide +kernel
theorem dX6_tear_7 : decode cX6_tear 7 = .ok (.iconst (-1), 1) := by decide +kernel
theorem dX6_tear_8 : decode cX6_tear 8 = .ok (.ireturn, 1) := by decide +kernel
theorem dX6_tear_9 : decode cX6_tear 9 = .ok (.aload_n 0, 1) := by decide +kernel
theorem dX6_tear_10 : decode cX6_tear 10 = .ok (.getfield 11, 3) := by decide +kernel
theorem dX6_tear_13 : decode cX6_tear 13 = .ok (.iload_n 1, 1) := by decide +kernel
theorem dX6_tear_14 : decode cX6_tear 14 = .ok (.aaload, 1) := by decide +kernel
theorem dX6_tear_15 : decode cX6_tear 15 = .ok (.invokevirtual 74, 3) := by decide +kernel
theorem dX6_tear_18 : decode cX6_tear 18 = .ok (.ifCond .eq 9, 3) := by decide +kernel
theorem dX6_tear_21 : decode cX6_tear 21 = .ok (.aload_n 0, 1) := by decide +kernel
theorem dX6_tear_22 : decode cX6_tear 22 = .ok (.iconst 1, 1) := by decide +kernel
theorem dX6_tear_23 : decode cX6_tear 23 = .ok (.invokevirtual 59, 3) := by decide +kernel
theorem dX6_tear_26 : decode cX6_tear 26 = .ok (.ireturn, 1) := by decide +kernel
theorem dX6_tear_27 : decode cX6_tear 27 = .ok (.aload_n 0, 1) := by decide +kernel
theorem dX6_tear_28 : decode cX6_tear 28 = .ok (.getfield 11, 3) := by decide +kernel
theorem dX6_tear_31 : decode cX6_tear 31 = .ok (.iload_n 1, 1) := by decide +kernel
theorem dX6_tear_32 : decode cX6_tear 32 = .ok (.aaload, 1) := by decide +kernel
theorem dX6_tear_33 : decode cX6_tear 33 = .ok (.getfield 78, 3) := by decide +kernel
theorem dX6_tear_36 : decode cX6_tear 36 = .ok (.istore_n 2, 1) := by decide +kernel
theorem dX6_tear_37 : decode cX6_tear 37 = .ok (.aload_n 0, 1) := by decide +kernel
theorem dX6_tear_38 : decode cX6_tear 38 = .ok (.getfield 11, 3) := by decide +kernel
theorem dX6_tear_41 : decode cX6_tear 41 = .ok (.iload_n 1, 1) := by decide +kernel
theorem dX6_tear_42 : decode cX6_tear 42 = .ok (.aaload, 1) := by decide +kernel
theorem dX6_tear_43 : decode cX6_tear 43 = .ok (.iconst (-1), 1) := by decide +kernel
theorem dX6_tear_44 : decode cX6_tear 44 = .ok (.putfield 78, 3) := by decide +kernel
theorem dX6_tear_47 : decode cX6_tear 47 = .ok (.iload_n 2, 1) := by decide +kernel
theorem dX6_tear_48 : decode cX6_tear 48 = .ok (.ireturn, 1) := by decide +kernel
theorem dX6_copy_0 : decode cX6_copy 0 = .ok (.iload_n 1, 1) := by decide +kernel
theorem dX6_copy_1 : decode cX6_copy 1 = .ok (.invokestatic 55, 3) := by decide +kernel
theorem dX6_copy_4 : decode cX6_copy 4 = .ok (.ifCond .ne 10, 3) := by decide +kernel
theorem dX6_copy_7 : decode cX6_copy 7 = .ok (.iload_n 3, 1) := by decide +kernel
theorem dX6_copy_8 : decode cX6_copy 8 = .ok (.invokestatic 55, 3) := by decide +kernel
theorem dX6_copy_11 : decode cX6_copy 11 = .ok (.ifCond .eq 5, 3) := by decide +kernel
theorem dX6_copy_14 : decode cX6_copy 14 = .ok (.iconst (-1), 1) := by decide +kernel
theorem dX6_copy_15 : decode cX6_copy 15 = .ok (.ireturn, 1) := by decide +kernel
theorem dX6_copy_16 : decode cX6_copy 16 = .ok (.aload_n 0, 1) := by decide +kernel
theorem dX6_copy_17 : decode cX6_copy 17 = .ok (.getfield 11, 3) := by decide +kernel
theorem dX6_copy_20 : decode cX6_copy 20 = .ok (.iload_n 1, 1) := by decide +kernel
theorem dX6_copy_21 : decode cX6_copy 21 = .ok (.aaload, 1) := by decide +kernel
theorem dX6_copy_22 : decode cX6_copy 22 = .ok (.invokevirtual 74, 3) := by decide +kernel
theorem dX6_copy_25 : decode cX6_copy 25 = .ok (.ifCond .ne 15, 3) := by decide +kernel
theorem dX6_copy_28 : decode cX6_copy 28 = .ok (.aload_n 0, 1) := by decide +kernel
theorem dX6_copy_29 : decode cX6_copy 29 = .ok (.getfield 11, 3) := by decide +kernel
theorem dX6_copy_32 : decode cX6_copy 32 = .ok (.iload_n 3, 1) := by decide +kernel
theorem dX6_copy_33 : decode cX6_copy 33 = .ok (.aaload, 1) := by decide +kernel
theorem dX6_copy_34 : decode cX6_copy 34 = .ok (.invokevirtual 74, 3) := by decide +kernel
theorem dX6_copy_37 : decode cX6_copy 37 = .ok (.ifCond .eq 9, 3) := by decide +kernel
theorem dX6_copy_40 : decode cX6_copy 40 = .ok (.aload_n 0, 1) := by decide +kernel
theorem dX6_copy_41 : decode cX6_copy 41 = .ok (.iconst 1, 1) := by decide +kernel
theorem dX6_copy_42 : decode cX6_copy 42 = .ok (.invokevirtual 59, 3) := by decide +kernel
theorem dX6_copy_45 : decode cX6_copy 45 = .ok (.ireturn, 1) := by decide +kernel
theorem dX6_copy_46 : decode cX6_copy 46 = .ok (.aload_n 0, 1) := by decide +kernel
theorem dX6_copy_47 : decode cX6_copy 47 = .ok (.getfield 11, 3) := by decide +kernel
theorem dX6_copy_50 : decode cX6_copy 50 = .ok (.iload_n 1, 1) := by decide +kernel
theorem dX6_copy_51 : decode cX6_copy 51 = .ok (.aaload, 1) := by decide +kernel
theorem dX6_copy_52 : decode cX6_copy 52 = .ok (.iload_n 2, 1) := by decide +kernel
theorem dX6_copy_53 : decode cX6_copy 53 = .ok (.iload 5, 2) := by decide +kernel
theorem dX6_copy_55 : decode cX6_copy 55 = .ok (.invokevirtual 81, 3) := by decide +kernel
theorem dX6_copy_58 : decode cX6_copy 58 = .ok (.ifCond .ne 19, 3) := by decide +kernel
theorem dX6_copy_61 : decode cX6_copy 61 = .ok (.aload_n 0, 1) := by decide +kernel
theorem dX6_copy_62 : decode cX6_copy 62 = .ok (.getfield 11, 3) := by decide +kernel
theorem dX6_copy_65 : decode cX6_copy 65 = .ok (.iload_n 3, 1) := by decide +kernel
theorem dX6_copy_66 : decode cX6_copy 66 = .ok (.aaload, 1) := by decide +kernel
theorem dX6_copy_67 : decode cX6_copy 67 = .ok (.iload 4, 2) := by decide +kernel
theorem dX6_copy_69 : decode cX6_copy 69 = .ok (.iload 5, 2) := by decide +kernel
theorem dX6_copy_71 : decode cX6_copy 71 = .ok (.invokevirtual 81, 3) := by decide +kernel
theorem dX6_copy_74 : decode cX6_copy 74 = .ok (.ifCond .eq 9, 3) := by decide +kernel
theorem dX6_copy_77 : decode cX6_copy 77 = .ok (.aload_n 0, 1) := by decide +kernel
theorem dX6_copy_78 : decode cX6_copy 78 = .ok (.iconst 2, 1) := by decide +kernel
theorem dX6_copy_79 : decode cX6_copy 79 = .ok (.invokevirtual 59, 3) := by decide +kernel
theorem dX6_copy_82 : decode cX6_copy 82 = .ok (.ireturn, 1) := by decide +kernel
theorem dX6_copy_83 : decode cX6_copy 83 = .ok (.aload_n 0, 1) := by decide +kernel
theorem dX6_copy_84 : decode cX6_copy 84 = .ok (.getfield 11, 3) := by decide +kernel
theorem dX6_copy_87 : decode cX6_copy 87 = .ok (.iload_n 1, 1) := by decide +kernel
theorem dX6_copy_88 : decode cX6_copy 88 = .ok (.aaload, 1) := by decide +kernel
theorem dX6_copy_89 : decode cX6_copy 89 = .ok (.getfield 71, 3) := by decide +kernel
theorem dX6_copy_92 : decode cX6_copy 92 = .ok (.iload_n 2, 1) := by decide +kernel
theorem dX6_copy_93 : decode cX6_copy 93 = .ok (.aload_n 0, 1) := by decide +kernel
theorem dX6_copy_94 : decode cX6_copy 94 = .ok (.getfield 11, 3) := by decide +kernel
theorem dX6_copy_97 : decode cX6_copy 97 = .ok (.iload_n 3, 1) := by decide +kernel
theorem dX6_copy_98 : decode cX6_copy 98 = .ok (.aaload, 1) := by decide +kernel
theorem dX6_copy_99 : decode cX6_copy 99 = .ok (.getfield 71, 3) := by decide +kernel
theorem dX6_copy_102 : decode cX6_copy 102 = .ok (.iload 4, 2) := by decide +kernel
theorem dX6_copy_104 : decode cX6_copy 104 = .ok (.iload 5, 2) := by decide +kernel
theorem dX6_copy_106 : decode cX6_copy 106 = .ok (.invokestatic 85, 3) := by decide +kernel
theorem dX6_copy_109 : decode cX6_copy 109 = .ok (.iload 5, 2) := by decide +kernel
theorem dX6_copy_111 : decode cX6_copy 111 = .ok (.ireturn, 1) := by decide +kernel
theorem dX6_build_0 : decode cX6_build 0 = .ok (.iload_n 1, 1) := by decide +kernel
theorem dX6_build_1 : decode cX6_build 1 = .ok (.invokestatic 55, 3) := by decide +kernel
theorem dX6_build_4 : decode cX6_build 4 = .ok (.ifCond .ne 14, 3) := by decide +kernel
theorem dX6_build_7 : decode cX6_build 7 = .ok (.iload_n 2, 1) := by decide +kernel
theorem dX6_build_8 : decode cX6_build 8 = .ok (.iconst 1, 1) := by decide +kernel
theorem dX6_build_9 : decode cX6_build 9 = .ok (.if_icmp .lt 9, 3) := by decide +kernel
theorem dX6_build_12 : decode cX6_build 12 = .ok (.iload_n 2, 1) := by decide +kernel
theorem dX6_build_13 : decode cX6_build 13 = .ok (.bipush 6, 2) := by decide +kernel
theorem dX6_build_15 : decode cX6_build 15 = .ok (.if_icmp .le 5, 3) := by decide +kernel
theorem dX6_build_18 : decode cX6_build 18 = .ok (.iconst (-1), 1) := by decide +kernel
theorem dX6_build_19 : decode cX6_build 19 = .ok (.ireturn, 1) := by decide +kernel
theorem dX6_build_20 : decode cX6_build 20 = .ok (.aload_n 0, 1) := by decide +kernel
theorem dX6_build_21 : decode cX6_build 21 = .ok (.getfield 11, 3) := by decide +kernel
theorem dX6_build_24 : decode cX6_build 24 = .ok (.iload_n 1, 1) := by decide +kernel
theorem dX6_build_25 : decode cX6_build 25 = .ok (.aaload, 1) := by decide +kernel
theorem dX6_build_26 : decode cX6_build 26 = .ok (.invokevirtual 74, 3) := by decide +kernel
theorem dX6_build_29 : decode cX6_build 29 = .ok (.ifCond .eq 9, 3) := by decide +kernel
theorem dX6_build_32 : decode cX6_build 32 = .ok (.aload_n 0, 1) := by decide +kernel
theorem dX6_build_33 : decode cX6_build 33 = .ok (.iconst 1, 1) := by decide +kernel
theorem dX6_build_34 : decode cX6_build 34 = .ok (.invokevirtual 59, 3) := by decide +kernel
theorem dX6_build_37 : decode cX6_build 37 = .ok (.ireturn, 1) := by decide +kernel
theorem dX6_build_38 : decode cX6_build 38 = .ok (.aload_n 0, 1) := by decide +kernel
theorem dX6_build_39 : decode cX6_build 39 = .ok (.getfield 11, 3) := by decide +kernel
theorem dX6_build_42 : decode cX6_build 42 = .ok (.iload_n 1, 1) := by decide +kernel
theorem dX6_build_43 : decode cX6_build 43 = .ok (.aaload, 1) := by decide +kernel
theorem dX6_build_44 : decode cX6_build 44 = .ok (.getfield 78, 3) := by decide +kernel
theorem dX6_build_47 : decode cX6_build 47 = .ok (.ifCond .ne 9, 3) := by decide +kernel
theorem dX6_build_50 : decode cX6_build 50 = .ok (.aload_n 0, 1) := by decide +kernel
theorem dX6_build_51 : decode cX6_build 51 = .ok (.iconst 3, 1) := by decide +kernel
theorem dX6_build_52 : decode cX6_build 52 = .ok (.invokevirtual 59, 3) := by decide +kernel
theorem dX6_build_55 : decode cX6_build 55 = .ok (.ireturn, 1) := by decide +kernel
theorem dX6_build_56 : decode cX6_build 56 = .ok (.aload_n 0, 1) := by decide +kernel
theorem dX6_build_57 : decode cX6_build 57 = .ok (.getfield 26, 3) := by decide +kernel
theorem dX6_build_60 : decode cX6_build 60 = .ok (.aload_n 0, 1) := by decide +kernel
