theorem dX6_build_61 : decode cX6_build 61 = .ok (.getfield 11, 3) := by decide +kernel
theorem dX6_build_64 : decode cX6_build 64 = .ok (.iload_n 1, 1) := by decide +kernel
theorem dX6_build_65 : decode cX6_build 65 = .ok (.aaload, 1) := by decide +kernel
theorem dX6_build_66 : decode cX6_build 66 = .ok (.iload_n 2, 1) := by decide +kernel
theorem dX6_build_67 : decode cX6_build 67 = .ok (.invokevirtual 91, 3) := by decide +kernel
theorem dX6_build_70 : decode cX6_build 70 = .ok (.aload_n 0, 1) := by decide +kernel
theorem dX6_build_71 : decode cX6_build 71 = .ok (.getfield 33, 3) := by decide +kernel
theorem dX6_build_74 : decode cX6_build 74 = .ok (.invokevirtual 95, 3) := by decide +kernel
theorem dX6_build_77 : decode cX6_build 77 = .ok (.aload_n 0, 1) := by decide +kernel
theorem dX6_build_78 : decode cX6_build 78 = .ok (.getfield 26, 3) := by decide +kernel
theorem dX6_build_81 : decode cX6_build 81 = .ok (.getfield 98, 3) := by decide +kernel
theorem dX6_build_84 : decode cX6_build 84 = .ok (.ireturn, 1) := by decide +kernel
theorem dX6_put_0 : decode cX6_put 0 = .ok (.aload_n 0, 1) := by decide +kernel
theorem dX6_put_1 : decode cX6_put 1 = .ok (.iload_n 1, 1) := by decide +kernel
theorem dX6_put_2 : decode cX6_put 2 = .ok (.invokevirtual 101, 3) := by decide +kernel
theorem dX6_put_5 : decode cX6_put 5 = .ok (.istore_n 3, 1) := by decide +kernel
theorem dX6_put_6 : decode cX6_put 6 = .ok (.iload_n 3, 1) := by decide +kernel
theorem dX6_put_7 : decode cX6_put 7 = .ok (.ifCond .eq 5, 3) := by decide +kernel
theorem dX6_put_10 : decode cX6_put 10 = .ok (.iload_n 3, 1) := by decide +kernel
theorem dX6_put_11 : decode cX6_put 11 = .ok (.ireturn, 1) := by decide +kernel
theorem dX6_put_12 : decode cX6_put 12 = .ok (.aload_n 0, 1) := by decide +kernel
theorem dX6_put_13 : decode cX6_put 13 = .ok (.aload_n 0, 1) := by decide +kernel
theorem dX6_put_14 : decode cX6_put 14 = .ok (.getfield 26, 3) := by decide +kernel
theorem dX6_put_17 : decode cX6_put 17 = .ok (.getfield 104, 3) := by decide +kernel
theorem dX6_put_20 : decode cX6_put 20 = .ok (.getfield 71, 3) := by decide +kernel
theorem dX6_put_23 : decode cX6_put 23 = .ok (.iload_n 1, 1) := by decide +kernel
theorem dX6_put_24 : decode cX6_put 24 = .ok (.iaload, 1) := by decide +kernel
theorem dX6_put_25 : decode cX6_put 25 = .ok (.putfield 52, 3) := by decide +kernel
theorem dX6_put_28 : decode cX6_put 28 = .ok (.aload_n 0, 1) := by decide +kernel
theorem dX6_put_29 : decode cX6_put 29 = .ok (.getfield 33, 3) := by decide +kernel
theorem dX6_put_32 : decode cX6_put 32 = .ok (.iload_n 1, 1) := by decide +kernel
theorem dX6_put_33 : decode cX6_put 33 = .ok (.aload_n 0, 1) := by decide +kernel
theorem dX6_put_34 : decode cX6_put 34 = .ok (.getfield 52, 3) := by decide +kernel
theorem dX6_put_37 : decode cX6_put 37 = .ok (.invokevirtual 108, 3) := by decide +kernel
theorem dX6_put_40 : decode cX6_put 40 = .ok (.aload_n 0, 1) := by decide +kernel
theorem dX6_put_41 : decode cX6_put 41 = .ok (.getfield 26, 3) := by decide +kernel
theorem dX6_put_44 : decode cX6_put 44 = .ok (.iload_n 1, 1) := by decide +kernel
theorem dX6_put_45 : decode cX6_put 45 = .ok (.iload_n 2, 1) := by decide +kernel
theorem dX6_put_46 : decode cX6_put 46 = .ok (.invokevirtual 112, 3) := by decide +kernel
theorem dX6_put_49 : decode cX6_put 49 = .ok (.ifCond .eq 7, 3) := by decide +kernel
theorem dX6_put_52 : decode cX6_put 52 = .ok (.iconst 1, 1) := by decide +kernel
theorem dX6_put_53 : decode cX6_put 53 = .ok (.goto 4, 3) := by decide +kernel
theorem dX6_put_56 : decode cX6_put 56 = .ok (.iconst 0, 1) := by decide +kernel
theorem dX6_put_57 : decode cX6_put 57 = .ok (.ireturn, 1) := by decide +kernel
theorem dX6_undo_0 : decode cX6_undo 0 = .ok (.aload_n 0, 1) := by decide +kernel
theorem dX6_undo_1 : decode cX6_undo 1 = .ok (.getfield 33, 3) := by decide +kernel
theorem dX6_undo_4 : decode cX6_undo 4 = .ok (.getfield 115, 3) := by decide +kernel
theorem dX6_undo_7 : decode cX6_undo 7 = .ok (.iconst 1, 1) := by decide +kernel
theorem dX6_undo_8 : decode cX6_undo 8 = .ok (.if_icmp .ge 6, 3) := by decide +kernel
theorem dX6_undo_11 : decode cX6_undo 11 = .ok (.bipush (-2), 2) := by decide +kernel
theorem dX6_undo_13 : decode cX6_undo 13 = .ok (.ireturn, 1) := by decide +kernel
theorem dX6_undo_14 : decode cX6_undo 14 = .ok (.aload_n 0, 1) := by decide +kernel
theorem dX6_undo_15 : decode cX6_undo 15 = .ok (.getfield 33, 3) := by decide +kernel
theorem dX6_undo_18 : decode cX6_undo 18 = .ok (.getfield 115, 3) := by decide +kernel
theorem dX6_undo_21 : decode cX6_undo 21 = .ok (.iconst 1, 1) := by decide +kernel
theorem dX6_undo_22 : decode cX6_undo 22 = .ok (.isub, 1) := by decide +kernel
theorem dX6_undo_23 : decode cX6_undo 23 = .ok (.istore_n 1, 1) := by decide +kernel
theorem dX6_undo_24 : decode cX6_undo 24 = .ok (.aload_n 0, 1) := by decide +kernel
theorem dX6_undo_25 : decode cX6_undo 25 = .ok (.getfield 26, 3) := by decide +kernel
theorem dX6_undo_28 : decode cX6_undo 28 = .ok (.aload_n 0, 1) := by decide +kernel
theorem dX6_undo_29 : decode cX6_undo 29 = .ok (.getfield 33, 3) := by decide +kernel
theorem dX6_undo_32 : decode cX6_undo 32 = .ok (.getfield 116, 3) := by decide +kernel
theorem dX6_undo_35 : decode cX6_undo 35 = .ok (.iload_n 1, 1) := by decide +kernel
theorem dX6_undo_36 : decode cX6_undo 36 = .ok (.iaload, 1) := by decide +kernel
theorem dX6_undo_37 : decode cX6_undo 37 = .ok (.aload_n 0, 1) := by decide +kernel
theorem dX6_undo_38 : decode cX6_undo 38 = .ok (.getfield 33, 3) := by decide +kernel
theorem dX6_undo_41 : decode cX6_undo 41 = .ok (.getfield 119, 3) := by decide +kernel
theorem dX6_undo_44 : decode cX6_undo 44 = .ok (.iload_n 1, 1) := by decide +kernel
theorem dX6_undo_45 : decode cX6_undo 45 = .ok (.iaload, 1) := by decide +kernel
theorem dX6_undo_46 : decode cX6_undo 46 = .ok (.invokevirtual 112, 3) := by decide +kernel
theorem dX6_undo_49 : decode cX6_undo 49 = .ok (.pop, 1) := by decide +kernel
theorem dX6_undo_50 : decode cX6_undo 50 = .ok (.aload_n 0, 1) := by decide +kernel
theorem dX6_undo_51 : decode cX6_undo 51 = .ok (.getfield 33, 3) := by decide +kernel
theorem dX6_undo_54 : decode cX6_undo 54 = .ok (.iload_n 1, 1) := by decide +kernel
theorem dX6_undo_55 : decode cX6_undo 55 = .ok (.putfield 115, 3) := by decide +kernel
theorem dX6_undo_58 : decode cX6_undo 58 = .ok (.iload_n 1, 1) := by decide +kernel
theorem dX6_undo_59 : decode cX6_undo 59 = .ok (.ireturn, 1) := by decide +kernel
theorem dX6_keep_0 : decode cX6_keep 0 = .ok (.iload_n 1, 1) := by decide +kernel
theorem dX6_keep_1 : decode cX6_keep 1 = .ok (.invokestatic 122, 3) := by decide +kernel
theorem dX6_keep_4 : decode cX6_keep 4 = .ok (.ifCond .eq 5, 3) := by decide +kernel
theorem dX6_keep_7 : decode cX6_keep 7 = .ok (.iconst (-1), 1) := by decide +kernel
theorem dX6_keep_8 : decode cX6_keep 8 = .ok (.ireturn, 1) := by decide +kernel
theorem dX6_keep_9 : decode cX6_keep 9 = .ok (.aload_n 0, 1) := by decide +kernel
theorem dX6_keep_10 : decode cX6_keep 10 = .ok (.getfield 26, 3) := by decide +kernel
theorem dX6_keep_13 : decode cX6_keep 13 = .ok (.invokevirtual 125, 3) := by decide +kernel
theorem dX6_keep_16 : decode cX6_keep 16 = .ok (.ifCond .eq 6, 3) := by decide +kernel
theorem dX6_keep_19 : decode cX6_keep 19 = .ok (.bipush (-2), 2) := by decide +kernel
theorem dX6_keep_21 : decode cX6_keep 21 = .ok (.ireturn, 1) := by decide +kernel
theorem dX6_keep_22 : decode cX6_keep 22 = .ok (.aload_n 0, 1) := by decide +kernel
theorem dX6_keep_23 : decode cX6_keep 23 = .ok (.getfield 18, 3) := by decide +kernel
theorem dX6_keep_26 : decode cX6_keep 26 = .ok (.iload_n 1, 1) := by decide +kernel
theorem dX6_keep_27 : decode cX6_keep 27 = .ok (.aaload, 1) := by decide +kernel
theorem dX6_keep_28 : decode cX6_keep 28 = .ok (.getfield 128, 3) := by decide +kernel
theorem dX6_keep_31 : decode cX6_keep 31 = .ok (.aload_n 0, 1) := by decide +kernel
theorem dX6_keep_32 : decode cX6_keep 32 = .ok (.getfield 26, 3) := by decide +kernel
theorem dX6_keep_35 : decode cX6_keep 35 = .ok (.getfield 104, 3) := by decide +kernel
theorem dX6_keep_38 : decode cX6_keep 38 = .ok (.invokevirtual 129, 3) := by decide +kernel
theorem dX6_keep_41 : decode cX6_keep 41 = .ok (.aload_n 0, 1) := by decide +kernel
theorem dX6_keep_42 : decode cX6_keep 42 = .ok (.getfield 18, 3) := by decide +kernel
theorem dX6_keep_45 : decode cX6_keep 45 = .ok (.iload_n 1, 1) := by decide +kernel
theorem dX6_keep_46 : decode cX6_keep 46 = .ok (.aaload, 1) := by decide +kernel
theorem dX6_keep_47 : decode cX6_keep 47 = .ok (.aload_n 0, 1) := by decide +kernel
theorem dX6_keep_48 : decode cX6_keep 48 = .ok (.getfield 26, 3) := by decide +kernel
theorem dX6_keep_51 : decode cX6_keep 51 = .ok (.getfield 133, 3) := by decide +kernel
theorem dX6_keep_54 : decode cX6_keep 54 = .ok (.putfield 136, 3) := by decide +kernel
theorem dX6_keep_57 : decode cX6_keep 57 = .ok (.aload_n 0, 1) := by decide +kernel
theorem dX6_keep_58 : decode cX6_keep 58 = .ok (.getfield 26, 3) := by decide +kernel
theorem dX6_keep_61 : decode cX6_keep 61 = .ok (.getfield 104, 3) := by decide +kernel
theorem dX6_keep_64 : decode cX6_keep 64 = .ok (.getfield 78, 3) := by decide +kernel
theorem dX6_keep_67 : decode cX6_keep 67 = .ok (.ireturn, 1) := by decide +kernel
theorem dX6_on_0 : decode cX6_on 0 = .ok (.iload_n 1, 1) := by decide +kernel
theorem dX6_on_1 : decode cX6_on 1 = .ok (.invokestatic 122, 3) := by decide +kernel
theorem dX6_on_4 : decode cX6_on 4 = .ok (.ifCond .eq 5, 3) := by decide +kernel
theorem dX6_on_7 : decode cX6_on 7 = .ok (.iconst (-1), 1) := by decide +kernel
theorem dX6_on_8 : decode cX6_on 8 = .ok (.ireturn, 1) := by decide +kernel
theorem dX6_on_9 : decode cX6_on 9 = .ok (.aload_n 0, 1) := by decide +kernel
theorem dX6_on_10 : decode cX6_on 10 = .ok (.getfield 18, 3) := by decide +kernel
theorem dX6_on_13 : decode cX6_on 13 = .ok (.iload_n 1, 1) := by decide +kernel
theorem dX6_on_14 : decode cX6_on 14 = .ok (.aaload, 1) := by decide +kernel
theorem dX6_on_15 : decode cX6_on 15 = .ok (.getfield 128, 3) := by decide +kernel
theorem dX6_on_18 : decode cX6_on 18 = .ok (.invokevirtual 74, 3) := by decide +kernel
theorem dX6_on_21 : decode cX6_on 21 = .ok (.ifCond .eq 6, 3) := by decide +kernel
theorem dX6_on_24 : decode cX6_on 24 = .ok (.bipush (-2), 2) := by decide +kernel
theorem dX6_on_26 : decode cX6_on 26 = .ok (.ireturn, 1) := by decide +kernel
theorem dX6_on_27 : decode cX6_on 27 = .ok (.aload_n 0, 1) := by decide +kernel
theorem dX6_on_28 : decode cX6_on 28 = .ok (.getfield 26, 3) := by decide +kernel
theorem dX6_on_31 : decode cX6_on 31 = .ok (.aload_n 0, 1) := by decide +kernel
theorem dX6_on_32 : decode cX6_on 32 = .ok (.getfield 18, 3) := by decide +kernel
theorem dX6_on_35 : decode cX6_on 35 = .ok (.iload_n 1, 1) := by decide +kernel
theorem dX6_on_36 : decode cX6_on 36 = .ok (.aaload, 1) := by decide +kernel
theorem dX6_on_37 : decode cX6_on 37 = .ok (.getfield 128, 3) := by decide +kernel
theorem dX6_on_40 : decode cX6_on 40 = .ok (.aload_n 0, 1) := by decide +kernel
theorem dX6_on_41 : decode cX6_on 41 = .ok (.getfield 18, 3) := by decide +kernel
theorem dX6_on_44 : decode cX6_on 44 = .ok (.iload_n 1, 1) := by decide +kernel
theorem dX6_on_45 : decode cX6_on 45 = .ok (.aaload, 1) := by decide +kernel
theorem dX6_on_46 : decode cX6_on 46 = .ok (.getfield 136, 3) := by decide +kernel
theorem dX6_on_49 : decode cX6_on 49 = .ok (.invokevirtual 91, 3) := by decide +kernel
theorem dX6_on_52 : decode cX6_on 52 = .ok (.aload_n 0, 1) := by decide +kernel
theorem dX6_on_53 : decode cX6_on 53 = .ok (.getfield 33, 3) := by decide +kernel
theorem dX6_on_56 : decode cX6_on 56 = .ok (.invokevirtual 95, 3) := by decide +kernel
theorem dX6_on_59 : decode cX6_on 59 = .ok (.aload_n 0, 1) := by decide +kernel
theorem dX6_on_60 : decode cX6_on 60 = .ok (.getfield 26, 3) := by decide +kernel
theorem dX6_on_63 : decode cX6_on 63 = .ok (.getfield 104, 3) := by decide +kernel
theorem dX6_on_66 : decode cX6_on 66 = .ok (.getfield 78, 3) := by decide +kernel
theorem dX6_on_69 : decode cX6_on 69 = .ok (.ireturn, 1) := by decide +kernel
theorem dX6_item_0 : decode cX6_item 0 = .ok (.aload_n 0, 1) := by decide +kernel
theorem dX6_item_1 : decode cX6_item 1 = .ok (.iload_n 1, 1) := by decide +kernel
theorem dX6_item_2 : decode cX6_item 2 = .ok (.invokevirtual 101, 3) := by decide +kernel
theorem dX6_item_5 : decode cX6_item 5 = .ok (.istore_n 2, 1) := by decide +kernel
theorem dX6_item_6 : decode cX6_item 6 = .ok (.iload_n 2, 1) := by decide +kernel
theorem dX6_item_7 : decode cX6_item 7 = .ok (.ifCond .eq 5, 3) := by decide +kernel
theorem dX6_item_10 : decode cX6_item 10 = .ok (.iload_n 2, 1) := by decide +kernel
theorem dX6_item_11 : decode cX6_item 11 = .ok (.ireturn, 1) := by decide +kernel
theorem dX6_item_12 : decode cX6_item 12 = .ok (.aload_n 0, 1) := by decide +kernel
theorem dX6_item_13 : decode cX6_item 13 = .ok (.aload_n 0, 1) := by decide +kernel
theorem dX6_item_14 : decode cX6_item 14 = .ok (.getfield 26, 3) := by decide +kernel
theorem dX6_item_17 : decode cX6_item 17 = .ok (.getfield 104, 3) := by decide +kernel
theorem dX6_item_20 : decode cX6_item 20 = .ok (.getfield 71, 3) := by decide +kernel
theorem dX6_item_23 : decode cX6_item 23 = .ok (.iload_n 1, 1) := by decide +kernel
theorem dX6_item_24 : decode cX6_item 24 = .ok (.iaload, 1) := by decide +kernel
theorem dX6_item_25 : decode cX6_item 25 = .ok (.putfield 52, 3) := by decide +kernel
theorem dX6_item_28 : decode cX6_item 28 = .ok (.iconst 1, 1) := by decide +kernel
theorem dX6_item_29 : decode cX6_item 29 = .ok (.ireturn, 1) := by decide +kernel
theorem dX6_shape_0 : decode cX6_shape 0 = .ok (.aload_n 0, 1) := by decide +kernel
theorem dX6_shape_1 : decode cX6_shape 1 = .ok (.getfield 26, 3) := by decide +kernel
theorem dX6_shape_4 : decode cX6_shape 4 = .ok (.invokevirtual 125, 3) := by decide +kernel
theorem dX6_shape_7 : decode cX6_shape 7 = .ok (.ifCond .eq 6, 3) := by decide +kernel
theorem dX6_shape_10 : decode cX6_shape 10 = .ok (.bipush (-2), 2) := by decide +kernel
theorem dX6_shape_12 : decode cX6_shape 12 = .ok (.ireturn, 1) := by decide +kernel
theorem dX6_shape_13 : decode cX6_shape 13 = .ok (.iload_n 1, 1) := by decide +kernel
theorem dX6_shape_14 : decode cX6_shape 14 = .ok (.ifCond .lt 14, 3) := by decide +kernel
theorem dX6_shape_17 : decode cX6_shape 17 = .ok (.iload_n 1, 1) := by decide +kernel
theorem dX6_shape_18 : decode cX6_shape 18 = .ok (.aload_n 0, 1) := by decide +kernel
theorem dX6_shape_19 : decode cX6_shape 19 = .ok (.getfield 26, 3) := by decide +kernel
theorem dX6_shape_22 : decode cX6_shape 22 = .ok (.getfield 98, 3) := by decide +kernel
theorem dX6_shape_25 : decode cX6_shape 25 = .ok (.if_icmp .lt 9, 3) := by decide +kernel
theorem dX6_shape_28 : decode cX6_shape 28 = .ok (.aload_n 0, 1) := by decide +kernel
theorem dX6_shape_29 : decode cX6_shape 29 = .ok (.iconst 2, 1) := by decide +kernel
theorem dX6_shape_30 : decode cX6_shape 30 = .ok (.invokevirtual 59, 3) := by decide +kernel
theorem dX6_shape_33 : decode cX6_shape 33 = .ok (.ireturn, 1) := by decide +kernel
theorem dX6_shape_34 : decode cX6_shape 34 = .ok (.aload_n 0, 1) := by decide +kernel
theorem dX6_shape_35 : decode cX6_shape 35 = .ok (.getfield 26, 3) := by decide +kernel
theorem dX6_shape_38 : decode cX6_shape 38 = .ok (.getfield 137, 3) := by decide +kernel
theorem dX6_shape_41 : decode cX6_shape 41 = .ok (.iload_n 1, 1) := by decide +kernel
theorem dX6_shape_42 : decode cX6_shape 42 = .ok (.iaload, 1) := by decide +kernel
theorem dX6_shape_43 : decode cX6_shape 43 = .ok (.ireturn, 1) := by decide +kernel
theorem dX6_entry_0 : decode cX6_entry 0 = .ok (.aload_n 0, 1) := by decide +kernel
theorem dX6_entry_1 : decode cX6_entry 1 = .ok (.getfield 26, 3) := by decide +kernel
theorem dX6_entry_4 : decode cX6_entry 4 = .ok (.invokevirtual 125, 3) := by decide +kernel
theorem dX6_entry_7 : decode cX6_entry 7 = .ok (.ifCond .eq 6, 3) := by decide +kernel
theorem dX6_entry_10 : decode cX6_entry 10 = .ok (.bipush (-2), 2) := by decide +kernel
theorem dX6_entry_12 : decode cX6_entry 12 = .ok (.ireturn, 1) := by decide +kernel
theorem dX6_entry_13 : decode cX6_entry 13 = .ok (.aload_n 0, 1) := by decide +kernel
theorem dX6_entry_14 : decode cX6_entry 14 = .ok (.getfield 26, 3) := by decide +kernel
theorem dX6_entry_17 : decode cX6_entry 17 = .ok (.getfield 140, 3) := by decide +kernel
theorem dX6_entry_20 : decode cX6_entry 20 = .ok (.iload_n 1, 1) := by decide +kernel
theorem dX6_entry_21 : decode cX6_entry 21 = .ok (.invokevirtual 144, 3) := by decide +kernel
theorem dX6_entry_24 : decode cX6_entry 24 = .ok (.ifCond .ne 5, 3) := by decide +kernel
theorem dX6_entry_27 : decode cX6_entry 27 = .ok (.iconst (-1), 1) := by decide +kernel
theorem dX6_entry_28 : decode cX6_entry 28 = .ok (.ireturn, 1) := by decide +kernel
theorem dX6_entry_29 : decode cX6_entry 29 = .ok (.iload_n 1, 1) := by decide +kernel
theorem dX6_entry_30 : decode cX6_entry 30 = .ok (.invokestatic 149, 3) := by decide +kernel
theorem dX6_entry_33 : decode cX6_entry 33 = .ok (.iconst 1, 1) := by decide +kernel
theorem dX6_entry_34 : decode cX6_entry 34 = .ok (.isub, 1) := by decide +kernel
theorem dX6_entry_35 : decode cX6_entry 35 = .ok (.istore 4, 2) := by decide +kernel
theorem dX6_entry_37 : decode cX6_entry 37 = .ok (.iload_n 2, 1) := by decide +kernel
theorem dX6_entry_38 : decode cX6_entry 38 = .ok (.ifCond .lt 14, 3) := by decide +kernel
theorem dX6_entry_41 : decode cX6_entry 41 = .ok (.iload_n 3, 1) := by decide +kernel
theorem dX6_entry_42 : decode cX6_entry 42 = .ok (.iload_n 2, 1) := by decide +kernel
theorem dX6_entry_43 : decode cX6_entry 43 = .ok (.if_icmp .lt 9, 3) := by decide +kernel
theorem dX6_entry_46 : decode cX6_entry 46 = .ok (.iload_n 3, 1) := by decide +kernel
theorem dX6_entry_47 : decode cX6_entry 47 = .ok (.iload 4, 2) := by decide +kernel
theorem dX6_entry_49 : decode cX6_entry 49 = .ok (.if_icmp .lt 9, 3) := by decide +kernel
theorem dX6_entry_52 : decode cX6_entry 52 = .ok (.aload_n 0, 1) := by decide +kernel
theorem dX6_entry_53 : decode cX6_entry 53 = .ok (.iconst 2, 1) := by decide +kernel
theorem dX6_entry_54 : decode cX6_entry 54 = .ok (.invokevirtual 59, 3) := by decide +kernel
theorem dX6_entry_57 : decode cX6_entry 57 = .ok (.ireturn, 1) := by decide +kernel
theorem dX6_entry_58 : decode cX6_entry 58 = .ok (.aload_n 0, 1) := by decide +kernel
theorem dX6_entry_59 : decode cX6_entry 59 = .ok (.getfield 26, 3) := by decide +kernel
theorem dX6_entry_62 : decode cX6_entry 62 = .ok (.iload_n 1, 1) := by decide +kernel
theorem dX6_entry_63 : decode cX6_entry 63 = .ok (.iload_n 2, 1) := by decide +kernel
theorem dX6_entry_64 : decode cX6_entry 64 = .ok (.iload_n 3, 1) := by decide +kernel
theorem dX6_entry_65 : decode cX6_entry 65 = .ok (.invokevirtual 154, 3) := by decide +kernel
theorem dX6_entry_68 : decode cX6_entry 68 = .ok (.ireturn, 1) := by decide +kernel
theorem dX6_least_0 : decode cX6_least 0 = .ok (.aload_n 0, 1) := by decide +kernel
theorem dX6_least_1 : decode cX6_least 1 = .ok (.iload_n 1, 1) := by decide +kernel
theorem dX6_least_2 : decode cX6_least 2 = .ok (.iload_n 2, 1) := by decide +kernel
theorem dX6_least_3 : decode cX6_least 3 = .ok (.invokevirtual 158, 3) := by decide +kernel
theorem dX6_least_6 : decode cX6_least 6 = .ok (.istore_n 3, 1) := by decide +kernel
theorem dX6_least_7 : decode cX6_least 7 = .ok (.iload_n 3, 1) := by decide +kernel
theorem dX6_least_8 : decode cX6_least 8 = .ok (.ifCond .eq 5, 3) := by decide +kernel
theorem dX6_least_11 : decode cX6_least 11 = .ok (.iload_n 3, 1) := by decide +kernel
theorem dX6_least_12 : decode cX6_least 12 = .ok (.ireturn, 1) := by decide +kernel
theorem dX6_least_13 : decode cX6_least 13 = .ok (.aload_n 0, 1) := by decide +kernel
theorem dX6_least_14 : decode cX6_least 14 = .ok (.getfield 26, 3) := by decide +kernel
theorem dX6_least_17 : decode cX6_least 17 = .ok (.iload_n 1, 1) := by decide +kernel
theorem dX6_least_18 : decode cX6_least 18 = .ok (.iload_n 2, 1) := by decide +kernel
theorem dX6_least_19 : decode cX6_least 19 = .ok (.invokevirtual 161, 3) := by decide +kernel
theorem dX6_least_22 : decode cX6_least 22 = .ok (.istore 4, 2) := by decide +kernel
theorem dX6_least_24 : decode cX6_least 24 = .ok (.aload_n 0, 1) := by decide +kernel
theorem dX6_least_25 : decode cX6_least 25 = .ok (.aload_n 0, 1) := by decide +kernel
theorem dX6_least_26 : decode cX6_least 26 = .ok (.getfield 26, 3) := by decide +kernel
theorem dX6_least_29 : decode cX6_least 29 = .ok (.getfield 104, 3) := by decide +kernel
theorem dX6_least_32 : decode cX6_least 32 = .ok (.getfield 71, 3) := by decide +kernel
theorem dX6_least_35 : decode cX6_least 35 = .ok (.iload 4, 2) := by decide +kernel
theorem dX6_least_37 : decode cX6_least 37 = .ok (.iaload, 1) := by decide +kernel
theorem dX6_least_38 : decode cX6_least 38 = .ok (.putfield 52, 3) := by decide +kernel
theorem dX6_least_41 : decode cX6_least 41 = .ok (.iload 4, 2) := by decide +kernel
theorem dX6_least_43 : decode cX6_least 43 = .ok (.ireturn, 1) := by decide +kernel
theorem dX6_kth_0 : decode cX6_kth 0 = .ok (.aload_n 0, 1) := by decide +kernel
theorem dX6_kth_1 : decode cX6_kth 1 = .ok (.iload_n 1, 1) := by decide +kernel
theorem dX6_kth_2 : decode cX6_kth 2 = .ok (.iload_n 2, 1) := by decide +kernel
theorem dX6_kth_3 : decode cX6_kth 3 = .ok (.invokevirtual 158, 3) := by decide +kernel
theorem dX6_kth_6 : decode cX6_kth 6 = .ok (.istore 4, 2) := by decide +kernel
theorem dX6_kth_8 : decode cX6_kth 8 = .ok (.iload 4, 2) := by decide +kernel
theorem dX6_kth_10 : decode cX6_kth 10 = .ok (.ifCond .eq 6, 3) := by decide +kernel
theorem dX6_kth_13 : decode cX6_kth 13 = .ok (.iload 4, 2) := by decide +kernel
theorem dX6_kth_15 : decode cX6_kth 15 = .ok (.ireturn, 1) := by decide +kernel
theorem dX6_kth_16 : decode cX6_kth 16 = .ok (.iload_n 3, 1) := by decide +kernel
theorem dX6_kth_17 : decode cX6_kth 17 = .ok (.ifCond .lt 10, 3) := by decide +kernel
theorem dX6_kth_20 : decode cX6_kth 20 = .ok (.iload_n 3, 1) := by decide +kernel
theorem dX6_kth_21 : decode cX6_kth 21 = .ok (.iload_n 2, 1) := by decide +kernel
theorem dX6_kth_22 : decode cX6_kth 22 = .ok (.iload_n 1, 1) := by decide +kernel
theorem dX6_kth_23 : decode cX6_kth 23 = .ok (.isub, 1) := by decide +kernel
theorem dX6_kth_24 : decode cX6_kth 24 = .ok (.if_icmp .le 9, 3) := by decide +kernel
theorem dX6_kth_27 : decode cX6_kth 27 = .ok (.aload_n 0, 1) := by decide +kernel
theorem dX6_kth_28 : decode cX6_kth 28 = .ok (.iconst 2, 1) := by decide +kernel
theorem dX6_kth_29 : decode cX6_kth 29 = .ok (.invokevirtual 59, 3) := by decide +kernel
theorem dX6_kth_32 : decode cX6_kth 32 = .ok (.ireturn, 1) := by decide +kernel
theorem dX6_kth_33 : decode cX6_kth 33 = .ok (.aload_n 0, 1) := by decide +kernel
theorem dX6_kth_34 : decode cX6_kth 34 = .ok (.getfield 26, 3) := by decide +kernel
theorem dX6_kth_37 : decode cX6_kth 37 = .ok (.iload_n 1, 1) := by decide +kernel
theorem dX6_kth_38 : decode cX6_kth 38 = .ok (.iload_n 2, 1) := by decide +kernel
theorem dX6_kth_39 : decode cX6_kth 39 = .ok (.iload_n 3, 1) := by decide +kernel
theorem dX6_kth_40 : decode cX6_kth 40 = .ok (.invokevirtual 164, 3) := by decide +kernel
theorem dX6_kth_43 : decode cX6_kth 43 = .ok (.istore 5, 2) := by decide +kernel
theorem dX6_kth_45 : decode cX6_kth 45 = .ok (.aload_n 0, 1) := by decide +kernel
theorem dX6_kth_46 : decode cX6_kth 46 = .ok (.aload_n 0, 1) := by decide +kernel
theorem dX6_kth_47 : decode cX6_kth 47 = .ok (.getfield 26, 3) := by decide +kernel
theorem dX6_kth_50 : decode cX6_kth 50 = .ok (.getfield 104, 3) := by decide +kernel
theorem dX6_kth_53 : decode cX6_kth 53 = .ok (.getfield 71, 3) := by decide +kernel
theorem dX6_kth_56 : decode cX6_kth 56 = .ok (.iload 5, 2) := by decide +kernel
theorem dX6_kth_58 : decode cX6_kth 58 = .ok (.iaload, 1) := by decide +kernel
theorem dX6_kth_59 : decode cX6_kth 59 = .ok (.putfield 52, 3) := by decide +kernel
theorem dX6_kth_62 : decode cX6_kth 62 = .ok (.iload 5, 2) := by decide +kernel
theorem dX6_kth_64 : decode cX6_kth 64 = .ok (.ireturn, 1) := by decide +kernel
theorem dX6_left_0 : decode cX6_left 0 = .ok (.aload_n 0, 1) := by decide +kernel
theorem dX6_left_1 : decode cX6_left 1 = .ok (.iload_n 1, 1) := by decide +kernel
theorem dX6_left_2 : decode cX6_left 2 = .ok (.invokevirtual 101, 3) := by decide +kernel
theorem dX6_left_5 : decode cX6_left 5 = .ok (.istore_n 2, 1) := by decide +kernel
theorem dX6_left_6 : decode cX6_left 6 = .ok (.iload_n 2, 1) := by decide +kernel
theorem dX6_left_7 : decode cX6_left 7 = .ok (.ifCond .eq 5, 3) := by decide +kernel
theorem dX6_left_10 : decode cX6_left 10 = .ok (.iload_n 2, 1) := by decide +kernel
theorem dX6_left_11 : decode cX6_left 11 = .ok (.ireturn, 1) := by decide +kernel
theorem dX6_left_12 : decode cX6_left 12 = .ok (.aload_n 0, 1) := by decide +kernel
theorem dX6_left_13 : decode cX6_left 13 = .ok (.getfield 26, 3) := by decide +kernel
theorem dX6_left_16 : decode cX6_left 16 = .ok (.iload_n 1, 1) := by decide +kernel
theorem dX6_left_17 : decode cX6_left 17 = .ok (.invokevirtual 167, 3) := by decide +kernel
theorem dX6_left_20 : decode cX6_left 20 = .ok (.istore_n 3, 1) := by decide +kernel
theorem dX6_left_21 : decode cX6_left 21 = .ok (.iload_n 3, 1) := by decide +kernel
theorem dX6_left_22 : decode cX6_left 22 = .ok (.ifCond .ge 8, 3) := by decide +kernel
theorem dX6_left_25 : decode cX6_left 25 = .ok (.bipush (-9), 2) := by decide +kernel
theorem dX6_left_27 : decode cX6_left 27 = .ok (.goto 4, 3) := by decide +kernel
theorem dX6_left_30 : decode cX6_left 30 = .ok (.iload_n 3, 1) := by decide +kernel
theorem dX6_left_31 : decode cX6_left 31 = .ok (.ireturn, 1) := by decide +kernel
theorem dX6_right_0 : decode cX6_right 0 = .ok (.aload_n 0, 1) := by decide +kernel
theorem dX6_right_1 : decode cX6_right 1 = .ok (.iload_n 1, 1) := by decide +kernel
theorem dX6_right_2 : decode cX6_right 2 = .ok (.invokevirtual 101, 3) := by decide +kernel
theorem dX6_right_5 : decode cX6_right 5 = .ok (.istore_n 2, 1) := by decide +kernel
theorem dX6_right_6 : decode cX6_right 6 = .ok (.iload_n 2, 1) := by decide +kernel
theorem dX6_right_7 : decode cX6_right 7 = .ok (.ifCond .eq 5, 3) := by decide +kernel
theorem dX6_right_10 : decode cX6_right 10 = .ok (.iload_n 2, 1) := by decide +kernel
theorem dX6_right_11 : decode cX6_right 11 = .ok (.ireturn, 1) := by decide +kernel
theorem dX6_right_12 : decode cX6_right 12 = .ok (.aload_n 0, 1) := by decide +kernel
theorem dX6_right_13 : decode cX6_right 13 = .ok (.getfield 26, 3) := by decide +kernel
theorem dX6_right_16 : decode cX6_right 16 = .ok (.iload_n 1, 1) := by decide +kernel
theorem dX6_right_17 : decode cX6_right 17 = .ok (.invokevirtual 170, 3) := by decide +kernel
theorem dX6_right_20 : decode cX6_right 20 = .ok (.istore_n 3, 1) := by decide +kernel
theorem dX6_right_21 : decode cX6_right 21 = .ok (.iload_n 3, 1) := by decide +kernel
theorem dX6_right_22 : decode cX6_right 22 = .ok (.aload_n 0, 1) := by decide +kernel
theorem dX6_right_23 : decode cX6_right 23 = .ok (.getfield 26, 3) := by decide +kernel
theorem dX6_right_26 : decode cX6_right 26 = .ok (.getfield 104, 3) := by decide +kernel
theorem dX6_right_29 : decode cX6_right 29 = .ok (.getfield 78, 3) := by decide +kernel
theorem dX6_right_32 : decode cX6_right 32 = .ok (.if_icmp .lt 8, 3) := by decide +kernel
theorem dX6_right_35 : decode cX6_right 35 = .ok (.bipush (-9), 2) := by decide +kernel
theorem dX6_right_37 : decode cX6_right 37 = .ok (.goto 4, 3) := by decide +kernel
theorem dX6_right_40 : decode cX6_right 40 = .ok (.iload_n 3, 1) := by decide +kernel
theorem dX6_right_41 : decode cX6_right 41 = .ok (.ireturn, 1) := by decide +kernel
theorem dX6_owns_0 : decode cX6_owns 0 = .ok (.aload_n 0, 1) := by decide +kernel
theorem dX6_owns_1 : decode cX6_owns 1 = .ok (.iload_n 1, 1) := by decide +kernel
theorem dX6_owns_2 : decode cX6_owns 2 = .ok (.invokevirtual 101, 3) := by decide +kernel
theorem dX6_owns_5 : decode cX6_owns 5 = .ok (.istore_n 2, 1) := by decide +kernel
theorem dX6_owns_6 : decode cX6_owns 6 = .ok (.iload_n 2, 1) := by decide +kernel
theorem dX6_owns_7 : decode cX6_owns 7 = .ok (.ifCond .eq 5, 3) := by decide +kernel
theorem dX6_owns_10 : decode cX6_owns 10 = .ok (.iload_n 2, 1) := by decide +kernel
theorem dX6_owns_11 : decode cX6_owns 11 = .ok (.ireturn, 1) := by decide +kernel
theorem dX6_owns_12 : decode cX6_owns 12 = .ok (.aload_n 0, 1) := by decide +kernel
theorem dX6_owns_13 : decode cX6_owns 13 = .ok (.getfield 26, 3) := by decide +kernel
theorem dX6_owns_16 : decode cX6_owns 16 = .ok (.iload_n 1, 1) := by decide +kernel
theorem dX6_owns_17 : decode cX6_owns 17 = .ok (.invokevirtual 173, 3) := by decide +kernel
theorem dX6_owns_20 : decode cX6_owns 20 = .ok (.ireturn, 1) := by decide +kernel
theorem dX6_sum_0 : decode cX6_sum 0 = .ok (.lconst 0, 1) := by decide +kernel
theorem dX6_sum_1 : decode cX6_sum 1 = .ok (.lstore_n 1, 1) := by decide +kernel
theorem dX6_sum_2 : decode cX6_sum 2 = .ok (.iconst 0, 1) := by decide +kernel
theorem dX6_sum_3 : decode cX6_sum 3 = .ok (.istore_n 3, 1) := by decide +kernel
theorem dX6_sum_4 : decode cX6_sum 4 = .ok (.iload_n 3, 1) := by decide +kernel
theorem dX6_sum_5 : decode cX6_sum 5 = .ok (.aload_n 0, 1) := by decide +kernel
theorem dX6_sum_6 : decode cX6_sum 6 = .ok (.getfield 26, 3) := by decide +kernel
theorem dX6_sum_9 : decode cX6_sum 9 = .ok (.getfield 104, 3) := by decide +kernel
theorem dX6_sum_12 : decode cX6_sum 12 = .ok (.getfield 78, 3) := by decide +kernel
theorem dX6_sum_15 : decode cX6_sum 15 = .ok (.if_icmp .ge 35, 3) := by decide +kernel
theorem dX6_sum_18 : decode cX6_sum 18 = .ok (.lload_n 1, 1) := by decide +kernel
theorem dX6_sum_19 : decode cX6_sum 19 = .ok (.aload_n 0, 1) := by decide +kernel
theorem dX6_sum_20 : decode cX6_sum 20 = .ok (.getfield 26, 3) := by decide +kernel
theorem dX6_sum_23 : decode cX6_sum 23 = .ok (.getfield 104, 3) := by decide +kernel
theorem dX6_sum_26 : decode cX6_sum 26 = .ok (.getfield 71, 3) := by decide +kernel
theorem dX6_sum_29 : decode cX6_sum 29 = .ok (.iload_n 3, 1) := by decide +kernel
theorem dX6_sum_30 : decode cX6_sum 30 = .ok (.iaload, 1) := by decide +kernel
theorem dX6_sum_31 : decode cX6_sum 31 = .ok (.i2l, 1) := by decide +kernel
theorem dX6_sum_32 : decode cX6_sum 32 = .ok (.aload_n 0, 1) := by decide +kernel
theorem dX6_sum_33 : decode cX6_sum 33 = .ok (.getfield 26, 3) := by decide +kernel
theorem dX6_sum_36 : decode cX6_sum 36 = .ok (.iload_n 3, 1) := by decide +kernel
theorem dX6_sum_37 : decode cX6_sum 37 = .ok (.invokevirtual 173, 3) := by decide +kernel
theorem dX6_sum_40 : decode cX6_sum 40 = .ok (.i2l, 1) := by decide +kernel
theorem dX6_sum_41 : decode cX6_sum 41 = .ok (.lmul, 1) := by decide +kernel
theorem dX6_sum_42 : decode cX6_sum 42 = .ok (.ladd, 1) := by decide +kernel
theorem dX6_sum_43 : decode cX6_sum 43 = .ok (.lstore_n 1, 1) := by decide +kernel
theorem dX6_sum_44 : decode cX6_sum 44 = .ok (.iinc 3 1, 3) := by decide +kernel
theorem dX6_sum_47 : decode cX6_sum 47 = .ok (.goto (-43), 3) := by decide +kernel
theorem dX6_sum_50 : decode cX6_sum 50 = .ok (.lload_n 1, 1) := by decide +kernel
theorem dX6_sum_51 : decode cX6_sum 51 = .ok (.lreturn, 1) := by decide +kernel
theorem dX6_parent_0 : decode cX6_parent 0 = .ok (.aload_n 0, 1) := by decide +kernel
theorem dX6_parent_1 : decode cX6_parent 1 = .ok (.iload_n 1, 1) := by decide +kernel
theorem dX6_parent_2 : decode cX6_parent 2 = .ok (.invokevirtual 101, 3) := by decide +kernel
theorem dX6_parent_5 : decode cX6_parent 5 = .ok (.istore_n 2, 1) := by decide +kernel
theorem dX6_parent_6 : decode cX6_parent 6 = .ok (.iload_n 2, 1) := by decide +kernel
theorem dX6_parent_7 : decode cX6_parent 7 = .ok (.ifCond .eq 5, 3) := by decide +kernel
theorem dX6_parent_10 : decode cX6_parent 10 = .ok (.iload_n 2, 1) := by decide +kernel
theorem dX6_parent_11 : decode cX6_parent 11 = .ok (.ireturn, 1) := by decide +kernel
theorem dX6_parent_12 : decode cX6_parent 12 = .ok (.aload_n 0, 1) := by decide +kernel
theorem dX6_parent_13 : decode cX6_parent 13 = .ok (.getfield 26, 3) := by decide +kernel
theorem dX6_parent_16 : decode cX6_parent 16 = .ok (.iload_n 1, 1) := by decide +kernel
theorem dX6_parent_17 : decode cX6_parent 17 = .ok (.invokevirtual 176, 3) := by decide +kernel
theorem dX6_parent_20 : decode cX6_parent 20 = .ok (.ireturn, 1) := by decide +kernel
theorem dX6_depth_0 : decode cX6_depth 0 = .ok (.aload_n 0, 1) := by decide +kernel
theorem dX6_depth_1 : decode cX6_depth 1 = .ok (.iload_n 1, 1) := by decide +kernel
theorem dX6_depth_2 : decode cX6_depth 2 = .ok (.invokevirtual 101, 3) := by decide +kernel
theorem dX6_depth_5 : decode cX6_depth 5 = .ok (.istore_n 2, 1) := by decide +kernel
theorem dX6_depth_6 : decode cX6_depth 6 = .ok (.iload_n 2, 1) := by decide +kernel
theorem dX6_depth_7 : decode cX6_depth 7 = .ok (.ifCond .eq 5, 3) := by decide +kernel
theorem dX6_depth_10 : decode cX6_depth 10 = .ok (.iload_n 2, 1) := by decide +kernel
theorem dX6_depth_11 : decode cX6_depth 11 = .ok (.ireturn, 1) := by decide +kernel
theorem dX6_depth_12 : decode cX6_depth 12 = .ok (.aload_n 0, 1) := by decide +kernel
theorem dX6_depth_13 : decode cX6_depth 13 = .ok (.getfield 26, 3) := by decide +kernel
theorem dX6_depth_16 : decode cX6_depth 16 = .ok (.iload_n 1, 1) := by decide +kernel
theorem dX6_depth_17 : decode cX6_depth 17 = .ok (.invokevirtual 179, 3) := by decide +kernel
theorem dX6_depth_20 : decode cX6_depth 20 = .ok (.ireturn, 1) := by decide +kernel
theorem dX6_size_0 : decode cX6_size 0 = .ok (.aload_n 0, 1) := by decide +kernel
theorem dX6_size_1 : decode cX6_size 1 = .ok (.iload_n 1, 1) := by decide +kernel
theorem dX6_size_2 : decode cX6_size 2 = .ok (.invokevirtual 101, 3) := by decide +kernel
theorem dX6_size_5 : decode cX6_size 5 = .ok (.istore_n 2, 1) := by decide +kernel
theorem dX6_size_6 : decode cX6_size 6 = .ok (.iload_n 2, 1) := by decide +kernel
theorem dX6_size_7 : decode cX6_size 7 = .ok (.ifCond .eq 5, 3) := by decide +kernel
theorem dX6_size_10 : decode cX6_size 10 = .ok (.iload_n 2, 1) := by decide +kernel
theorem dX6_size_11 : decode cX6_size 11 = .ok (.ireturn, 1) := by decide +kernel
theorem dX6_size_12 : decode cX6_size 12 = .ok (.aload_n 0, 1) := by decide +kernel
theorem dX6_size_13 : decode cX6_size 13 = .ok (.getfield 26, 3) := by decide +kernel
theorem dX6_size_16 : decode cX6_size 16 = .ok (.iload_n 1, 1) := by decide +kernel
theorem dX6_size_17 : decode cX6_size 17 = .ok (.invokevirtual 170, 3) := by decide +kernel
theorem dX6_size_20 : decode cX6_size 20 = .ok (.aload_n 0, 1) := by decide +kernel
theorem dX6_size_21 : decode cX6_size 21 = .ok (.getfield 26, 3) := by decide +kernel
theorem dX6_size_24 : decode cX6_size 24 = .ok (.iload_n 1, 1) := by decide +kernel
theorem dX6_size_25 : decode cX6_size 25 = .ok (.invokevirtual 167, 3) := by decide +kernel
theorem dX6_size_28 : decode cX6_size 28 = .ok (.isub, 1) := by decide +kernel
theorem dX6_size_29 : decode cX6_size 29 = .ok (.iconst 1, 1) := by decide +kernel
theorem dX6_size_30 : decode cX6_size 30 = .ok (.isub, 1) := by decide +kernel
theorem dX6_size_31 : decode cX6_size 31 = .ok (.ireturn, 1) := by decide +kernel
theorem dX6_above_0 : decode cX6_above 0 = .ok (.aload_n 0, 1) := by decide +kernel
theorem dX6_above_1 : decode cX6_above 1 = .ok (.iload_n 1, 1) := by decide +kernel
theorem dX6_above_2 : decode cX6_above 2 = .ok (.invokevirtual 101, 3) := by decide +kernel
theorem dX6_above_5 : decode cX6_above 5 = .ok (.istore_n 3, 1) := by decide +kernel
theorem dX6_above_6 : decode cX6_above 6 = .ok (.iload_n 3, 1) := by decide +kernel
theorem dX6_above_7 : decode cX6_above 7 = .ok (.ifCond .eq 5, 3) := by decide +kernel
theorem dX6_above_10 : decode cX6_above 10 = .ok (.iload_n 3, 1) := by decide +kernel
theorem dX6_above_11 : decode cX6_above 11 = .ok (.ireturn, 1) := by decide +kernel
theorem dX6_above_12 : decode cX6_above 12 = .ok (.iload_n 2, 1) := by decide +kernel
theorem dX6_above_13 : decode cX6_above 13 = .ok (.ifCond .ge 9, 3) := by decide +kernel
theorem dX6_above_16 : decode cX6_above 16 = .ok (.aload_n 0, 1) := by decide +kernel
theorem dX6_above_17 : decode cX6_above 17 = .ok (.iconst 2, 1) := by decide +kernel
theorem dX6_above_18 : decode cX6_above 18 = .ok (.invokevirtual 59, 3) := by decide +kernel
theorem dX6_above_21 : decode cX6_above 21 = .ok (.ireturn, 1) := by decide +kernel
theorem dX6_above_22 : decode cX6_above 22 = .ok (.aload_n 0, 1) := by decide +kernel
theorem dX6_above_23 : decode cX6_above 23 = .ok (.getfield 26, 3) := by decide +kernel
theorem dX6_above_26 : decode cX6_above 26 = .ok (.iload_n 1, 1) := by decide +kernel
theorem dX6_above_27 : decode cX6_above 27 = .ok (.iload_n 2, 1) := by decide +kernel
theorem dX6_above_28 : decode cX6_above 28 = .ok (.invokevirtual 182, 3) := by decide +kernel
theorem dX6_above_31 : decode cX6_above 31 = .ok (.ireturn, 1) := by decide +kernel
theorem dX6_alike_0 : decode cX6_alike 0 = .ok (.aload_n 0, 1) := by decide +kernel
theorem dX6_alike_1 : decode cX6_alike 1 = .ok (.getfield 26, 3) := by decide +kernel
theorem dX6_alike_4 : decode cX6_alike 4 = .ok (.invokevirtual 125, 3) := by decide +kernel
theorem dX6_alike_7 : decode cX6_alike 7 = .ok (.ifCond .eq 6, 3) := by decide +kernel
theorem dX6_alike_10 : decode cX6_alike 10 = .ok (.bipush (-2), 2) := by decide +kernel
theorem dX6_alike_12 : decode cX6_alike 12 = .ok (.ireturn, 1) := by decide +kernel
theorem dX6_alike_13 : decode cX6_alike 13 = .ok (.aload_n 0, 1) := by decide +kernel
theorem dX6_alike_14 : decode cX6_alike 14 = .ok (.getfield 26, 3) := by decide +kernel
theorem dX6_alike_17 : decode cX6_alike 17 = .ok (.getfield 104, 3) := by decide +kernel
theorem dX6_alike_20 : decode cX6_alike 20 = .ok (.iload_n 1, 1) := by decide +kernel
theorem dX6_alike_21 : decode cX6_alike 21 = .ok (.iload_n 3, 1) := by decide +kernel
theorem dX6_alike_22 : decode cX6_alike 22 = .ok (.invokevirtual 81, 3) := by decide +kernel
theorem dX6_alike_25 : decode cX6_alike 25 = .ok (.ifCond .ne 18, 3) := by decide +kernel
theorem dX6_alike_28 : decode cX6_alike 28 = .ok (.aload_n 0, 1) := by decide +kernel
theorem dX6_alike_29 : decode cX6_alike 29 = .ok (.getfield 26, 3) := by decide +kernel
theorem dX6_alike_32 : decode cX6_alike 32 = .ok (.getfield 104, 3) := by decide +kernel
theorem dX6_alike_35 : decode cX6_alike 35 = .ok (.iload_n 2, 1) := by decide +kernel
theorem dX6_alike_36 : decode cX6_alike 36 = .ok (.iload_n 3, 1) := by decide +kernel
theorem dX6_alike_37 : decode cX6_alike 37 = .ok (.invokevirtual 81, 3) := by decide +kernel
theorem dX6_alike_40 : decode cX6_alike 40 = .ok (.ifCond .eq 9, 3) := by decide +kernel
theorem dX6_alike_43 : decode cX6_alike 43 = .ok (.aload_n 0, 1) := by decide +kernel
theorem dX6_alike_44 : decode cX6_alike 44 = .ok (.iconst 2, 1) := by decide +kernel
theorem dX6_alike_45 : decode cX6_alike 45 = .ok (.invokevirtual 59, 3) := by decide +kernel
theorem dX6_alike_48 : decode cX6_alike 48 = .ok (.ireturn, 1) := by decide +kernel
theorem dX6_alike_49 : decode cX6_alike 49 = .ok (.aload_n 0, 1) := by decide +kernel
theorem dX6_alike_50 : decode cX6_alike 50 = .ok (.getfield 26, 3) := by decide +kernel
theorem dX6_alike_53 : decode cX6_alike 53 = .ok (.iload_n 1, 1) := by decide +kernel
theorem dX6_alike_54 : decode cX6_alike 54 = .ok (.iload_n 2, 1) := by decide +kernel
theorem dX6_alike_55 : decode cX6_alike 55 = .ok (.iload_n 3, 1) := by decide +kernel
theorem dX6_alike_56 : decode cX6_alike 56 = .ok (.invokevirtual 185, 3) := by decide +kernel
theorem dX6_alike_59 : decode cX6_alike 59 = .ok (.ifCond .eq 7, 3) := by decide +kernel
theorem dX6_alike_62 : decode cX6_alike 62 = .ok (.iconst 1, 1) := by decide +kernel
theorem dX6_alike_63 : decode cX6_alike 63 = .ok (.goto 4, 3) := by decide +kernel
theorem dX6_alike_66 : decode cX6_alike 66 = .ok (.iconst 0, 1) := by decide +kernel
theorem dX6_alike_67 : decode cX6_alike 67 = .ok (.ireturn, 1) := by decide +kernel
theorem dX6_tree_0 : decode cX6_tree 0 = .ok (.iload_n 1, 1) := by decide +kernel
theorem dX6_tree_1 : decode cX6_tree 1 = .ok (.invokestatic 55, 3) := by decide +kernel
theorem dX6_tree_4 : decode cX6_tree 4 = .ok (.ifCond .eq 5, 3) := by decide +kernel
theorem dX6_tree_7 : decode cX6_tree 7 = .ok (.iconst (-1), 1) := by decide +kernel
theorem dX6_tree_8 : decode cX6_tree 8 = .ok (.ireturn, 1) := by decide +kernel
theorem dX6_tree_9 : decode cX6_tree 9 = .ok (.aload_n 0, 1) := by decide +kernel
theorem dX6_tree_10 : decode cX6_tree 10 = .ok (.getfield 11, 3) := by decide +kernel
theorem dX6_tree_13 : decode cX6_tree 13 = .ok (.iload_n 1, 1) := by decide +kernel
theorem dX6_tree_14 : decode cX6_tree 14 = .ok (.aaload, 1) := by decide +kernel
theorem dX6_tree_15 : decode cX6_tree 15 = .ok (.invokevirtual 74, 3) := by decide +kernel
theorem dX6_tree_18 : decode cX6_tree 18 = .ok (.ifCond .eq 9, 3) := by decide +kernel
theorem dX6_tree_21 : decode cX6_tree 21 = .ok (.aload_n 0, 1) := by decide +kernel
theorem dX6_tree_22 : decode cX6_tree 22 = .ok (.iconst 1, 1) := by decide +kernel
theorem dX6_tree_23 : decode cX6_tree 23 = .ok (.invokevirtual 59, 3) := by decide +kernel
theorem dX6_tree_26 : decode cX6_tree 26 = .ok (.ireturn, 1) := by decide +kernel
theorem dX6_tree_27 : decode cX6_tree 27 = .ok (.aload_n 0, 1) := by decide +kernel
theorem dX6_tree_28 : decode cX6_tree 28 = .ok (.getfield 11, 3) := by decide +kernel
theorem dX6_tree_31 : decode cX6_tree 31 = .ok (.iload_n 1, 1) := by decide +kernel
theorem dX6_tree_32 : decode cX6_tree 32 = .ok (.aaload, 1) := by decide +kernel
theorem dX6_tree_33 : decode cX6_tree 33 = .ok (.getfield 78, 3) := by decide +kernel
theorem dX6_tree_36 : decode cX6_tree 36 = .ok (.iconst 1, 1) := by decide +kernel
theorem dX6_tree_37 : decode cX6_tree 37 = .ok (.if_icmp .lt 17, 3) := by decide +kernel
theorem dX6_tree_40 : decode cX6_tree 40 = .ok (.aload_n 0, 1) := by decide +kernel
theorem dX6_tree_41 : decode cX6_tree 41 = .ok (.getfield 11, 3) := by decide +kernel
theorem dX6_tree_44 : decode cX6_tree 44 = .ok (.iload_n 1, 1) := by decide +kernel
theorem dX6_tree_45 : decode cX6_tree 45 = .ok (.aaload, 1) := by decide +kernel
theorem dX6_tree_46 : decode cX6_tree 46 = .ok (.getfield 78, 3) := by decide +kernel
theorem dX6_tree_49 : decode cX6_tree 49 = .ok (.bipush 24, 2) := by decide +kernel
theorem dX6_tree_51 : decode cX6_tree 51 = .ok (.if_icmp .le 9, 3) := by decide +kernel
theorem dX6_tree_54 : decode cX6_tree 54 = .ok (.aload_n 0, 1) := by decide +kernel
theorem dX6_tree_55 : decode cX6_tree 55 = .ok (.iconst 3, 1) := by decide +kernel
theorem dX6_tree_56 : decode cX6_tree 56 = .ok (.invokevirtual 59, 3) := by decide +kernel
theorem dX6_tree_59 : decode cX6_tree 59 = .ok (.ireturn, 1) := by decide +kernel
theorem dX6_tree_60 : decode cX6_tree 60 = .ok (.aload_n 0, 1) := by decide +kernel
theorem dX6_tree_61 : decode cX6_tree 61 = .ok (.getfield 11, 3) := by decide +kernel
theorem dX6_tree_64 : decode cX6_tree 64 = .ok (.iload_n 1, 1) := by decide +kernel
theorem dX6_tree_65 : decode cX6_tree 65 = .ok (.aaload, 1) := by decide +kernel
theorem dX6_tree_66 : decode cX6_tree 66 = .ok (.invokestatic 189, 3) := by decide +kernel
theorem dX6_tree_69 : decode cX6_tree 69 = .ok (.ifCond .ne 9, 3) := by decide +kernel
theorem dX6_tree_72 : decode cX6_tree 72 = .ok (.aload_n 0, 1) := by decide +kernel
theorem dX6_tree_73 : decode cX6_tree 73 = .ok (.iconst 4, 1) := by decide +kernel
theorem dX6_tree_74 : decode cX6_tree 74 = .ok (.invokevirtual 59, 3) := by decide +kernel
theorem dX6_tree_77 : decode cX6_tree 77 = .ok (.ireturn, 1) := by decide +kernel
theorem dX6_tree_78 : decode cX6_tree 78 = .ok (.aload_n 0, 1) := by decide +kernel
theorem dX6_tree_79 : decode cX6_tree 79 = .ok (.getfield 40, 3) := by decide +kernel
theorem dX6_tree_82 : decode cX6_tree 82 = .ok (.aload_n 0, 1) := by decide +kernel
theorem dX6_tree_83 : decode cX6_tree 83 = .ok (.getfield 11, 3) := by decide +kernel
theorem dX6_tree_86 : decode cX6_tree 86 = .ok (.iload_n 1, 1) := by decide +kernel
theorem dX6_tree_87 : decode cX6_tree 87 = .ok (.aaload, 1) := by decide +kernel
theorem dX6_tree_88 : decode cX6_tree 88 = .ok (.invokevirtual 193, 3) := by decide +kernel
theorem dX6_tree_91 : decode cX6_tree 91 = .ok (.aload_n 0, 1) := by decide +kernel
theorem dX6_tree_92 : decode cX6_tree 92 = .ok (.getfield 40, 3) := by decide +kernel
theorem dX6_tree_95 : decode cX6_tree 95 = .ok (.getfield 196, 3) := by decide +kernel
theorem dX6_tree_98 : decode cX6_tree 98 = .ok (.ireturn, 1) := by decide +kernel
theorem dX6_meet_0 : decode cX6_meet 0 = .ok (.aload_n 0, 1) := by decide +kernel
theorem dX6_meet_1 : decode cX6_meet 1 = .ok (.iload_n 1, 1) := by decide +kernel
theorem dX6_meet_2 : decode cX6_meet 2 = .ok (.iload_n 2, 1) := by decide +kernel
theorem dX6_meet_3 : decode cX6_meet 3 = .ok (.invokevirtual 199, 3) := by decide +kernel
theorem dX6_meet_6 : decode cX6_meet 6 = .ok (.istore_n 3, 1) := by decide +kernel
theorem dX6_meet_7 : decode cX6_meet 7 = .ok (.iload_n 3, 1) := by decide +kernel
theorem dX6_meet_8 : decode cX6_meet 8 = .ok (.ifCond .eq 5, 3) := by decide +kernel
theorem dX6_meet_11 : decode cX6_meet 11 = .ok (.iload_n 3, 1) := by decide +kernel
theorem dX6_meet_12 : decode cX6_meet 12 = .ok (.ireturn, 1) := by decide +kernel
theorem dX6_meet_13 : decode cX6_meet 13 = .ok (.aload_n 0, 1) := by decide +kernel
theorem dX6_meet_14 : decode cX6_meet 14 = .ok (.getfield 40, 3) := by decide +kernel
theorem dX6_meet_17 : decode cX6_meet 17 = .ok (.iload_n 1, 1) := by decide +kernel
theorem dX6_meet_18 : decode cX6_meet 18 = .ok (.iload_n 2, 1) := by decide +kernel
theorem dX6_meet_19 : decode cX6_meet 19 = .ok (.invokevirtual 202, 3) := by decide +kernel
theorem dX6_meet_22 : decode cX6_meet 22 = .ok (.ireturn, 1) := by decide +kernel
theorem dX6_apart_0 : decode cX6_apart 0 = .ok (.aload_n 0, 1) := by decide +kernel
theorem dX6_apart_1 : decode cX6_apart 1 = .ok (.iload_n 1, 1) := by decide +kernel
theorem dX6_apart_2 : decode cX6_apart 2 = .ok (.iload_n 2, 1) := by decide +kernel
theorem dX6_apart_3 : decode cX6_apart 3 = .ok (.invokevirtual 199, 3) := by decide +kernel
theorem dX6_apart_6 : decode cX6_apart 6 = .ok (.istore_n 3, 1) := by decide +kernel
theorem dX6_apart_7 : decode cX6_apart 7 = .ok (.iload_n 3, 1) := by decide +kernel
theorem dX6_apart_8 : decode cX6_apart 8 = .ok (.ifCond .eq 5, 3) := by decide +kernel
theorem dX6_apart_11 : decode cX6_apart 11 = .ok (.iload_n 3, 1) := by decide +kernel
theorem dX6_apart_12 : decode cX6_apart 12 = .ok (.ireturn, 1) := by decide +kernel
theorem dX6_apart_13 : decode cX6_apart 13 = .ok (.aload_n 0, 1) := by decide +kernel
theorem dX6_apart_14 : decode cX6_apart 14 = .ok (.getfield 40, 3) := by decide +kernel
theorem dX6_apart_17 : decode cX6_apart 17 = .ok (.iload_n 1, 1) := by decide +kernel
theorem dX6_apart_18 : decode cX6_apart 18 = .ok (.iload_n 2, 1) := by decide +kernel
theorem dX6_apart_19 : decode cX6_apart 19 = .ok (.invokevirtual 202, 3) := by decide +kernel
theorem dX6_apart_22 : decode cX6_apart 22 = .ok (.istore 4, 2) := by decide +kernel
theorem dX6_apart_24 : decode cX6_apart 24 = .ok (.aload_n 0, 1) := by decide +kernel
theorem dX6_apart_25 : decode cX6_apart 25 = .ok (.getfield 40, 3) := by decide +kernel
theorem dX6_apart_28 : decode cX6_apart 28 = .ok (.getfield 205, 3) := by decide +kernel
theorem dX6_apart_31 : decode cX6_apart 31 = .ok (.iload_n 1, 1) := by decide +kernel
theorem dX6_apart_32 : decode cX6_apart 32 = .ok (.iaload, 1) := by decide +kernel
theorem dX6_apart_33 : decode cX6_apart 33 = .ok (.aload_n 0, 1) := by decide +kernel
theorem dX6_apart_34 : decode cX6_apart 34 = .ok (.getfield 40, 3) := by decide +kernel
theorem dX6_apart_37 : decode cX6_apart 37 = .ok (.getfield 205, 3) := by decide +kernel
theorem dX6_apart_40 : decode cX6_apart 40 = .ok (.iload_n 2, 1) := by decide +kernel
theorem dX6_apart_41 : decode cX6_apart 41 = .ok (.iaload, 1) := by decide +kernel
theorem dX6_apart_42 : decode cX6_apart 42 = .ok (.iadd, 1) := by decide +kernel
theorem dX6_apart_43 : decode cX6_apart 43 = .ok (.iconst 2, 1) := by decide +kernel
theorem dX6_apart_44 : decode cX6_apart 44 = .ok (.aload_n 0, 1) := by decide +kernel
theorem dX6_apart_45 : decode cX6_apart 45 = .ok (.getfield 40, 3) := by decide +kernel
theorem dX6_apart_48 : decode cX6_apart 48 = .ok (.getfield 205, 3) := by decide +kernel
theorem dX6_apart_51 : decode cX6_apart 51 = .ok (.iload 4, 2) := by decide +kernel
theorem dX6_apart_53 : decode cX6_apart 53 = .ok (.iaload, 1) := by decide +kernel
theorem dX6_apart_54 : decode cX6_apart 54 = .ok (.imul, 1) := by decide +kernel
theorem dX6_apart_55 : decode cX6_apart 55 = .ok (.isub, 1) := by decide +kernel
theorem dX6_apart_56 : decode cX6_apart 56 = .ok (.ireturn, 1) := by decide +kernel
theorem dX6_up_0 : decode cX6_up 0 = .ok (.aload_n 0, 1) := by decide +kernel
theorem dX6_up_1 : decode cX6_up 1 = .ok (.iload_n 1, 1) := by decide +kernel
theorem dX6_up_2 : decode cX6_up 2 = .ok (.iload_n 1, 1) := by decide +kernel
theorem dX6_up_3 : decode cX6_up 3 = .ok (.invokevirtual 199, 3) := by decide +kernel
theorem dX6_up_6 : decode cX6_up 6 = .ok (.istore_n 3, 1) := by decide +kernel
theorem dX6_up_7 : decode cX6_up 7 = .ok (.iload_n 3, 1) := by decide +kernel
theorem dX6_up_8 : decode cX6_up 8 = .ok (.ifCond .eq 5, 3) := by decide +kernel
theorem dX6_up_11 : decode cX6_up 11 = .ok (.iload_n 3, 1) := by decide +kernel
theorem dX6_up_12 : decode cX6_up 12 = .ok (.ireturn, 1) := by decide +kernel
theorem dX6_up_13 : decode cX6_up 13 = .ok (.iload_n 2, 1) := by decide +kernel
theorem dX6_up_14 : decode cX6_up 14 = .ok (.ifCond .ge 9, 3) := by decide +kernel
theorem dX6_up_17 : decode cX6_up 17 = .ok (.aload_n 0, 1) := by decide +kernel
theorem dX6_up_18 : decode cX6_up 18 = .ok (.iconst 2, 1) := by decide +kernel
theorem dX6_up_19 : decode cX6_up 19 = .ok (.invokevirtual 59, 3) := by decide +kernel
theorem dX6_up_22 : decode cX6_up 22 = .ok (.ireturn, 1) := by decide +kernel
theorem dX6_up_23 : decode cX6_up 23 = .ok (.aload_n 0, 1) := by decide +kernel
theorem dX6_up_24 : decode cX6_up 24 = .ok (.getfield 40, 3) := by decide +kernel
theorem dX6_up_27 : decode cX6_up 27 = .ok (.iload_n 1, 1) := by decide +kernel
theorem dX6_up_28 : decode cX6_up 28 = .ok (.iload_n 2, 1) := by decide +kernel
theorem dX6_up_29 : decode cX6_up 29 = .ok (.invokevirtual 208, 3) := by decide +kernel
theorem dX6_up_32 : decode cX6_up 32 = .ok (.ireturn, 1) := by decide +kernel
theorem dX6_node_0 : decode cX6_node 0 = .ok (.aload_n 0, 1) := by decide +kernel
theorem dX6_node_1 : decode cX6_node 1 = .ok (.getfield 40, 3) := by decide +kernel
theorem dX6_node_4 : decode cX6_node 4 = .ok (.getfield 196, 3) := by decide +kernel
theorem dX6_node_7 : decode cX6_node 7 = .ok (.ifCond .ne 6, 3) := by decide +kernel
theorem dX6_node_10 : decode cX6_node 10 = .ok (.bipush (-2), 2) := by decide +kernel
theorem dX6_node_12 : decode cX6_node 12 = .ok (.ireturn, 1) := by decide +kernel
theorem dX6_node_13 : decode cX6_node 13 = .ok (.iload_n 2, 1) := by decide +kernel
theorem dX6_node_14 : decode cX6_node 14 = .ok (.ifCond .lt 8, 3) := by decide +kernel
theorem dX6_node_17 : decode cX6_node 17 = .ok (.iload_n 2, 1) := by decide +kernel
theorem dX6_node_18 : decode cX6_node 18 = .ok (.iconst 2, 1) := by decide +kernel
theorem dX6_node_19 : decode cX6_node 19 = .ok (.if_icmp .le 5, 3) := by decide +kernel
theorem dX6_node_22 : decode cX6_node 22 = .ok (.iconst (-1), 1) := by decide +kernel
theorem dX6_node_23 : decode cX6_node 23 = .ok (.ireturn, 1) := by decide +kernel
theorem dX6_node_24 : decode cX6_node 24 = .ok (.aload_n 0, 1) := by decide +kernel
theorem dX6_node_25 : decode cX6_node 25 = .ok (.getfield 40, 3) := by decide +kernel
theorem dX6_node_28 : decode cX6_node 28 = .ok (.iload_n 1, 1) := by decide +kernel
theorem dX6_node_29 : decode cX6_node 29 = .ok (.invokevirtual 211, 3) := by decide +kernel
theorem dX6_node_32 : decode cX6_node 32 = .ok (.ifCond .eq 9, 3) := by decide +kernel
theorem dX6_node_35 : decode cX6_node 35 = .ok (.aload_n 0, 1) := by decide +kernel
theorem dX6_node_36 : decode cX6_node 36 = .ok (.iconst 2, 1) := by decide +kernel
theorem dX6_node_37 : decode cX6_node 37 = .ok (.invokevirtual 59, 3) := by decide +kernel
theorem dX6_node_40 : decode cX6_node 40 = .ok (.ireturn, 1) := by decide +kernel
theorem dX6_node_41 : decode cX6_node 41 = .ok (.iload_n 2, 1) := by decide +kernel
theorem dX6_node_42 : decode cX6_node 42 = .ok (.ifCond .ne 13, 3) := by decide +kernel
theorem dX6_node_45 : decode cX6_node 45 = .ok (.aload_n 0, 1) := by decide +kernel
theorem dX6_node_46 : decode cX6_node 46 = .ok (.getfield 40, 3) := by decide +kernel
theorem dX6_node_49 : decode cX6_node 49 = .ok (.getfield 205, 3) := by decide +kernel
theorem dX6_node_52 : decode cX6_node 52 = .ok (.iload_n 1, 1) := by decide +kernel
theorem dX6_node_53 : decode cX6_node 53 = .ok (.iaload, 1) := by decide +kernel
theorem dX6_node_54 : decode cX6_node 54 = .ok (.ireturn, 1) := by decide +kernel
theorem dX6_node_55 : decode cX6_node 55 = .ok (.iload_n 2, 1) := by decide +kernel
theorem dX6_node_56 : decode cX6_node 56 = .ok (.iconst 1, 1) := by decide +kernel
theorem dX6_node_57 : decode cX6_node 57 = .ok (.if_icmp .ne 15, 3) := by decide +kernel
theorem dX6_node_60 : decode cX6_node 60 = .ok (.aload_n 0, 1) := by decide +kernel
theorem dX6_node_61 : decode cX6_node 61 = .ok (.getfield 40, 3) := by decide +kernel
theorem dX6_node_64 : decode cX6_node 64 = .ok (.getfield 214, 3) := by decide +kernel
theorem dX6_node_67 : decode cX6_node 67 = .ok (.iload_n 1, 1) := by decide +kernel
theorem dX6_node_68 : decode cX6_node 68 = .ok (.iaload, 1) := by decide +kernel
theorem dX6_node_69 : decode cX6_node 69 = .ok (.goto 12, 3) := by decide +kernel
theorem dX6_node_72 : decode cX6_node 72 = .ok (.aload_n 0, 1) := by decide +kernel
theorem dX6_node_73 : decode cX6_node 73 = .ok (.getfield 40, 3) := by decide +kernel
theorem dX6_node_76 : decode cX6_node 76 = .ok (.getfield 217, 3) := by decide +kernel
theorem dX6_node_79 : decode cX6_node 79 = .ok (.iload_n 1, 1) := by decide +kernel
theorem dX6_node_80 : decode cX6_node 80 = .ok (.iaload, 1) := by decide +kernel
theorem dX6_node_81 : decode cX6_node 81 = .ok (.ireturn, 1) := by decide +kernel
theorem dX6_asked_0 : decode cX6_asked 0 = .ok (.aload_n 0, 1) := by decide +kernel
theorem dX6_asked_1 : decode cX6_asked 1 = .ok (.getfield 52, 3) := by decide +kernel
theorem dX6_asked_4 : decode cX6_asked 4 = .ok (.ireturn, 1) := by decide +kernel
theorem dX6_count_0 : decode cX6_count 0 = .ok (.iload_n 1, 1) := by decide +kernel
theorem dX6_count_1 : decode cX6_count 1 = .ok (.tableswitch 152 0 9 #[55, 80, 88, 96, 104, 112, 123, 131, 139, 144], 55) := by decide +kernel
theorem dX6_count_56 : decode cX6_count 56 = .ok (.aload_n 0, 1) := by decide +kernel
theorem dX6_count_57 : decode cX6_count 57 = .ok (.getfield 26, 3) := by decide +kernel
theorem dX6_count_60 : decode cX6_count 60 = .ok (.invokevirtual 125, 3) := by decide +kernel
theorem dX6_count_63 : decode cX6_count 63 = .ok (.ifCond .eq 7, 3) := by decide +kernel
theorem dX6_count_66 : decode cX6_count 66 = .ok (.iconst 0, 1) := by decide +kernel
theorem dX6_count_67 : decode cX6_count 67 = .ok (.goto 13, 3) := by decide +kernel
theorem dX6_count_70 : decode cX6_count 70 = .ok (.aload_n 0, 1) := by decide +kernel
theorem dX6_count_71 : decode cX6_count 71 = .ok (.getfield 26, 3) := by decide +kernel
theorem dX6_count_74 : decode cX6_count 74 = .ok (.getfield 104, 3) := by decide +kernel
theorem dX6_count_77 : decode cX6_count 77 = .ok (.getfield 78, 3) := by decide +kernel
theorem dX6_count_80 : decode cX6_count 80 = .ok (.ireturn, 1) := by decide +kernel
theorem dX6_count_81 : decode cX6_count 81 = .ok (.aload_n 0, 1) := by decide +kernel
theorem dX6_count_82 : decode cX6_count 82 = .ok (.getfield 26, 3) := by decide +kernel
theorem dX6_count_85 : decode cX6_count 85 = .ok (.getfield 133, 3) := by decide +kernel
theorem dX6_count_88 : decode cX6_count 88 = .ok (.ireturn, 1) := by decide +kernel
theorem dX6_count_89 : decode cX6_count 89 = .ok (.aload_n 0, 1) := by decide +kernel
theorem dX6_count_90 : decode cX6_count 90 = .ok (.getfield 26, 3) := by decide +kernel
theorem dX6_count_93 : decode cX6_count 93 = .ok (.getfield 98, 3) := by decide +kernel
theorem dX6_count_96 : decode cX6_count 96 = .ok (.ireturn, 1) := by decide +kernel
theorem dX6_count_97 : decode cX6_count 97 = .ok (.aload_n 0, 1) := by decide +kernel
theorem dX6_count_98 : decode cX6_count 98 = .ok (.getfield 26, 3) := by decide +kernel
theorem dX6_count_101 : decode cX6_count 101 = .ok (.invokevirtual 220, 3) := by decide +kernel
theorem dX6_count_104 : decode cX6_count 104 = .ok (.ireturn, 1) := by decide +kernel
theorem dX6_count_105 : decode cX6_count 105 = .ok (.aload_n 0, 1) := by decide +kernel
theorem dX6_count_106 : decode cX6_count 106 = .ok (.getfield 26, 3) := by decide +kernel
theorem dX6_count_109 : decode cX6_count 109 = .ok (.invokevirtual 224, 3) := by decide +kernel
theorem dX6_count_112 : decode cX6_count 112 = .ok (.ireturn, 1) := by decide +kernel
theorem dX6_count_113 : decode cX6_count 113 = .ok (.aload_n 0, 1) := by decide +kernel
theorem dX6_count_114 : decode cX6_count 114 = .ok (.getfield 26, 3) := by decide +kernel
theorem dX6_count_117 : decode cX6_count 117 = .ok (.getfield 140, 3) := by decide +kernel
theorem dX6_count_120 : decode cX6_count 120 = .ok (.getfield 227, 3) := by decide +kernel
theorem dX6_count_123 : decode cX6_count 123 = .ok (.ireturn, 1) := by decide +kernel
theorem dX6_count_124 : decode cX6_count 124 = .ok (.aload_n 0, 1) := by decide +kernel
theorem dX6_count_125 : decode cX6_count 125 = .ok (.getfield 26, 3) := by decide +kernel
theorem dX6_count_128 : decode cX6_count 128 = .ok (.invokevirtual 228, 3) := by decide +kernel
theorem dX6_count_131 : decode cX6_count 131 = .ok (.ireturn, 1) := by decide +kernel
theorem dX6_count_132 : decode cX6_count 132 = .ok (.aload_n 0, 1) := by decide +kernel
theorem dX6_count_133 : decode cX6_count 133 = .ok (.getfield 33, 3) := by decide +kernel
theorem dX6_count_136 : decode cX6_count 136 = .ok (.getfield 115, 3) := by decide +kernel
theorem dX6_count_139 : decode cX6_count 139 = .ok (.ireturn, 1) := by decide +kernel
theorem dX6_count_140 : decode cX6_count 140 = .ok (.aload_n 0, 1) := by decide +kernel
theorem dX6_count_141 : decode cX6_count 141 = .ok (.invokevirtual 231, 3) := by decide +kernel
theorem dX6_count_144 : decode cX6_count 144 = .ok (.ireturn, 1) := by decide +kernel
theorem dX6_count_145 : decode cX6_count 145 = .ok (.aload_n 0, 1) := by decide +kernel
theorem dX6_count_146 : decode cX6_count 146 = .ok (.getfield 40, 3) := by decide +kernel
theorem dX6_count_149 : decode cX6_count 149 = .ok (.getfield 196, 3) := by decide +kernel
theorem dX6_count_152 : decode cX6_count 152 = .ok (.ireturn, 1) := by decide +kernel
theorem dX6_count_153 : decode cX6_count 153 = .ok (.iconst (-1), 1) := by decide +kernel
theorem dX6_count_154 : decode cX6_count 154 = .ok (.ireturn, 1) := by decide +kernel
theorem dX6_finding_0 : decode cX6_finding 0 = .ok (.aload_n 0, 1) := by decide +kernel
theorem dX6_finding_1 : decode cX6_finding 1 = .ok (.getfield 48, 3) := by decide +kernel
theorem dX6_finding_4 : decode cX6_finding 4 = .ok (.ireturn, 1) := by decide +kernel
theorem dX6_findings_0 : decode cX6_findings 0 = .ok (.iload_n 1, 1) := by decide +kernel
theorem dX6_findings_1 : decode cX6_findings 1 = .ok (.iconst 1, 1) := by decide +kernel
theorem dX6_findings_2 : decode cX6_findings 2 = .ok (.if_icmp .lt 8, 3) := by decide +kernel
theorem dX6_findings_5 : decode cX6_findings 5 = .ok (.iload_n 1, 1) := by decide +kernel
theorem dX6_findings_6 : decode cX6_findings 6 = .ok (.iconst 4, 1) := by decide +kernel
theorem dX6_findings_7 : decode cX6_findings 7 = .ok (.if_icmp .le 7, 3) := by decide +kernel
theorem dX6_findings_10 : decode cX6_findings 10 = .ok (.iconst (-1), 1) := by decide +kernel
theorem dX6_findings_11 : decode cX6_findings 11 = .ok (.goto 9, 3) := by decide +kernel
theorem dX6_findings_14 : decode cX6_findings 14 = .ok (.aload_n 0, 1) := by decide +kernel
theorem dX6_findings_15 : decode cX6_findings 15 = .ok (.getfield 44, 3) := by decide +kernel
theorem dX6_findings_18 : decode cX6_findings 18 = .ok (.iload_n 1, 1) := by decide +kernel
theorem dX6_findings_19 : decode cX6_findings 19 = .ok (.iaload, 1) := by decide +kernel
theorem dX6_findings_20 : decode cX6_findings 20 = .ok (.ireturn, 1) := by decide +kernel
theorem dX6_digest_0 : decode cX6_digest 0 = .ok (.ldc2_w 234, 3) := by decide +kernel
theorem dX6_digest_3 : decode cX6_digest 3 = .ok (.lstore_n 1, 1) := by decide +kernel
theorem dX6_digest_4 : decode cX6_digest 4 = .ok (.iconst 0, 1) := by decide +kernel
theorem dX6_digest_5 : decode cX6_digest 5 = .ok (.istore_n 3, 1) := by decide +kernel
theorem dX6_digest_6 : decode cX6_digest 6 = .ok (.iload_n 3, 1) := by decide +kernel
theorem dX6_digest_7 : decode cX6_digest 7 = .ok (.bipush 10, 2) := by decide +kernel
theorem dX6_digest_9 : decode cX6_digest 9 = .ok (.if_icmp .ge 22, 3) := by decide +kernel
theorem dX6_digest_12 : decode cX6_digest 12 = .ok (.ldc2_w 236, 3) := by decide +kernel
theorem dX6_digest_15 : decode cX6_digest 15 = .ok (.lload_n 1, 1) := by decide +kernel
theorem dX6_digest_16 : decode cX6_digest 16 = .ok (.lmul, 1) := by decide +kernel
theorem dX6_digest_17 : decode cX6_digest 17 = .ok (.aload_n 0, 1) := by decide +kernel
theorem dX6_digest_18 : decode cX6_digest 18 = .ok (.iload_n 3, 1) := by decide +kernel
theorem dX6_digest_19 : decode cX6_digest 19 = .ok (.invokevirtual 238, 3) := by decide +kernel
theorem dX6_digest_22 : decode cX6_digest 22 = .ok (.i2l, 1) := by decide +kernel
theorem dX6_digest_23 : decode cX6_digest 23 = .ok (.ladd, 1) := by decide +kernel
theorem dX6_digest_24 : decode cX6_digest 24 = .ok (.lstore_n 1, 1) := by decide +kernel
theorem dX6_digest_25 : decode cX6_digest 25 = .ok (.iinc 3 1, 3) := by decide +kernel
theorem dX6_digest_28 : decode cX6_digest 28 = .ok (.goto (-22), 3) := by decide +kernel
theorem dX6_digest_31 : decode cX6_digest 31 = .ok (.aload_n 0, 1) := by decide +kernel
theorem dX6_digest_32 : decode cX6_digest 32 = .ok (.getfield 26, 3) := by decide +kernel
theorem dX6_digest_35 : decode cX6_digest 35 = .ok (.getfield 104, 3) := by decide +kernel
theorem dX6_digest_38 : decode cX6_digest 38 = .ok (.lload_n 1, 1) := by decide +kernel
theorem dX6_digest_39 : decode cX6_digest 39 = .ok (.invokevirtual 241, 3) := by decide +kernel
theorem dX6_digest_42 : decode cX6_digest 42 = .ok (.lstore_n 1, 1) := by decide +kernel
theorem dX6_digest_43 : decode cX6_digest 43 = .ok (.iconst 0, 1) := by decide +kernel
theorem dX6_digest_44 : decode cX6_digest 44 = .ok (.istore_n 3, 1) := by decide +kernel
theorem dX6_digest_45 : decode cX6_digest 45 = .ok (.iload_n 3, 1) := by decide +kernel
theorem dX6_digest_46 : decode cX6_digest 46 = .ok (.aload_n 0, 1) := by decide +kernel
theorem dX6_digest_47 : decode cX6_digest 47 = .ok (.getfield 26, 3) := by decide +kernel
theorem dX6_digest_50 : decode cX6_digest 50 = .ok (.getfield 98, 3) := by decide +kernel
theorem dX6_digest_53 : decode cX6_digest 53 = .ok (.if_icmp .ge 26, 3) := by decide +kernel
theorem dX6_digest_56 : decode cX6_digest 56 = .ok (.ldc2_w 236, 3) := by decide +kernel
theorem dX6_digest_59 : decode cX6_digest 59 = .ok (.lload_n 1, 1) := by decide +kernel
theorem dX6_digest_60 : decode cX6_digest 60 = .ok (.lmul, 1) := by decide +kernel
theorem dX6_digest_61 : decode cX6_digest 61 = .ok (.aload_n 0, 1) := by decide +kernel
theorem dX6_digest_62 : decode cX6_digest 62 = .ok (.getfield 26, 3) := by decide +kernel
theorem dX6_digest_65 : decode cX6_digest 65 = .ok (.getfield 137, 3) := by decide +kernel
theorem dX6_digest_68 : decode cX6_digest 68 = .ok (.iload_n 3, 1) := by decide +kernel
theorem dX6_digest_69 : decode cX6_digest 69 = .ok (.iaload, 1) := by decide +kernel
theorem dX6_digest_70 : decode cX6_digest 70 = .ok (.i2l, 1) := by decide +kernel
theorem dX6_digest_71 : decode cX6_digest 71 = .ok (.ladd, 1) := by decide +kernel
theorem dX6_digest_72 : decode cX6_digest 72 = .ok (.lstore_n 1, 1) := by decide +kernel
theorem dX6_digest_73 : decode cX6_digest 73 = .ok (.iinc 3 1, 3) := by decide +kernel
theorem dX6_digest_76 : decode cX6_digest 76 = .ok (.goto (-31), 3) := by decide +kernel
theorem dX6_digest_79 : decode cX6_digest 79 = .ok (.iconst 0, 1) := by decide +kernel
theorem dX6_digest_80 : decode cX6_digest 80 = .ok (.istore_n 3, 1) := by decide +kernel
theorem dX6_digest_81 : decode cX6_digest 81 = .ok (.iload_n 3, 1) := by decide +kernel
theorem dX6_digest_82 : decode cX6_digest 82 = .ok (.iconst 4, 1) := by decide +kernel
theorem dX6_digest_83 : decode cX6_digest 83 = .ok (.if_icmp .ge 37, 3) := by decide +kernel
theorem dX6_digest_86 : decode cX6_digest 86 = .ok (.ldc2_w 236, 3) := by decide +kernel
theorem dX6_digest_89 : decode cX6_digest 89 = .ok (.lload_n 1, 1) := by decide +kernel
theorem dX6_digest_90 : decode cX6_digest 90 = .ok (.lmul, 1) := by decide +kernel
theorem dX6_digest_91 : decode cX6_digest 91 = .ok (.aload_n 0, 1) := by decide +kernel
theorem dX6_digest_92 : decode cX6_digest 92 = .ok (.getfield 11, 3) := by decide +kernel
theorem dX6_digest_95 : decode cX6_digest 95 = .ok (.iload_n 3, 1) := by decide +kernel
theorem dX6_digest_96 : decode cX6_digest 96 = .ok (.aaload, 1) := by decide +kernel
theorem dX6_digest_97 : decode cX6_digest 97 = .ok (.getfield 78, 3) := by decide +kernel
theorem dX6_digest_100 : decode cX6_digest 100 = .ok (.i2l, 1) := by decide +kernel
theorem dX6_digest_101 : decode cX6_digest 101 = .ok (.ladd, 1) := by decide +kernel
theorem dX6_digest_102 : decode cX6_digest 102 = .ok (.lstore_n 1, 1) := by decide +kernel
theorem dX6_digest_103 : decode cX6_digest 103 = .ok (.aload_n 0, 1) := by decide +kernel
theorem dX6_digest_104 : decode cX6_digest 104 = .ok (.getfield 11, 3) := by decide +kernel
theorem dX6_digest_107 : decode cX6_digest 107 = .ok (.iload_n 3, 1) := by decide +kernel
theorem dX6_digest_108 : decode cX6_digest 108 = .ok (.aaload, 1) := by decide +kernel
theorem dX6_digest_109 : decode cX6_digest 109 = .ok (.lload_n 1, 1) := by decide +kernel
theorem dX6_digest_110 : decode cX6_digest 110 = .ok (.invokevirtual 241, 3) := by decide +kernel
theorem dX6_digest_113 : decode cX6_digest 113 = .ok (.lstore_n 1, 1) := by decide +kernel
theorem dX6_digest_114 : decode cX6_digest 114 = .ok (.iinc 3 1, 3) := by decide +kernel
theorem dX6_digest_117 : decode cX6_digest 117 = .ok (.goto (-36), 3) := by decide +kernel
theorem dX6_digest_120 : decode cX6_digest 120 = .ok (.lload_n 1, 1) := by decide +kernel
theorem dX6_digest_121 : decode cX6_digest 121 = .ok (.lreturn, 1) := by decide +kernel
theorem dX6_refuse_0 : decode cX6_refuse 0 = .ok (.aload_n 0, 1) := by decide +kernel
theorem dX6_refuse_1 : decode cX6_refuse 1 = .ok (.iload_n 1, 1) := by decide +kernel
theorem dX6_refuse_2 : decode cX6_refuse 2 = .ok (.putfield 48, 3) := by decide +kernel
theorem dX6_refuse_5 : decode cX6_refuse 5 = .ok (.aload_n 0, 1) := by decide +kernel
theorem dX6_refuse_6 : decode cX6_refuse 6 = .ok (.getfield 44, 3) := by decide +kernel
theorem dX6_refuse_9 : decode cX6_refuse 9 = .ok (.iload_n 1, 1) := by decide +kernel
theorem dX6_refuse_10 : decode cX6_refuse 10 = .ok (.dup2, 1) := by decide +kernel
theorem dX6_refuse_11 : decode cX6_refuse 11 = .ok (.iaload, 1) := by decide +kernel
theorem dX6_refuse_12 : decode cX6_refuse 12 = .ok (.iconst 1, 1) := by decide +kernel
theorem dX6_refuse_13 : decode cX6_refuse 13 = .ok (.iadd, 1) := by decide +kernel
theorem dX6_refuse_14 : decode cX6_refuse 14 = .ok (.iastore, 1) := by decide +kernel
theorem dX6_refuse_15 : decode cX6_refuse 15 = .ok (.bipush (-3), 2) := by decide +kernel
theorem dX6_refuse_17 : decode cX6_refuse 17 = .ok (.ireturn, 1) := by decide +kernel
theorem dX6_isNoRow_0 : decode cX6_isNoRow 0 = .ok (.iload_n 0, 1) := by decide +kernel
theorem dX6_isNoRow_1 : decode cX6_isNoRow 1 = .ok (.ifCond .lt 8, 3) := by decide +kernel
theorem dX6_isNoRow_4 : decode cX6_isNoRow 4 = .ok (.iload_n 0, 1) := by decide +kernel
theorem dX6_isNoRow_5 : decode cX6_isNoRow 5 = .ok (.iconst 4, 1) := by decide +kernel
theorem dX6_isNoRow_6 : decode cX6_isNoRow 6 = .ok (.if_icmp .lt 7, 3) := by decide +kernel
theorem dX6_isNoRow_9 : decode cX6_isNoRow 9 = .ok (.iconst 1, 1) := by decide +kernel
theorem dX6_isNoRow_10 : decode cX6_isNoRow 10 = .ok (.goto 4, 3) := by decide +kernel
theorem dX6_isNoRow_13 : decode cX6_isNoRow 13 = .ok (.iconst 0, 1) := by decide +kernel
theorem dX6_isNoRow_14 : decode cX6_isNoRow 14 = .ok (.ireturn, 1) := by decide +kernel
theorem dX6_isNoImage_0 : decode cX6_isNoImage 0 = .ok (.iload_n 0, 1) := by decide +kernel
theorem dX6_isNoImage_1 : decode cX6_isNoImage 1 = .ok (.ifCond .lt 8, 3) := by decide +kernel
theorem dX6_isNoImage_4 : decode cX6_isNoImage 4 = .ok (.iload_n 0, 1) := by decide +kernel
theorem dX6_isNoImage_5 : decode cX6_isNoImage 5 = .ok (.iconst 2, 1) := by decide +kernel
theorem dX6_isNoImage_6 : decode cX6_isNoImage 6 = .ok (.if_icmp .lt 7, 3) := by decide +kernel
theorem dX6_isNoImage_9 : decode cX6_isNoImage 9 = .ok (.iconst 1, 1) := by decide +kernel
theorem dX6_isNoImage_10 : decode cX6_isNoImage 10 = .ok (.goto 4, 3) := by decide +kernel
theorem dX6_isNoImage_13 : decode cX6_isNoImage 13 = .ok (.iconst 0, 1) := by decide +kernel
theorem dX6_isNoImage_14 : decode cX6_isNoImage 14 = .ok (.ireturn, 1) := by decide +kernel
theorem dX6_refusalOfPlace_0 : decode cX6_refusalOfPlace 0 = .ok (.iload_n 1, 1) := by decide +kernel
theorem dX6_refusalOfPlace_1 : decode cX6_refusalOfPlace 1 = .ok (.invokestatic 55, 3) := by decide +kernel
theorem dX6_refusalOfPlace_4 : decode cX6_refusalOfPlace 4 = .ok (.ifCond .eq 5, 3) := by decide +kernel
theorem dX6_refusalOfPlace_7 : decode cX6_refusalOfPlace 7 = .ok (.iconst (-1), 1) := by decide +kernel
theorem dX6_refusalOfPlace_8 : decode cX6_refusalOfPlace 8 = .ok (.ireturn, 1) := by decide +kernel
theorem dX6_refusalOfPlace_9 : decode cX6_refusalOfPlace 9 = .ok (.aload_n 0, 1) := by decide +kernel
theorem dX6_refusalOfPlace_10 : decode cX6_refusalOfPlace 10 = .ok (.getfield 11, 3) := by decide +kernel
theorem dX6_refusalOfPlace_13 : decode cX6_refusalOfPlace 13 = .ok (.iload_n 1, 1) := by decide +kernel
theorem dX6_refusalOfPlace_14 : decode cX6_refusalOfPlace 14 = .ok (.aaload, 1) := by decide +kernel
theorem dX6_refusalOfPlace_15 : decode cX6_refusalOfPlace 15 = .ok (.invokevirtual 74, 3) := by decide +kernel
theorem dX6_refusalOfPlace_18 : decode cX6_refusalOfPlace 18 = .ok (.ifCond .eq 9, 3) := by decide +kernel
theorem dX6_refusalOfPlace_21 : decode cX6_refusalOfPlace 21 = .ok (.aload_n 0, 1) := by decide +kernel
theorem dX6_refusalOfPlace_22 : decode cX6_refusalOfPlace 22 = .ok (.iconst 1, 1) := by decide +kernel
theorem dX6_refusalOfPlace_23 : decode cX6_refusalOfPlace 23 = .ok (.invokevirtual 59, 3) := by decide +kernel
theorem dX6_refusalOfPlace_26 : decode cX6_refusalOfPlace 26 = .ok (.ireturn, 1) := by decide +kernel
theorem dX6_refusalOfPlace_27 : decode cX6_refusalOfPlace 27 = .ok (.aload_n 0, 1) := by decide +kernel
theorem dX6_refusalOfPlace_28 : decode cX6_refusalOfPlace 28 = .ok (.getfield 11, 3) := by decide +kernel
theorem dX6_refusalOfPlace_31 : decode cX6_refusalOfPlace 31 = .ok (.iload_n 1, 1) := by decide +kernel
theorem dX6_refusalOfPlace_32 : decode cX6_refusalOfPlace 32 = .ok (.aaload, 1) := by decide +kernel
theorem dX6_refusalOfPlace_33 : decode cX6_refusalOfPlace 33 = .ok (.iload_n 2, 1) := by decide +kernel
theorem dX6_refusalOfPlace_34 : decode cX6_refusalOfPlace 34 = .ok (.invokevirtual 245, 3) := by decide +kernel
theorem dX6_refusalOfPlace_37 : decode cX6_refusalOfPlace 37 = .ok (.ifCond .eq 11, 3) := by decide +kernel
theorem dX6_refusalOfPlace_40 : decode cX6_refusalOfPlace 40 = .ok (.aload_n 0, 1) := by decide +kernel
theorem dX6_refusalOfPlace_41 : decode cX6_refusalOfPlace 41 = .ok (.iconst 2, 1) := by decide +kernel
theorem dX6_refusalOfPlace_42 : decode cX6_refusalOfPlace 42 = .ok (.invokevirtual 59, 3) := by decide +kernel
theorem dX6_refusalOfPlace_45 : decode cX6_refusalOfPlace 45 = .ok (.goto 4, 3) := by decide +kernel
theorem dX6_refusalOfPlace_48 : decode cX6_refusalOfPlace 48 = .ok (.iconst 0, 1) := by decide +kernel
theorem dX6_refusalOfPlace_49 : decode cX6_refusalOfPlace 49 = .ok (.ireturn, 1) := by decide +kernel
theorem dX6_refusalOfItem_0 : decode cX6_refusalOfItem 0 = .ok (.aload_n 0, 1) := by decide +kernel
theorem dX6_refusalOfItem_1 : decode cX6_refusalOfItem 1 = .ok (.iload_n 1, 1) := by decide +kernel
theorem dX6_refusalOfItem_2 : decode cX6_refusalOfItem 2 = .ok (.iload_n 1, 1) := by decide +kernel
theorem dX6_refusalOfItem_3 : decode cX6_refusalOfItem 3 = .ok (.invokevirtual 158, 3) := by decide +kernel
theorem dX6_refusalOfItem_6 : decode cX6_refusalOfItem 6 = .ok (.ireturn, 1) := by decide +kernel
theorem dX6_refusalOfRun_0 : decode cX6_refusalOfRun 0 = .ok (.aload_n 0, 1) := by decide +kernel
theorem dX6_refusalOfRun_1 : decode cX6_refusalOfRun 1 = .ok (.getfield 26, 3) := by decide +kernel
theorem dX6_refusalOfRun_4 : decode cX6_refusalOfRun 4 = .ok (.invokevirtual 125, 3) := by decide +kernel
theorem dX6_refusalOfRun_7 : decode cX6_refusalOfRun 7 = .ok (.ifCond .eq 6, 3) := by decide +kernel
theorem dX6_refusalOfRun_10 : decode cX6_refusalOfRun 10 = .ok (.bipush (-2), 2) := by decide +kernel
theorem dX6_refusalOfRun_12 : decode cX6_refusalOfRun 12 = .ok (.ireturn, 1) := by decide +kernel
theorem dX6_refusalOfRun_13 : decode cX6_refusalOfRun 13 = .ok (.aload_n 0, 1) := by decide +kernel
theorem dX6_refusalOfRun_14 : decode cX6_refusalOfRun 14 = .ok (.getfield 26, 3) := by decide +kernel
theorem dX6_refusalOfRun_17 : decode cX6_refusalOfRun 17 = .ok (.getfield 104, 3) := by decide +kernel
theorem dX6_refusalOfRun_20 : decode cX6_refusalOfRun 20 = .ok (.iload_n 1, 1) := by decide +kernel
theorem dX6_refusalOfRun_21 : decode cX6_refusalOfRun 21 = .ok (.invokevirtual 245, 3) := by decide +kernel
theorem dX6_refusalOfRun_24 : decode cX6_refusalOfRun 24 = .ok (.ifCond .ne 22, 3) := by decide +kernel
theorem dX6_refusalOfRun_27 : decode cX6_refusalOfRun 27 = .ok (.aload_n 0, 1) := by decide +kernel
theorem dX6_refusalOfRun_28 : decode cX6_refusalOfRun 28 = .ok (.getfield 26, 3) := by decide +kernel
theorem dX6_refusalOfRun_31 : decode cX6_refusalOfRun 31 = .ok (.getfield 104, 3) := by decide +kernel
theorem dX6_refusalOfRun_34 : decode cX6_refusalOfRun 34 = .ok (.iload_n 2, 1) := by decide +kernel
theorem dX6_refusalOfRun_35 : decode cX6_refusalOfRun 35 = .ok (.invokevirtual 245, 3) := by decide +kernel
theorem dX6_refusalOfRun_38 : decode cX6_refusalOfRun 38 = .ok (.ifCond .ne 8, 3) := by decide +kernel
theorem dX6_refusalOfRun_41 : decode cX6_refusalOfRun 41 = .ok (.iload_n 2, 1) := by decide +kernel
theorem dX6_refusalOfRun_42 : decode cX6_refusalOfRun 42 = .ok (.iload_n 1, 1) := by decide +kernel
theorem dX6_refusalOfRun_43 : decode cX6_refusalOfRun 43 = .ok (.if_icmp .ge 11, 3) := by decide +kernel
theorem dX6_refusalOfRun_46 : decode cX6_refusalOfRun 46 = .ok (.aload_n 0, 1) := by decide +kernel
theorem dX6_refusalOfRun_47 : decode cX6_refusalOfRun 47 = .ok (.iconst 2, 1) := by decide +kernel
theorem dX6_refusalOfRun_48 : decode cX6_refusalOfRun 48 = .ok (.invokevirtual 59, 3) := by decide +kernel
theorem dX6_refusalOfRun_51 : decode cX6_refusalOfRun 51 = .ok (.goto 4, 3) := by decide +kernel
theorem dX6_refusalOfRun_54 : decode cX6_refusalOfRun 54 = .ok (.iconst 0, 1) := by decide +kernel
theorem dX6_refusalOfRun_55 : decode cX6_refusalOfRun 55 = .ok (.ireturn, 1) := by decide +kernel
theorem dX6_refusalOfNodes_0 : decode cX6_refusalOfNodes 0 = .ok (.aload_n 0, 1) := by decide +kernel
theorem dX6_refusalOfNodes_1 : decode cX6_refusalOfNodes 1 = .ok (.getfield 40, 3) := by decide +kernel
theorem dX6_refusalOfNodes_4 : decode cX6_refusalOfNodes 4 = .ok (.getfield 196, 3) := by decide +kernel
theorem dX6_refusalOfNodes_7 : decode cX6_refusalOfNodes 7 = .ok (.ifCond .ne 6, 3) := by decide +kernel
theorem dX6_refusalOfNodes_10 : decode cX6_refusalOfNodes 10 = .ok (.bipush (-2), 2) := by decide +kernel
theorem dX6_refusalOfNodes_12 : decode cX6_refusalOfNodes 12 = .ok (.ireturn, 1) := by decide +kernel
theorem dX6_refusalOfNodes_13 : decode cX6_refusalOfNodes 13 = .ok (.aload_n 0, 1) := by decide +kernel
theorem dX6_refusalOfNodes_14 : decode cX6_refusalOfNodes 14 = .ok (.getfield 40, 3) := by decide +kernel
theorem dX6_refusalOfNodes_17 : decode cX6_refusalOfNodes 17 = .ok (.iload_n 1, 1) := by decide +kernel
theorem dX6_refusalOfNodes_18 : decode cX6_refusalOfNodes 18 = .ok (.invokevirtual 211, 3) := by decide +kernel
theorem dX6_refusalOfNodes_21 : decode cX6_refusalOfNodes 21 = .ok (.ifCond .ne 14, 3) := by decide +kernel
theorem dX6_refusalOfNodes_24 : decode cX6_refusalOfNodes 24 = .ok (.aload_n 0, 1) := by decide +kernel
theorem dX6_refusalOfNodes_25 : decode cX6_refusalOfNodes 25 = .ok (.getfield 40, 3) := by decide +kernel
theorem dX6_refusalOfNodes_28 : decode cX6_refusalOfNodes 28 = .ok (.iload_n 2, 1) := by decide +kernel
theorem dX6_refusalOfNodes_29 : decode cX6_refusalOfNodes 29 = .ok (.invokevirtual 211, 3) := by decide +kernel
theorem dX6_refusalOfNodes_32 : decode cX6_refusalOfNodes 32 = .ok (.ifCond .eq 11, 3) := by decide +kernel
theorem dX6_refusalOfNodes_35 : decode cX6_refusalOfNodes 35 = .ok (.aload_n 0, 1) := by decide +kernel
theorem dX6_refusalOfNodes_36 : decode cX6_refusalOfNodes 36 = .ok (.iconst 2, 1) := by decide +kernel
theorem dX6_refusalOfNodes_37 : decode cX6_refusalOfNodes 37 = .ok (.invokevirtual 59, 3) := by decide +kernel
theorem dX6_refusalOfNodes_40 : decode cX6_refusalOfNodes 40 = .ok (.goto 4, 3) := by decide +kernel
theorem dX6_refusalOfNodes_43 : decode cX6_refusalOfNodes 43 = .ok (.iconst 0, 1) := by decide +kernel
theorem dX6_refusalOfNodes_44 : decode cX6_refusalOfNodes 44 = .ok (.ireturn, 1) := by decide +kernel
theorem dX6_rowsThere_0 : decode cX6_rowsThere 0 = .ok (.iconst 0, 1) := by decide +kernel
theorem dX6_rowsThere_1 : decode cX6_rowsThere 1 = .ok (.istore_n 1, 1) := by decide +kernel
theorem dX6_rowsThere_2 : decode cX6_rowsThere 2 = .ok (.iconst 0, 1) := by decide +kernel
theorem dX6_rowsThere_3 : decode cX6_rowsThere 3 = .ok (.istore_n 2, 1) := by decide +kernel
theorem dX6_rowsThere_4 : decode cX6_rowsThere 4 = .ok (.iload_n 2, 1) := by decide +kernel
theorem dX6_rowsThere_5 : decode cX6_rowsThere 5 = .ok (.iconst 4, 1) := by decide +kernel
theorem dX6_rowsThere_6 : decode cX6_rowsThere 6 = .ok (.if_icmp .ge 24, 3) := by decide +kernel
theorem dX6_rowsThere_9 : decode cX6_rowsThere 9 = .ok (.aload_n 0, 1) := by decide +kernel
theorem dX6_rowsThere_10 : decode cX6_rowsThere 10 = .ok (.getfield 11, 3) := by decide +kernel
theorem dX6_rowsThere_13 : decode cX6_rowsThere 13 = .ok (.iload_n 2, 1) := by decide +kernel
theorem dX6_rowsThere_14 : decode cX6_rowsThere 14 = .ok (.aaload, 1) := by decide +kernel
theorem dX6_rowsThere_15 : decode cX6_rowsThere 15 = .ok (.invokevirtual 74, 3) := by decide +kernel
theorem dX6_rowsThere_18 : decode cX6_rowsThere 18 = .ok (.ifCond .ne 6, 3) := by decide +kernel
theorem dX6_rowsThere_21 : decode cX6_rowsThere 21 = .ok (.iinc 1 1, 3) := by decide +kernel
theorem dX6_rowsThere_24 : decode cX6_rowsThere 24 = .ok (.iinc 2 1, 3) := by decide +kernel
theorem dX6_rowsThere_27 : decode cX6_rowsThere 27 = .ok (.goto (-23), 3) := by decide +kernel
theorem dX6_rowsThere_30 : decode cX6_rowsThere 30 = .ok (.iload_n 1, 1) := by decide +kernel
theorem dX6_rowsThere_31 : decode cX6_rowsThere 31 = .ok (.ireturn, 1) := by decide +kernel
theorem dX7_init_0 : decode cX7_init 0 = .ok (.aload_n 0, 1) := by decide +kernel
theorem dX7_init_1 : decode cX7_init 1 = .ok (.invokespecial 1, 3) := by decide +kernel
theorem dX7_init_4 : decode cX7_init 4 = .ok (.aload_n 0, 1) := by decide +kernel
theorem dX7_init_5 : decode cX7_init 5 = .ok (.iconst 5, 1) := by decide +kernel
theorem dX7_init_6 : decode cX7_init 6 = .ok (.newarray .int, 2) := by decide +kernel
theorem dX7_init_8 : decode cX7_init 8 = .ok (.putfield 7, 3) := by decide +kernel
theorem dX7_init_11 : decode cX7_init 11 = .ok (.aload_n 0, 1) := by decide +kernel
theorem dX7_init_12 : decode cX7_init 12 = .ok (.sipush 192, 3) := by decide +kernel
theorem dX7_init_15 : decode cX7_init 15 = .ok (.newarray .int, 2) := by decide +kernel
theorem dX7_init_17 : decode cX7_init 17 = .ok (.putfield 13, 3) := by decide +kernel
theorem dX7_init_20 : decode cX7_init 20 = .ok (.aload_n 0, 1) := by decide +kernel
theorem dX7_init_21 : decode cX7_init 21 = .ok (.iconst 4, 1) := by decide +kernel
theorem dX7_init_22 : decode cX7_init 22 = .ok (.newarray .int, 2) := by decide +kernel
theorem dX7_init_24 : decode cX7_init 24 = .ok (.putfield 16, 3) := by decide +kernel
theorem dX7_init_27 : decode cX7_init 27 = .ok (.aload_n 0, 1) := by decide +kernel
theorem dX7_init_28 : decode cX7_init 28 = .ok (.bipush 48, 2) := by decide +kernel
theorem dX7_init_30 : decode cX7_init 30 = .ok (.newarray .int, 2) := by decide +kernel
theorem dX7_init_32 : decode cX7_init 32 = .ok (.putfield 19, 3) := by decide +kernel
theorem dX7_init_35 : decode cX7_init 35 = .ok (.aload_n 0, 1) := by decide +kernel
theorem dX7_init_36 : decode cX7_init 36 = .ok (.sipush 256, 3) := by decide +kernel
theorem dX7_init_39 : decode cX7_init 39 = .ok (.newarray .int, 2) := by decide +kernel
theorem dX7_init_41 : decode cX7_init 41 = .ok (.putfield 22, 3) := by decide +kernel
theorem dX7_init_44 : decode cX7_init 44 = .ok (.aload_n 0, 1) := by decide +kernel
theorem dX7_init_45 : decode cX7_init 45 = .ok (.bipush 10, 2) := by decide +kernel
theorem dX7_init_47 : decode cX7_init 47 = .ok (.newarray .int, 2) := by decide +kernel
theorem dX7_init_49 : decode cX7_init 49 = .ok (.putfield 25, 3) := by decide +kernel
theorem dX7_init_52 : decode cX7_init 52 = .ok (.aload_n 0, 1) := by decide +kernel
theorem dX7_init_53 : decode cX7_init 53 = .ok (.bipush 10, 2) := by decide +kernel
theorem dX7_init_55 : decode cX7_init 55 = .ok (.newarray .int, 2) := by decide +kernel
theorem dX7_init_57 : decode cX7_init 57 = .ok (.putfield 28, 3) := by decide +kernel
theorem dX7_init_60 : decode cX7_init 60 = .ok (.aload_n 0, 1) := by decide +kernel
theorem dX7_init_61 : decode cX7_init 61 = .ok (.bipush 96, 2) := by decide +kernel
theorem dX7_init_63 : decode cX7_init 63 = .ok (.newarray .int, 2) := by decide +kernel
theorem dX7_init_65 : decode cX7_init 65 = .ok (.putfield 31, 3) := by decide +kernel
theorem dX7_init_68 : decode cX7_init 68 = .ok (.aload_n 0, 1) := by decide +kernel
theorem dX7_init_69 : decode cX7_init 69 = .ok (.iconst 2, 1) := by decide +kernel
theorem dX7_init_70 : decode cX7_init 70 = .ok (.newarray .int, 2) := by decide +kernel
theorem dX7_init_72 : decode cX7_init 72 = .ok (.putfield 34, 3) := by decide +kernel
theorem dX7_init_75 : decode cX7_init 75 = .ok (.aload_n 0, 1) := by decide +kernel
theorem dX7_init_76 : decode cX7_init 76 = .ok (.iconst 2, 1) := by decide +kernel
theorem dX7_init_77 : decode cX7_init 77 = .ok (.newarray .int, 2) := by decide +kernel
theorem dX7_init_79 : decode cX7_init 79 = .ok (.putfield 37, 3) := by decide +kernel
theorem dX7_init_82 : decode cX7_init 82 = .ok (.aload_n 0, 1) := by decide +kernel
theorem dX7_init_83 : decode cX7_init 83 = .ok (.bipush 48, 2) := by decide +kernel
theorem dX7_init_85 : decode cX7_init 85 = .ok (.newarray .int, 2) := by decide +kernel
theorem dX7_init_87 : decode cX7_init 87 = .ok (.putfield 40, 3) := by decide +kernel
theorem dX7_init_90 : decode cX7_init 90 = .ok (.aload_n 0, 1) := by decide +kernel
theorem dX7_init_91 : decode cX7_init 91 = .ok (.bipush 24, 2) := by decide +kernel
theorem dX7_init_93 : decode cX7_init 93 = .ok (.newarray .int, 2) := by decide +kernel
theorem dX7_init_95 : decode cX7_init 95 = .ok (.putfield 43, 3) := by decide +kernel
theorem dX7_init_98 : decode cX7_init 98 = .ok (.iconst 0, 1) := by decide +kernel
theorem dX7_init_99 : decode cX7_init 99 = .ok (.istore_n 1, 1) := by decide +kernel
theorem dX7_init_100 : decode cX7_init 100 = .ok (.iload_n 1, 1) := by decide +kernel
theorem dX7_init_101 : decode cX7_init 101 = .ok (.iconst 4, 1) := by decide +kernel
theorem dX7_init_102 : decode cX7_init 102 = .ok (.if_icmp .ge 16, 3) := by decide +kernel
theorem dX7_init_105 : decode cX7_init 105 = .ok (.aload_n 0, 1) := by decide +kernel
theorem dX7_init_106 : decode cX7_init 106 = .ok (.getfield 16, 3) := by decide +kernel
theorem dX7_init_109 : decode cX7_init 109 = .ok (.iload_n 1, 1) := by decide +kernel
theorem dX7_init_110 : decode cX7_init 110 = .ok (.iconst (-1), 1) := by decide +kernel
theorem dX7_init_111 : decode cX7_init 111 = .ok (.iastore, 1) := by decide +kernel
theorem dX7_init_112 : decode cX7_init 112 = .ok (.iinc 1 1, 3) := by decide +kernel
theorem dX7_init_115 : decode cX7_init 115 = .ok (.goto (-15), 3) := by decide +kernel
theorem dX7_init_118 : decode cX7_init 118 = .ok (.return_, 1) := by decide +kernel
theorem dX7_in_0 : decode cX7_in 0 = .ok (.iload_n 0, 1) := by decide +kernel
theorem dX7_in_1 : decode cX7_in 1 = .ok (.iload_n 1, 1) := by decide +kernel
theorem dX7_in_2 : decode cX7_in 2 = .ok (.if_icmp .lt 12, 3) := by decide +kernel
theorem dX7_in_5 : decode cX7_in 5 = .ok (.iload_n 0, 1) := by decide +kernel
theorem dX7_in_6 : decode cX7_in 6 = .ok (.iload_n 2, 1) := by decide +kernel
theorem dX7_in_7 : decode cX7_in 7 = .ok (.if_icmp .gt 7, 3) := by decide +kernel
theorem dX7_in_10 : decode cX7_in 10 = .ok (.iconst 1, 1) := by decide +kernel
theorem dX7_in_11 : decode cX7_in 11 = .ok (.goto 4, 3) := by decide +kernel
theorem dX7_in_14 : decode cX7_in 14 = .ok (.iconst 0, 1) := by decide +kernel
theorem dX7_in_15 : decode cX7_in 15 = .ok (.ireturn, 1) := by decide +kernel
theorem dX7_found_0 : decode cX7_found 0 = .ok (.aload_n 0, 1) := by decide +kernel
theorem dX7_found_1 : decode cX7_found 1 = .ok (.iload_n 1, 1) := by decide +kernel
theorem dX7_found_2 : decode cX7_found 2 = .ok (.putfield 50, 3) := by decide +kernel
theorem dX7_found_5 : decode cX7_found 5 = .ok (.aload_n 0, 1) := by decide +kernel
theorem dX7_found_6 : decode cX7_found 6 = .ok (.getfield 7, 3) := by decide +kernel
theorem dX7_found_9 : decode cX7_found 9 = .ok (.iload_n 1, 1) := by decide +kernel
theorem dX7_found_10 : decode cX7_found 10 = .ok (.dup2, 1) := by decide +kernel
theorem dX7_found_11 : decode cX7_found 11 = .ok (.iaload, 1) := by decide +kernel
theorem dX7_found_12 : decode cX7_found 12 = .ok (.iconst 1, 1) := by decide +kernel
theorem dX7_found_13 : decode cX7_found 13 = .ok (.iadd, 1) := by decide +kernel
theorem dX7_found_14 : decode cX7_found 14 = .ok (.iastore, 1) := by decide +kernel
theorem dX7_found_15 : decode cX7_found 15 = .ok (.bipush (-3), 2) := by decide +kernel
theorem dX7_found_17 : decode cX7_found 17 = .ok (.ireturn, 1) := by decide +kernel
theorem dX7_tells_0 : decode cX7_tells 0 = .ok (.aload_n 0, 1) := by decide +kernel
theorem dX7_tells_1 : decode cX7_tells 1 = .ok (.iload_n 2, 1) := by decide +kernel
theorem dX7_tells_2 : decode cX7_tells 2 = .ok (.putfield 53, 3) := by decide +kernel
theorem dX7_tells_5 : decode cX7_tells 5 = .ok (.iload_n 1, 1) := by decide +kernel
theorem dX7_tells_6 : decode cX7_tells 6 = .ok (.ireturn, 1) := by decide +kernel
theorem dX7_isRow_0 : decode cX7_isRow 0 = .ok (.iload_n 0, 1) := by decide +kernel
theorem dX7_isRow_1 : decode cX7_isRow 1 = .ok (.iconst 0, 1) := by decide +kernel
theorem dX7_isRow_2 : decode cX7_isRow 2 = .ok (.iconst 3, 1) := by decide +kernel
theorem dX7_isRow_3 : decode cX7_isRow 3 = .ok (.invokestatic 56, 3) := by decide +kernel
theorem dX7_isRow_6 : decode cX7_isRow 6 = .ok (.ireturn, 1) := by decide +kernel
theorem dX7_row_0 : decode cX7_row 0 = .ok (.aload_n 0, 1) := by decide +kernel
theorem dX7_row_1 : decode cX7_row 1 = .ok (.iconst 0, 1) := by decide +kernel
theorem dX7_row_2 : decode cX7_row 2 = .ok (.putfield 46, 3) := by decide +kernel
theorem dX7_row_5 : decode cX7_row 5 = .ok (.iload_n 1, 1) := by decide +kernel
theorem dX7_row_6 : decode cX7_row 6 = .ok (.invokestatic 60, 3) := by decide +kernel
theorem dX7_row_9 : decode cX7_row 9 = .ok (.ifCond .eq 9, 3) := by decide +kernel
theorem dX7_row_12 : decode cX7_row 12 = .ok (.iload_n 2, 1) := by decide +kernel
theorem dX7_row_13 : decode cX7_row 13 = .ok (.bipush 48, 2) := by decide +kernel
theorem dX7_row_15 : decode cX7_row 15 = .ok (.if_icmp .le 5, 3) := by decide +kernel
theorem dX7_row_18 : decode cX7_row 18 = .ok (.iconst (-1), 1) := by decide +kernel
theorem dX7_row_19 : decode cX7_row 19 = .ok (.ireturn, 1) := by decide +kernel
theorem dX7_row_20 : decode cX7_row 20 = .ok (.iload_n 2, 1) := by decide +kernel
theorem dX7_row_21 : decode cX7_row 21 = .ok (.ifCond .ge 9, 3) := by decide +kernel
theorem dX7_row_24 : decode cX7_row 24 = .ok (.aload_n 0, 1) := by decide +kernel
theorem dX7_row_25 : decode cX7_row 25 = .ok (.iconst 3, 1) := by decide +kernel
theorem dX7_row_26 : decode cX7_row 26 = .ok (.invokevirtual 64, 3) := by decide +kernel
theorem dX7_row_29 : decode cX7_row 29 = .ok (.ireturn, 1) := by decide +kernel
theorem dX7_row_30 : decode cX7_row 30 = .ok (.aload_n 0, 1) := by decide +kernel
theorem dX7_row_31 : decode cX7_row 31 = .ok (.getfield 16, 3) := by decide +kernel
theorem dX7_row_34 : decode cX7_row 34 = .ok (.iload_n 1, 1) := by decide +kernel
theorem dX7_row_35 : decode cX7_row 35 = .ok (.iload_n 2, 1) := by decide +kernel
theorem dX7_row_36 : decode cX7_row 36 = .ok (.iastore, 1) := by decide +kernel
theorem dX7_row_37 : decode cX7_row 37 = .ok (.iconst 0, 1) := by decide +kernel
theorem dX7_row_38 : decode cX7_row 38 = .ok (.istore_n 3, 1) := by decide +kernel
theorem dX7_row_39 : decode cX7_row 39 = .ok (.iload_n 3, 1) := by decide +kernel
theorem dX7_row_40 : decode cX7_row 40 = .ok (.iload_n 2, 1) := by decide +kernel
theorem dX7_row_41 : decode cX7_row 41 = .ok (.if_icmp .ge 21, 3) := by decide +kernel
theorem dX7_row_44 : decode cX7_row 44 = .ok (.aload_n 0, 1) := by decide +kernel
theorem dX7_row_45 : decode cX7_row 45 = .ok (.getfield 13, 3) := by decide +kernel
theorem dX7_row_48 : decode cX7_row 48 = .ok (.bipush 48, 2) := by decide +kernel
theorem dX7_row_50 : decode cX7_row 50 = .ok (.iload_n 1, 1) := by decide +kernel
theorem dX7_row_51 : decode cX7_row 51 = .ok (.imul, 1) := by decide +kernel
theorem dX7_row_52 : decode cX7_row 52 = .ok (.iload_n 3, 1) := by decide +kernel
theorem dX7_row_53 : decode cX7_row 53 = .ok (.iadd, 1) := by decide +kernel
theorem dX7_row_54 : decode cX7_row 54 = .ok (.iconst 0, 1) := by decide +kernel
theorem dX7_row_55 : decode cX7_row 55 = .ok (.iastore, 1) := by decide +kernel
theorem dX7_row_56 : decode cX7_row 56 = .ok (.iinc 3 1, 3) := by decide +kernel
theorem dX7_row_59 : decode cX7_row 59 = .ok (.goto (-20), 3) := by decide +kernel
theorem dX7_row_62 : decode cX7_row 62 = .ok (.iload_n 2, 1) := by decide +kernel
theorem dX7_row_63 : decode cX7_row 63 = .ok (.ireturn, 1) := by decide +kernel
theorem dX7_against_0 : decode cX7_against 0 = .ok (.iload_n 1, 1) := by decide +kernel
theorem dX7_against_1 : decode cX7_against 1 = .ok (.invokestatic 60, 3) := by decide +kernel
theorem dX7_against_4 : decode cX7_against 4 = .ok (.ifCond .ne 7, 3) := by decide +kernel
theorem dX7_against_7 : decode cX7_against 7 = .ok (.iconst (-1), 1) := by decide +kernel
theorem dX7_against_8 : decode cX7_against 8 = .ok (.goto 45, 3) := by decide +kernel
theorem dX7_against_11 : decode cX7_against 11 = .ok (.aload_n 0, 1) := by decide +kernel
theorem dX7_against_12 : decode cX7_against 12 = .ok (.getfield 16, 3) := by decide +kernel
theorem dX7_against_15 : decode cX7_against 15 = .ok (.iload_n 1, 1) := by decide +kernel
theorem dX7_against_16 : decode cX7_against 16 = .ok (.iaload, 1) := by decide +kernel
theorem dX7_against_17 : decode cX7_against 17 = .ok (.ifCond .ge 11, 3) := by decide +kernel
theorem dX7_against_20 : decode cX7_against 20 = .ok (.aload_n 0, 1) := by decide +kernel
theorem dX7_against_21 : decode cX7_against 21 = .ok (.iconst 1, 1) := by decide +kernel
theorem dX7_against_22 : decode cX7_against 22 = .ok (.invokevirtual 64, 3) := by decide +kernel
theorem dX7_against_25 : decode cX7_against 25 = .ok (.goto 28, 3) := by decide +kernel
theorem dX7_against_28 : decode cX7_against 28 = .ok (.iload_n 2, 1) := by decide +kernel
theorem dX7_against_29 : decode cX7_against 29 = .ok (.iconst 0, 1) := by decide +kernel
theorem dX7_against_30 : decode cX7_against 30 = .ok (.aload_n 0, 1) := by decide +kernel
theorem dX7_against_31 : decode cX7_against 31 = .ok (.getfield 16, 3) := by decide +kernel
theorem dX7_against_34 : decode cX7_against 34 = .ok (.iload_n 1, 1) := by decide +kernel
theorem dX7_against_35 : decode cX7_against 35 = .ok (.iaload, 1) := by decide +kernel
theorem dX7_against_36 : decode cX7_against 36 = .ok (.iconst 1, 1) := by decide +kernel
theorem dX7_against_37 : decode cX7_against 37 = .ok (.isub, 1) := by decide +kernel
theorem dX7_against_38 : decode cX7_against 38 = .ok (.invokestatic 56, 3) := by decide +kernel
theorem dX7_against_41 : decode cX7_against 41 = .ok (.ifCond .ne 11, 3) := by decide +kernel
theorem dX7_against_44 : decode cX7_against 44 = .ok (.aload_n 0, 1) := by decide +kernel
theorem dX7_against_45 : decode cX7_against 45 = .ok (.iconst 2, 1) := by decide +kernel
theorem dX7_against_46 : decode cX7_against 46 = .ok (.invokevirtual 64, 3) := by decide +kernel
theorem dX7_against_49 : decode cX7_against 49 = .ok (.goto 4, 3) := by decide +kernel
theorem dX7_against_52 : decode cX7_against 52 = .ok (.iconst 0, 1) := by decide +kernel
theorem dX7_against_53 : decode cX7_against 53 = .ok (.ireturn, 1) := by decide +kernel
theorem dX7_lay_0 : decode cX7_lay 0 = .ok (.aload_n 0, 1) := by decide +kernel
theorem dX7_lay_1 : decode cX7_lay 1 = .ok (.iconst 0, 1) := by decide +kernel
theorem dX7_lay_2 : decode cX7_lay 2 = .ok (.putfield 46, 3) := by decide +kernel
theorem dX7_lay_5 : decode cX7_lay 5 = .ok (.aload_n 0, 1) := by decide +kernel
theorem dX7_lay_6 : decode cX7_lay 6 = .ok (.iload_n 1, 1) := by decide +kernel
theorem dX7_lay_7 : decode cX7_lay 7 = .ok (.iload_n 2, 1) := by decide +kernel
theorem dX7_lay_8 : decode cX7_lay 8 = .ok (.invokevirtual 68, 3) := by decide +kernel
theorem dX7_lay_11 : decode cX7_lay 11 = .ok (.istore 4, 2) := by decide +kernel
theorem dX7_lay_13 : decode cX7_lay 13 = .ok (.iload 4, 2) := by decide +kernel
theorem dX7_lay_15 : decode cX7_lay 15 = .ok (.ifCond .eq 6, 3) := by decide +kernel
theorem dX7_lay_18 : decode cX7_lay 18 = .ok (.iload 4, 2) := by decide +kernel
theorem dX7_lay_20 : decode cX7_lay 20 = .ok (.ireturn, 1) := by decide +kernel
theorem dX7_lay_21 : decode cX7_lay 21 = .ok (.aload_n 0, 1) := by decide +kernel
theorem dX7_lay_22 : decode cX7_lay 22 = .ok (.getfield 13, 3) := by decide +kernel
theorem dX7_lay_25 : decode cX7_lay 25 = .ok (.bipush 48, 2) := by decide +kernel
theorem dX7_lay_27 : decode cX7_lay 27 = .ok (.iload_n 1, 1) := by decide +kernel
theorem dX7_lay_28 : decode cX7_lay 28 = .ok (.imul, 1) := by decide +kernel
theorem dX7_lay_29 : decode cX7_lay 29 = .ok (.iload_n 2, 1) := by decide +kernel
theorem dX7_lay_30 : decode cX7_lay 30 = .ok (.iadd, 1) := by decide +kernel
theorem dX7_lay_31 : decode cX7_lay 31 = .ok (.iaload, 1) := by decide +kernel
theorem dX7_lay_32 : decode cX7_lay 32 = .ok (.istore 5, 2) := by decide +kernel
theorem dX7_lay_34 : decode cX7_lay 34 = .ok (.aload_n 0, 1) := by decide +kernel
theorem dX7_lay_35 : decode cX7_lay 35 = .ok (.getfield 13, 3) := by decide +kernel
theorem dX7_lay_38 : decode cX7_lay 38 = .ok (.bipush 48, 2) := by decide +kernel
theorem dX7_lay_40 : decode cX7_lay 40 = .ok (.iload_n 1, 1) := by decide +kernel
theorem dX7_lay_41 : decode cX7_lay 41 = .ok (.imul, 1) := by decide +kernel
theorem dX7_lay_42 : decode cX7_lay 42 = .ok (.iload_n 2, 1) := by decide +kernel
theorem dX7_lay_43 : decode cX7_lay 43 = .ok (.iadd, 1) := by decide +kernel
theorem dX7_lay_44 : decode cX7_lay 44 = .ok (.iload_n 3, 1) := by decide +kernel
theorem dX7_lay_45 : decode cX7_lay 45 = .ok (.iastore, 1) := by decide +kernel
theorem dX7_lay_46 : decode cX7_lay 46 = .ok (.aload_n 0, 1) := by decide +kernel
theorem dX7_lay_47 : decode cX7_lay 47 = .ok (.iconst 1, 1) := by decide +kernel
theorem dX7_lay_48 : decode cX7_lay 48 = .ok (.iload 5, 2) := by decide +kernel
theorem dX7_lay_50 : decode cX7_lay 50 = .ok (.invokevirtual 72, 3) := by decide +kernel
theorem dX7_lay_53 : decode cX7_lay 53 = .ok (.ireturn, 1) := by decide +kernel
theorem dX7_at_0 : decode cX7_at 0 = .ok (.aload_n 0, 1) := by decide +kernel
theorem dX7_at_1 : decode cX7_at 1 = .ok (.iconst 0, 1) := by decide +kernel
theorem dX7_at_2 : decode cX7_at 2 = .ok (.putfield 46, 3) := by decide +kernel
theorem dX7_at_5 : decode cX7_at 5 = .ok (.aload_n 0, 1) := by decide +kernel
theorem dX7_at_6 : decode cX7_at 6 = .ok (.iload_n 1, 1) := by decide +kernel
theorem dX7_at_7 : decode cX7_at 7 = .ok (.iload_n 2, 1) := by decide +kernel
theorem dX7_at_8 : decode cX7_at 8 = .ok (.invokevirtual 68, 3) := by decide +kernel
theorem dX7_at_11 : decode cX7_at 11 = .ok (.istore_n 3, 1) := by decide +kernel
theorem dX7_at_12 : decode cX7_at 12 = .ok (.iload_n 3, 1) := by decide +kernel
theorem dX7_at_13 : decode cX7_at 13 = .ok (.ifCond .eq 7, 3) := by decide +kernel
theorem dX7_at_16 : decode cX7_at 16 = .ok (.iload_n 3, 1) := by decide +kernel
theorem dX7_at_17 : decode cX7_at 17 = .ok (.goto 19, 3) := by decide +kernel
theorem dX7_at_20 : decode cX7_at 20 = .ok (.aload_n 0, 1) := by decide +kernel
theorem dX7_at_21 : decode cX7_at 21 = .ok (.iconst 1, 1) := by decide +kernel
theorem dX7_at_22 : decode cX7_at 22 = .ok (.aload_n 0, 1) := by decide +kernel
theorem dX7_at_23 : decode cX7_at 23 = .ok (.getfield 13, 3) := by decide +kernel
theorem dX7_at_26 : decode cX7_at 26 = .ok (.bipush 48, 2) := by decide +kernel
theorem dX7_at_28 : decode cX7_at 28 = .ok (.iload_n 1, 1) := by decide +kernel
theorem dX7_at_29 : decode cX7_at 29 = .ok (.imul, 1) := by decide +kernel
theorem dX7_at_30 : decode cX7_at 30 = .ok (.iload_n 2, 1) := by decide +kernel
theorem dX7_at_31 : decode cX7_at 31 = .ok (.iadd, 1) := by decide +kernel
theorem dX7_at_32 : decode cX7_at 32 = .ok (.iaload, 1) := by decide +kernel
theorem dX7_at_33 : decode cX7_at 33 = .ok (.invokevirtual 72, 3) := by decide +kernel
theorem dX7_at_36 : decode cX7_at 36 = .ok (.ireturn, 1) := by decide +kernel
theorem dX7_tear_0 : decode cX7_tear 0 = .ok (.aload_n 0, 1) := by decide +kernel
theorem dX7_tear_1 : decode cX7_tear 1 = .ok (.iconst 0, 1) := by decide +kernel
theorem dX7_tear_2 : decode cX7_tear 2 = .ok (.putfield 46, 3) := by decide +kernel
theorem dX7_tear_5 : decode cX7_tear 5 = .ok (.iload_n 1, 1) := by decide +kernel
theorem dX7_tear_6 : decode cX7_tear 6 = .ok (.invokestatic 60, 3) := by decide +kernel
theorem dX7_tear_9 : decode cX7_tear 9 = .ok (.ifCond .ne 5, 3) := by decide +kernel
theorem dX7_tear_12 : decode cX7_tear 12 = .ok (.iconst (-1), 1) := by decide +kernel
theorem dX7_tear_13 : decode cX7_tear 13 = .ok (.ireturn, 1) := by decide +kernel
theorem dX7_tear_14 : decode cX7_tear 14 = .ok (.aload_n 0, 1) := by decide +kernel
theorem dX7_tear_15 : decode cX7_tear 15 = .ok (.getfield 16, 3) := by decide +kernel
theorem dX7_tear_18 : decode cX7_tear 18 = .ok (.iload_n 1, 1) := by decide +kernel
theorem dX7_tear_19 : decode cX7_tear 19 = .ok (.iaload, 1) := by decide +kernel
theorem dX7_tear_20 : decode cX7_tear 20 = .ok (.ifCond .ge 9, 3) := by decide +kernel
theorem dX7_tear_23 : decode cX7_tear 23 = .ok (.aload_n 0, 1) := by decide +kernel
theorem dX7_tear_24 : decode cX7_tear 24 = .ok (.iconst 1, 1) := by decide +kernel
theorem dX7_tear_25 : decode cX7_tear 25 = .ok (.invokevirtual 64, 3) := by decide +kernel
theorem dX7_tear_28 : decode cX7_tear 28 = .ok (.ireturn, 1) := by decide +kernel
theorem dX7_tear_29 : decode cX7_tear 29 = .ok (.aload_n 0, 1) := by decide +kernel
theorem dX7_tear_30 : decode cX7_tear 30 = .ok (.getfield 16, 3) := by decide +kernel
theorem dX7_tear_33 : decode cX7_tear 33 = .ok (.iload_n 1, 1) := by decide +kernel
theorem dX7_tear_34 : decode cX7_tear 34 = .ok (.iaload, 1) := by decide +kernel
theorem dX7_tear_35 : decode cX7_tear 35 = .ok (.istore_n 2, 1) := by decide +kernel
theorem dX7_tear_36 : decode cX7_tear 36 = .ok (.aload_n 0, 1) := by decide +kernel
theorem dX7_tear_37 : decode cX7_tear 37 = .ok (.getfield 16, 3) := by decide +kernel
theorem dX7_tear_40 : decode cX7_tear 40 = .ok (.iload_n 1, 1) := by decide +kernel
theorem dX7_tear_41 : decode cX7_tear 41 = .ok (.iconst (-1), 1) := by decide +kernel
theorem dX7_tear_42 : decode cX7_tear 42 = .ok (.iastore, 1) := by decide +kernel
theorem dX7_tear_43 : decode cX7_tear 43 = .ok (.iload_n 2, 1) := by decide +kernel
theorem dX7_tear_44 : decode cX7_tear 44 = .ok (.ireturn, 1) := by decide +kernel
theorem dX7_isPart_0 : decode cX7_isPart 0 = .ok (.iload_n 3, 1) := by decide +kernel
theorem dX7_isPart_1 : decode cX7_isPart 1 = .ok (.ifCond .lt 33, 3) := by decide +kernel
theorem dX7_isPart_4 : decode cX7_isPart 4 = .ok (.iload_n 2, 1) := by decide +kernel
theorem dX7_isPart_5 : decode cX7_isPart 5 = .ok (.iconst 0, 1) := by decide +kernel
theorem dX7_isPart_6 : decode cX7_isPart 6 = .ok (.aload_n 0, 1) := by decide +kernel
theorem dX7_isPart_7 : decode cX7_isPart 7 = .ok (.getfield 16, 3) := by decide +kernel
theorem dX7_isPart_10 : decode cX7_isPart 10 = .ok (.iload_n 1, 1) := by decide +kernel
theorem dX7_isPart_11 : decode cX7_isPart 11 = .ok (.iaload, 1) := by decide +kernel
theorem dX7_isPart_12 : decode cX7_isPart 12 = .ok (.invokestatic 56, 3) := by decide +kernel
theorem dX7_isPart_15 : decode cX7_isPart 15 = .ok (.ifCond .eq 19, 3) := by decide +kernel
theorem dX7_isPart_18 : decode cX7_isPart 18 = .ok (.iload_n 3, 1) := by decide +kernel
theorem dX7_isPart_19 : decode cX7_isPart 19 = .ok (.aload_n 0, 1) := by decide +kernel
theorem dX7_isPart_20 : decode cX7_isPart 20 = .ok (.getfield 16, 3) := by decide +kernel
theorem dX7_isPart_23 : decode cX7_isPart 23 = .ok (.iload_n 1, 1) := by decide +kernel
theorem dX7_isPart_24 : decode cX7_isPart 24 = .ok (.iaload, 1) := by decide +kernel
theorem dX7_isPart_25 : decode cX7_isPart 25 = .ok (.iload_n 2, 1) := by decide +kernel
theorem dX7_isPart_26 : decode cX7_isPart 26 = .ok (.isub, 1) := by decide +kernel
theorem dX7_isPart_27 : decode cX7_isPart 27 = .ok (.if_icmp .gt 7, 3) := by decide +kernel
theorem dX7_isPart_30 : decode cX7_isPart 30 = .ok (.iconst 1, 1) := by decide +kernel
theorem dX7_isPart_31 : decode cX7_isPart 31 = .ok (.goto 4, 3) := by decide +kernel
theorem dX7_isPart_34 : decode cX7_isPart 34 = .ok (.iconst 0, 1) := by decide +kernel
theorem dX7_isPart_35 : decode cX7_isPart 35 = .ok (.ireturn, 1) := by decide +kernel
theorem dX7_copy_0 : decode cX7_copy 0 = .ok (.aload_n 0, 1) := by decide +kernel
theorem dX7_copy_1 : decode cX7_copy 1 = .ok (.iconst 0, 1) := by decide +kernel
theorem dX7_copy_2 : decode cX7_copy 2 = .ok (.putfield 46, 3) := by decide +kernel
theorem dX7_copy_5 : decode cX7_copy 5 = .ok (.iload_n 1, 1) := by decide +kernel
theorem dX7_copy_6 : decode cX7_copy 6 = .ok (.invokestatic 60, 3) := by decide +kernel
theorem dX7_copy_9 : decode cX7_copy 9 = .ok (.ifCond .eq 10, 3) := by decide +kernel
theorem dX7_copy_12 : decode cX7_copy 12 = .ok (.iload_n 3, 1) := by decide +kernel
theorem dX7_copy_13 : decode cX7_copy 13 = .ok (.invokestatic 60, 3) := by decide +kernel
theorem dX7_copy_16 : decode cX7_copy 16 = .ok (.ifCond .ne 5, 3) := by decide +kernel
theorem dX7_copy_19 : decode cX7_copy 19 = .ok (.iconst (-1), 1) := by decide +kernel
theorem dX7_copy_20 : decode cX7_copy 20 = .ok (.ireturn, 1) := by decide +kernel
theorem dX7_copy_21 : decode cX7_copy 21 = .ok (.aload_n 0, 1) := by decide +kernel
theorem dX7_copy_22 : decode cX7_copy 22 = .ok (.getfield 16, 3) := by decide +kernel
theorem dX7_copy_25 : decode cX7_copy 25 = .ok (.iload_n 1, 1) := by decide +kernel
theorem dX7_copy_26 : decode cX7_copy 26 = .ok (.iaload, 1) := by decide +kernel
theorem dX7_copy_27 : decode cX7_copy 27 = .ok (.ifCond .lt 12, 3) := by decide +kernel
theorem dX7_copy_30 : decode cX7_copy 30 = .ok (.aload_n 0, 1) := by decide +kernel
theorem dX7_copy_31 : decode cX7_copy 31 = .ok (.getfield 16, 3) := by decide +kernel
theorem dX7_copy_34 : decode cX7_copy 34 = .ok (.iload_n 3, 1) := by decide +kernel
theorem dX7_copy_35 : decode cX7_copy 35 = .ok (.iaload, 1) := by decide +kernel
theorem dX7_copy_36 : decode cX7_copy 36 = .ok (.ifCond .ge 9, 3) := by decide +kernel
theorem dX7_copy_39 : decode cX7_copy 39 = .ok (.aload_n 0, 1) := by decide +kernel
theorem dX7_copy_40 : decode cX7_copy 40 = .ok (.iconst 1, 1) := by decide +kernel
theorem dX7_copy_41 : decode cX7_copy 41 = .ok (.invokevirtual 64, 3) := by decide +kernel
theorem dX7_copy_44 : decode cX7_copy 44 = .ok (.ireturn, 1) := by decide +kernel
theorem dX7_copy_45 : decode cX7_copy 45 = .ok (.aload_n 0, 1) := by decide +kernel
theorem dX7_copy_46 : decode cX7_copy 46 = .ok (.iload_n 1, 1) := by decide +kernel
theorem dX7_copy_47 : decode cX7_copy 47 = .ok (.iload_n 2, 1) := by decide +kernel
theorem dX7_copy_48 : decode cX7_copy 48 = .ok (.iload 5, 2) := by decide +kernel
theorem dX7_copy_50 : decode cX7_copy 50 = .ok (.invokevirtual 75, 3) := by decide +kernel
theorem dX7_copy_53 : decode cX7_copy 53 = .ok (.ifCond .eq 15, 3) := by decide +kernel
theorem dX7_copy_56 : decode cX7_copy 56 = .ok (.aload_n 0, 1) := by decide +kernel
theorem dX7_copy_57 : decode cX7_copy 57 = .ok (.iload_n 3, 1) := by decide +kernel
theorem dX7_copy_58 : decode cX7_copy 58 = .ok (.iload 4, 2) := by decide +kernel
theorem dX7_copy_60 : decode cX7_copy 60 = .ok (.iload 5, 2) := by decide +kernel
theorem dX7_copy_62 : decode cX7_copy 62 = .ok (.invokevirtual 75, 3) := by decide +kernel
theorem dX7_copy_65 : decode cX7_copy 65 = .ok (.ifCond .ne 9, 3) := by decide +kernel
theorem dX7_copy_68 : decode cX7_copy 68 = .ok (.aload_n 0, 1) := by decide +kernel
theorem dX7_copy_69 : decode cX7_copy 69 = .ok (.iconst 2, 1) := by decide +kernel
theorem dX7_copy_70 : decode cX7_copy 70 = .ok (.invokevirtual 64, 3) := by decide +kernel
theorem dX7_copy_73 : decode cX7_copy 73 = .ok (.ireturn, 1) := by decide +kernel
theorem dX7_copy_74 : decode cX7_copy 74 = .ok (.bipush 48, 2) := by decide +kernel
theorem dX7_copy_76 : decode cX7_copy 76 = .ok (.iload_n 1, 1) := by decide +kernel
theorem dX7_copy_77 : decode cX7_copy 77 = .ok (.imul, 1) := by decide +kernel
theorem dX7_copy_78 : decode cX7_copy 78 = .ok (.iload_n 2, 1) := by decide +kernel
theorem dX7_copy_79 : decode cX7_copy 79 = .ok (.iadd, 1) := by decide +kernel
theorem dX7_copy_80 : decode cX7_copy 80 = .ok (.istore 6, 2) := by decide +kernel
theorem dX7_copy_82 : decode cX7_copy 82 = .ok (.bipush 48, 2) := by decide +kernel
theorem dX7_copy_84 : decode cX7_copy 84 = .ok (.iload_n 3, 1) := by decide +kernel
theorem dX7_copy_85 : decode cX7_copy 85 = .ok (.imul, 1) := by decide +kernel
theorem dX7_copy_86 : decode cX7_copy 86 = .ok (.iload 4, 2) := by decide +kernel
theorem dX7_copy_88 : decode cX7_copy 88 = .ok (.iadd, 1) := by decide +kernel
theorem dX7_copy_89 : decode cX7_copy 89 = .ok (.istore 7, 2) := by decide +kernel
theorem dX7_copy_91 : decode cX7_copy 91 = .ok (.iconst 0, 1) := by decide +kernel
theorem dX7_copy_92 : decode cX7_copy 92 = .ok (.istore 8, 2) := by decide +kernel
theorem dX7_copy_94 : decode cX7_copy 94 = .ok (.iload 8, 2) := by decide +kernel
theorem dX7_copy_96 : decode cX7_copy 96 = .ok (.iload 5, 2) := by decide +kernel
theorem dX7_copy_98 : decode cX7_copy 98 = .ok (.if_icmp .ge 50, 3) := by decide +kernel
theorem dX7_copy_101 : decode cX7_copy 101 = .ok (.iload 7, 2) := by decide +kernel
theorem dX7_copy_103 : decode cX7_copy 103 = .ok (.iload 6, 2) := by decide +kernel
theorem dX7_copy_105 : decode cX7_copy 105 = .ok (.if_icmp .le 13, 3) := by decide +kernel
theorem dX7_copy_108 : decode cX7_copy 108 = .ok (.iload 5, 2) := by decide +kernel
theorem dX7_copy_110 : decode cX7_copy 110 = .ok (.iconst 1, 1) := by decide +kernel
theorem dX7_copy_111 : decode cX7_copy 111 = .ok (.isub, 1) := by decide +kernel
theorem dX7_copy_112 : decode cX7_copy 112 = .ok (.iload 8, 2) := by decide +kernel
theorem dX7_copy_114 : decode cX7_copy 114 = .ok (.isub, 1) := by decide +kernel
theorem dX7_copy_115 : decode cX7_copy 115 = .ok (.goto 5, 3) := by decide +kernel
theorem dX7_copy_118 : decode cX7_copy 118 = .ok (.iload 8, 2) := by decide +kernel
theorem dX7_copy_120 : decode cX7_copy 120 = .ok (.istore 9, 2) := by decide +kernel
theorem dX7_copy_122 : decode cX7_copy 122 = .ok (.aload_n 0, 1) := by decide +kernel
theorem dX7_copy_123 : decode cX7_copy 123 = .ok (.getfield 13, 3) := by decide +kernel
theorem dX7_copy_126 : decode cX7_copy 126 = .ok (.iload 7, 2) := by decide +kernel
theorem dX7_copy_128 : decode cX7_copy 128 = .ok (.iload 9, 2) := by decide +kernel
theorem dX7_copy_130 : decode cX7_copy 130 = .ok (.iadd, 1) := by decide +kernel
theorem dX7_copy_131 : decode cX7_copy 131 = .ok (.aload_n 0, 1) := by decide +kernel
theorem dX7_copy_132 : decode cX7_copy 132 = .ok (.getfield 13, 3) := by decide +kernel
theorem dX7_copy_135 : decode cX7_copy 135 = .ok (.iload 6, 2) := by decide +kernel
theorem dX7_copy_137 : decode cX7_copy 137 = .ok (.iload 9, 2) := by decide +kernel
theorem dX7_copy_139 : decode cX7_copy 139 = .ok (.iadd, 1) := by decide +kernel
theorem dX7_copy_140 : decode cX7_copy 140 = .ok (.iaload, 1) := by decide +kernel
theorem dX7_copy_141 : decode cX7_copy 141 = .ok (.iastore, 1) := by decide +kernel
theorem dX7_copy_142 : decode cX7_copy 142 = .ok (.iinc 8 1, 3) := by decide +kernel
theorem dX7_copy_145 : decode cX7_copy 145 = .ok (.goto (-51), 3) := by decide +kernel
theorem dX7_copy_148 : decode cX7_copy 148 = .ok (.iload 5, 2) := by decide +kernel
theorem dX7_copy_150 : decode cX7_copy 150 = .ok (.ireturn, 1) := by decide +kernel
theorem dX7_blocks_0 : decode cX7_blocks 0 = .ok (.aload_n 0, 1) := by decide +kernel
theorem dX7_blocks_1 : decode cX7_blocks 1 = .ok (.getfield 78, 3) := by decide +kernel
theorem dX7_blocks_4 : decode cX7_blocks 4 = .ok (.ifCond .ne 7, 3) := by decide +kernel
theorem dX7_blocks_7 : decode cX7_blocks 7 = .ok (.iconst 0, 1) := by decide +kernel
theorem dX7_blocks_8 : decode cX7_blocks 8 = .ok (.goto 19, 3) := by decide +kernel
theorem dX7_blocks_11 : decode cX7_blocks 11 = .ok (.aload_n 0, 1) := by decide +kernel
theorem dX7_blocks_12 : decode cX7_blocks 12 = .ok (.getfield 81, 3) := by decide +kernel
theorem dX7_blocks_15 : decode cX7_blocks 15 = .ok (.aload_n 0, 1) := by decide +kernel
theorem dX7_blocks_16 : decode cX7_blocks 16 = .ok (.getfield 78, 3) := by decide +kernel
theorem dX7_blocks_19 : decode cX7_blocks 19 = .ok (.iadd, 1) := by decide +kernel
theorem dX7_blocks_20 : decode cX7_blocks 20 = .ok (.iconst 1, 1) := by decide +kernel
theorem dX7_blocks_21 : decode cX7_blocks 21 = .ok (.isub, 1) := by decide +kernel
theorem dX7_blocks_22 : decode cX7_blocks 22 = .ok (.aload_n 0, 1) := by decide +kernel
theorem dX7_blocks_23 : decode cX7_blocks 23 = .ok (.getfield 78, 3) := by decide +kernel
theorem dX7_blocks_26 : decode cX7_blocks 26 = .ok (.idiv, 1) := by decide +kernel
theorem dX7_blocks_27 : decode cX7_blocks 27 = .ok (.ireturn, 1) := by decide +kernel
theorem dX7_shapeOf_0 : decode cX7_shapeOf 0 = .ok (.iconst 1, 1) := by decide +kernel
theorem dX7_shapeOf_1 : decode cX7_shapeOf 1 = .ok (.istore_n 3, 1) := by decide +kernel
theorem dX7_shapeOf_2 : decode cX7_shapeOf 2 = .ok (.aload_n 0, 1) := by decide +kernel
theorem dX7_shapeOf_3 : decode cX7_shapeOf 3 = .ok (.iconst 0, 1) := by decide +kernel
theorem dX7_shapeOf_4 : decode cX7_shapeOf 4 = .ok (.putfield 84, 3) := by decide +kernel
theorem dX7_shapeOf_7 : decode cX7_shapeOf 7 = .ok (.iload_n 1, 1) := by decide +kernel
theorem dX7_shapeOf_8 : decode cX7_shapeOf 8 = .ok (.istore 4, 2) := by decide +kernel
theorem dX7_shapeOf_10 : decode cX7_shapeOf 10 = .ok (.iload 4, 2) := by decide +kernel
theorem dX7_shapeOf_12 : decode cX7_shapeOf 12 = .ok (.iload_n 2, 1) := by decide +kernel
theorem dX7_shapeOf_13 : decode cX7_shapeOf 13 = .ok (.if_icmp .ge 86, 3) := by decide +kernel
theorem dX7_shapeOf_16 : decode cX7_shapeOf 16 = .ok (.aload_n 0, 1) := by decide +kernel
theorem dX7_shapeOf_17 : decode cX7_shapeOf 17 = .ok (.getfield 84, 3) := by decide +kernel
theorem dX7_shapeOf_20 : decode cX7_shapeOf 20 = .ok (.ifCond .le 41, 3) := by decide +kernel
theorem dX7_shapeOf_23 : decode cX7_shapeOf 23 = .ok (.aload_n 0, 1) := by decide +kernel
theorem dX7_shapeOf_24 : decode cX7_shapeOf 24 = .ok (.getfield 40, 3) := by decide +kernel
theorem dX7_shapeOf_27 : decode cX7_shapeOf 27 = .ok (.aload_n 0, 1) := by decide +kernel
theorem dX7_shapeOf_28 : decode cX7_shapeOf 28 = .ok (.getfield 84, 3) := by decide +kernel
theorem dX7_shapeOf_31 : decode cX7_shapeOf 31 = .ok (.iconst 1, 1) := by decide +kernel
theorem dX7_shapeOf_32 : decode cX7_shapeOf 32 = .ok (.isub, 1) := by decide +kernel
theorem dX7_shapeOf_33 : decode cX7_shapeOf 33 = .ok (.iaload, 1) := by decide +kernel
theorem dX7_shapeOf_34 : decode cX7_shapeOf 34 = .ok (.aload_n 0, 1) := by decide +kernel
theorem dX7_shapeOf_35 : decode cX7_shapeOf 35 = .ok (.getfield 19, 3) := by decide +kernel
theorem dX7_shapeOf_38 : decode cX7_shapeOf 38 = .ok (.iload 4, 2) := by decide +kernel
theorem dX7_shapeOf_40 : decode cX7_shapeOf 40 = .ok (.iaload, 1) := by decide +kernel
theorem dX7_shapeOf_41 : decode cX7_shapeOf 41 = .ok (.if_icmp .le 20, 3) := by decide +kernel
theorem dX7_shapeOf_44 : decode cX7_shapeOf 44 = .ok (.aload_n 0, 1) := by decide +kernel
theorem dX7_shapeOf_45 : decode cX7_shapeOf 45 = .ok (.dup, 1) := by decide +kernel
theorem dX7_shapeOf_46 : decode cX7_shapeOf 46 = .ok (.getfield 84, 3) := by decide +kernel
theorem dX7_shapeOf_49 : decode cX7_shapeOf 49 = .ok (.iconst 1, 1) := by decide +kernel
theorem dX7_shapeOf_50 : decode cX7_shapeOf 50 = .ok (.isub, 1) := by decide +kernel
theorem dX7_shapeOf_51 : decode cX7_shapeOf 51 = .ok (.putfield 84, 3) := by decide +kernel
theorem dX7_shapeOf_54 : decode cX7_shapeOf 54 = .ok (.iload_n 3, 1) := by decide +kernel
theorem dX7_shapeOf_55 : decode cX7_shapeOf 55 = .ok (.iconst 2, 1) := by decide +kernel
theorem dX7_shapeOf_56 : decode cX7_shapeOf 56 = .ok (.imul, 1) := by decide +kernel
theorem dX7_shapeOf_57 : decode cX7_shapeOf 57 = .ok (.istore_n 3, 1) := by decide +kernel
theorem dX7_shapeOf_58 : decode cX7_shapeOf 58 = .ok (.goto (-42), 3) := by decide +kernel
theorem dX7_shapeOf_61 : decode cX7_shapeOf 61 = .ok (.aload_n 0, 1) := by decide +kernel
theorem dX7_shapeOf_62 : decode cX7_shapeOf 62 = .ok (.getfield 40, 3) := by decide +kernel
theorem dX7_shapeOf_65 : decode cX7_shapeOf 65 = .ok (.aload_n 0, 1) := by decide +kernel
theorem dX7_shapeOf_66 : decode cX7_shapeOf 66 = .ok (.getfield 84, 3) := by decide +kernel
theorem dX7_shapeOf_69 : decode cX7_shapeOf 69 = .ok (.aload_n 0, 1) := by decide +kernel
theorem dX7_shapeOf_70 : decode cX7_shapeOf 70 = .ok (.getfield 19, 3) := by decide +kernel
theorem dX7_shapeOf_73 : decode cX7_shapeOf 73 = .ok (.iload 4, 2) := by decide +kernel
theorem dX7_shapeOf_75 : decode cX7_shapeOf 75 = .ok (.iaload, 1) := by decide +kernel
theorem dX7_shapeOf_76 : decode cX7_shapeOf 76 = .ok (.iastore, 1) := by decide +kernel
theorem dX7_shapeOf_77 : decode cX7_shapeOf 77 = .ok (.aload_n 0, 1) := by decide +kernel
theorem dX7_shapeOf_78 : decode cX7_shapeOf 78 = .ok (.dup, 1) := by decide +kernel
theorem dX7_shapeOf_79 : decode cX7_shapeOf 79 = .ok (.getfield 84, 3) := by decide +kernel
theorem dX7_shapeOf_82 : decode cX7_shapeOf 82 = .ok (.iconst 1, 1) := by decide +kernel
theorem dX7_shapeOf_83 : decode cX7_shapeOf 83 = .ok (.iadd, 1) := by decide +kernel
theorem dX7_shapeOf_84 : decode cX7_shapeOf 84 = .ok (.putfield 84, 3) := by decide +kernel
theorem dX7_shapeOf_87 : decode cX7_shapeOf 87 = .ok (.iconst 2, 1) := by decide +kernel
theorem dX7_shapeOf_88 : decode cX7_shapeOf 88 = .ok (.iload_n 3, 1) := by decide +kernel
theorem dX7_shapeOf_89 : decode cX7_shapeOf 89 = .ok (.imul, 1) := by decide +kernel
theorem dX7_shapeOf_90 : decode cX7_shapeOf 90 = .ok (.iconst 1, 1) := by decide +kernel
theorem dX7_shapeOf_91 : decode cX7_shapeOf 91 = .ok (.iadd, 1) := by decide +kernel
theorem dX7_shapeOf_92 : decode cX7_shapeOf 92 = .ok (.istore_n 3, 1) := by decide +kernel
theorem dX7_shapeOf_93 : decode cX7_shapeOf 93 = .ok (.iinc 4 1, 3) := by decide +kernel
theorem dX7_shapeOf_96 : decode cX7_shapeOf 96 = .ok (.goto (-86), 3) := by decide +kernel
theorem dX7_shapeOf_99 : decode cX7_shapeOf 99 = .ok (.iload_n 3, 1) := by decide +kernel
theorem dX7_shapeOf_100 : decode cX7_shapeOf 100 = .ok (.ireturn, 1) := by decide +kernel
theorem dX7_shapeOfBlock_0 : decode cX7_shapeOfBlock 0 = .ok (.iload_n 1, 1) := by decide +kernel
theorem dX7_shapeOfBlock_1 : decode cX7_shapeOfBlock 1 = .ok (.aload_n 0, 1) := by decide +kernel
theorem dX7_shapeOfBlock_2 : decode cX7_shapeOfBlock 2 = .ok (.getfield 78, 3) := by decide +kernel
theorem dX7_shapeOfBlock_5 : decode cX7_shapeOfBlock 5 = .ok (.imul, 1) := by decide +kernel
theorem dX7_shapeOfBlock_6 : decode cX7_shapeOfBlock 6 = .ok (.istore_n 2, 1) := by decide +kernel
theorem dX7_shapeOfBlock_7 : decode cX7_shapeOfBlock 7 = .ok (.iload_n 2, 1) := by decide +kernel
theorem dX7_shapeOfBlock_8 : decode cX7_shapeOfBlock 8 = .ok (.aload_n 0, 1) := by decide +kernel
theorem dX7_shapeOfBlock_9 : decode cX7_shapeOfBlock 9 = .ok (.getfield 78, 3) := by decide +kernel
theorem dX7_shapeOfBlock_12 : decode cX7_shapeOfBlock 12 = .ok (.iadd, 1) := by decide +kernel
theorem dX7_shapeOfBlock_13 : decode cX7_shapeOfBlock 13 = .ok (.aload_n 0, 1) := by decide +kernel
theorem dX7_shapeOfBlock_14 : decode cX7_shapeOfBlock 14 = .ok (.getfield 81, 3) := by decide +kernel
theorem dX7_shapeOfBlock_17 : decode cX7_shapeOfBlock 17 = .ok (.if_icmp .ge 12, 3) := by decide +kernel
theorem dX7_shapeOfBlock_20 : decode cX7_shapeOfBlock 20 = .ok (.iload_n 2, 1) := by decide +kernel
theorem dX7_shapeOfBlock_21 : decode cX7_shapeOfBlock 21 = .ok (.aload_n 0, 1) := by decide +kernel
theorem dX7_shapeOfBlock_22 : decode cX7_shapeOfBlock 22 = .ok (.getfield 78, 3) := by decide +kernel
theorem dX7_shapeOfBlock_25 : decode cX7_shapeOfBlock 25 = .ok (.iadd, 1) := by decide +kernel
theorem dX7_shapeOfBlock_26 : decode cX7_shapeOfBlock 26 = .ok (.goto 7, 3) := by decide +kernel
theorem dX7_shapeOfBlock_29 : decode cX7_shapeOfBlock 29 = .ok (.aload_n 0, 1) := by decide +kernel
theorem dX7_shapeOfBlock_30 : decode cX7_shapeOfBlock 30 = .ok (.getfield 81, 3) := by decide +kernel
theorem dX7_shapeOfBlock_33 : decode cX7_shapeOfBlock 33 = .ok (.istore_n 3, 1) := by decide +kernel
theorem dX7_shapeOfBlock_34 : decode cX7_shapeOfBlock 34 = .ok (.aload_n 0, 1) := by decide +kernel
theorem dX7_shapeOfBlock_35 : decode cX7_shapeOfBlock 35 = .ok (.iload_n 2, 1) := by decide +kernel
theorem dX7_shapeOfBlock_36 : decode cX7_shapeOfBlock 36 = .ok (.iload_n 3, 1) := by decide +kernel
theorem dX7_shapeOfBlock_37 : decode cX7_shapeOfBlock 37 = .ok (.invokevirtual 87, 3) := by decide +kernel
theorem dX7_shapeOfBlock_40 : decode cX7_shapeOfBlock 40 = .ok (.ireturn, 1) := by decide +kernel
theorem dX7_isMade_0 : decode cX7_isMade 0 = .ok (.iload_n 1, 1) := by decide +kernel
theorem dX7_isMade_1 : decode cX7_isMade 1 = .ok (.iconst 0, 1) := by decide +kernel
theorem dX7_isMade_2 : decode cX7_isMade 2 = .ok (.sipush 8191, 3) := by decide +kernel
theorem dX7_isMade_5 : decode cX7_isMade 5 = .ok (.invokestatic 56, 3) := by decide +kernel
theorem dX7_isMade_8 : decode cX7_isMade 8 = .ok (.ifCond .eq 27, 3) := by decide +kernel
theorem dX7_isMade_11 : decode cX7_isMade 11 = .ok (.aload_n 0, 1) := by decide +kernel
theorem dX7_isMade_12 : decode cX7_isMade 12 = .ok (.getfield 22, 3) := by decide +kernel
theorem dX7_isMade_15 : decode cX7_isMade 15 = .ok (.iload_n 1, 1) := by decide +kernel
theorem dX7_isMade_16 : decode cX7_isMade 16 = .ok (.bipush 32, 2) := by decide +kernel
theorem dX7_isMade_18 : decode cX7_isMade 18 = .ok (.idiv, 1) := by decide +kernel
theorem dX7_isMade_19 : decode cX7_isMade 19 = .ok (.iaload, 1) := by decide +kernel
theorem dX7_isMade_20 : decode cX7_isMade 20 = .ok (.iload_n 1, 1) := by decide +kernel
theorem dX7_isMade_21 : decode cX7_isMade 21 = .ok (.bipush 32, 2) := by decide +kernel
theorem dX7_isMade_23 : decode cX7_isMade 23 = .ok (.irem, 1) := by decide +kernel
theorem dX7_isMade_24 : decode cX7_isMade 24 = .ok (.ishr, 1) := by decide +kernel
theorem dX7_isMade_25 : decode cX7_isMade 25 = .ok (.iconst 1, 1) := by decide +kernel
theorem dX7_isMade_26 : decode cX7_isMade 26 = .ok (.iand, 1) := by decide +kernel
theorem dX7_isMade_27 : decode cX7_isMade 27 = .ok (.iconst 1, 1) := by decide +kernel
theorem dX7_isMade_28 : decode cX7_isMade 28 = .ok (.if_icmp .ne 7, 3) := by decide +kernel
theorem dX7_isMade_31 : decode cX7_isMade 31 = .ok (.iconst 1, 1) := by decide +kernel
theorem dX7_isMade_32 : decode cX7_isMade 32 = .ok (.goto 4, 3) := by decide +kernel
theorem dX7_isMade_35 : decode cX7_isMade 35 = .ok (.iconst 0, 1) := by decide +kernel
theorem dX7_isMade_36 : decode cX7_isMade 36 = .ok (.ireturn, 1) := by decide +kernel
theorem dX7_makes_0 : decode cX7_makes 0 = .ok (.aload_n 0, 1) := by decide +kernel
theorem dX7_makes_1 : decode cX7_makes 1 = .ok (.iload_n 1, 1) := by decide +kernel
theorem dX7_makes_2 : decode cX7_makes 2 = .ok (.invokevirtual 90, 3) := by decide +kernel
theorem dX7_makes_5 : decode cX7_makes 5 = .ok (.ifCond .ne 31, 3) := by decide +kernel
theorem dX7_makes_8 : decode cX7_makes 8 = .ok (.aload_n 0, 1) := by decide +kernel
theorem dX7_makes_9 : decode cX7_makes 9 = .ok (.getfield 22, 3) := by decide +kernel
theorem dX7_makes_12 : decode cX7_makes 12 = .ok (.iload_n 1, 1) := by decide +kernel
theorem dX7_makes_13 : decode cX7_makes 13 = .ok (.bipush 32, 2) := by decide +kernel
theorem dX7_makes_15 : decode cX7_makes 15 = .ok (.idiv, 1) := by decide +kernel
theorem dX7_makes_16 : decode cX7_makes 16 = .ok (.dup2, 1) := by decide +kernel
theorem dX7_makes_17 : decode cX7_makes 17 = .ok (.iaload, 1) := by decide +kernel
theorem dX7_makes_18 : decode cX7_makes 18 = .ok (.iconst 1, 1) := by decide +kernel
theorem dX7_makes_19 : decode cX7_makes 19 = .ok (.iload_n 1, 1) := by decide +kernel
theorem dX7_makes_20 : decode cX7_makes 20 = .ok (.bipush 32, 2) := by decide +kernel
theorem dX7_makes_22 : decode cX7_makes 22 = .ok (.irem, 1) := by decide +kernel
theorem dX7_makes_23 : decode cX7_makes 23 = .ok (.ishl, 1) := by decide +kernel
theorem dX7_makes_24 : decode cX7_makes 24 = .ok (.ior, 1) := by decide +kernel
theorem dX7_makes_25 : decode cX7_makes 25 = .ok (.iastore, 1) := by decide +kernel
theorem dX7_makes_26 : decode cX7_makes 26 = .ok (.aload_n 0, 1) := by decide +kernel
theorem dX7_makes_27 : decode cX7_makes 27 = .ok (.dup, 1) := by decide +kernel
theorem dX7_makes_28 : decode cX7_makes 28 = .ok (.getfield 93, 3) := by decide +kernel
theorem dX7_makes_31 : decode cX7_makes 31 = .ok (.iconst 1, 1) := by decide +kernel
theorem dX7_makes_32 : decode cX7_makes 32 = .ok (.iadd, 1) := by decide +kernel
theorem dX7_makes_33 : decode cX7_makes 33 = .ok (.putfield 93, 3) := by decide +kernel
theorem dX7_makes_36 : decode cX7_makes 36 = .ok (.return_, 1) := by decide +kernel
theorem dX7_makesAll_0 : decode cX7_makesAll 0 = .ok (.iconst 0, 1) := by decide +kernel
theorem dX7_makesAll_1 : decode cX7_makesAll 1 = .ok (.istore_n 1, 1) := by decide +kernel
theorem dX7_makesAll_2 : decode cX7_makesAll 2 = .ok (.iload_n 1, 1) := by decide +kernel
theorem dX7_makesAll_3 : decode cX7_makesAll 3 = .ok (.sipush 256, 3) := by decide +kernel
theorem dX7_makesAll_6 : decode cX7_makesAll 6 = .ok (.if_icmp .ge 16, 3) := by decide +kernel
theorem dX7_makesAll_9 : decode cX7_makesAll 9 = .ok (.aload_n 0, 1) := by decide +kernel
theorem dX7_makesAll_10 : decode cX7_makesAll 10 = .ok (.getfield 22, 3) := by decide +kernel
theorem dX7_makesAll_13 : decode cX7_makesAll 13 = .ok (.iload_n 1, 1) := by decide +kernel
theorem dX7_makesAll_14 : decode cX7_makesAll 14 = .ok (.iconst 0, 1) := by decide +kernel
theorem dX7_makesAll_15 : decode cX7_makesAll 15 = .ok (.iastore, 1) := by decide +kernel
theorem dX7_makesAll_16 : decode cX7_makesAll 16 = .ok (.iinc 1 1, 3) := by decide +kernel
theorem dX7_makesAll_19 : decode cX7_makesAll 19 = .ok (.goto (-17), 3) := by decide +kernel
theorem dX7_makesAll_22 : decode cX7_makesAll 22 = .ok (.aload_n 0, 1) := by decide +kernel
theorem dX7_makesAll_23 : decode cX7_makesAll 23 = .ok (.iconst 0, 1) := by decide +kernel
theorem dX7_makesAll_24 : decode cX7_makesAll 24 = .ok (.putfield 93, 3) := by decide +kernel
theorem dX7_makesAll_27 : decode cX7_makesAll 27 = .ok (.aload_n 0, 1) := by decide +kernel
theorem dX7_makesAll_28 : decode cX7_makesAll 28 = .ok (.iconst 0, 1) := by decide +kernel
theorem dX7_makesAll_29 : decode cX7_makesAll 29 = .ok (.putfield 96, 3) := by decide +kernel
theorem dX7_makesAll_32 : decode cX7_makesAll 32 = .ok (.iconst 0, 1) := by decide +kernel
theorem dX7_makesAll_33 : decode cX7_makesAll 33 = .ok (.istore_n 1, 1) := by decide +kernel
theorem dX7_makesAll_34 : decode cX7_makesAll 34 = .ok (.iload_n 1, 1) := by decide +kernel
theorem dX7_makesAll_35 : decode cX7_makesAll 35 = .ok (.aload_n 0, 1) := by decide +kernel
theorem dX7_makesAll_36 : decode cX7_makesAll 36 = .ok (.invokevirtual 99, 3) := by decide +kernel
theorem dX7_makesAll_39 : decode cX7_makesAll 39 = .ok (.if_icmp .ge 18, 3) := by decide +kernel
theorem dX7_makesAll_42 : decode cX7_makesAll 42 = .ok (.aload_n 0, 1) := by decide +kernel
theorem dX7_makesAll_43 : decode cX7_makesAll 43 = .ok (.aload_n 0, 1) := by decide +kernel
theorem dX7_makesAll_44 : decode cX7_makesAll 44 = .ok (.iload_n 1, 1) := by decide +kernel
theorem dX7_makesAll_45 : decode cX7_makesAll 45 = .ok (.invokevirtual 103, 3) := by decide +kernel
theorem dX7_makesAll_48 : decode cX7_makesAll 48 = .ok (.invokevirtual 106, 3) := by decide +kernel
theorem dX7_makesAll_51 : decode cX7_makesAll 51 = .ok (.iinc 1 1, 3) := by decide +kernel
theorem dX7_makesAll_54 : decode cX7_makesAll 54 = .ok (.goto (-20), 3) := by decide +kernel
theorem dX7_makesAll_57 : decode cX7_makesAll 57 = .ok (.return_, 1) := by decide +kernel
theorem dX7_build_0 : decode cX7_build 0 = .ok (.aload_n 0, 1) := by decide +kernel
theorem dX7_build_1 : decode cX7_build 1 = .ok (.iconst 0, 1) := by decide +kernel
theorem dX7_build_2 : decode cX7_build 2 = .ok (.putfield 46, 3) := by decide +kernel
theorem dX7_build_5 : decode cX7_build 5 = .ok (.iload_n 1, 1) := by decide +kernel
theorem dX7_build_6 : decode cX7_build 6 = .ok (.invokestatic 60, 3) := by decide +kernel
theorem dX7_build_9 : decode cX7_build 9 = .ok (.ifCond .eq 13, 3) := by decide +kernel
theorem dX7_build_12 : decode cX7_build 12 = .ok (.iload_n 2, 1) := by decide +kernel
theorem dX7_build_13 : decode cX7_build 13 = .ok (.iconst 1, 1) := by decide +kernel
theorem dX7_build_14 : decode cX7_build 14 = .ok (.bipush 6, 2) := by decide +kernel
theorem dX7_build_16 : decode cX7_build 16 = .ok (.invokestatic 56, 3) := by decide +kernel
theorem dX7_build_19 : decode cX7_build 19 = .ok (.ifCond .ne 5, 3) := by decide +kernel
theorem dX7_build_22 : decode cX7_build 22 = .ok (.iconst (-1), 1) := by decide +kernel
theorem dX7_build_23 : decode cX7_build 23 = .ok (.ireturn, 1) := by decide +kernel
theorem dX7_build_24 : decode cX7_build 24 = .ok (.aload_n 0, 1) := by decide +kernel
theorem dX7_build_25 : decode cX7_build 25 = .ok (.getfield 16, 3) := by decide +kernel
theorem dX7_build_28 : decode cX7_build 28 = .ok (.iload_n 1, 1) := by decide +kernel
theorem dX7_build_29 : decode cX7_build 29 = .ok (.iaload, 1) := by decide +kernel
theorem dX7_build_30 : decode cX7_build 30 = .ok (.ifCond .ge 9, 3) := by decide +kernel
theorem dX7_build_33 : decode cX7_build 33 = .ok (.aload_n 0, 1) := by decide +kernel
theorem dX7_build_34 : decode cX7_build 34 = .ok (.iconst 1, 1) := by decide +kernel
theorem dX7_build_35 : decode cX7_build 35 = .ok (.invokevirtual 64, 3) := by decide +kernel
theorem dX7_build_38 : decode cX7_build 38 = .ok (.ireturn, 1) := by decide +kernel
theorem dX7_build_39 : decode cX7_build 39 = .ok (.aload_n 0, 1) := by decide +kernel
theorem dX7_build_40 : decode cX7_build 40 = .ok (.getfield 16, 3) := by decide +kernel
theorem dX7_build_43 : decode cX7_build 43 = .ok (.iload_n 1, 1) := by decide +kernel
theorem dX7_build_44 : decode cX7_build 44 = .ok (.iaload, 1) := by decide +kernel
theorem dX7_build_45 : decode cX7_build 45 = .ok (.ifCond .ne 9, 3) := by decide +kernel
theorem dX7_build_48 : decode cX7_build 48 = .ok (.aload_n 0, 1) := by decide +kernel
theorem dX7_build_49 : decode cX7_build 49 = .ok (.iconst 3, 1) := by decide +kernel
theorem dX7_build_50 : decode cX7_build 50 = .ok (.invokevirtual 64, 3) := by decide +kernel
theorem dX7_build_53 : decode cX7_build 53 = .ok (.ireturn, 1) := by decide +kernel
theorem dX7_build_54 : decode cX7_build 54 = .ok (.aload_n 0, 1) := by decide +kernel
theorem dX7_build_55 : decode cX7_build 55 = .ok (.aload_n 0, 1) := by decide +kernel
theorem dX7_build_56 : decode cX7_build 56 = .ok (.getfield 16, 3) := by decide +kernel
theorem dX7_build_59 : decode cX7_build 59 = .ok (.iload_n 1, 1) := by decide +kernel
theorem dX7_build_60 : decode cX7_build 60 = .ok (.iaload, 1) := by decide +kernel
theorem dX7_build_61 : decode cX7_build 61 = .ok (.putfield 81, 3) := by decide +kernel
theorem dX7_build_64 : decode cX7_build 64 = .ok (.aload_n 0, 1) := by decide +kernel
theorem dX7_build_65 : decode cX7_build 65 = .ok (.iload_n 2, 1) := by decide +kernel
theorem dX7_build_66 : decode cX7_build 66 = .ok (.putfield 78, 3) := by decide +kernel
theorem dX7_build_69 : decode cX7_build 69 = .ok (.iconst 0, 1) := by decide +kernel
theorem dX7_build_70 : decode cX7_build 70 = .ok (.istore_n 3, 1) := by decide +kernel
theorem dX7_build_71 : decode cX7_build 71 = .ok (.iload_n 3, 1) := by decide +kernel
