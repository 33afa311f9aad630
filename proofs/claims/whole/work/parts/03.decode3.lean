theorem dX7_build_72 : decode cX7_build 72 = .ok (.aload_n 0, 1) := by decide +kernel
theorem dX7_build_73 : decode cX7_build 73 = .ok (.getfield 81, 3) := by decide +kernel
theorem dX7_build_76 : decode cX7_build 76 = .ok (.if_icmp .ge 26, 3) := by decide +kernel
theorem dX7_build_79 : decode cX7_build 79 = .ok (.aload_n 0, 1) := by decide +kernel
theorem dX7_build_80 : decode cX7_build 80 = .ok (.getfield 19, 3) := by decide +kernel
theorem dX7_build_83 : decode cX7_build 83 = .ok (.iload_n 3, 1) := by decide +kernel
theorem dX7_build_84 : decode cX7_build 84 = .ok (.aload_n 0, 1) := by decide +kernel
theorem dX7_build_85 : decode cX7_build 85 = .ok (.getfield 13, 3) := by decide +kernel
theorem dX7_build_88 : decode cX7_build 88 = .ok (.bipush 48, 2) := by decide +kernel
theorem dX7_build_90 : decode cX7_build 90 = .ok (.iload_n 1, 1) := by decide +kernel
theorem dX7_build_91 : decode cX7_build 91 = .ok (.imul, 1) := by decide +kernel
theorem dX7_build_92 : decode cX7_build 92 = .ok (.iload_n 3, 1) := by decide +kernel
theorem dX7_build_93 : decode cX7_build 93 = .ok (.iadd, 1) := by decide +kernel
theorem dX7_build_94 : decode cX7_build 94 = .ok (.iaload, 1) := by decide +kernel
theorem dX7_build_95 : decode cX7_build 95 = .ok (.iastore, 1) := by decide +kernel
theorem dX7_build_96 : decode cX7_build 96 = .ok (.iinc 3 1, 3) := by decide +kernel
theorem dX7_build_99 : decode cX7_build 99 = .ok (.goto (-28), 3) := by decide +kernel
theorem dX7_build_102 : decode cX7_build 102 = .ok (.aload_n 0, 1) := by decide +kernel
theorem dX7_build_103 : decode cX7_build 103 = .ok (.invokevirtual 110, 3) := by decide +kernel
theorem dX7_build_106 : decode cX7_build 106 = .ok (.aload_n 0, 1) := by decide +kernel
theorem dX7_build_107 : decode cX7_build 107 = .ok (.invokevirtual 99, 3) := by decide +kernel
theorem dX7_build_110 : decode cX7_build 110 = .ok (.ireturn, 1) := by decide +kernel
theorem dX7_againstRun_0 : decode cX7_againstRun 0 = .ok (.aload_n 0, 1) := by decide +kernel
theorem dX7_againstRun_1 : decode cX7_againstRun 1 = .ok (.getfield 81, 3) := by decide +kernel
theorem dX7_againstRun_4 : decode cX7_againstRun 4 = .ok (.ifCond .ne 6, 3) := by decide +kernel
theorem dX7_againstRun_7 : decode cX7_againstRun 7 = .ok (.bipush (-2), 2) := by decide +kernel
theorem dX7_againstRun_9 : decode cX7_againstRun 9 = .ok (.ireturn, 1) := by decide +kernel
theorem dX7_againstRun_10 : decode cX7_againstRun 10 = .ok (.iload_n 1, 1) := by decide +kernel
theorem dX7_againstRun_11 : decode cX7_againstRun 11 = .ok (.iconst 0, 1) := by decide +kernel
theorem dX7_againstRun_12 : decode cX7_againstRun 12 = .ok (.aload_n 0, 1) := by decide +kernel
theorem dX7_againstRun_13 : decode cX7_againstRun 13 = .ok (.getfield 81, 3) := by decide +kernel
theorem dX7_againstRun_16 : decode cX7_againstRun 16 = .ok (.iconst 1, 1) := by decide +kernel
theorem dX7_againstRun_17 : decode cX7_againstRun 17 = .ok (.isub, 1) := by decide +kernel
theorem dX7_againstRun_18 : decode cX7_againstRun 18 = .ok (.invokestatic 56, 3) := by decide +kernel
theorem dX7_againstRun_21 : decode cX7_againstRun 21 = .ok (.ifCond .eq 17, 3) := by decide +kernel
theorem dX7_againstRun_24 : decode cX7_againstRun 24 = .ok (.iload_n 2, 1) := by decide +kernel
theorem dX7_againstRun_25 : decode cX7_againstRun 25 = .ok (.iload_n 1, 1) := by decide +kernel
theorem dX7_againstRun_26 : decode cX7_againstRun 26 = .ok (.aload_n 0, 1) := by decide +kernel
theorem dX7_againstRun_27 : decode cX7_againstRun 27 = .ok (.getfield 81, 3) := by decide +kernel
theorem dX7_againstRun_30 : decode cX7_againstRun 30 = .ok (.iconst 1, 1) := by decide +kernel
theorem dX7_againstRun_31 : decode cX7_againstRun 31 = .ok (.isub, 1) := by decide +kernel
theorem dX7_againstRun_32 : decode cX7_againstRun 32 = .ok (.invokestatic 56, 3) := by decide +kernel
theorem dX7_againstRun_35 : decode cX7_againstRun 35 = .ok (.ifCond .ne 11, 3) := by decide +kernel
theorem dX7_againstRun_38 : decode cX7_againstRun 38 = .ok (.aload_n 0, 1) := by decide +kernel
theorem dX7_againstRun_39 : decode cX7_againstRun 39 = .ok (.iconst 2, 1) := by decide +kernel
theorem dX7_againstRun_40 : decode cX7_againstRun 40 = .ok (.invokevirtual 64, 3) := by decide +kernel
theorem dX7_againstRun_43 : decode cX7_againstRun 43 = .ok (.goto 4, 3) := by decide +kernel
theorem dX7_againstRun_46 : decode cX7_againstRun 46 = .ok (.iconst 0, 1) := by decide +kernel
theorem dX7_againstRun_47 : decode cX7_againstRun 47 = .ok (.ireturn, 1) := by decide +kernel
theorem dX7_put_0 : decode cX7_put 0 = .ok (.aload_n 0, 1) := by decide +kernel
theorem dX7_put_1 : decode cX7_put 1 = .ok (.iconst 0, 1) := by decide +kernel
theorem dX7_put_2 : decode cX7_put 2 = .ok (.putfield 46, 3) := by decide +kernel
theorem dX7_put_5 : decode cX7_put 5 = .ok (.aload_n 0, 1) := by decide +kernel
theorem dX7_put_6 : decode cX7_put 6 = .ok (.iload_n 1, 1) := by decide +kernel
theorem dX7_put_7 : decode cX7_put 7 = .ok (.iload_n 1, 1) := by decide +kernel
theorem dX7_put_8 : decode cX7_put 8 = .ok (.invokevirtual 113, 3) := by decide +kernel
theorem dX7_put_11 : decode cX7_put 11 = .ok (.istore_n 3, 1) := by decide +kernel
theorem dX7_put_12 : decode cX7_put 12 = .ok (.iload_n 3, 1) := by decide +kernel
theorem dX7_put_13 : decode cX7_put 13 = .ok (.ifCond .eq 5, 3) := by decide +kernel
theorem dX7_put_16 : decode cX7_put 16 = .ok (.iload_n 3, 1) := by decide +kernel
theorem dX7_put_17 : decode cX7_put 17 = .ok (.ireturn, 1) := by decide +kernel
theorem dX7_put_18 : decode cX7_put 18 = .ok (.aload_n 0, 1) := by decide +kernel
theorem dX7_put_19 : decode cX7_put 19 = .ok (.getfield 96, 3) := by decide +kernel
theorem dX7_put_22 : decode cX7_put 22 = .ok (.bipush 10, 2) := by decide +kernel
theorem dX7_put_24 : decode cX7_put 24 = .ok (.if_icmp .ne 57, 3) := by decide +kernel
theorem dX7_put_27 : decode cX7_put 27 = .ok (.iconst 0, 1) := by decide +kernel
theorem dX7_put_28 : decode cX7_put 28 = .ok (.istore 4, 2) := by decide +kernel
theorem dX7_put_30 : decode cX7_put 30 = .ok (.iload 4, 2) := by decide +kernel
theorem dX7_put_32 : decode cX7_put 32 = .ok (.bipush 9, 2) := by decide +kernel
theorem dX7_put_34 : decode cX7_put 34 = .ok (.if_icmp .ge 41, 3) := by decide +kernel
theorem dX7_put_37 : decode cX7_put 37 = .ok (.aload_n 0, 1) := by decide +kernel
theorem dX7_put_38 : decode cX7_put 38 = .ok (.getfield 25, 3) := by decide +kernel
theorem dX7_put_41 : decode cX7_put 41 = .ok (.iload 4, 2) := by decide +kernel
theorem dX7_put_43 : decode cX7_put 43 = .ok (.aload_n 0, 1) := by decide +kernel
theorem dX7_put_44 : decode cX7_put 44 = .ok (.getfield 25, 3) := by decide +kernel
theorem dX7_put_47 : decode cX7_put 47 = .ok (.iload 4, 2) := by decide +kernel
theorem dX7_put_49 : decode cX7_put 49 = .ok (.iconst 1, 1) := by decide +kernel
theorem dX7_put_50 : decode cX7_put 50 = .ok (.iadd, 1) := by decide +kernel
theorem dX7_put_51 : decode cX7_put 51 = .ok (.iaload, 1) := by decide +kernel
theorem dX7_put_52 : decode cX7_put 52 = .ok (.iastore, 1) := by decide +kernel
theorem dX7_put_53 : decode cX7_put 53 = .ok (.aload_n 0, 1) := by decide +kernel
theorem dX7_put_54 : decode cX7_put 54 = .ok (.getfield 28, 3) := by decide +kernel
theorem dX7_put_57 : decode cX7_put 57 = .ok (.iload 4, 2) := by decide +kernel
theorem dX7_put_59 : decode cX7_put 59 = .ok (.aload_n 0, 1) := by decide +kernel
theorem dX7_put_60 : decode cX7_put 60 = .ok (.getfield 28, 3) := by decide +kernel
theorem dX7_put_63 : decode cX7_put 63 = .ok (.iload 4, 2) := by decide +kernel
theorem dX7_put_65 : decode cX7_put 65 = .ok (.iconst 1, 1) := by decide +kernel
theorem dX7_put_66 : decode cX7_put 66 = .ok (.iadd, 1) := by decide +kernel
theorem dX7_put_67 : decode cX7_put 67 = .ok (.iaload, 1) := by decide +kernel
theorem dX7_put_68 : decode cX7_put 68 = .ok (.iastore, 1) := by decide +kernel
theorem dX7_put_69 : decode cX7_put 69 = .ok (.iinc 4 1, 3) := by decide +kernel
theorem dX7_put_72 : decode cX7_put 72 = .ok (.goto (-42), 3) := by decide +kernel
theorem dX7_put_75 : decode cX7_put 75 = .ok (.aload_n 0, 1) := by decide +kernel
theorem dX7_put_76 : decode cX7_put 76 = .ok (.bipush 9, 2) := by decide +kernel
theorem dX7_put_78 : decode cX7_put 78 = .ok (.putfield 96, 3) := by decide +kernel
theorem dX7_put_81 : decode cX7_put 81 = .ok (.aload_n 0, 1) := by decide +kernel
theorem dX7_put_82 : decode cX7_put 82 = .ok (.getfield 25, 3) := by decide +kernel
theorem dX7_put_85 : decode cX7_put 85 = .ok (.aload_n 0, 1) := by decide +kernel
theorem dX7_put_86 : decode cX7_put 86 = .ok (.getfield 96, 3) := by decide +kernel
theorem dX7_put_89 : decode cX7_put 89 = .ok (.iload_n 1, 1) := by decide +kernel
theorem dX7_put_90 : decode cX7_put 90 = .ok (.iastore, 1) := by decide +kernel
theorem dX7_put_91 : decode cX7_put 91 = .ok (.aload_n 0, 1) := by decide +kernel
theorem dX7_put_92 : decode cX7_put 92 = .ok (.getfield 28, 3) := by decide +kernel
theorem dX7_put_95 : decode cX7_put 95 = .ok (.aload_n 0, 1) := by decide +kernel
theorem dX7_put_96 : decode cX7_put 96 = .ok (.getfield 96, 3) := by decide +kernel
theorem dX7_put_99 : decode cX7_put 99 = .ok (.aload_n 0, 1) := by decide +kernel
theorem dX7_put_100 : decode cX7_put 100 = .ok (.getfield 19, 3) := by decide +kernel
theorem dX7_put_103 : decode cX7_put 103 = .ok (.iload_n 1, 1) := by decide +kernel
theorem dX7_put_104 : decode cX7_put 104 = .ok (.iaload, 1) := by decide +kernel
theorem dX7_put_105 : decode cX7_put 105 = .ok (.iastore, 1) := by decide +kernel
theorem dX7_put_106 : decode cX7_put 106 = .ok (.aload_n 0, 1) := by decide +kernel
theorem dX7_put_107 : decode cX7_put 107 = .ok (.dup, 1) := by decide +kernel
theorem dX7_put_108 : decode cX7_put 108 = .ok (.getfield 96, 3) := by decide +kernel
theorem dX7_put_111 : decode cX7_put 111 = .ok (.iconst 1, 1) := by decide +kernel
theorem dX7_put_112 : decode cX7_put 112 = .ok (.iadd, 1) := by decide +kernel
theorem dX7_put_113 : decode cX7_put 113 = .ok (.putfield 96, 3) := by decide +kernel
theorem dX7_put_116 : decode cX7_put 116 = .ok (.aload_n 0, 1) := by decide +kernel
theorem dX7_put_117 : decode cX7_put 117 = .ok (.getfield 19, 3) := by decide +kernel
theorem dX7_put_120 : decode cX7_put 120 = .ok (.iload_n 1, 1) := by decide +kernel
theorem dX7_put_121 : decode cX7_put 121 = .ok (.iaload, 1) := by decide +kernel
theorem dX7_put_122 : decode cX7_put 122 = .ok (.istore 4, 2) := by decide +kernel
theorem dX7_put_124 : decode cX7_put 124 = .ok (.aload_n 0, 1) := by decide +kernel
theorem dX7_put_125 : decode cX7_put 125 = .ok (.iload_n 1, 1) := by decide +kernel
theorem dX7_put_126 : decode cX7_put 126 = .ok (.aload_n 0, 1) := by decide +kernel
theorem dX7_put_127 : decode cX7_put 127 = .ok (.getfield 78, 3) := by decide +kernel
theorem dX7_put_130 : decode cX7_put 130 = .ok (.idiv, 1) := by decide +kernel
theorem dX7_put_131 : decode cX7_put 131 = .ok (.invokevirtual 103, 3) := by decide +kernel
theorem dX7_put_134 : decode cX7_put 134 = .ok (.istore 5, 2) := by decide +kernel
theorem dX7_put_136 : decode cX7_put 136 = .ok (.aload_n 0, 1) := by decide +kernel
theorem dX7_put_137 : decode cX7_put 137 = .ok (.getfield 19, 3) := by decide +kernel
theorem dX7_put_140 : decode cX7_put 140 = .ok (.iload_n 1, 1) := by decide +kernel
theorem dX7_put_141 : decode cX7_put 141 = .ok (.iload_n 2, 1) := by decide +kernel
theorem dX7_put_142 : decode cX7_put 142 = .ok (.iastore, 1) := by decide +kernel
theorem dX7_put_143 : decode cX7_put 143 = .ok (.aload_n 0, 1) := by decide +kernel
theorem dX7_put_144 : decode cX7_put 144 = .ok (.iload_n 1, 1) := by decide +kernel
theorem dX7_put_145 : decode cX7_put 145 = .ok (.aload_n 0, 1) := by decide +kernel
theorem dX7_put_146 : decode cX7_put 146 = .ok (.getfield 78, 3) := by decide +kernel
theorem dX7_put_149 : decode cX7_put 149 = .ok (.idiv, 1) := by decide +kernel
theorem dX7_put_150 : decode cX7_put 150 = .ok (.invokevirtual 103, 3) := by decide +kernel
theorem dX7_put_153 : decode cX7_put 153 = .ok (.istore 6, 2) := by decide +kernel
theorem dX7_put_155 : decode cX7_put 155 = .ok (.aload_n 0, 1) := by decide +kernel
theorem dX7_put_156 : decode cX7_put 156 = .ok (.iload 6, 2) := by decide +kernel
theorem dX7_put_158 : decode cX7_put 158 = .ok (.invokevirtual 106, 3) := by decide +kernel
theorem dX7_put_161 : decode cX7_put 161 = .ok (.aload_n 0, 1) := by decide +kernel
theorem dX7_put_162 : decode cX7_put 162 = .ok (.iload 5, 2) := by decide +kernel
theorem dX7_put_164 : decode cX7_put 164 = .ok (.iload 6, 2) := by decide +kernel
theorem dX7_put_166 : decode cX7_put 166 = .ok (.if_icmp .ne 7, 3) := by decide +kernel
theorem dX7_put_169 : decode cX7_put 169 = .ok (.iconst 0, 1) := by decide +kernel
theorem dX7_put_170 : decode cX7_put 170 = .ok (.goto 4, 3) := by decide +kernel
theorem dX7_put_173 : decode cX7_put 173 = .ok (.iconst 1, 1) := by decide +kernel
theorem dX7_put_174 : decode cX7_put 174 = .ok (.iload 4, 2) := by decide +kernel
theorem dX7_put_176 : decode cX7_put 176 = .ok (.invokevirtual 72, 3) := by decide +kernel
theorem dX7_put_179 : decode cX7_put 179 = .ok (.ireturn, 1) := by decide +kernel
theorem dX7_undo_0 : decode cX7_undo 0 = .ok (.aload_n 0, 1) := by decide +kernel
theorem dX7_undo_1 : decode cX7_undo 1 = .ok (.iconst 0, 1) := by decide +kernel
theorem dX7_undo_2 : decode cX7_undo 2 = .ok (.putfield 46, 3) := by decide +kernel
theorem dX7_undo_5 : decode cX7_undo 5 = .ok (.aload_n 0, 1) := by decide +kernel
theorem dX7_undo_6 : decode cX7_undo 6 = .ok (.getfield 96, 3) := by decide +kernel
theorem dX7_undo_9 : decode cX7_undo 9 = .ok (.ifCond .ne 6, 3) := by decide +kernel
theorem dX7_undo_12 : decode cX7_undo 12 = .ok (.bipush (-2), 2) := by decide +kernel
theorem dX7_undo_14 : decode cX7_undo 14 = .ok (.ireturn, 1) := by decide +kernel
theorem dX7_undo_15 : decode cX7_undo 15 = .ok (.aload_n 0, 1) := by decide +kernel
theorem dX7_undo_16 : decode cX7_undo 16 = .ok (.dup, 1) := by decide +kernel
theorem dX7_undo_17 : decode cX7_undo 17 = .ok (.getfield 96, 3) := by decide +kernel
theorem dX7_undo_20 : decode cX7_undo 20 = .ok (.iconst 1, 1) := by decide +kernel
theorem dX7_undo_21 : decode cX7_undo 21 = .ok (.isub, 1) := by decide +kernel
theorem dX7_undo_22 : decode cX7_undo 22 = .ok (.putfield 96, 3) := by decide +kernel
theorem dX7_undo_25 : decode cX7_undo 25 = .ok (.aload_n 0, 1) := by decide +kernel
theorem dX7_undo_26 : decode cX7_undo 26 = .ok (.getfield 19, 3) := by decide +kernel
theorem dX7_undo_29 : decode cX7_undo 29 = .ok (.aload_n 0, 1) := by decide +kernel
theorem dX7_undo_30 : decode cX7_undo 30 = .ok (.getfield 25, 3) := by decide +kernel
theorem dX7_undo_33 : decode cX7_undo 33 = .ok (.aload_n 0, 1) := by decide +kernel
theorem dX7_undo_34 : decode cX7_undo 34 = .ok (.getfield 96, 3) := by decide +kernel
theorem dX7_undo_37 : decode cX7_undo 37 = .ok (.iaload, 1) := by decide +kernel
theorem dX7_undo_38 : decode cX7_undo 38 = .ok (.aload_n 0, 1) := by decide +kernel
theorem dX7_undo_39 : decode cX7_undo 39 = .ok (.getfield 28, 3) := by decide +kernel
theorem dX7_undo_42 : decode cX7_undo 42 = .ok (.aload_n 0, 1) := by decide +kernel
theorem dX7_undo_43 : decode cX7_undo 43 = .ok (.getfield 96, 3) := by decide +kernel
theorem dX7_undo_46 : decode cX7_undo 46 = .ok (.iaload, 1) := by decide +kernel
theorem dX7_undo_47 : decode cX7_undo 47 = .ok (.iastore, 1) := by decide +kernel
theorem dX7_undo_48 : decode cX7_undo 48 = .ok (.aload_n 0, 1) := by decide +kernel
theorem dX7_undo_49 : decode cX7_undo 49 = .ok (.getfield 96, 3) := by decide +kernel
theorem dX7_undo_52 : decode cX7_undo 52 = .ok (.ireturn, 1) := by decide +kernel
theorem dX7_keep_0 : decode cX7_keep 0 = .ok (.aload_n 0, 1) := by decide +kernel
theorem dX7_keep_1 : decode cX7_keep 1 = .ok (.iconst 0, 1) := by decide +kernel
theorem dX7_keep_2 : decode cX7_keep 2 = .ok (.putfield 46, 3) := by decide +kernel
theorem dX7_keep_5 : decode cX7_keep 5 = .ok (.iload_n 1, 1) := by decide +kernel
theorem dX7_keep_6 : decode cX7_keep 6 = .ok (.iconst 0, 1) := by decide +kernel
theorem dX7_keep_7 : decode cX7_keep 7 = .ok (.iconst 1, 1) := by decide +kernel
theorem dX7_keep_8 : decode cX7_keep 8 = .ok (.invokestatic 56, 3) := by decide +kernel
theorem dX7_keep_11 : decode cX7_keep 11 = .ok (.ifCond .ne 5, 3) := by decide +kernel
theorem dX7_keep_14 : decode cX7_keep 14 = .ok (.iconst (-1), 1) := by decide +kernel
theorem dX7_keep_15 : decode cX7_keep 15 = .ok (.ireturn, 1) := by decide +kernel
theorem dX7_keep_16 : decode cX7_keep 16 = .ok (.aload_n 0, 1) := by decide +kernel
theorem dX7_keep_17 : decode cX7_keep 17 = .ok (.getfield 81, 3) := by decide +kernel
theorem dX7_keep_20 : decode cX7_keep 20 = .ok (.ifCond .ne 6, 3) := by decide +kernel
theorem dX7_keep_23 : decode cX7_keep 23 = .ok (.bipush (-2), 2) := by decide +kernel
theorem dX7_keep_25 : decode cX7_keep 25 = .ok (.ireturn, 1) := by decide +kernel
theorem dX7_keep_26 : decode cX7_keep 26 = .ok (.aload_n 0, 1) := by decide +kernel
theorem dX7_keep_27 : decode cX7_keep 27 = .ok (.getfield 34, 3) := by decide +kernel
theorem dX7_keep_30 : decode cX7_keep 30 = .ok (.iload_n 1, 1) := by decide +kernel
theorem dX7_keep_31 : decode cX7_keep 31 = .ok (.aload_n 0, 1) := by decide +kernel
theorem dX7_keep_32 : decode cX7_keep 32 = .ok (.getfield 81, 3) := by decide +kernel
theorem dX7_keep_35 : decode cX7_keep 35 = .ok (.iastore, 1) := by decide +kernel
theorem dX7_keep_36 : decode cX7_keep 36 = .ok (.aload_n 0, 1) := by decide +kernel
theorem dX7_keep_37 : decode cX7_keep 37 = .ok (.getfield 37, 3) := by decide +kernel
theorem dX7_keep_40 : decode cX7_keep 40 = .ok (.iload_n 1, 1) := by decide +kernel
theorem dX7_keep_41 : decode cX7_keep 41 = .ok (.aload_n 0, 1) := by decide +kernel
theorem dX7_keep_42 : decode cX7_keep 42 = .ok (.getfield 78, 3) := by decide +kernel
theorem dX7_keep_45 : decode cX7_keep 45 = .ok (.iastore, 1) := by decide +kernel
theorem dX7_keep_46 : decode cX7_keep 46 = .ok (.iconst 0, 1) := by decide +kernel
theorem dX7_keep_47 : decode cX7_keep 47 = .ok (.istore_n 2, 1) := by decide +kernel
theorem dX7_keep_48 : decode cX7_keep 48 = .ok (.iload_n 2, 1) := by decide +kernel
theorem dX7_keep_49 : decode cX7_keep 49 = .ok (.aload_n 0, 1) := by decide +kernel
theorem dX7_keep_50 : decode cX7_keep 50 = .ok (.getfield 81, 3) := by decide +kernel
theorem dX7_keep_53 : decode cX7_keep 53 = .ok (.if_icmp .ge 26, 3) := by decide +kernel
theorem dX7_keep_56 : decode cX7_keep 56 = .ok (.aload_n 0, 1) := by decide +kernel
theorem dX7_keep_57 : decode cX7_keep 57 = .ok (.getfield 31, 3) := by decide +kernel
theorem dX7_keep_60 : decode cX7_keep 60 = .ok (.bipush 48, 2) := by decide +kernel
theorem dX7_keep_62 : decode cX7_keep 62 = .ok (.iload_n 1, 1) := by decide +kernel
theorem dX7_keep_63 : decode cX7_keep 63 = .ok (.imul, 1) := by decide +kernel
theorem dX7_keep_64 : decode cX7_keep 64 = .ok (.iload_n 2, 1) := by decide +kernel
theorem dX7_keep_65 : decode cX7_keep 65 = .ok (.iadd, 1) := by decide +kernel
theorem dX7_keep_66 : decode cX7_keep 66 = .ok (.aload_n 0, 1) := by decide +kernel
theorem dX7_keep_67 : decode cX7_keep 67 = .ok (.getfield 19, 3) := by decide +kernel
theorem dX7_keep_70 : decode cX7_keep 70 = .ok (.iload_n 2, 1) := by decide +kernel
theorem dX7_keep_71 : decode cX7_keep 71 = .ok (.iaload, 1) := by decide +kernel
theorem dX7_keep_72 : decode cX7_keep 72 = .ok (.iastore, 1) := by decide +kernel
theorem dX7_keep_73 : decode cX7_keep 73 = .ok (.iinc 2 1, 3) := by decide +kernel
theorem dX7_keep_76 : decode cX7_keep 76 = .ok (.goto (-28), 3) := by decide +kernel
theorem dX7_keep_79 : decode cX7_keep 79 = .ok (.aload_n 0, 1) := by decide +kernel
theorem dX7_keep_80 : decode cX7_keep 80 = .ok (.getfield 81, 3) := by decide +kernel
theorem dX7_keep_83 : decode cX7_keep 83 = .ok (.ireturn, 1) := by decide +kernel
theorem dX7_on_0 : decode cX7_on 0 = .ok (.aload_n 0, 1) := by decide +kernel
theorem dX7_on_1 : decode cX7_on 1 = .ok (.iconst 0, 1) := by decide +kernel
theorem dX7_on_2 : decode cX7_on 2 = .ok (.putfield 46, 3) := by decide +kernel
theorem dX7_on_5 : decode cX7_on 5 = .ok (.iload_n 1, 1) := by decide +kernel
theorem dX7_on_6 : decode cX7_on 6 = .ok (.iconst 0, 1) := by decide +kernel
theorem dX7_on_7 : decode cX7_on 7 = .ok (.iconst 1, 1) := by decide +kernel
theorem dX7_on_8 : decode cX7_on 8 = .ok (.invokestatic 56, 3) := by decide +kernel
theorem dX7_on_11 : decode cX7_on 11 = .ok (.ifCond .ne 5, 3) := by decide +kernel
theorem dX7_on_14 : decode cX7_on 14 = .ok (.iconst (-1), 1) := by decide +kernel
theorem dX7_on_15 : decode cX7_on 15 = .ok (.ireturn, 1) := by decide +kernel
theorem dX7_on_16 : decode cX7_on 16 = .ok (.aload_n 0, 1) := by decide +kernel
theorem dX7_on_17 : decode cX7_on 17 = .ok (.getfield 34, 3) := by decide +kernel
theorem dX7_on_20 : decode cX7_on 20 = .ok (.iload_n 1, 1) := by decide +kernel
theorem dX7_on_21 : decode cX7_on 21 = .ok (.iaload, 1) := by decide +kernel
theorem dX7_on_22 : decode cX7_on 22 = .ok (.ifCond .ne 6, 3) := by decide +kernel
theorem dX7_on_25 : decode cX7_on 25 = .ok (.bipush (-2), 2) := by decide +kernel
theorem dX7_on_27 : decode cX7_on 27 = .ok (.ireturn, 1) := by decide +kernel
theorem dX7_on_28 : decode cX7_on 28 = .ok (.aload_n 0, 1) := by decide +kernel
theorem dX7_on_29 : decode cX7_on 29 = .ok (.aload_n 0, 1) := by decide +kernel
theorem dX7_on_30 : decode cX7_on 30 = .ok (.getfield 34, 3) := by decide +kernel
theorem dX7_on_33 : decode cX7_on 33 = .ok (.iload_n 1, 1) := by decide +kernel
theorem dX7_on_34 : decode cX7_on 34 = .ok (.iaload, 1) := by decide +kernel
theorem dX7_on_35 : decode cX7_on 35 = .ok (.putfield 81, 3) := by decide +kernel
theorem dX7_on_38 : decode cX7_on 38 = .ok (.aload_n 0, 1) := by decide +kernel
theorem dX7_on_39 : decode cX7_on 39 = .ok (.aload_n 0, 1) := by decide +kernel
theorem dX7_on_40 : decode cX7_on 40 = .ok (.getfield 37, 3) := by decide +kernel
theorem dX7_on_43 : decode cX7_on 43 = .ok (.iload_n 1, 1) := by decide +kernel
theorem dX7_on_44 : decode cX7_on 44 = .ok (.iaload, 1) := by decide +kernel
theorem dX7_on_45 : decode cX7_on 45 = .ok (.putfield 78, 3) := by decide +kernel
theorem dX7_on_48 : decode cX7_on 48 = .ok (.iconst 0, 1) := by decide +kernel
theorem dX7_on_49 : decode cX7_on 49 = .ok (.istore_n 2, 1) := by decide +kernel
theorem dX7_on_50 : decode cX7_on 50 = .ok (.iload_n 2, 1) := by decide +kernel
theorem dX7_on_51 : decode cX7_on 51 = .ok (.aload_n 0, 1) := by decide +kernel
theorem dX7_on_52 : decode cX7_on 52 = .ok (.getfield 81, 3) := by decide +kernel
theorem dX7_on_55 : decode cX7_on 55 = .ok (.if_icmp .ge 26, 3) := by decide +kernel
theorem dX7_on_58 : decode cX7_on 58 = .ok (.aload_n 0, 1) := by decide +kernel
theorem dX7_on_59 : decode cX7_on 59 = .ok (.getfield 19, 3) := by decide +kernel
theorem dX7_on_62 : decode cX7_on 62 = .ok (.iload_n 2, 1) := by decide +kernel
theorem dX7_on_63 : decode cX7_on 63 = .ok (.aload_n 0, 1) := by decide +kernel
theorem dX7_on_64 : decode cX7_on 64 = .ok (.getfield 31, 3) := by decide +kernel
theorem dX7_on_67 : decode cX7_on 67 = .ok (.bipush 48, 2) := by decide +kernel
theorem dX7_on_69 : decode cX7_on 69 = .ok (.iload_n 1, 1) := by decide +kernel
theorem dX7_on_70 : decode cX7_on 70 = .ok (.imul, 1) := by decide +kernel
theorem dX7_on_71 : decode cX7_on 71 = .ok (.iload_n 2, 1) := by decide +kernel
theorem dX7_on_72 : decode cX7_on 72 = .ok (.iadd, 1) := by decide +kernel
theorem dX7_on_73 : decode cX7_on 73 = .ok (.iaload, 1) := by decide +kernel
theorem dX7_on_74 : decode cX7_on 74 = .ok (.iastore, 1) := by decide +kernel
theorem dX7_on_75 : decode cX7_on 75 = .ok (.iinc 2 1, 3) := by decide +kernel
theorem dX7_on_78 : decode cX7_on 78 = .ok (.goto (-28), 3) := by decide +kernel
theorem dX7_on_81 : decode cX7_on 81 = .ok (.aload_n 0, 1) := by decide +kernel
theorem dX7_on_82 : decode cX7_on 82 = .ok (.invokevirtual 110, 3) := by decide +kernel
theorem dX7_on_85 : decode cX7_on 85 = .ok (.aload_n 0, 1) := by decide +kernel
theorem dX7_on_86 : decode cX7_on 86 = .ok (.getfield 81, 3) := by decide +kernel
theorem dX7_on_89 : decode cX7_on 89 = .ok (.ireturn, 1) := by decide +kernel
theorem dX7_item_0 : decode cX7_item 0 = .ok (.aload_n 0, 1) := by decide +kernel
theorem dX7_item_1 : decode cX7_item 1 = .ok (.iconst 0, 1) := by decide +kernel
theorem dX7_item_2 : decode cX7_item 2 = .ok (.putfield 46, 3) := by decide +kernel
theorem dX7_item_5 : decode cX7_item 5 = .ok (.aload_n 0, 1) := by decide +kernel
theorem dX7_item_6 : decode cX7_item 6 = .ok (.iload_n 1, 1) := by decide +kernel
theorem dX7_item_7 : decode cX7_item 7 = .ok (.iload_n 1, 1) := by decide +kernel
theorem dX7_item_8 : decode cX7_item 8 = .ok (.invokevirtual 113, 3) := by decide +kernel
theorem dX7_item_11 : decode cX7_item 11 = .ok (.istore_n 2, 1) := by decide +kernel
theorem dX7_item_12 : decode cX7_item 12 = .ok (.iload_n 2, 1) := by decide +kernel
theorem dX7_item_13 : decode cX7_item 13 = .ok (.ifCond .eq 7, 3) := by decide +kernel
theorem dX7_item_16 : decode cX7_item 16 = .ok (.iload_n 2, 1) := by decide +kernel
theorem dX7_item_17 : decode cX7_item 17 = .ok (.goto 14, 3) := by decide +kernel
theorem dX7_item_20 : decode cX7_item 20 = .ok (.aload_n 0, 1) := by decide +kernel
theorem dX7_item_21 : decode cX7_item 21 = .ok (.iconst 1, 1) := by decide +kernel
theorem dX7_item_22 : decode cX7_item 22 = .ok (.aload_n 0, 1) := by decide +kernel
theorem dX7_item_23 : decode cX7_item 23 = .ok (.getfield 19, 3) := by decide +kernel
theorem dX7_item_26 : decode cX7_item 26 = .ok (.iload_n 1, 1) := by decide +kernel
theorem dX7_item_27 : decode cX7_item 27 = .ok (.iaload, 1) := by decide +kernel
theorem dX7_item_28 : decode cX7_item 28 = .ok (.invokevirtual 72, 3) := by decide +kernel
theorem dX7_item_31 : decode cX7_item 31 = .ok (.ireturn, 1) := by decide +kernel
theorem dX7_shape_0 : decode cX7_shape 0 = .ok (.aload_n 0, 1) := by decide +kernel
theorem dX7_shape_1 : decode cX7_shape 1 = .ok (.iconst 0, 1) := by decide +kernel
theorem dX7_shape_2 : decode cX7_shape 2 = .ok (.putfield 46, 3) := by decide +kernel
theorem dX7_shape_5 : decode cX7_shape 5 = .ok (.aload_n 0, 1) := by decide +kernel
theorem dX7_shape_6 : decode cX7_shape 6 = .ok (.getfield 81, 3) := by decide +kernel
theorem dX7_shape_9 : decode cX7_shape 9 = .ok (.ifCond .ne 6, 3) := by decide +kernel
theorem dX7_shape_12 : decode cX7_shape 12 = .ok (.bipush (-2), 2) := by decide +kernel
theorem dX7_shape_14 : decode cX7_shape 14 = .ok (.ireturn, 1) := by decide +kernel
theorem dX7_shape_15 : decode cX7_shape 15 = .ok (.iload_n 1, 1) := by decide +kernel
theorem dX7_shape_16 : decode cX7_shape 16 = .ok (.iconst 0, 1) := by decide +kernel
theorem dX7_shape_17 : decode cX7_shape 17 = .ok (.aload_n 0, 1) := by decide +kernel
theorem dX7_shape_18 : decode cX7_shape 18 = .ok (.invokevirtual 99, 3) := by decide +kernel
theorem dX7_shape_21 : decode cX7_shape 21 = .ok (.iconst 1, 1) := by decide +kernel
theorem dX7_shape_22 : decode cX7_shape 22 = .ok (.isub, 1) := by decide +kernel
theorem dX7_shape_23 : decode cX7_shape 23 = .ok (.invokestatic 56, 3) := by decide +kernel
theorem dX7_shape_26 : decode cX7_shape 26 = .ok (.ifCond .eq 11, 3) := by decide +kernel
theorem dX7_shape_29 : decode cX7_shape 29 = .ok (.aload_n 0, 1) := by decide +kernel
theorem dX7_shape_30 : decode cX7_shape 30 = .ok (.iload_n 1, 1) := by decide +kernel
theorem dX7_shape_31 : decode cX7_shape 31 = .ok (.invokevirtual 103, 3) := by decide +kernel
theorem dX7_shape_34 : decode cX7_shape 34 = .ok (.goto 8, 3) := by decide +kernel
theorem dX7_shape_37 : decode cX7_shape 37 = .ok (.aload_n 0, 1) := by decide +kernel
theorem dX7_shape_38 : decode cX7_shape 38 = .ok (.iconst 2, 1) := by decide +kernel
theorem dX7_shape_39 : decode cX7_shape 39 = .ok (.invokevirtual 64, 3) := by decide +kernel
theorem dX7_shape_42 : decode cX7_shape 42 = .ok (.ireturn, 1) := by decide +kernel
theorem dX7_entry_0 : decode cX7_entry 0 = .ok (.aload_n 0, 1) := by decide +kernel
theorem dX7_entry_1 : decode cX7_entry 1 = .ok (.iconst 0, 1) := by decide +kernel
theorem dX7_entry_2 : decode cX7_entry 2 = .ok (.putfield 46, 3) := by decide +kernel
theorem dX7_entry_5 : decode cX7_entry 5 = .ok (.aload_n 0, 1) := by decide +kernel
theorem dX7_entry_6 : decode cX7_entry 6 = .ok (.getfield 81, 3) := by decide +kernel
theorem dX7_entry_9 : decode cX7_entry 9 = .ok (.ifCond .ne 6, 3) := by decide +kernel
theorem dX7_entry_12 : decode cX7_entry 12 = .ok (.bipush (-2), 2) := by decide +kernel
theorem dX7_entry_14 : decode cX7_entry 14 = .ok (.ireturn, 1) := by decide +kernel
theorem dX7_entry_15 : decode cX7_entry 15 = .ok (.aload_n 0, 1) := by decide +kernel
theorem dX7_entry_16 : decode cX7_entry 16 = .ok (.iload_n 1, 1) := by decide +kernel
theorem dX7_entry_17 : decode cX7_entry 17 = .ok (.invokevirtual 90, 3) := by decide +kernel
theorem dX7_entry_20 : decode cX7_entry 20 = .ok (.ifCond .ne 5, 3) := by decide +kernel
theorem dX7_entry_23 : decode cX7_entry 23 = .ok (.iconst (-1), 1) := by decide +kernel
theorem dX7_entry_24 : decode cX7_entry 24 = .ok (.ireturn, 1) := by decide +kernel
theorem dX7_entry_25 : decode cX7_entry 25 = .ok (.iconst 0, 1) := by decide +kernel
theorem dX7_entry_26 : decode cX7_entry 26 = .ok (.istore 4, 2) := by decide +kernel
theorem dX7_entry_28 : decode cX7_entry 28 = .ok (.iload_n 1, 1) := by decide +kernel
theorem dX7_entry_29 : decode cX7_entry 29 = .ok (.iload 4, 2) := by decide +kernel
theorem dX7_entry_31 : decode cX7_entry 31 = .ok (.iconst 1, 1) := by decide +kernel
theorem dX7_entry_32 : decode cX7_entry 32 = .ok (.iadd, 1) := by decide +kernel
theorem dX7_entry_33 : decode cX7_entry 33 = .ok (.ishr, 1) := by decide +kernel
theorem dX7_entry_34 : decode cX7_entry 34 = .ok (.ifCond .le 9, 3) := by decide +kernel
theorem dX7_entry_37 : decode cX7_entry 37 = .ok (.iinc 4 1, 3) := by decide +kernel
theorem dX7_entry_40 : decode cX7_entry 40 = .ok (.goto (-12), 3) := by decide +kernel
theorem dX7_entry_43 : decode cX7_entry 43 = .ok (.iconst 0, 1) := by decide +kernel
theorem dX7_entry_44 : decode cX7_entry 44 = .ok (.istore 5, 2) := by decide +kernel
theorem dX7_entry_46 : decode cX7_entry 46 = .ok (.bipush (-9), 2) := by decide +kernel
theorem dX7_entry_48 : decode cX7_entry 48 = .ok (.istore 6, 2) := by decide +kernel
theorem dX7_entry_50 : decode cX7_entry 50 = .ok (.aload_n 0, 1) := by decide +kernel
theorem dX7_entry_51 : decode cX7_entry 51 = .ok (.iconst 0, 1) := by decide +kernel
theorem dX7_entry_52 : decode cX7_entry 52 = .ok (.putfield 84, 3) := by decide +kernel
theorem dX7_entry_55 : decode cX7_entry 55 = .ok (.iload 4, 2) := by decide +kernel
theorem dX7_entry_57 : decode cX7_entry 57 = .ok (.iconst 1, 1) := by decide +kernel
theorem dX7_entry_58 : decode cX7_entry 58 = .ok (.isub, 1) := by decide +kernel
theorem dX7_entry_59 : decode cX7_entry 59 = .ok (.istore 7, 2) := by decide +kernel
theorem dX7_entry_61 : decode cX7_entry 61 = .ok (.iload 7, 2) := by decide +kernel
theorem dX7_entry_63 : decode cX7_entry 63 = .ok (.ifCond .lt 105, 3) := by decide +kernel
theorem dX7_entry_66 : decode cX7_entry 66 = .ok (.iload_n 1, 1) := by decide +kernel
theorem dX7_entry_67 : decode cX7_entry 67 = .ok (.iload 7, 2) := by decide +kernel
theorem dX7_entry_69 : decode cX7_entry 69 = .ok (.ishr, 1) := by decide +kernel
theorem dX7_entry_70 : decode cX7_entry 70 = .ok (.iconst 1, 1) := by decide +kernel
theorem dX7_entry_71 : decode cX7_entry 71 = .ok (.iand, 1) := by decide +kernel
theorem dX7_entry_72 : decode cX7_entry 72 = .ok (.ifCond .ne 16, 3) := by decide +kernel
theorem dX7_entry_75 : decode cX7_entry 75 = .ok (.aload_n 0, 1) := by decide +kernel
theorem dX7_entry_76 : decode cX7_entry 76 = .ok (.dup, 1) := by decide +kernel
theorem dX7_entry_77 : decode cX7_entry 77 = .ok (.getfield 84, 3) := by decide +kernel
theorem dX7_entry_80 : decode cX7_entry 80 = .ok (.iconst 1, 1) := by decide +kernel
theorem dX7_entry_81 : decode cX7_entry 81 = .ok (.isub, 1) := by decide +kernel
theorem dX7_entry_82 : decode cX7_entry 82 = .ok (.putfield 84, 3) := by decide +kernel
theorem dX7_entry_85 : decode cX7_entry 85 = .ok (.goto 77, 3) := by decide +kernel
theorem dX7_entry_88 : decode cX7_entry 88 = .ok (.aload_n 0, 1) := by decide +kernel
theorem dX7_entry_89 : decode cX7_entry 89 = .ok (.getfield 40, 3) := by decide +kernel
theorem dX7_entry_92 : decode cX7_entry 92 = .ok (.aload_n 0, 1) := by decide +kernel
theorem dX7_entry_93 : decode cX7_entry 93 = .ok (.getfield 84, 3) := by decide +kernel
theorem dX7_entry_96 : decode cX7_entry 96 = .ok (.iload 5, 2) := by decide +kernel
theorem dX7_entry_98 : decode cX7_entry 98 = .ok (.iastore, 1) := by decide +kernel
theorem dX7_entry_99 : decode cX7_entry 99 = .ok (.aload_n 0, 1) := by decide +kernel
theorem dX7_entry_100 : decode cX7_entry 100 = .ok (.dup, 1) := by decide +kernel
theorem dX7_entry_101 : decode cX7_entry 101 = .ok (.getfield 84, 3) := by decide +kernel
theorem dX7_entry_104 : decode cX7_entry 104 = .ok (.iconst 1, 1) := by decide +kernel
theorem dX7_entry_105 : decode cX7_entry 105 = .ok (.iadd, 1) := by decide +kernel
theorem dX7_entry_106 : decode cX7_entry 106 = .ok (.putfield 84, 3) := by decide +kernel
theorem dX7_entry_109 : decode cX7_entry 109 = .ok (.aload_n 0, 1) := by decide +kernel
theorem dX7_entry_110 : decode cX7_entry 110 = .ok (.getfield 84, 3) := by decide +kernel
theorem dX7_entry_113 : decode cX7_entry 113 = .ok (.iconst 1, 1) := by decide +kernel
theorem dX7_entry_114 : decode cX7_entry 114 = .ok (.isub, 1) := by decide +kernel
theorem dX7_entry_115 : decode cX7_entry 115 = .ok (.istore 8, 2) := by decide +kernel
theorem dX7_entry_117 : decode cX7_entry 117 = .ok (.iload 8, 2) := by decide +kernel
theorem dX7_entry_119 : decode cX7_entry 119 = .ok (.ifCond .lt 40, 3) := by decide +kernel
theorem dX7_entry_122 : decode cX7_entry 122 = .ok (.iload 5, 2) := by decide +kernel
theorem dX7_entry_124 : decode cX7_entry 124 = .ok (.iload_n 3, 1) := by decide +kernel
theorem dX7_entry_125 : decode cX7_entry 125 = .ok (.if_icmp .ne 34, 3) := by decide +kernel
theorem dX7_entry_128 : decode cX7_entry 128 = .ok (.aload_n 0, 1) := by decide +kernel
theorem dX7_entry_129 : decode cX7_entry 129 = .ok (.getfield 40, 3) := by decide +kernel
theorem dX7_entry_132 : decode cX7_entry 132 = .ok (.iload 8, 2) := by decide +kernel
theorem dX7_entry_134 : decode cX7_entry 134 = .ok (.iaload, 1) := by decide +kernel
theorem dX7_entry_135 : decode cX7_entry 135 = .ok (.iload_n 2, 1) := by decide +kernel
theorem dX7_entry_136 : decode cX7_entry 136 = .ok (.if_icmp .lt 13, 3) := by decide +kernel
theorem dX7_entry_139 : decode cX7_entry 139 = .ok (.aload_n 0, 1) := by decide +kernel
theorem dX7_entry_140 : decode cX7_entry 140 = .ok (.getfield 40, 3) := by decide +kernel
theorem dX7_entry_143 : decode cX7_entry 143 = .ok (.iload 8, 2) := by decide +kernel
theorem dX7_entry_145 : decode cX7_entry 145 = .ok (.iaload, 1) := by decide +kernel
theorem dX7_entry_146 : decode cX7_entry 146 = .ok (.goto 5, 3) := by decide +kernel
theorem dX7_entry_149 : decode cX7_entry 149 = .ok (.iload 6, 2) := by decide +kernel
theorem dX7_entry_151 : decode cX7_entry 151 = .ok (.istore 6, 2) := by decide +kernel
theorem dX7_entry_153 : decode cX7_entry 153 = .ok (.iinc 8 (-1), 3) := by decide +kernel
theorem dX7_entry_156 : decode cX7_entry 156 = .ok (.goto (-39), 3) := by decide +kernel
theorem dX7_entry_159 : decode cX7_entry 159 = .ok (.iinc 5 1, 3) := by decide +kernel
theorem dX7_entry_162 : decode cX7_entry 162 = .ok (.iinc 7 (-1), 3) := by decide +kernel
theorem dX7_entry_165 : decode cX7_entry 165 = .ok (.goto (-104), 3) := by decide +kernel
theorem dX7_entry_168 : decode cX7_entry 168 = .ok (.iload_n 2, 1) := by decide +kernel
theorem dX7_entry_169 : decode cX7_entry 169 = .ok (.iconst 0, 1) := by decide +kernel
theorem dX7_entry_170 : decode cX7_entry 170 = .ok (.iload 5, 2) := by decide +kernel
theorem dX7_entry_172 : decode cX7_entry 172 = .ok (.iconst 1, 1) := by decide +kernel
theorem dX7_entry_173 : decode cX7_entry 173 = .ok (.isub, 1) := by decide +kernel
theorem dX7_entry_174 : decode cX7_entry 174 = .ok (.invokestatic 56, 3) := by decide +kernel
theorem dX7_entry_177 : decode cX7_entry 177 = .ok (.ifCond .eq 20, 3) := by decide +kernel
theorem dX7_entry_180 : decode cX7_entry 180 = .ok (.iload_n 3, 1) := by decide +kernel
theorem dX7_entry_181 : decode cX7_entry 181 = .ok (.iload_n 2, 1) := by decide +kernel
theorem dX7_entry_182 : decode cX7_entry 182 = .ok (.iload 5, 2) := by decide +kernel
theorem dX7_entry_184 : decode cX7_entry 184 = .ok (.iconst 1, 1) := by decide +kernel
theorem dX7_entry_185 : decode cX7_entry 185 = .ok (.isub, 1) := by decide +kernel
theorem dX7_entry_186 : decode cX7_entry 186 = .ok (.invokestatic 56, 3) := by decide +kernel
theorem dX7_entry_189 : decode cX7_entry 189 = .ok (.ifCond .eq 8, 3) := by decide +kernel
theorem dX7_entry_192 : decode cX7_entry 192 = .ok (.iload 6, 2) := by decide +kernel
theorem dX7_entry_194 : decode cX7_entry 194 = .ok (.goto 8, 3) := by decide +kernel
theorem dX7_entry_197 : decode cX7_entry 197 = .ok (.aload_n 0, 1) := by decide +kernel
theorem dX7_entry_198 : decode cX7_entry 198 = .ok (.iconst 2, 1) := by decide +kernel
theorem dX7_entry_199 : decode cX7_entry 199 = .ok (.invokevirtual 64, 3) := by decide +kernel
theorem dX7_entry_202 : decode cX7_entry 202 = .ok (.ireturn, 1) := by decide +kernel
theorem dX7_leastOf_0 : decode cX7_leastOf 0 = .ok (.iload_n 1, 1) := by decide +kernel
theorem dX7_leastOf_1 : decode cX7_leastOf 1 = .ok (.istore_n 3, 1) := by decide +kernel
theorem dX7_leastOf_2 : decode cX7_leastOf 2 = .ok (.iload_n 1, 1) := by decide +kernel
theorem dX7_leastOf_3 : decode cX7_leastOf 3 = .ok (.iconst 1, 1) := by decide +kernel
theorem dX7_leastOf_4 : decode cX7_leastOf 4 = .ok (.iadd, 1) := by decide +kernel
theorem dX7_leastOf_5 : decode cX7_leastOf 5 = .ok (.istore 4, 2) := by decide +kernel
theorem dX7_leastOf_7 : decode cX7_leastOf 7 = .ok (.iload 4, 2) := by decide +kernel
theorem dX7_leastOf_9 : decode cX7_leastOf 9 = .ok (.iload_n 2, 1) := by decide +kernel
theorem dX7_leastOf_10 : decode cX7_leastOf 10 = .ok (.if_icmp .gt 32, 3) := by decide +kernel
theorem dX7_leastOf_13 : decode cX7_leastOf 13 = .ok (.aload_n 0, 1) := by decide +kernel
theorem dX7_leastOf_14 : decode cX7_leastOf 14 = .ok (.getfield 19, 3) := by decide +kernel
theorem dX7_leastOf_17 : decode cX7_leastOf 17 = .ok (.iload 4, 2) := by decide +kernel
theorem dX7_leastOf_19 : decode cX7_leastOf 19 = .ok (.iaload, 1) := by decide +kernel
theorem dX7_leastOf_20 : decode cX7_leastOf 20 = .ok (.aload_n 0, 1) := by decide +kernel
theorem dX7_leastOf_21 : decode cX7_leastOf 21 = .ok (.getfield 19, 3) := by decide +kernel
theorem dX7_leastOf_24 : decode cX7_leastOf 24 = .ok (.iload_n 3, 1) := by decide +kernel
theorem dX7_leastOf_25 : decode cX7_leastOf 25 = .ok (.iaload, 1) := by decide +kernel
theorem dX7_leastOf_26 : decode cX7_leastOf 26 = .ok (.if_icmp .ge 8, 3) := by decide +kernel
theorem dX7_leastOf_29 : decode cX7_leastOf 29 = .ok (.iload 4, 2) := by decide +kernel
theorem dX7_leastOf_31 : decode cX7_leastOf 31 = .ok (.goto 4, 3) := by decide +kernel
theorem dX7_leastOf_34 : decode cX7_leastOf 34 = .ok (.iload_n 3, 1) := by decide +kernel
theorem dX7_leastOf_35 : decode cX7_leastOf 35 = .ok (.istore_n 3, 1) := by decide +kernel
theorem dX7_leastOf_36 : decode cX7_leastOf 36 = .ok (.iinc 4 1, 3) := by decide +kernel
theorem dX7_leastOf_39 : decode cX7_leastOf 39 = .ok (.goto (-32), 3) := by decide +kernel
theorem dX7_leastOf_42 : decode cX7_leastOf 42 = .ok (.iload_n 3, 1) := by decide +kernel
theorem dX7_leastOf_43 : decode cX7_leastOf 43 = .ok (.ireturn, 1) := by decide +kernel
theorem dX7_least_0 : decode cX7_least 0 = .ok (.aload_n 0, 1) := by decide +kernel
theorem dX7_least_1 : decode cX7_least 1 = .ok (.iconst 0, 1) := by decide +kernel
theorem dX7_least_2 : decode cX7_least 2 = .ok (.putfield 46, 3) := by decide +kernel
theorem dX7_least_5 : decode cX7_least 5 = .ok (.aload_n 0, 1) := by decide +kernel
theorem dX7_least_6 : decode cX7_least 6 = .ok (.iload_n 1, 1) := by decide +kernel
theorem dX7_least_7 : decode cX7_least 7 = .ok (.iload_n 2, 1) := by decide +kernel
theorem dX7_least_8 : decode cX7_least 8 = .ok (.invokevirtual 113, 3) := by decide +kernel
theorem dX7_least_11 : decode cX7_least 11 = .ok (.istore_n 3, 1) := by decide +kernel
theorem dX7_least_12 : decode cX7_least 12 = .ok (.iload_n 3, 1) := by decide +kernel
theorem dX7_least_13 : decode cX7_least 13 = .ok (.ifCond .eq 5, 3) := by decide +kernel
theorem dX7_least_16 : decode cX7_least 16 = .ok (.iload_n 3, 1) := by decide +kernel
theorem dX7_least_17 : decode cX7_least 17 = .ok (.ireturn, 1) := by decide +kernel
theorem dX7_least_18 : decode cX7_least 18 = .ok (.aload_n 0, 1) := by decide +kernel
theorem dX7_least_19 : decode cX7_least 19 = .ok (.iload_n 1, 1) := by decide +kernel
theorem dX7_least_20 : decode cX7_least 20 = .ok (.iload_n 2, 1) := by decide +kernel
theorem dX7_least_21 : decode cX7_least 21 = .ok (.invokevirtual 116, 3) := by decide +kernel
theorem dX7_least_24 : decode cX7_least 24 = .ok (.istore 4, 2) := by decide +kernel
theorem dX7_least_26 : decode cX7_least 26 = .ok (.aload_n 0, 1) := by decide +kernel
theorem dX7_least_27 : decode cX7_least 27 = .ok (.iload 4, 2) := by decide +kernel
theorem dX7_least_29 : decode cX7_least 29 = .ok (.aload_n 0, 1) := by decide +kernel
theorem dX7_least_30 : decode cX7_least 30 = .ok (.getfield 19, 3) := by decide +kernel
theorem dX7_least_33 : decode cX7_least 33 = .ok (.iload 4, 2) := by decide +kernel
theorem dX7_least_35 : decode cX7_least 35 = .ok (.iaload, 1) := by decide +kernel
theorem dX7_least_36 : decode cX7_least 36 = .ok (.invokevirtual 72, 3) := by decide +kernel
theorem dX7_least_39 : decode cX7_least 39 = .ok (.ireturn, 1) := by decide +kernel
theorem dX7_kth_0 : decode cX7_kth 0 = .ok (.aload_n 0, 1) := by decide +kernel
theorem dX7_kth_1 : decode cX7_kth 1 = .ok (.iconst 0, 1) := by decide +kernel
theorem dX7_kth_2 : decode cX7_kth 2 = .ok (.putfield 46, 3) := by decide +kernel
theorem dX7_kth_5 : decode cX7_kth 5 = .ok (.aload_n 0, 1) := by decide +kernel
theorem dX7_kth_6 : decode cX7_kth 6 = .ok (.iload_n 1, 1) := by decide +kernel
theorem dX7_kth_7 : decode cX7_kth 7 = .ok (.iload_n 2, 1) := by decide +kernel
theorem dX7_kth_8 : decode cX7_kth 8 = .ok (.invokevirtual 113, 3) := by decide +kernel
theorem dX7_kth_11 : decode cX7_kth 11 = .ok (.istore 4, 2) := by decide +kernel
theorem dX7_kth_13 : decode cX7_kth 13 = .ok (.iload 4, 2) := by decide +kernel
theorem dX7_kth_15 : decode cX7_kth 15 = .ok (.ifCond .eq 6, 3) := by decide +kernel
theorem dX7_kth_18 : decode cX7_kth 18 = .ok (.iload 4, 2) := by decide +kernel
theorem dX7_kth_20 : decode cX7_kth 20 = .ok (.ireturn, 1) := by decide +kernel
theorem dX7_kth_21 : decode cX7_kth 21 = .ok (.iload_n 3, 1) := by decide +kernel
theorem dX7_kth_22 : decode cX7_kth 22 = .ok (.iconst 0, 1) := by decide +kernel
theorem dX7_kth_23 : decode cX7_kth 23 = .ok (.iload_n 2, 1) := by decide +kernel
theorem dX7_kth_24 : decode cX7_kth 24 = .ok (.iload_n 1, 1) := by decide +kernel
theorem dX7_kth_25 : decode cX7_kth 25 = .ok (.isub, 1) := by decide +kernel
theorem dX7_kth_26 : decode cX7_kth 26 = .ok (.invokestatic 56, 3) := by decide +kernel
theorem dX7_kth_29 : decode cX7_kth 29 = .ok (.ifCond .ne 9, 3) := by decide +kernel
theorem dX7_kth_32 : decode cX7_kth 32 = .ok (.aload_n 0, 1) := by decide +kernel
theorem dX7_kth_33 : decode cX7_kth 33 = .ok (.iconst 2, 1) := by decide +kernel
theorem dX7_kth_34 : decode cX7_kth 34 = .ok (.invokevirtual 64, 3) := by decide +kernel
theorem dX7_kth_37 : decode cX7_kth 37 = .ok (.ireturn, 1) := by decide +kernel
theorem dX7_kth_38 : decode cX7_kth 38 = .ok (.iload_n 1, 1) := by decide +kernel
theorem dX7_kth_39 : decode cX7_kth 39 = .ok (.istore 5, 2) := by decide +kernel
theorem dX7_kth_41 : decode cX7_kth 41 = .ok (.iload 5, 2) := by decide +kernel
theorem dX7_kth_43 : decode cX7_kth 43 = .ok (.iload_n 2, 1) := by decide +kernel
theorem dX7_kth_44 : decode cX7_kth 44 = .ok (.if_icmp .gt 98, 3) := by decide +kernel
theorem dX7_kth_47 : decode cX7_kth 47 = .ok (.iconst 0, 1) := by decide +kernel
theorem dX7_kth_48 : decode cX7_kth 48 = .ok (.istore 6, 2) := by decide +kernel
theorem dX7_kth_50 : decode cX7_kth 50 = .ok (.iload_n 1, 1) := by decide +kernel
theorem dX7_kth_51 : decode cX7_kth 51 = .ok (.istore 7, 2) := by decide +kernel
theorem dX7_kth_53 : decode cX7_kth 53 = .ok (.iload 7, 2) := by decide +kernel
theorem dX7_kth_55 : decode cX7_kth 55 = .ok (.iload_n 2, 1) := by decide +kernel
theorem dX7_kth_56 : decode cX7_kth 56 = .ok (.if_icmp .gt 60, 3) := by decide +kernel
theorem dX7_kth_59 : decode cX7_kth 59 = .ok (.iload 6, 2) := by decide +kernel
theorem dX7_kth_61 : decode cX7_kth 61 = .ok (.aload_n 0, 1) := by decide +kernel
theorem dX7_kth_62 : decode cX7_kth 62 = .ok (.getfield 19, 3) := by decide +kernel
theorem dX7_kth_65 : decode cX7_kth 65 = .ok (.iload 7, 2) := by decide +kernel
theorem dX7_kth_67 : decode cX7_kth 67 = .ok (.iaload, 1) := by decide +kernel
theorem dX7_kth_68 : decode cX7_kth 68 = .ok (.aload_n 0, 1) := by decide +kernel
theorem dX7_kth_69 : decode cX7_kth 69 = .ok (.getfield 19, 3) := by decide +kernel
theorem dX7_kth_72 : decode cX7_kth 72 = .ok (.iload 5, 2) := by decide +kernel
theorem dX7_kth_74 : decode cX7_kth 74 = .ok (.iaload, 1) := by decide +kernel
theorem dX7_kth_75 : decode cX7_kth 75 = .ok (.if_icmp .lt 27, 3) := by decide +kernel
theorem dX7_kth_78 : decode cX7_kth 78 = .ok (.aload_n 0, 1) := by decide +kernel
theorem dX7_kth_79 : decode cX7_kth 79 = .ok (.getfield 19, 3) := by decide +kernel
theorem dX7_kth_82 : decode cX7_kth 82 = .ok (.iload 7, 2) := by decide +kernel
theorem dX7_kth_84 : decode cX7_kth 84 = .ok (.iaload, 1) := by decide +kernel
theorem dX7_kth_85 : decode cX7_kth 85 = .ok (.aload_n 0, 1) := by decide +kernel
theorem dX7_kth_86 : decode cX7_kth 86 = .ok (.getfield 19, 3) := by decide +kernel
theorem dX7_kth_89 : decode cX7_kth 89 = .ok (.iload 5, 2) := by decide +kernel
theorem dX7_kth_91 : decode cX7_kth 91 = .ok (.iaload, 1) := by decide +kernel
theorem dX7_kth_92 : decode cX7_kth 92 = .ok (.if_icmp .ne 14, 3) := by decide +kernel
theorem dX7_kth_95 : decode cX7_kth 95 = .ok (.iload 7, 2) := by decide +kernel
theorem dX7_kth_97 : decode cX7_kth 97 = .ok (.iload 5, 2) := by decide +kernel
theorem dX7_kth_99 : decode cX7_kth 99 = .ok (.if_icmp .ge 7, 3) := by decide +kernel
theorem dX7_kth_102 : decode cX7_kth 102 = .ok (.iconst 1, 1) := by decide +kernel
theorem dX7_kth_103 : decode cX7_kth 103 = .ok (.goto 4, 3) := by decide +kernel
theorem dX7_kth_106 : decode cX7_kth 106 = .ok (.iconst 0, 1) := by decide +kernel
theorem dX7_kth_107 : decode cX7_kth 107 = .ok (.iadd, 1) := by decide +kernel
theorem dX7_kth_108 : decode cX7_kth 108 = .ok (.istore 6, 2) := by decide +kernel
theorem dX7_kth_110 : decode cX7_kth 110 = .ok (.iinc 7 1, 3) := by decide +kernel
theorem dX7_kth_113 : decode cX7_kth 113 = .ok (.goto (-60), 3) := by decide +kernel
theorem dX7_kth_116 : decode cX7_kth 116 = .ok (.iload 6, 2) := by decide +kernel
theorem dX7_kth_118 : decode cX7_kth 118 = .ok (.iload_n 3, 1) := by decide +kernel
theorem dX7_kth_119 : decode cX7_kth 119 = .ok (.if_icmp .ne 17, 3) := by decide +kernel
theorem dX7_kth_122 : decode cX7_kth 122 = .ok (.aload_n 0, 1) := by decide +kernel
theorem dX7_kth_123 : decode cX7_kth 123 = .ok (.iload 5, 2) := by decide +kernel
theorem dX7_kth_125 : decode cX7_kth 125 = .ok (.aload_n 0, 1) := by decide +kernel
theorem dX7_kth_126 : decode cX7_kth 126 = .ok (.getfield 19, 3) := by decide +kernel
theorem dX7_kth_129 : decode cX7_kth 129 = .ok (.iload 5, 2) := by decide +kernel
theorem dX7_kth_131 : decode cX7_kth 131 = .ok (.iaload, 1) := by decide +kernel
theorem dX7_kth_132 : decode cX7_kth 132 = .ok (.invokevirtual 72, 3) := by decide +kernel
theorem dX7_kth_135 : decode cX7_kth 135 = .ok (.ireturn, 1) := by decide +kernel
theorem dX7_kth_136 : decode cX7_kth 136 = .ok (.iinc 5 1, 3) := by decide +kernel
theorem dX7_kth_139 : decode cX7_kth 139 = .ok (.goto (-98), 3) := by decide +kernel
theorem dX7_kth_142 : decode cX7_kth 142 = .ok (.bipush (-9), 2) := by decide +kernel
theorem dX7_kth_144 : decode cX7_kth 144 = .ok (.ireturn, 1) := by decide +kernel
theorem dX7_leftOf_0 : decode cX7_leftOf 0 = .ok (.iload_n 1, 1) := by decide +kernel
theorem dX7_leftOf_1 : decode cX7_leftOf 1 = .ok (.iconst 1, 1) := by decide +kernel
theorem dX7_leftOf_2 : decode cX7_leftOf 2 = .ok (.isub, 1) := by decide +kernel
theorem dX7_leftOf_3 : decode cX7_leftOf 3 = .ok (.istore_n 2, 1) := by decide +kernel
theorem dX7_leftOf_4 : decode cX7_leftOf 4 = .ok (.iload_n 2, 1) := by decide +kernel
theorem dX7_leftOf_5 : decode cX7_leftOf 5 = .ok (.ifCond .lt 24, 3) := by decide +kernel
theorem dX7_leftOf_8 : decode cX7_leftOf 8 = .ok (.aload_n 0, 1) := by decide +kernel
theorem dX7_leftOf_9 : decode cX7_leftOf 9 = .ok (.getfield 19, 3) := by decide +kernel
theorem dX7_leftOf_12 : decode cX7_leftOf 12 = .ok (.iload_n 2, 1) := by decide +kernel
theorem dX7_leftOf_13 : decode cX7_leftOf 13 = .ok (.iaload, 1) := by decide +kernel
theorem dX7_leftOf_14 : decode cX7_leftOf 14 = .ok (.aload_n 0, 1) := by decide +kernel
theorem dX7_leftOf_15 : decode cX7_leftOf 15 = .ok (.getfield 19, 3) := by decide +kernel
theorem dX7_leftOf_18 : decode cX7_leftOf 18 = .ok (.iload_n 1, 1) := by decide +kernel
theorem dX7_leftOf_19 : decode cX7_leftOf 19 = .ok (.iaload, 1) := by decide +kernel
theorem dX7_leftOf_20 : decode cX7_leftOf 20 = .ok (.if_icmp .le 9, 3) := by decide +kernel
theorem dX7_leftOf_23 : decode cX7_leftOf 23 = .ok (.iinc 2 (-1), 3) := by decide +kernel
theorem dX7_leftOf_26 : decode cX7_leftOf 26 = .ok (.goto (-22), 3) := by decide +kernel
theorem dX7_leftOf_29 : decode cX7_leftOf 29 = .ok (.iload_n 2, 1) := by decide +kernel
theorem dX7_leftOf_30 : decode cX7_leftOf 30 = .ok (.ireturn, 1) := by decide +kernel
theorem dX7_rightOf_0 : decode cX7_rightOf 0 = .ok (.iload_n 1, 1) := by decide +kernel
theorem dX7_rightOf_1 : decode cX7_rightOf 1 = .ok (.iconst 1, 1) := by decide +kernel
theorem dX7_rightOf_2 : decode cX7_rightOf 2 = .ok (.iadd, 1) := by decide +kernel
theorem dX7_rightOf_3 : decode cX7_rightOf 3 = .ok (.istore_n 2, 1) := by decide +kernel
theorem dX7_rightOf_4 : decode cX7_rightOf 4 = .ok (.iload_n 2, 1) := by decide +kernel
theorem dX7_rightOf_5 : decode cX7_rightOf 5 = .ok (.aload_n 0, 1) := by decide +kernel
theorem dX7_rightOf_6 : decode cX7_rightOf 6 = .ok (.getfield 81, 3) := by decide +kernel
theorem dX7_rightOf_9 : decode cX7_rightOf 9 = .ok (.if_icmp .ge 24, 3) := by decide +kernel
theorem dX7_rightOf_12 : decode cX7_rightOf 12 = .ok (.aload_n 0, 1) := by decide +kernel
theorem dX7_rightOf_13 : decode cX7_rightOf 13 = .ok (.getfield 19, 3) := by decide +kernel
theorem dX7_rightOf_16 : decode cX7_rightOf 16 = .ok (.iload_n 2, 1) := by decide +kernel
theorem dX7_rightOf_17 : decode cX7_rightOf 17 = .ok (.iaload, 1) := by decide +kernel
theorem dX7_rightOf_18 : decode cX7_rightOf 18 = .ok (.aload_n 0, 1) := by decide +kernel
theorem dX7_rightOf_19 : decode cX7_rightOf 19 = .ok (.getfield 19, 3) := by decide +kernel
theorem dX7_rightOf_22 : decode cX7_rightOf 22 = .ok (.iload_n 1, 1) := by decide +kernel
theorem dX7_rightOf_23 : decode cX7_rightOf 23 = .ok (.iaload, 1) := by decide +kernel
theorem dX7_rightOf_24 : decode cX7_rightOf 24 = .ok (.if_icmp .lt 9, 3) := by decide +kernel
theorem dX7_rightOf_27 : decode cX7_rightOf 27 = .ok (.iinc 2 1, 3) := by decide +kernel
theorem dX7_rightOf_30 : decode cX7_rightOf 30 = .ok (.goto (-26), 3) := by decide +kernel
theorem dX7_rightOf_33 : decode cX7_rightOf 33 = .ok (.iload_n 2, 1) := by decide +kernel
theorem dX7_rightOf_34 : decode cX7_rightOf 34 = .ok (.ireturn, 1) := by decide +kernel
theorem dX7_left_0 : decode cX7_left 0 = .ok (.aload_n 0, 1) := by decide +kernel
theorem dX7_left_1 : decode cX7_left 1 = .ok (.iconst 0, 1) := by decide +kernel
theorem dX7_left_2 : decode cX7_left 2 = .ok (.putfield 46, 3) := by decide +kernel
theorem dX7_left_5 : decode cX7_left 5 = .ok (.aload_n 0, 1) := by decide +kernel
theorem dX7_left_6 : decode cX7_left 6 = .ok (.iload_n 1, 1) := by decide +kernel
theorem dX7_left_7 : decode cX7_left 7 = .ok (.iload_n 1, 1) := by decide +kernel
theorem dX7_left_8 : decode cX7_left 8 = .ok (.invokevirtual 113, 3) := by decide +kernel
theorem dX7_left_11 : decode cX7_left 11 = .ok (.istore_n 2, 1) := by decide +kernel
theorem dX7_left_12 : decode cX7_left 12 = .ok (.iload_n 2, 1) := by decide +kernel
theorem dX7_left_13 : decode cX7_left 13 = .ok (.ifCond .eq 5, 3) := by decide +kernel
theorem dX7_left_16 : decode cX7_left 16 = .ok (.iload_n 2, 1) := by decide +kernel
theorem dX7_left_17 : decode cX7_left 17 = .ok (.ireturn, 1) := by decide +kernel
theorem dX7_left_18 : decode cX7_left 18 = .ok (.aload_n 0, 1) := by decide +kernel
theorem dX7_left_19 : decode cX7_left 19 = .ok (.iload_n 1, 1) := by decide +kernel
theorem dX7_left_20 : decode cX7_left 20 = .ok (.invokevirtual 119, 3) := by decide +kernel
theorem dX7_left_23 : decode cX7_left 23 = .ok (.istore_n 3, 1) := by decide +kernel
theorem dX7_left_24 : decode cX7_left 24 = .ok (.iload_n 3, 1) := by decide +kernel
theorem dX7_left_25 : decode cX7_left 25 = .ok (.ifCond .ge 8, 3) := by decide +kernel
theorem dX7_left_28 : decode cX7_left 28 = .ok (.bipush (-9), 2) := by decide +kernel
theorem dX7_left_30 : decode cX7_left 30 = .ok (.goto 4, 3) := by decide +kernel
theorem dX7_left_33 : decode cX7_left 33 = .ok (.iload_n 3, 1) := by decide +kernel
theorem dX7_left_34 : decode cX7_left 34 = .ok (.ireturn, 1) := by decide +kernel
theorem dX7_right_0 : decode cX7_right 0 = .ok (.aload_n 0, 1) := by decide +kernel
theorem dX7_right_1 : decode cX7_right 1 = .ok (.iconst 0, 1) := by decide +kernel
theorem dX7_right_2 : decode cX7_right 2 = .ok (.putfield 46, 3) := by decide +kernel
theorem dX7_right_5 : decode cX7_right 5 = .ok (.aload_n 0, 1) := by decide +kernel
theorem dX7_right_6 : decode cX7_right 6 = .ok (.iload_n 1, 1) := by decide +kernel
theorem dX7_right_7 : decode cX7_right 7 = .ok (.iload_n 1, 1) := by decide +kernel
theorem dX7_right_8 : decode cX7_right 8 = .ok (.invokevirtual 113, 3) := by decide +kernel
theorem dX7_right_11 : decode cX7_right 11 = .ok (.istore_n 2, 1) := by decide +kernel
theorem dX7_right_12 : decode cX7_right 12 = .ok (.iload_n 2, 1) := by decide +kernel
theorem dX7_right_13 : decode cX7_right 13 = .ok (.ifCond .eq 5, 3) := by decide +kernel
theorem dX7_right_16 : decode cX7_right 16 = .ok (.iload_n 2, 1) := by decide +kernel
theorem dX7_right_17 : decode cX7_right 17 = .ok (.ireturn, 1) := by decide +kernel
theorem dX7_right_18 : decode cX7_right 18 = .ok (.aload_n 0, 1) := by decide +kernel
theorem dX7_right_19 : decode cX7_right 19 = .ok (.iload_n 1, 1) := by decide +kernel
theorem dX7_right_20 : decode cX7_right 20 = .ok (.invokevirtual 122, 3) := by decide +kernel
theorem dX7_right_23 : decode cX7_right 23 = .ok (.istore_n 3, 1) := by decide +kernel
theorem dX7_right_24 : decode cX7_right 24 = .ok (.iload_n 3, 1) := by decide +kernel
theorem dX7_right_25 : decode cX7_right 25 = .ok (.aload_n 0, 1) := by decide +kernel
theorem dX7_right_26 : decode cX7_right 26 = .ok (.getfield 81, 3) := by decide +kernel
theorem dX7_right_29 : decode cX7_right 29 = .ok (.if_icmp .ne 8, 3) := by decide +kernel
theorem dX7_right_32 : decode cX7_right 32 = .ok (.bipush (-9), 2) := by decide +kernel
theorem dX7_right_34 : decode cX7_right 34 = .ok (.goto 4, 3) := by decide +kernel
theorem dX7_right_37 : decode cX7_right 37 = .ok (.iload_n 3, 1) := by decide +kernel
theorem dX7_right_38 : decode cX7_right 38 = .ok (.ireturn, 1) := by decide +kernel
theorem dX7_ownsOf_0 : decode cX7_ownsOf 0 = .ok (.iload_n 1, 1) := by decide +kernel
theorem dX7_ownsOf_1 : decode cX7_ownsOf 1 = .ok (.aload_n 0, 1) := by decide +kernel
theorem dX7_ownsOf_2 : decode cX7_ownsOf 2 = .ok (.iload_n 1, 1) := by decide +kernel
theorem dX7_ownsOf_3 : decode cX7_ownsOf 3 = .ok (.invokevirtual 119, 3) := by decide +kernel
theorem dX7_ownsOf_6 : decode cX7_ownsOf 6 = .ok (.isub, 1) := by decide +kernel
theorem dX7_ownsOf_7 : decode cX7_ownsOf 7 = .ok (.aload_n 0, 1) := by decide +kernel
theorem dX7_ownsOf_8 : decode cX7_ownsOf 8 = .ok (.iload_n 1, 1) := by decide +kernel
theorem dX7_ownsOf_9 : decode cX7_ownsOf 9 = .ok (.invokevirtual 122, 3) := by decide +kernel
theorem dX7_ownsOf_12 : decode cX7_ownsOf 12 = .ok (.iload_n 1, 1) := by decide +kernel
theorem dX7_ownsOf_13 : decode cX7_ownsOf 13 = .ok (.isub, 1) := by decide +kernel
theorem dX7_ownsOf_14 : decode cX7_ownsOf 14 = .ok (.imul, 1) := by decide +kernel
theorem dX7_ownsOf_15 : decode cX7_ownsOf 15 = .ok (.ireturn, 1) := by decide +kernel
theorem dX7_owns_0 : decode cX7_owns 0 = .ok (.aload_n 0, 1) := by decide +kernel
theorem dX7_owns_1 : decode cX7_owns 1 = .ok (.iconst 0, 1) := by decide +kernel
theorem dX7_owns_2 : decode cX7_owns 2 = .ok (.putfield 46, 3) := by decide +kernel
theorem dX7_owns_5 : decode cX7_owns 5 = .ok (.aload_n 0, 1) := by decide +kernel
theorem dX7_owns_6 : decode cX7_owns 6 = .ok (.iload_n 1, 1) := by decide +kernel
theorem dX7_owns_7 : decode cX7_owns 7 = .ok (.iload_n 1, 1) := by decide +kernel
theorem dX7_owns_8 : decode cX7_owns 8 = .ok (.invokevirtual 113, 3) := by decide +kernel
theorem dX7_owns_11 : decode cX7_owns 11 = .ok (.istore_n 2, 1) := by decide +kernel
theorem dX7_owns_12 : decode cX7_owns 12 = .ok (.iload_n 2, 1) := by decide +kernel
theorem dX7_owns_13 : decode cX7_owns 13 = .ok (.ifCond .eq 7, 3) := by decide +kernel
theorem dX7_owns_16 : decode cX7_owns 16 = .ok (.iload_n 2, 1) := by decide +kernel
theorem dX7_owns_17 : decode cX7_owns 17 = .ok (.goto 8, 3) := by decide +kernel
theorem dX7_owns_20 : decode cX7_owns 20 = .ok (.aload_n 0, 1) := by decide +kernel
theorem dX7_owns_21 : decode cX7_owns 21 = .ok (.iload_n 1, 1) := by decide +kernel
theorem dX7_owns_22 : decode cX7_owns 22 = .ok (.invokevirtual 125, 3) := by decide +kernel
theorem dX7_owns_25 : decode cX7_owns 25 = .ok (.ireturn, 1) := by decide +kernel
theorem dX7_sum_0 : decode cX7_sum 0 = .ok (.aload_n 0, 1) := by decide +kernel
theorem dX7_sum_1 : decode cX7_sum 1 = .ok (.iconst 0, 1) := by decide +kernel
theorem dX7_sum_2 : decode cX7_sum 2 = .ok (.putfield 46, 3) := by decide +kernel
theorem dX7_sum_5 : decode cX7_sum 5 = .ok (.lconst 0, 1) := by decide +kernel
theorem dX7_sum_6 : decode cX7_sum 6 = .ok (.lstore_n 1, 1) := by decide +kernel
theorem dX7_sum_7 : decode cX7_sum 7 = .ok (.iconst 0, 1) := by decide +kernel
theorem dX7_sum_8 : decode cX7_sum 8 = .ok (.istore_n 3, 1) := by decide +kernel
theorem dX7_sum_9 : decode cX7_sum 9 = .ok (.iload_n 3, 1) := by decide +kernel
theorem dX7_sum_10 : decode cX7_sum 10 = .ok (.aload_n 0, 1) := by decide +kernel
theorem dX7_sum_11 : decode cX7_sum 11 = .ok (.getfield 81, 3) := by decide +kernel
theorem dX7_sum_14 : decode cX7_sum 14 = .ok (.if_icmp .ge 26, 3) := by decide +kernel
theorem dX7_sum_17 : decode cX7_sum 17 = .ok (.lload_n 1, 1) := by decide +kernel
theorem dX7_sum_18 : decode cX7_sum 18 = .ok (.aload_n 0, 1) := by decide +kernel
theorem dX7_sum_19 : decode cX7_sum 19 = .ok (.getfield 19, 3) := by decide +kernel
theorem dX7_sum_22 : decode cX7_sum 22 = .ok (.iload_n 3, 1) := by decide +kernel
theorem dX7_sum_23 : decode cX7_sum 23 = .ok (.iaload, 1) := by decide +kernel
theorem dX7_sum_24 : decode cX7_sum 24 = .ok (.i2l, 1) := by decide +kernel
theorem dX7_sum_25 : decode cX7_sum 25 = .ok (.aload_n 0, 1) := by decide +kernel
theorem dX7_sum_26 : decode cX7_sum 26 = .ok (.iload_n 3, 1) := by decide +kernel
theorem dX7_sum_27 : decode cX7_sum 27 = .ok (.invokevirtual 125, 3) := by decide +kernel
theorem dX7_sum_30 : decode cX7_sum 30 = .ok (.i2l, 1) := by decide +kernel
theorem dX7_sum_31 : decode cX7_sum 31 = .ok (.lmul, 1) := by decide +kernel
theorem dX7_sum_32 : decode cX7_sum 32 = .ok (.ladd, 1) := by decide +kernel
theorem dX7_sum_33 : decode cX7_sum 33 = .ok (.lstore_n 1, 1) := by decide +kernel
theorem dX7_sum_34 : decode cX7_sum 34 = .ok (.iinc 3 1, 3) := by decide +kernel
theorem dX7_sum_37 : decode cX7_sum 37 = .ok (.goto (-28), 3) := by decide +kernel
theorem dX7_sum_40 : decode cX7_sum 40 = .ok (.lload_n 1, 1) := by decide +kernel
theorem dX7_sum_41 : decode cX7_sum 41 = .ok (.lreturn, 1) := by decide +kernel
theorem dX7_depthOf_0 : decode cX7_depthOf 0 = .ok (.iconst 0, 1) := by decide +kernel
theorem dX7_depthOf_1 : decode cX7_depthOf 1 = .ok (.istore_n 2, 1) := by decide +kernel
theorem dX7_depthOf_2 : decode cX7_depthOf 2 = .ok (.aload_n 0, 1) := by decide +kernel
theorem dX7_depthOf_3 : decode cX7_depthOf 3 = .ok (.getfield 81, 3) := by decide +kernel
theorem dX7_depthOf_6 : decode cX7_depthOf 6 = .ok (.iconst 1, 1) := by decide +kernel
theorem dX7_depthOf_7 : decode cX7_depthOf 7 = .ok (.isub, 1) := by decide +kernel
theorem dX7_depthOf_8 : decode cX7_depthOf 8 = .ok (.istore_n 3, 1) := by decide +kernel
theorem dX7_depthOf_9 : decode cX7_depthOf 9 = .ok (.iconst 0, 1) := by decide +kernel
theorem dX7_depthOf_10 : decode cX7_depthOf 10 = .ok (.istore 4, 2) := by decide +kernel
theorem dX7_depthOf_12 : decode cX7_depthOf 12 = .ok (.aload_n 0, 1) := by decide +kernel
theorem dX7_depthOf_13 : decode cX7_depthOf 13 = .ok (.bipush (-9), 2) := by decide +kernel
theorem dX7_depthOf_15 : decode cX7_depthOf 15 = .ok (.putfield 128, 3) := by decide +kernel
theorem dX7_depthOf_18 : decode cX7_depthOf 18 = .ok (.aload_n 0, 1) := by decide +kernel
theorem dX7_depthOf_19 : decode cX7_depthOf 19 = .ok (.iload_n 2, 1) := by decide +kernel
theorem dX7_depthOf_20 : decode cX7_depthOf 20 = .ok (.iload_n 3, 1) := by decide +kernel
theorem dX7_depthOf_21 : decode cX7_depthOf 21 = .ok (.invokevirtual 116, 3) := by decide +kernel
theorem dX7_depthOf_24 : decode cX7_depthOf 24 = .ok (.istore 5, 2) := by decide +kernel
theorem dX7_depthOf_26 : decode cX7_depthOf 26 = .ok (.iload 5, 2) := by decide +kernel
theorem dX7_depthOf_28 : decode cX7_depthOf 28 = .ok (.iload_n 1, 1) := by decide +kernel
theorem dX7_depthOf_29 : decode cX7_depthOf 29 = .ok (.if_icmp .eq 42, 3) := by decide +kernel
theorem dX7_depthOf_32 : decode cX7_depthOf 32 = .ok (.aload_n 0, 1) := by decide +kernel
theorem dX7_depthOf_33 : decode cX7_depthOf 33 = .ok (.iload 5, 2) := by decide +kernel
theorem dX7_depthOf_35 : decode cX7_depthOf 35 = .ok (.putfield 128, 3) := by decide +kernel
theorem dX7_depthOf_38 : decode cX7_depthOf 38 = .ok (.iinc 4 1, 3) := by decide +kernel
theorem dX7_depthOf_41 : decode cX7_depthOf 41 = .ok (.iload_n 1, 1) := by decide +kernel
theorem dX7_depthOf_42 : decode cX7_depthOf 42 = .ok (.iload 5, 2) := by decide +kernel
theorem dX7_depthOf_44 : decode cX7_depthOf 44 = .ok (.if_icmp .ge 11, 3) := by decide +kernel
theorem dX7_depthOf_47 : decode cX7_depthOf 47 = .ok (.iload 5, 2) := by decide +kernel
theorem dX7_depthOf_49 : decode cX7_depthOf 49 = .ok (.iconst 1, 1) := by decide +kernel
theorem dX7_depthOf_50 : decode cX7_depthOf 50 = .ok (.isub, 1) := by decide +kernel
theorem dX7_depthOf_51 : decode cX7_depthOf 51 = .ok (.istore_n 3, 1) := by decide +kernel
theorem dX7_depthOf_52 : decode cX7_depthOf 52 = .ok (.goto 8, 3) := by decide +kernel
theorem dX7_depthOf_55 : decode cX7_depthOf 55 = .ok (.iload 5, 2) := by decide +kernel
theorem dX7_depthOf_57 : decode cX7_depthOf 57 = .ok (.iconst 1, 1) := by decide +kernel
theorem dX7_depthOf_58 : decode cX7_depthOf 58 = .ok (.iadd, 1) := by decide +kernel
theorem dX7_depthOf_59 : decode cX7_depthOf 59 = .ok (.istore_n 2, 1) := by decide +kernel
theorem dX7_depthOf_60 : decode cX7_depthOf 60 = .ok (.aload_n 0, 1) := by decide +kernel
theorem dX7_depthOf_61 : decode cX7_depthOf 61 = .ok (.iload_n 2, 1) := by decide +kernel
theorem dX7_depthOf_62 : decode cX7_depthOf 62 = .ok (.iload_n 3, 1) := by decide +kernel
theorem dX7_depthOf_63 : decode cX7_depthOf 63 = .ok (.invokevirtual 116, 3) := by decide +kernel
theorem dX7_depthOf_66 : decode cX7_depthOf 66 = .ok (.istore 5, 2) := by decide +kernel
theorem dX7_depthOf_68 : decode cX7_depthOf 68 = .ok (.goto (-42), 3) := by decide +kernel
theorem dX7_depthOf_71 : decode cX7_depthOf 71 = .ok (.iload 4, 2) := by decide +kernel
theorem dX7_depthOf_73 : decode cX7_depthOf 73 = .ok (.ireturn, 1) := by decide +kernel
theorem dX7_parent_0 : decode cX7_parent 0 = .ok (.aload_n 0, 1) := by decide +kernel
theorem dX7_parent_1 : decode cX7_parent 1 = .ok (.iconst 0, 1) := by decide +kernel
theorem dX7_parent_2 : decode cX7_parent 2 = .ok (.putfield 46, 3) := by decide +kernel
theorem dX7_parent_5 : decode cX7_parent 5 = .ok (.aload_n 0, 1) := by decide +kernel
theorem dX7_parent_6 : decode cX7_parent 6 = .ok (.iload_n 1, 1) := by decide +kernel
theorem dX7_parent_7 : decode cX7_parent 7 = .ok (.iload_n 1, 1) := by decide +kernel
theorem dX7_parent_8 : decode cX7_parent 8 = .ok (.invokevirtual 113, 3) := by decide +kernel
theorem dX7_parent_11 : decode cX7_parent 11 = .ok (.istore_n 2, 1) := by decide +kernel
theorem dX7_parent_12 : decode cX7_parent 12 = .ok (.iload_n 2, 1) := by decide +kernel
theorem dX7_parent_13 : decode cX7_parent 13 = .ok (.ifCond .eq 5, 3) := by decide +kernel
theorem dX7_parent_16 : decode cX7_parent 16 = .ok (.iload_n 2, 1) := by decide +kernel
theorem dX7_parent_17 : decode cX7_parent 17 = .ok (.ireturn, 1) := by decide +kernel
theorem dX7_parent_18 : decode cX7_parent 18 = .ok (.aload_n 0, 1) := by decide +kernel
theorem dX7_parent_19 : decode cX7_parent 19 = .ok (.iload_n 1, 1) := by decide +kernel
theorem dX7_parent_20 : decode cX7_parent 20 = .ok (.invokevirtual 131, 3) := by decide +kernel
theorem dX7_parent_23 : decode cX7_parent 23 = .ok (.pop, 1) := by decide +kernel
theorem dX7_parent_24 : decode cX7_parent 24 = .ok (.aload_n 0, 1) := by decide +kernel
theorem dX7_parent_25 : decode cX7_parent 25 = .ok (.getfield 128, 3) := by decide +kernel
theorem dX7_parent_28 : decode cX7_parent 28 = .ok (.ireturn, 1) := by decide +kernel
theorem dX7_depth_0 : decode cX7_depth 0 = .ok (.aload_n 0, 1) := by decide +kernel
theorem dX7_depth_1 : decode cX7_depth 1 = .ok (.iconst 0, 1) := by decide +kernel
theorem dX7_depth_2 : decode cX7_depth 2 = .ok (.putfield 46, 3) := by decide +kernel
theorem dX7_depth_5 : decode cX7_depth 5 = .ok (.aload_n 0, 1) := by decide +kernel
theorem dX7_depth_6 : decode cX7_depth 6 = .ok (.iload_n 1, 1) := by decide +kernel
theorem dX7_depth_7 : decode cX7_depth 7 = .ok (.iload_n 1, 1) := by decide +kernel
theorem dX7_depth_8 : decode cX7_depth 8 = .ok (.invokevirtual 113, 3) := by decide +kernel
theorem dX7_depth_11 : decode cX7_depth 11 = .ok (.istore_n 2, 1) := by decide +kernel
theorem dX7_depth_12 : decode cX7_depth 12 = .ok (.iload_n 2, 1) := by decide +kernel
theorem dX7_depth_13 : decode cX7_depth 13 = .ok (.ifCond .eq 7, 3) := by decide +kernel
theorem dX7_depth_16 : decode cX7_depth 16 = .ok (.iload_n 2, 1) := by decide +kernel
theorem dX7_depth_17 : decode cX7_depth 17 = .ok (.goto 8, 3) := by decide +kernel
theorem dX7_depth_20 : decode cX7_depth 20 = .ok (.aload_n 0, 1) := by decide +kernel
theorem dX7_depth_21 : decode cX7_depth 21 = .ok (.iload_n 1, 1) := by decide +kernel
theorem dX7_depth_22 : decode cX7_depth 22 = .ok (.invokevirtual 131, 3) := by decide +kernel
theorem dX7_depth_25 : decode cX7_depth 25 = .ok (.ireturn, 1) := by decide +kernel
theorem dX7_size_0 : decode cX7_size 0 = .ok (.aload_n 0, 1) := by decide +kernel
theorem dX7_size_1 : decode cX7_size 1 = .ok (.iconst 0, 1) := by decide +kernel
theorem dX7_size_2 : decode cX7_size 2 = .ok (.putfield 46, 3) := by decide +kernel
theorem dX7_size_5 : decode cX7_size 5 = .ok (.aload_n 0, 1) := by decide +kernel
theorem dX7_size_6 : decode cX7_size 6 = .ok (.iload_n 1, 1) := by decide +kernel
theorem dX7_size_7 : decode cX7_size 7 = .ok (.iload_n 1, 1) := by decide +kernel
theorem dX7_size_8 : decode cX7_size 8 = .ok (.invokevirtual 113, 3) := by decide +kernel
theorem dX7_size_11 : decode cX7_size 11 = .ok (.istore_n 2, 1) := by decide +kernel
theorem dX7_size_12 : decode cX7_size 12 = .ok (.iload_n 2, 1) := by decide +kernel
theorem dX7_size_13 : decode cX7_size 13 = .ok (.ifCond .eq 7, 3) := by decide +kernel
theorem dX7_size_16 : decode cX7_size 16 = .ok (.iload_n 2, 1) := by decide +kernel
theorem dX7_size_17 : decode cX7_size 17 = .ok (.goto 16, 3) := by decide +kernel
theorem dX7_size_20 : decode cX7_size 20 = .ok (.aload_n 0, 1) := by decide +kernel
theorem dX7_size_21 : decode cX7_size 21 = .ok (.iload_n 1, 1) := by decide +kernel
theorem dX7_size_22 : decode cX7_size 22 = .ok (.invokevirtual 122, 3) := by decide +kernel
theorem dX7_size_25 : decode cX7_size 25 = .ok (.aload_n 0, 1) := by decide +kernel
theorem dX7_size_26 : decode cX7_size 26 = .ok (.iload_n 1, 1) := by decide +kernel
theorem dX7_size_27 : decode cX7_size 27 = .ok (.invokevirtual 119, 3) := by decide +kernel
theorem dX7_size_30 : decode cX7_size 30 = .ok (.isub, 1) := by decide +kernel
theorem dX7_size_31 : decode cX7_size 31 = .ok (.iconst 1, 1) := by decide +kernel
theorem dX7_size_32 : decode cX7_size 32 = .ok (.isub, 1) := by decide +kernel
theorem dX7_size_33 : decode cX7_size 33 = .ok (.ireturn, 1) := by decide +kernel
theorem dX7_above_0 : decode cX7_above 0 = .ok (.aload_n 0, 1) := by decide +kernel
theorem dX7_above_1 : decode cX7_above 1 = .ok (.iconst 0, 1) := by decide +kernel
theorem dX7_above_2 : decode cX7_above 2 = .ok (.putfield 46, 3) := by decide +kernel
theorem dX7_above_5 : decode cX7_above 5 = .ok (.aload_n 0, 1) := by decide +kernel
theorem dX7_above_6 : decode cX7_above 6 = .ok (.iload_n 1, 1) := by decide +kernel
theorem dX7_above_7 : decode cX7_above 7 = .ok (.iload_n 1, 1) := by decide +kernel
theorem dX7_above_8 : decode cX7_above 8 = .ok (.invokevirtual 113, 3) := by decide +kernel
theorem dX7_above_11 : decode cX7_above 11 = .ok (.istore_n 3, 1) := by decide +kernel
theorem dX7_above_12 : decode cX7_above 12 = .ok (.iload_n 3, 1) := by decide +kernel
theorem dX7_above_13 : decode cX7_above 13 = .ok (.ifCond .eq 5, 3) := by decide +kernel
theorem dX7_above_16 : decode cX7_above 16 = .ok (.iload_n 3, 1) := by decide +kernel
theorem dX7_above_17 : decode cX7_above 17 = .ok (.ireturn, 1) := by decide +kernel
theorem dX7_above_18 : decode cX7_above 18 = .ok (.iload_n 2, 1) := by decide +kernel
theorem dX7_above_19 : decode cX7_above 19 = .ok (.ifCond .ge 9, 3) := by decide +kernel
theorem dX7_above_22 : decode cX7_above 22 = .ok (.aload_n 0, 1) := by decide +kernel
theorem dX7_above_23 : decode cX7_above 23 = .ok (.iconst 2, 1) := by decide +kernel
theorem dX7_above_24 : decode cX7_above 24 = .ok (.invokevirtual 64, 3) := by decide +kernel
theorem dX7_above_27 : decode cX7_above 27 = .ok (.ireturn, 1) := by decide +kernel
theorem dX7_above_28 : decode cX7_above 28 = .ok (.iload_n 1, 1) := by decide +kernel
theorem dX7_above_29 : decode cX7_above 29 = .ok (.istore 4, 2) := by decide +kernel
theorem dX7_above_31 : decode cX7_above 31 = .ok (.iconst 0, 1) := by decide +kernel
theorem dX7_above_32 : decode cX7_above 32 = .ok (.istore 5, 2) := by decide +kernel
theorem dX7_above_34 : decode cX7_above 34 = .ok (.iload 5, 2) := by decide +kernel
theorem dX7_above_36 : decode cX7_above 36 = .ok (.iload_n 2, 1) := by decide +kernel
theorem dX7_above_37 : decode cX7_above 37 = .ok (.if_icmp .ge 29, 3) := by decide +kernel
theorem dX7_above_40 : decode cX7_above 40 = .ok (.iload 4, 2) := by decide +kernel
theorem dX7_above_42 : decode cX7_above 42 = .ok (.bipush (-9), 2) := by decide +kernel
theorem dX7_above_44 : decode cX7_above 44 = .ok (.if_icmp .eq 22, 3) := by decide +kernel
theorem dX7_above_47 : decode cX7_above 47 = .ok (.aload_n 0, 1) := by decide +kernel
theorem dX7_above_48 : decode cX7_above 48 = .ok (.iload 4, 2) := by decide +kernel
theorem dX7_above_50 : decode cX7_above 50 = .ok (.invokevirtual 131, 3) := by decide +kernel
theorem dX7_above_53 : decode cX7_above 53 = .ok (.pop, 1) := by decide +kernel
theorem dX7_above_54 : decode cX7_above 54 = .ok (.aload_n 0, 1) := by decide +kernel
theorem dX7_above_55 : decode cX7_above 55 = .ok (.getfield 128, 3) := by decide +kernel
theorem dX7_above_58 : decode cX7_above 58 = .ok (.istore 4, 2) := by decide +kernel
theorem dX7_above_60 : decode cX7_above 60 = .ok (.iinc 5 1, 3) := by decide +kernel
theorem dX7_above_63 : decode cX7_above 63 = .ok (.goto (-29), 3) := by decide +kernel
theorem dX7_above_66 : decode cX7_above 66 = .ok (.iload 4, 2) := by decide +kernel
theorem dX7_above_68 : decode cX7_above 68 = .ok (.ireturn, 1) := by decide +kernel
theorem dX7_takenOff_0 : decode cX7_takenOff 0 = .ok (.aload_n 0, 1) := by decide +kernel
theorem dX7_takenOff_1 : decode cX7_takenOff 1 = .ok (.iconst 0, 1) := by decide +kernel
theorem dX7_takenOff_2 : decode cX7_takenOff 2 = .ok (.putfield 84, 3) := by decide +kernel
theorem dX7_takenOff_5 : decode cX7_takenOff 5 = .ok (.iconst 0, 1) := by decide +kernel
theorem dX7_takenOff_6 : decode cX7_takenOff 6 = .ok (.istore_n 3, 1) := by decide +kernel
theorem dX7_takenOff_7 : decode cX7_takenOff 7 = .ok (.iload_n 1, 1) := by decide +kernel
theorem dX7_takenOff_8 : decode cX7_takenOff 8 = .ok (.istore 4, 2) := by decide +kernel
theorem dX7_takenOff_10 : decode cX7_takenOff 10 = .ok (.iload 4, 2) := by decide +kernel
theorem dX7_takenOff_12 : decode cX7_takenOff 12 = .ok (.iload_n 1, 1) := by decide +kernel
theorem dX7_takenOff_13 : decode cX7_takenOff 13 = .ok (.iload_n 2, 1) := by decide +kernel
theorem dX7_takenOff_14 : decode cX7_takenOff 14 = .ok (.iadd, 1) := by decide +kernel
theorem dX7_takenOff_15 : decode cX7_takenOff 15 = .ok (.if_icmp .gt 81, 3) := by decide +kernel
theorem dX7_takenOff_18 : decode cX7_takenOff 18 = .ok (.iconst 0, 1) := by decide +kernel
theorem dX7_takenOff_19 : decode cX7_takenOff 19 = .ok (.istore_n 3, 1) := by decide +kernel
theorem dX7_takenOff_20 : decode cX7_takenOff 20 = .ok (.aload_n 0, 1) := by decide +kernel
theorem dX7_takenOff_21 : decode cX7_takenOff 21 = .ok (.getfield 84, 3) := by decide +kernel
theorem dX7_takenOff_24 : decode cX7_takenOff 24 = .ok (.ifCond .le 40, 3) := by decide +kernel
theorem dX7_takenOff_27 : decode cX7_takenOff 27 = .ok (.aload_n 0, 1) := by decide +kernel
theorem dX7_takenOff_28 : decode cX7_takenOff 28 = .ok (.getfield 40, 3) := by decide +kernel
theorem dX7_takenOff_31 : decode cX7_takenOff 31 = .ok (.aload_n 0, 1) := by decide +kernel
theorem dX7_takenOff_32 : decode cX7_takenOff 32 = .ok (.getfield 84, 3) := by decide +kernel
theorem dX7_takenOff_35 : decode cX7_takenOff 35 = .ok (.iconst 1, 1) := by decide +kernel
theorem dX7_takenOff_36 : decode cX7_takenOff 36 = .ok (.isub, 1) := by decide +kernel
theorem dX7_takenOff_37 : decode cX7_takenOff 37 = .ok (.iaload, 1) := by decide +kernel
theorem dX7_takenOff_38 : decode cX7_takenOff 38 = .ok (.aload_n 0, 1) := by decide +kernel
theorem dX7_takenOff_39 : decode cX7_takenOff 39 = .ok (.getfield 19, 3) := by decide +kernel
theorem dX7_takenOff_42 : decode cX7_takenOff 42 = .ok (.iload 4, 2) := by decide +kernel
theorem dX7_takenOff_44 : decode cX7_takenOff 44 = .ok (.iaload, 1) := by decide +kernel
theorem dX7_takenOff_45 : decode cX7_takenOff 45 = .ok (.if_icmp .le 19, 3) := by decide +kernel
theorem dX7_takenOff_48 : decode cX7_takenOff 48 = .ok (.aload_n 0, 1) := by decide +kernel
theorem dX7_takenOff_49 : decode cX7_takenOff 49 = .ok (.dup, 1) := by decide +kernel
theorem dX7_takenOff_50 : decode cX7_takenOff 50 = .ok (.getfield 84, 3) := by decide +kernel
theorem dX7_takenOff_53 : decode cX7_takenOff 53 = .ok (.iconst 1, 1) := by decide +kernel
theorem dX7_takenOff_54 : decode cX7_takenOff 54 = .ok (.isub, 1) := by decide +kernel
theorem dX7_takenOff_55 : decode cX7_takenOff 55 = .ok (.putfield 84, 3) := by decide +kernel
theorem dX7_takenOff_58 : decode cX7_takenOff 58 = .ok (.iinc 3 1, 3) := by decide +kernel
theorem dX7_takenOff_61 : decode cX7_takenOff 61 = .ok (.goto (-41), 3) := by decide +kernel
theorem dX7_takenOff_64 : decode cX7_takenOff 64 = .ok (.aload_n 0, 1) := by decide +kernel
theorem dX7_takenOff_65 : decode cX7_takenOff 65 = .ok (.getfield 40, 3) := by decide +kernel
theorem dX7_takenOff_68 : decode cX7_takenOff 68 = .ok (.aload_n 0, 1) := by decide +kernel
theorem dX7_takenOff_69 : decode cX7_takenOff 69 = .ok (.getfield 84, 3) := by decide +kernel
theorem dX7_takenOff_72 : decode cX7_takenOff 72 = .ok (.aload_n 0, 1) := by decide +kernel
theorem dX7_takenOff_73 : decode cX7_takenOff 73 = .ok (.getfield 19, 3) := by decide +kernel
theorem dX7_takenOff_76 : decode cX7_takenOff 76 = .ok (.iload 4, 2) := by decide +kernel
theorem dX7_takenOff_78 : decode cX7_takenOff 78 = .ok (.iaload, 1) := by decide +kernel
theorem dX7_takenOff_79 : decode cX7_takenOff 79 = .ok (.iastore, 1) := by decide +kernel
theorem dX7_takenOff_80 : decode cX7_takenOff 80 = .ok (.aload_n 0, 1) := by decide +kernel
theorem dX7_takenOff_81 : decode cX7_takenOff 81 = .ok (.dup, 1) := by decide +kernel
theorem dX7_takenOff_82 : decode cX7_takenOff 82 = .ok (.getfield 84, 3) := by decide +kernel
theorem dX7_takenOff_85 : decode cX7_takenOff 85 = .ok (.iconst 1, 1) := by decide +kernel
theorem dX7_takenOff_86 : decode cX7_takenOff 86 = .ok (.iadd, 1) := by decide +kernel
theorem dX7_takenOff_87 : decode cX7_takenOff 87 = .ok (.putfield 84, 3) := by decide +kernel
theorem dX7_takenOff_90 : decode cX7_takenOff 90 = .ok (.iinc 4 1, 3) := by decide +kernel
theorem dX7_takenOff_93 : decode cX7_takenOff 93 = .ok (.goto (-83), 3) := by decide +kernel
theorem dX7_takenOff_96 : decode cX7_takenOff 96 = .ok (.iload_n 3, 1) := by decide +kernel
theorem dX7_takenOff_97 : decode cX7_takenOff 97 = .ok (.ireturn, 1) := by decide +kernel
theorem dX7_alike_0 : decode cX7_alike 0 = .ok (.aload_n 0, 1) := by decide +kernel
theorem dX7_alike_1 : decode cX7_alike 1 = .ok (.iconst 0, 1) := by decide +kernel
theorem dX7_alike_2 : decode cX7_alike 2 = .ok (.putfield 46, 3) := by decide +kernel
theorem dX7_alike_5 : decode cX7_alike 5 = .ok (.aload_n 0, 1) := by decide +kernel
theorem dX7_alike_6 : decode cX7_alike 6 = .ok (.getfield 81, 3) := by decide +kernel
theorem dX7_alike_9 : decode cX7_alike 9 = .ok (.ifCond .ne 6, 3) := by decide +kernel
theorem dX7_alike_12 : decode cX7_alike 12 = .ok (.bipush (-2), 2) := by decide +kernel
theorem dX7_alike_14 : decode cX7_alike 14 = .ok (.ireturn, 1) := by decide +kernel
theorem dX7_alike_15 : decode cX7_alike 15 = .ok (.iload_n 3, 1) := by decide +kernel
theorem dX7_alike_16 : decode cX7_alike 16 = .ok (.ifCond .lt 47, 3) := by decide +kernel
theorem dX7_alike_19 : decode cX7_alike 19 = .ok (.iload_n 1, 1) := by decide +kernel
theorem dX7_alike_20 : decode cX7_alike 20 = .ok (.iconst 0, 1) := by decide +kernel
theorem dX7_alike_21 : decode cX7_alike 21 = .ok (.aload_n 0, 1) := by decide +kernel
theorem dX7_alike_22 : decode cX7_alike 22 = .ok (.getfield 81, 3) := by decide +kernel
theorem dX7_alike_25 : decode cX7_alike 25 = .ok (.invokestatic 56, 3) := by decide +kernel
theorem dX7_alike_28 : decode cX7_alike 28 = .ok (.ifCond .eq 35, 3) := by decide +kernel
theorem dX7_alike_31 : decode cX7_alike 31 = .ok (.iload_n 2, 1) := by decide +kernel
theorem dX7_alike_32 : decode cX7_alike 32 = .ok (.iconst 0, 1) := by decide +kernel
theorem dX7_alike_33 : decode cX7_alike 33 = .ok (.aload_n 0, 1) := by decide +kernel
theorem dX7_alike_34 : decode cX7_alike 34 = .ok (.getfield 81, 3) := by decide +kernel
theorem dX7_alike_37 : decode cX7_alike 37 = .ok (.invokestatic 56, 3) := by decide +kernel
theorem dX7_alike_40 : decode cX7_alike 40 = .ok (.ifCond .eq 23, 3) := by decide +kernel
theorem dX7_alike_43 : decode cX7_alike 43 = .ok (.iload_n 3, 1) := by decide +kernel
theorem dX7_alike_44 : decode cX7_alike 44 = .ok (.aload_n 0, 1) := by decide +kernel
theorem dX7_alike_45 : decode cX7_alike 45 = .ok (.getfield 81, 3) := by decide +kernel
theorem dX7_alike_48 : decode cX7_alike 48 = .ok (.iload_n 1, 1) := by decide +kernel
theorem dX7_alike_49 : decode cX7_alike 49 = .ok (.isub, 1) := by decide +kernel
theorem dX7_alike_50 : decode cX7_alike 50 = .ok (.if_icmp .gt 13, 3) := by decide +kernel
theorem dX7_alike_53 : decode cX7_alike 53 = .ok (.iload_n 3, 1) := by decide +kernel
theorem dX7_alike_54 : decode cX7_alike 54 = .ok (.aload_n 0, 1) := by decide +kernel
theorem dX7_alike_55 : decode cX7_alike 55 = .ok (.getfield 81, 3) := by decide +kernel
theorem dX7_alike_58 : decode cX7_alike 58 = .ok (.iload_n 2, 1) := by decide +kernel
theorem dX7_alike_59 : decode cX7_alike 59 = .ok (.isub, 1) := by decide +kernel
theorem dX7_alike_60 : decode cX7_alike 60 = .ok (.if_icmp .le 9, 3) := by decide +kernel
theorem dX7_alike_63 : decode cX7_alike 63 = .ok (.aload_n 0, 1) := by decide +kernel
theorem dX7_alike_64 : decode cX7_alike 64 = .ok (.iconst 2, 1) := by decide +kernel
theorem dX7_alike_65 : decode cX7_alike 65 = .ok (.invokevirtual 64, 3) := by decide +kernel
theorem dX7_alike_68 : decode cX7_alike 68 = .ok (.ireturn, 1) := by decide +kernel
theorem dX7_alike_69 : decode cX7_alike 69 = .ok (.iconst 0, 1) := by decide +kernel
theorem dX7_alike_70 : decode cX7_alike 70 = .ok (.istore 4, 2) := by decide +kernel
theorem dX7_alike_72 : decode cX7_alike 72 = .ok (.iload 4, 2) := by decide +kernel
theorem dX7_alike_74 : decode cX7_alike 74 = .ok (.iload_n 3, 1) := by decide +kernel
theorem dX7_alike_75 : decode cX7_alike 75 = .ok (.if_icmp .ge 28, 3) := by decide +kernel
theorem dX7_alike_78 : decode cX7_alike 78 = .ok (.aload_n 0, 1) := by decide +kernel
theorem dX7_alike_79 : decode cX7_alike 79 = .ok (.iload_n 1, 1) := by decide +kernel
theorem dX7_alike_80 : decode cX7_alike 80 = .ok (.iload 4, 2) := by decide +kernel
theorem dX7_alike_82 : decode cX7_alike 82 = .ok (.invokevirtual 134, 3) := by decide +kernel
theorem dX7_alike_85 : decode cX7_alike 85 = .ok (.aload_n 0, 1) := by decide +kernel
theorem dX7_alike_86 : decode cX7_alike 86 = .ok (.iload_n 2, 1) := by decide +kernel
theorem dX7_alike_87 : decode cX7_alike 87 = .ok (.iload 4, 2) := by decide +kernel
theorem dX7_alike_89 : decode cX7_alike 89 = .ok (.invokevirtual 134, 3) := by decide +kernel
theorem dX7_alike_92 : decode cX7_alike 92 = .ok (.if_icmp .eq 5, 3) := by decide +kernel
theorem dX7_alike_95 : decode cX7_alike 95 = .ok (.iconst 0, 1) := by decide +kernel
theorem dX7_alike_96 : decode cX7_alike 96 = .ok (.ireturn, 1) := by decide +kernel
theorem dX7_alike_97 : decode cX7_alike 97 = .ok (.iinc 4 1, 3) := by decide +kernel
theorem dX7_alike_100 : decode cX7_alike 100 = .ok (.goto (-28), 3) := by decide +kernel
theorem dX7_alike_103 : decode cX7_alike 103 = .ok (.iconst 1, 1) := by decide +kernel
theorem dX7_alike_104 : decode cX7_alike 104 = .ok (.ireturn, 1) := by decide +kernel
theorem dX7_isTree_0 : decode cX7_isTree 0 = .ok (.aload_n 0, 1) := by decide +kernel
theorem dX7_isTree_1 : decode cX7_isTree 1 = .ok (.getfield 16, 3) := by decide +kernel
theorem dX7_isTree_4 : decode cX7_isTree 4 = .ok (.iload_n 1, 1) := by decide +kernel
theorem dX7_isTree_5 : decode cX7_isTree 5 = .ok (.iaload, 1) := by decide +kernel
theorem dX7_isTree_6 : decode cX7_isTree 6 = .ok (.istore_n 2, 1) := by decide +kernel
theorem dX7_isTree_7 : decode cX7_isTree 7 = .ok (.iconst 0, 1) := by decide +kernel
theorem dX7_isTree_8 : decode cX7_isTree 8 = .ok (.istore_n 3, 1) := by decide +kernel
theorem dX7_isTree_9 : decode cX7_isTree 9 = .ok (.iconst 0, 1) := by decide +kernel
theorem dX7_isTree_10 : decode cX7_isTree 10 = .ok (.istore 4, 2) := by decide +kernel
theorem dX7_isTree_12 : decode cX7_isTree 12 = .ok (.iload 4, 2) := by decide +kernel
theorem dX7_isTree_14 : decode cX7_isTree 14 = .ok (.iload_n 2, 1) := by decide +kernel
theorem dX7_isTree_15 : decode cX7_isTree 15 = .ok (.if_icmp .ge 51, 3) := by decide +kernel
theorem dX7_isTree_18 : decode cX7_isTree 18 = .ok (.aload_n 0, 1) := by decide +kernel
theorem dX7_isTree_19 : decode cX7_isTree 19 = .ok (.getfield 13, 3) := by decide +kernel
theorem dX7_isTree_22 : decode cX7_isTree 22 = .ok (.bipush 48, 2) := by decide +kernel
theorem dX7_isTree_24 : decode cX7_isTree 24 = .ok (.iload_n 1, 1) := by decide +kernel
theorem dX7_isTree_25 : decode cX7_isTree 25 = .ok (.imul, 1) := by decide +kernel
theorem dX7_isTree_26 : decode cX7_isTree 26 = .ok (.iload 4, 2) := by decide +kernel
theorem dX7_isTree_28 : decode cX7_isTree 28 = .ok (.iadd, 1) := by decide +kernel
theorem dX7_isTree_29 : decode cX7_isTree 29 = .ok (.iaload, 1) := by decide +kernel
theorem dX7_isTree_30 : decode cX7_isTree 30 = .ok (.istore 5, 2) := by decide +kernel
theorem dX7_isTree_32 : decode cX7_isTree 32 = .ok (.iload_n 3, 1) := by decide +kernel
theorem dX7_isTree_33 : decode cX7_isTree 33 = .ok (.iload 5, 2) := by decide +kernel
theorem dX7_isTree_35 : decode cX7_isTree 35 = .ok (.iconst (-1), 1) := by decide +kernel
theorem dX7_isTree_36 : decode cX7_isTree 36 = .ok (.if_icmp .ne 7, 3) := by decide +kernel
theorem dX7_isTree_39 : decode cX7_isTree 39 = .ok (.iconst 1, 1) := by decide +kernel
theorem dX7_isTree_40 : decode cX7_isTree 40 = .ok (.goto 4, 3) := by decide +kernel
theorem dX7_isTree_43 : decode cX7_isTree 43 = .ok (.iconst 0, 1) := by decide +kernel
theorem dX7_isTree_44 : decode cX7_isTree 44 = .ok (.iadd, 1) := by decide +kernel
theorem dX7_isTree_45 : decode cX7_isTree 45 = .ok (.istore_n 3, 1) := by decide +kernel
theorem dX7_isTree_46 : decode cX7_isTree 46 = .ok (.iload 5, 2) := by decide +kernel
theorem dX7_isTree_48 : decode cX7_isTree 48 = .ok (.iconst (-1), 1) := by decide +kernel
theorem dX7_isTree_49 : decode cX7_isTree 49 = .ok (.iload_n 2, 1) := by decide +kernel
theorem dX7_isTree_50 : decode cX7_isTree 50 = .ok (.iconst 1, 1) := by decide +kernel
theorem dX7_isTree_51 : decode cX7_isTree 51 = .ok (.isub, 1) := by decide +kernel
theorem dX7_isTree_52 : decode cX7_isTree 52 = .ok (.invokestatic 56, 3) := by decide +kernel
theorem dX7_isTree_55 : decode cX7_isTree 55 = .ok (.ifCond .ne 5, 3) := by decide +kernel
theorem dX7_isTree_58 : decode cX7_isTree 58 = .ok (.iconst 0, 1) := by decide +kernel
theorem dX7_isTree_59 : decode cX7_isTree 59 = .ok (.ireturn, 1) := by decide +kernel
theorem dX7_isTree_60 : decode cX7_isTree 60 = .ok (.iinc 4 1, 3) := by decide +kernel
theorem dX7_isTree_63 : decode cX7_isTree 63 = .ok (.goto (-51), 3) := by decide +kernel
theorem dX7_isTree_66 : decode cX7_isTree 66 = .ok (.iload_n 3, 1) := by decide +kernel
theorem dX7_isTree_67 : decode cX7_isTree 67 = .ok (.iconst 1, 1) := by decide +kernel
theorem dX7_isTree_68 : decode cX7_isTree 68 = .ok (.if_icmp .ne 7, 3) := by decide +kernel
theorem dX7_isTree_71 : decode cX7_isTree 71 = .ok (.iconst 1, 1) := by decide +kernel
theorem dX7_isTree_72 : decode cX7_isTree 72 = .ok (.goto 4, 3) := by decide +kernel
theorem dX7_isTree_75 : decode cX7_isTree 75 = .ok (.iconst 0, 1) := by decide +kernel
theorem dX7_isTree_76 : decode cX7_isTree 76 = .ok (.istore 4, 2) := by decide +kernel
theorem dX7_isTree_78 : decode cX7_isTree 78 = .ok (.iconst 0, 1) := by decide +kernel
theorem dX7_isTree_79 : decode cX7_isTree 79 = .ok (.istore 5, 2) := by decide +kernel
theorem dX7_isTree_81 : decode cX7_isTree 81 = .ok (.iload 5, 2) := by decide +kernel
theorem dX7_isTree_83 : decode cX7_isTree 83 = .ok (.iload_n 2, 1) := by decide +kernel
theorem dX7_isTree_84 : decode cX7_isTree 84 = .ok (.if_icmp .ge 66, 3) := by decide +kernel
theorem dX7_isTree_87 : decode cX7_isTree 87 = .ok (.iload 4, 2) := by decide +kernel
theorem dX7_isTree_89 : decode cX7_isTree 89 = .ok (.ifCond .eq 61, 3) := by decide +kernel
theorem dX7_isTree_92 : decode cX7_isTree 92 = .ok (.iload 5, 2) := by decide +kernel
theorem dX7_isTree_94 : decode cX7_isTree 94 = .ok (.istore 6, 2) := by decide +kernel
theorem dX7_isTree_96 : decode cX7_isTree 96 = .ok (.iconst 0, 1) := by decide +kernel
theorem dX7_isTree_97 : decode cX7_isTree 97 = .ok (.istore 7, 2) := by decide +kernel
theorem dX7_isTree_99 : decode cX7_isTree 99 = .ok (.iload 7, 2) := by decide +kernel
theorem dX7_isTree_101 : decode cX7_isTree 101 = .ok (.iload_n 2, 1) := by decide +kernel
theorem dX7_isTree_102 : decode cX7_isTree 102 = .ok (.if_icmp .ge 29, 3) := by decide +kernel
theorem dX7_isTree_105 : decode cX7_isTree 105 = .ok (.iload 6, 2) := by decide +kernel
theorem dX7_isTree_107 : decode cX7_isTree 107 = .ok (.iconst (-1), 1) := by decide +kernel
theorem dX7_isTree_108 : decode cX7_isTree 108 = .ok (.if_icmp .eq 23, 3) := by decide +kernel
theorem dX7_isTree_111 : decode cX7_isTree 111 = .ok (.aload_n 0, 1) := by decide +kernel
theorem dX7_isTree_112 : decode cX7_isTree 112 = .ok (.getfield 13, 3) := by decide +kernel
theorem dX7_isTree_115 : decode cX7_isTree 115 = .ok (.bipush 48, 2) := by decide +kernel
theorem dX7_isTree_117 : decode cX7_isTree 117 = .ok (.iload_n 1, 1) := by decide +kernel
theorem dX7_isTree_118 : decode cX7_isTree 118 = .ok (.imul, 1) := by decide +kernel
theorem dX7_isTree_119 : decode cX7_isTree 119 = .ok (.iload 6, 2) := by decide +kernel
theorem dX7_isTree_121 : decode cX7_isTree 121 = .ok (.iadd, 1) := by decide +kernel
theorem dX7_isTree_122 : decode cX7_isTree 122 = .ok (.iaload, 1) := by decide +kernel
theorem dX7_isTree_123 : decode cX7_isTree 123 = .ok (.istore 6, 2) := by decide +kernel
theorem dX7_isTree_125 : decode cX7_isTree 125 = .ok (.iinc 7 1, 3) := by decide +kernel
theorem dX7_isTree_128 : decode cX7_isTree 128 = .ok (.goto (-29), 3) := by decide +kernel
theorem dX7_isTree_131 : decode cX7_isTree 131 = .ok (.iload 6, 2) := by decide +kernel
theorem dX7_isTree_133 : decode cX7_isTree 133 = .ok (.iconst (-1), 1) := by decide +kernel
theorem dX7_isTree_134 : decode cX7_isTree 134 = .ok (.if_icmp .ne 7, 3) := by decide +kernel
theorem dX7_isTree_137 : decode cX7_isTree 137 = .ok (.iconst 1, 1) := by decide +kernel
theorem dX7_isTree_138 : decode cX7_isTree 138 = .ok (.goto 4, 3) := by decide +kernel
theorem dX7_isTree_141 : decode cX7_isTree 141 = .ok (.iconst 0, 1) := by decide +kernel
theorem dX7_isTree_142 : decode cX7_isTree 142 = .ok (.istore 4, 2) := by decide +kernel
theorem dX7_isTree_144 : decode cX7_isTree 144 = .ok (.iinc 5 1, 3) := by decide +kernel
theorem dX7_isTree_147 : decode cX7_isTree 147 = .ok (.goto (-66), 3) := by decide +kernel
theorem dX7_isTree_150 : decode cX7_isTree 150 = .ok (.iload 4, 2) := by decide +kernel
theorem dX7_isTree_152 : decode cX7_isTree 152 = .ok (.ireturn, 1) := by decide +kernel
theorem dX7_tree_0 : decode cX7_tree 0 = .ok (.aload_n 0, 1) := by decide +kernel
theorem dX7_tree_1 : decode cX7_tree 1 = .ok (.iconst 0, 1) := by decide +kernel
theorem dX7_tree_2 : decode cX7_tree 2 = .ok (.putfield 46, 3) := by decide +kernel
theorem dX7_tree_5 : decode cX7_tree 5 = .ok (.iload_n 1, 1) := by decide +kernel
theorem dX7_tree_6 : decode cX7_tree 6 = .ok (.invokestatic 60, 3) := by decide +kernel
theorem dX7_tree_9 : decode cX7_tree 9 = .ok (.ifCond .ne 5, 3) := by decide +kernel
theorem dX7_tree_12 : decode cX7_tree 12 = .ok (.iconst (-1), 1) := by decide +kernel
theorem dX7_tree_13 : decode cX7_tree 13 = .ok (.ireturn, 1) := by decide +kernel
theorem dX7_tree_14 : decode cX7_tree 14 = .ok (.aload_n 0, 1) := by decide +kernel
theorem dX7_tree_15 : decode cX7_tree 15 = .ok (.getfield 16, 3) := by decide +kernel
theorem dX7_tree_18 : decode cX7_tree 18 = .ok (.iload_n 1, 1) := by decide +kernel
theorem dX7_tree_19 : decode cX7_tree 19 = .ok (.iaload, 1) := by decide +kernel
theorem dX7_tree_20 : decode cX7_tree 20 = .ok (.ifCond .ge 9, 3) := by decide +kernel
theorem dX7_tree_23 : decode cX7_tree 23 = .ok (.aload_n 0, 1) := by decide +kernel
theorem dX7_tree_24 : decode cX7_tree 24 = .ok (.iconst 1, 1) := by decide +kernel
theorem dX7_tree_25 : decode cX7_tree 25 = .ok (.invokevirtual 64, 3) := by decide +kernel
theorem dX7_tree_28 : decode cX7_tree 28 = .ok (.ireturn, 1) := by decide +kernel
theorem dX7_tree_29 : decode cX7_tree 29 = .ok (.aload_n 0, 1) := by decide +kernel
theorem dX7_tree_30 : decode cX7_tree 30 = .ok (.getfield 16, 3) := by decide +kernel
theorem dX7_tree_33 : decode cX7_tree 33 = .ok (.iload_n 1, 1) := by decide +kernel
theorem dX7_tree_34 : decode cX7_tree 34 = .ok (.iaload, 1) := by decide +kernel
theorem dX7_tree_35 : decode cX7_tree 35 = .ok (.iconst 1, 1) := by decide +kernel
theorem dX7_tree_36 : decode cX7_tree 36 = .ok (.bipush 24, 2) := by decide +kernel
theorem dX7_tree_38 : decode cX7_tree 38 = .ok (.invokestatic 56, 3) := by decide +kernel
theorem dX7_tree_41 : decode cX7_tree 41 = .ok (.ifCond .ne 9, 3) := by decide +kernel
theorem dX7_tree_44 : decode cX7_tree 44 = .ok (.aload_n 0, 1) := by decide +kernel
theorem dX7_tree_45 : decode cX7_tree 45 = .ok (.iconst 3, 1) := by decide +kernel
theorem dX7_tree_46 : decode cX7_tree 46 = .ok (.invokevirtual 64, 3) := by decide +kernel
theorem dX7_tree_49 : decode cX7_tree 49 = .ok (.ireturn, 1) := by decide +kernel
theorem dX7_tree_50 : decode cX7_tree 50 = .ok (.aload_n 0, 1) := by decide +kernel
theorem dX7_tree_51 : decode cX7_tree 51 = .ok (.iload_n 1, 1) := by decide +kernel
theorem dX7_tree_52 : decode cX7_tree 52 = .ok (.invokevirtual 137, 3) := by decide +kernel
theorem dX7_tree_55 : decode cX7_tree 55 = .ok (.ifCond .ne 9, 3) := by decide +kernel
theorem dX7_tree_58 : decode cX7_tree 58 = .ok (.aload_n 0, 1) := by decide +kernel
theorem dX7_tree_59 : decode cX7_tree 59 = .ok (.iconst 4, 1) := by decide +kernel
theorem dX7_tree_60 : decode cX7_tree 60 = .ok (.invokevirtual 64, 3) := by decide +kernel
theorem dX7_tree_63 : decode cX7_tree 63 = .ok (.ireturn, 1) := by decide +kernel
theorem dX7_tree_64 : decode cX7_tree 64 = .ok (.aload_n 0, 1) := by decide +kernel
theorem dX7_tree_65 : decode cX7_tree 65 = .ok (.aload_n 0, 1) := by decide +kernel
theorem dX7_tree_66 : decode cX7_tree 66 = .ok (.getfield 16, 3) := by decide +kernel
theorem dX7_tree_69 : decode cX7_tree 69 = .ok (.iload_n 1, 1) := by decide +kernel
theorem dX7_tree_70 : decode cX7_tree 70 = .ok (.iaload, 1) := by decide +kernel
theorem dX7_tree_71 : decode cX7_tree 71 = .ok (.putfield 140, 3) := by decide +kernel
theorem dX7_tree_74 : decode cX7_tree 74 = .ok (.iconst 0, 1) := by decide +kernel
theorem dX7_tree_75 : decode cX7_tree 75 = .ok (.istore_n 2, 1) := by decide +kernel
theorem dX7_tree_76 : decode cX7_tree 76 = .ok (.iload_n 2, 1) := by decide +kernel
theorem dX7_tree_77 : decode cX7_tree 77 = .ok (.aload_n 0, 1) := by decide +kernel
theorem dX7_tree_78 : decode cX7_tree 78 = .ok (.getfield 140, 3) := by decide +kernel
theorem dX7_tree_81 : decode cX7_tree 81 = .ok (.if_icmp .ge 26, 3) := by decide +kernel
theorem dX7_tree_84 : decode cX7_tree 84 = .ok (.aload_n 0, 1) := by decide +kernel
theorem dX7_tree_85 : decode cX7_tree 85 = .ok (.getfield 43, 3) := by decide +kernel
theorem dX7_tree_88 : decode cX7_tree 88 = .ok (.iload_n 2, 1) := by decide +kernel
theorem dX7_tree_89 : decode cX7_tree 89 = .ok (.aload_n 0, 1) := by decide +kernel
theorem dX7_tree_90 : decode cX7_tree 90 = .ok (.getfield 13, 3) := by decide +kernel
theorem dX7_tree_93 : decode cX7_tree 93 = .ok (.bipush 48, 2) := by decide +kernel
theorem dX7_tree_95 : decode cX7_tree 95 = .ok (.iload_n 1, 1) := by decide +kernel
theorem dX7_tree_96 : decode cX7_tree 96 = .ok (.imul, 1) := by decide +kernel
theorem dX7_tree_97 : decode cX7_tree 97 = .ok (.iload_n 2, 1) := by decide +kernel
theorem dX7_tree_98 : decode cX7_tree 98 = .ok (.iadd, 1) := by decide +kernel
theorem dX7_tree_99 : decode cX7_tree 99 = .ok (.iaload, 1) := by decide +kernel
theorem dX7_tree_100 : decode cX7_tree 100 = .ok (.iastore, 1) := by decide +kernel
theorem dX7_tree_101 : decode cX7_tree 101 = .ok (.iinc 2 1, 3) := by decide +kernel
theorem dX7_tree_104 : decode cX7_tree 104 = .ok (.goto (-28), 3) := by decide +kernel
theorem dX7_tree_107 : decode cX7_tree 107 = .ok (.aload_n 0, 1) := by decide +kernel
theorem dX7_tree_108 : decode cX7_tree 108 = .ok (.getfield 140, 3) := by decide +kernel
theorem dX7_tree_111 : decode cX7_tree 111 = .ok (.ireturn, 1) := by decide +kernel
theorem dX7_deepness_0 : decode cX7_deepness 0 = .ok (.iconst 0, 1) := by decide +kernel
theorem dX7_deepness_1 : decode cX7_deepness 1 = .ok (.istore_n 2, 1) := by decide +kernel
theorem dX7_deepness_2 : decode cX7_deepness 2 = .ok (.aload_n 0, 1) := by decide +kernel
theorem dX7_deepness_3 : decode cX7_deepness 3 = .ok (.getfield 43, 3) := by decide +kernel
theorem dX7_deepness_6 : decode cX7_deepness 6 = .ok (.iload_n 1, 1) := by decide +kernel
theorem dX7_deepness_7 : decode cX7_deepness 7 = .ok (.iaload, 1) := by decide +kernel
theorem dX7_deepness_8 : decode cX7_deepness 8 = .ok (.istore_n 3, 1) := by decide +kernel
theorem dX7_deepness_9 : decode cX7_deepness 9 = .ok (.iload_n 3, 1) := by decide +kernel
theorem dX7_deepness_10 : decode cX7_deepness 10 = .ok (.iconst (-1), 1) := by decide +kernel
theorem dX7_deepness_11 : decode cX7_deepness 11 = .ok (.if_icmp .eq 16, 3) := by decide +kernel
theorem dX7_deepness_14 : decode cX7_deepness 14 = .ok (.iinc 2 1, 3) := by decide +kernel
theorem dX7_deepness_17 : decode cX7_deepness 17 = .ok (.aload_n 0, 1) := by decide +kernel
theorem dX7_deepness_18 : decode cX7_deepness 18 = .ok (.getfield 43, 3) := by decide +kernel
theorem dX7_deepness_21 : decode cX7_deepness 21 = .ok (.iload_n 3, 1) := by decide +kernel
theorem dX7_deepness_22 : decode cX7_deepness 22 = .ok (.iaload, 1) := by decide +kernel
theorem dX7_deepness_23 : decode cX7_deepness 23 = .ok (.istore_n 3, 1) := by decide +kernel
theorem dX7_deepness_24 : decode cX7_deepness 24 = .ok (.goto (-15), 3) := by decide +kernel
theorem dX7_deepness_27 : decode cX7_deepness 27 = .ok (.iload_n 2, 1) := by decide +kernel
theorem dX7_deepness_28 : decode cX7_deepness 28 = .ok (.ireturn, 1) := by decide +kernel
theorem dX7_upTo_0 : decode cX7_upTo 0 = .ok (.iload_n 1, 1) := by decide +kernel
theorem dX7_upTo_1 : decode cX7_upTo 1 = .ok (.istore_n 3, 1) := by decide +kernel
theorem dX7_upTo_2 : decode cX7_upTo 2 = .ok (.aload_n 0, 1) := by decide +kernel
theorem dX7_upTo_3 : decode cX7_upTo 3 = .ok (.iload_n 1, 1) := by decide +kernel
theorem dX7_upTo_4 : decode cX7_upTo 4 = .ok (.invokevirtual 143, 3) := by decide +kernel
theorem dX7_upTo_7 : decode cX7_upTo 7 = .ok (.istore 4, 2) := by decide +kernel
theorem dX7_upTo_9 : decode cX7_upTo 9 = .ok (.iload 4, 2) := by decide +kernel
theorem dX7_upTo_11 : decode cX7_upTo 11 = .ok (.iload_n 2, 1) := by decide +kernel
theorem dX7_upTo_12 : decode cX7_upTo 12 = .ok (.if_icmp .le 16, 3) := by decide +kernel
theorem dX7_upTo_15 : decode cX7_upTo 15 = .ok (.aload_n 0, 1) := by decide +kernel
theorem dX7_upTo_16 : decode cX7_upTo 16 = .ok (.getfield 43, 3) := by decide +kernel
theorem dX7_upTo_19 : decode cX7_upTo 19 = .ok (.iload_n 3, 1) := by decide +kernel
theorem dX7_upTo_20 : decode cX7_upTo 20 = .ok (.iaload, 1) := by decide +kernel
theorem dX7_upTo_21 : decode cX7_upTo 21 = .ok (.istore_n 3, 1) := by decide +kernel
theorem dX7_upTo_22 : decode cX7_upTo 22 = .ok (.iinc 4 (-1), 3) := by decide +kernel
theorem dX7_upTo_25 : decode cX7_upTo 25 = .ok (.goto (-16), 3) := by decide +kernel
theorem dX7_upTo_28 : decode cX7_upTo 28 = .ok (.iload_n 3, 1) := by decide +kernel
theorem dX7_upTo_29 : decode cX7_upTo 29 = .ok (.ireturn, 1) := by decide +kernel
theorem dX7_isNode_0 : decode cX7_isNode 0 = .ok (.iload_n 1, 1) := by decide +kernel
theorem dX7_isNode_1 : decode cX7_isNode 1 = .ok (.iconst 0, 1) := by decide +kernel
theorem dX7_isNode_2 : decode cX7_isNode 2 = .ok (.aload_n 0, 1) := by decide +kernel
theorem dX7_isNode_3 : decode cX7_isNode 3 = .ok (.getfield 140, 3) := by decide +kernel
theorem dX7_isNode_6 : decode cX7_isNode 6 = .ok (.iconst 1, 1) := by decide +kernel
theorem dX7_isNode_7 : decode cX7_isNode 7 = .ok (.isub, 1) := by decide +kernel
theorem dX7_isNode_8 : decode cX7_isNode 8 = .ok (.invokestatic 56, 3) := by decide +kernel
theorem dX7_isNode_11 : decode cX7_isNode 11 = .ok (.ireturn, 1) := by decide +kernel
theorem dX7_meeting_0 : decode cX7_meeting 0 = .ok (.aload_n 0, 1) := by decide +kernel
theorem dX7_meeting_1 : decode cX7_meeting 1 = .ok (.iload_n 1, 1) := by decide +kernel
theorem dX7_meeting_2 : decode cX7_meeting 2 = .ok (.invokevirtual 143, 3) := by decide +kernel
theorem dX7_meeting_5 : decode cX7_meeting 5 = .ok (.istore_n 3, 1) := by decide +kernel
theorem dX7_meeting_6 : decode cX7_meeting 6 = .ok (.aload_n 0, 1) := by decide +kernel
theorem dX7_meeting_7 : decode cX7_meeting 7 = .ok (.iload_n 2, 1) := by decide +kernel
theorem dX7_meeting_8 : decode cX7_meeting 8 = .ok (.invokevirtual 143, 3) := by decide +kernel
theorem dX7_meeting_11 : decode cX7_meeting 11 = .ok (.istore 4, 2) := by decide +kernel
theorem dX7_meeting_13 : decode cX7_meeting 13 = .ok (.iload_n 3, 1) := by decide +kernel
theorem dX7_meeting_14 : decode cX7_meeting 14 = .ok (.iload 4, 2) := by decide +kernel
theorem dX7_meeting_16 : decode cX7_meeting 16 = .ok (.if_icmp .ge 7, 3) := by decide +kernel
theorem dX7_meeting_19 : decode cX7_meeting 19 = .ok (.iload_n 3, 1) := by decide +kernel
theorem dX7_meeting_20 : decode cX7_meeting 20 = .ok (.goto 5, 3) := by decide +kernel
theorem dX7_meeting_23 : decode cX7_meeting 23 = .ok (.iload 4, 2) := by decide +kernel
theorem dX7_meeting_25 : decode cX7_meeting 25 = .ok (.istore 5, 2) := by decide +kernel
theorem dX7_meeting_27 : decode cX7_meeting 27 = .ok (.aload_n 0, 1) := by decide +kernel
theorem dX7_meeting_28 : decode cX7_meeting 28 = .ok (.iload_n 1, 1) := by decide +kernel
theorem dX7_meeting_29 : decode cX7_meeting 29 = .ok (.iload 5, 2) := by decide +kernel
theorem dX7_meeting_31 : decode cX7_meeting 31 = .ok (.invokevirtual 146, 3) := by decide +kernel
theorem dX7_meeting_34 : decode cX7_meeting 34 = .ok (.aload_n 0, 1) := by decide +kernel
theorem dX7_meeting_35 : decode cX7_meeting 35 = .ok (.iload_n 2, 1) := by decide +kernel
theorem dX7_meeting_36 : decode cX7_meeting 36 = .ok (.iload 5, 2) := by decide +kernel
theorem dX7_meeting_38 : decode cX7_meeting 38 = .ok (.invokevirtual 146, 3) := by decide +kernel
theorem dX7_meeting_41 : decode cX7_meeting 41 = .ok (.if_icmp .eq 9, 3) := by decide +kernel
theorem dX7_meeting_44 : decode cX7_meeting 44 = .ok (.iinc 5 (-1), 3) := by decide +kernel
theorem dX7_meeting_47 : decode cX7_meeting 47 = .ok (.goto (-20), 3) := by decide +kernel
theorem dX7_meeting_50 : decode cX7_meeting 50 = .ok (.aload_n 0, 1) := by decide +kernel
theorem dX7_meeting_51 : decode cX7_meeting 51 = .ok (.iload_n 1, 1) := by decide +kernel
theorem dX7_meeting_52 : decode cX7_meeting 52 = .ok (.iload 5, 2) := by decide +kernel
theorem dX7_meeting_54 : decode cX7_meeting 54 = .ok (.invokevirtual 146, 3) := by decide +kernel
theorem dX7_meeting_57 : decode cX7_meeting 57 = .ok (.ireturn, 1) := by decide +kernel
theorem dX7_againstNodes_0 : decode cX7_againstNodes 0 = .ok (.aload_n 0, 1) := by decide +kernel
theorem dX7_againstNodes_1 : decode cX7_againstNodes 1 = .ok (.getfield 140, 3) := by decide +kernel
theorem dX7_againstNodes_4 : decode cX7_againstNodes 4 = .ok (.ifCond .ne 8, 3) := by decide +kernel
theorem dX7_againstNodes_7 : decode cX7_againstNodes 7 = .ok (.bipush (-2), 2) := by decide +kernel
theorem dX7_againstNodes_9 : decode cX7_againstNodes 9 = .ok (.goto 28, 3) := by decide +kernel
theorem dX7_againstNodes_12 : decode cX7_againstNodes 12 = .ok (.aload_n 0, 1) := by decide +kernel
theorem dX7_againstNodes_13 : decode cX7_againstNodes 13 = .ok (.iload_n 1, 1) := by decide +kernel
theorem dX7_againstNodes_14 : decode cX7_againstNodes 14 = .ok (.invokevirtual 149, 3) := by decide +kernel
theorem dX7_againstNodes_17 : decode cX7_againstNodes 17 = .ok (.ifCond .eq 11, 3) := by decide +kernel
theorem dX7_againstNodes_20 : decode cX7_againstNodes 20 = .ok (.aload_n 0, 1) := by decide +kernel
theorem dX7_againstNodes_21 : decode cX7_againstNodes 21 = .ok (.iload_n 2, 1) := by decide +kernel
theorem dX7_againstNodes_22 : decode cX7_againstNodes 22 = .ok (.invokevirtual 149, 3) := by decide +kernel
theorem dX7_againstNodes_25 : decode cX7_againstNodes 25 = .ok (.ifCond .ne 11, 3) := by decide +kernel
theorem dX7_againstNodes_28 : decode cX7_againstNodes 28 = .ok (.aload_n 0, 1) := by decide +kernel
theorem dX7_againstNodes_29 : decode cX7_againstNodes 29 = .ok (.iconst 2, 1) := by decide +kernel
theorem dX7_againstNodes_30 : decode cX7_againstNodes 30 = .ok (.invokevirtual 64, 3) := by decide +kernel
theorem dX7_againstNodes_33 : decode cX7_againstNodes 33 = .ok (.goto 4, 3) := by decide +kernel
theorem dX7_againstNodes_36 : decode cX7_againstNodes 36 = .ok (.iconst 0, 1) := by decide +kernel
theorem dX7_againstNodes_37 : decode cX7_againstNodes 37 = .ok (.ireturn, 1) := by decide +kernel
theorem dX7_meet_0 : decode cX7_meet 0 = .ok (.aload_n 0, 1) := by decide +kernel
theorem dX7_meet_1 : decode cX7_meet 1 = .ok (.iconst 0, 1) := by decide +kernel
theorem dX7_meet_2 : decode cX7_meet 2 = .ok (.putfield 46, 3) := by decide +kernel
theorem dX7_meet_5 : decode cX7_meet 5 = .ok (.aload_n 0, 1) := by decide +kernel
theorem dX7_meet_6 : decode cX7_meet 6 = .ok (.iload_n 1, 1) := by decide +kernel
theorem dX7_meet_7 : decode cX7_meet 7 = .ok (.iload_n 2, 1) := by decide +kernel
theorem dX7_meet_8 : decode cX7_meet 8 = .ok (.invokevirtual 152, 3) := by decide +kernel
theorem dX7_meet_11 : decode cX7_meet 11 = .ok (.istore_n 3, 1) := by decide +kernel
theorem dX7_meet_12 : decode cX7_meet 12 = .ok (.iload_n 3, 1) := by decide +kernel
theorem dX7_meet_13 : decode cX7_meet 13 = .ok (.ifCond .eq 7, 3) := by decide +kernel
theorem dX7_meet_16 : decode cX7_meet 16 = .ok (.iload_n 3, 1) := by decide +kernel
theorem dX7_meet_17 : decode cX7_meet 17 = .ok (.goto 9, 3) := by decide +kernel
theorem dX7_meet_20 : decode cX7_meet 20 = .ok (.aload_n 0, 1) := by decide +kernel
theorem dX7_meet_21 : decode cX7_meet 21 = .ok (.iload_n 1, 1) := by decide +kernel
theorem dX7_meet_22 : decode cX7_meet 22 = .ok (.iload_n 2, 1) := by decide +kernel
theorem dX7_meet_23 : decode cX7_meet 23 = .ok (.invokevirtual 155, 3) := by decide +kernel
theorem dX7_meet_26 : decode cX7_meet 26 = .ok (.ireturn, 1) := by decide +kernel
theorem dX7_apart_0 : decode cX7_apart 0 = .ok (.aload_n 0, 1) := by decide +kernel
theorem dX7_apart_1 : decode cX7_apart 1 = .ok (.iconst 0, 1) := by decide +kernel
theorem dX7_apart_2 : decode cX7_apart 2 = .ok (.putfield 46, 3) := by decide +kernel
theorem dX7_apart_5 : decode cX7_apart 5 = .ok (.aload_n 0, 1) := by decide +kernel
theorem dX7_apart_6 : decode cX7_apart 6 = .ok (.iload_n 1, 1) := by decide +kernel
theorem dX7_apart_7 : decode cX7_apart 7 = .ok (.iload_n 2, 1) := by decide +kernel
theorem dX7_apart_8 : decode cX7_apart 8 = .ok (.invokevirtual 152, 3) := by decide +kernel
theorem dX7_apart_11 : decode cX7_apart 11 = .ok (.istore_n 3, 1) := by decide +kernel
theorem dX7_apart_12 : decode cX7_apart 12 = .ok (.iload_n 3, 1) := by decide +kernel
theorem dX7_apart_13 : decode cX7_apart 13 = .ok (.ifCond .eq 7, 3) := by decide +kernel
theorem dX7_apart_16 : decode cX7_apart 16 = .ok (.iload_n 3, 1) := by decide +kernel
theorem dX7_apart_17 : decode cX7_apart 17 = .ok (.goto 27, 3) := by decide +kernel
theorem dX7_apart_20 : decode cX7_apart 20 = .ok (.aload_n 0, 1) := by decide +kernel
theorem dX7_apart_21 : decode cX7_apart 21 = .ok (.iload_n 1, 1) := by decide +kernel
theorem dX7_apart_22 : decode cX7_apart 22 = .ok (.invokevirtual 143, 3) := by decide +kernel
theorem dX7_apart_25 : decode cX7_apart 25 = .ok (.aload_n 0, 1) := by decide +kernel
theorem dX7_apart_26 : decode cX7_apart 26 = .ok (.iload_n 2, 1) := by decide +kernel
theorem dX7_apart_27 : decode cX7_apart 27 = .ok (.invokevirtual 143, 3) := by decide +kernel
theorem dX7_apart_30 : decode cX7_apart 30 = .ok (.iadd, 1) := by decide +kernel
theorem dX7_apart_31 : decode cX7_apart 31 = .ok (.iconst 2, 1) := by decide +kernel
theorem dX7_apart_32 : decode cX7_apart 32 = .ok (.aload_n 0, 1) := by decide +kernel
theorem dX7_apart_33 : decode cX7_apart 33 = .ok (.aload_n 0, 1) := by decide +kernel
theorem dX7_apart_34 : decode cX7_apart 34 = .ok (.iload_n 1, 1) := by decide +kernel
theorem dX7_apart_35 : decode cX7_apart 35 = .ok (.iload_n 2, 1) := by decide +kernel
theorem dX7_apart_36 : decode cX7_apart 36 = .ok (.invokevirtual 155, 3) := by decide +kernel
theorem dX7_apart_39 : decode cX7_apart 39 = .ok (.invokevirtual 143, 3) := by decide +kernel
theorem dX7_apart_42 : decode cX7_apart 42 = .ok (.imul, 1) := by decide +kernel
theorem dX7_apart_43 : decode cX7_apart 43 = .ok (.isub, 1) := by decide +kernel
theorem dX7_apart_44 : decode cX7_apart 44 = .ok (.ireturn, 1) := by decide +kernel
theorem dX7_up_0 : decode cX7_up 0 = .ok (.aload_n 0, 1) := by decide +kernel
theorem dX7_up_1 : decode cX7_up 1 = .ok (.iconst 0, 1) := by decide +kernel
theorem dX7_up_2 : decode cX7_up 2 = .ok (.putfield 46, 3) := by decide +kernel
theorem dX7_up_5 : decode cX7_up 5 = .ok (.aload_n 0, 1) := by decide +kernel
theorem dX7_up_6 : decode cX7_up 6 = .ok (.iload_n 1, 1) := by decide +kernel
theorem dX7_up_7 : decode cX7_up 7 = .ok (.iload_n 1, 1) := by decide +kernel
theorem dX7_up_8 : decode cX7_up 8 = .ok (.invokevirtual 152, 3) := by decide +kernel
theorem dX7_up_11 : decode cX7_up 11 = .ok (.istore_n 3, 1) := by decide +kernel
theorem dX7_up_12 : decode cX7_up 12 = .ok (.iload_n 3, 1) := by decide +kernel
theorem dX7_up_13 : decode cX7_up 13 = .ok (.ifCond .eq 5, 3) := by decide +kernel
theorem dX7_up_16 : decode cX7_up 16 = .ok (.iload_n 3, 1) := by decide +kernel
theorem dX7_up_17 : decode cX7_up 17 = .ok (.ireturn, 1) := by decide +kernel
theorem dX7_up_18 : decode cX7_up 18 = .ok (.iload_n 2, 1) := by decide +kernel
theorem dX7_up_19 : decode cX7_up 19 = .ok (.ifCond .ge 9, 3) := by decide +kernel
theorem dX7_up_22 : decode cX7_up 22 = .ok (.aload_n 0, 1) := by decide +kernel
theorem dX7_up_23 : decode cX7_up 23 = .ok (.iconst 2, 1) := by decide +kernel
theorem dX7_up_24 : decode cX7_up 24 = .ok (.invokevirtual 64, 3) := by decide +kernel
theorem dX7_up_27 : decode cX7_up 27 = .ok (.ireturn, 1) := by decide +kernel
theorem dX7_up_28 : decode cX7_up 28 = .ok (.aload_n 0, 1) := by decide +kernel
theorem dX7_up_29 : decode cX7_up 29 = .ok (.iload_n 1, 1) := by decide +kernel
theorem dX7_up_30 : decode cX7_up 30 = .ok (.invokevirtual 143, 3) := by decide +kernel
theorem dX7_up_33 : decode cX7_up 33 = .ok (.iload_n 2, 1) := by decide +kernel
theorem dX7_up_34 : decode cX7_up 34 = .ok (.if_icmp .ge 8, 3) := by decide +kernel
theorem dX7_up_37 : decode cX7_up 37 = .ok (.bipush (-9), 2) := by decide +kernel
theorem dX7_up_39 : decode cX7_up 39 = .ok (.goto 9, 3) := by decide +kernel
theorem dX7_up_42 : decode cX7_up 42 = .ok (.aload_n 0, 1) := by decide +kernel
theorem dX7_up_43 : decode cX7_up 43 = .ok (.iload_n 1, 1) := by decide +kernel
theorem dX7_up_44 : decode cX7_up 44 = .ok (.iload_n 2, 1) := by decide +kernel
theorem dX7_up_45 : decode cX7_up 45 = .ok (.invokevirtual 146, 3) := by decide +kernel
theorem dX7_up_48 : decode cX7_up 48 = .ok (.ireturn, 1) := by decide +kernel
theorem dX7_isBelow_0 : decode cX7_isBelow 0 = .ok (.aload_n 0, 1) := by decide +kernel
theorem dX7_isBelow_1 : decode cX7_isBelow 1 = .ok (.iload_n 1, 1) := by decide +kernel
theorem dX7_isBelow_2 : decode cX7_isBelow 2 = .ok (.invokevirtual 143, 3) := by decide +kernel
theorem dX7_isBelow_5 : decode cX7_isBelow 5 = .ok (.aload_n 0, 1) := by decide +kernel
theorem dX7_isBelow_6 : decode cX7_isBelow 6 = .ok (.iload_n 2, 1) := by decide +kernel
theorem dX7_isBelow_7 : decode cX7_isBelow 7 = .ok (.invokevirtual 143, 3) := by decide +kernel
theorem dX7_isBelow_10 : decode cX7_isBelow 10 = .ok (.if_icmp .lt 21, 3) := by decide +kernel
theorem dX7_isBelow_13 : decode cX7_isBelow 13 = .ok (.aload_n 0, 1) := by decide +kernel
theorem dX7_isBelow_14 : decode cX7_isBelow 14 = .ok (.iload_n 1, 1) := by decide +kernel
theorem dX7_isBelow_15 : decode cX7_isBelow 15 = .ok (.aload_n 0, 1) := by decide +kernel
theorem dX7_isBelow_16 : decode cX7_isBelow 16 = .ok (.iload_n 2, 1) := by decide +kernel
theorem dX7_isBelow_17 : decode cX7_isBelow 17 = .ok (.invokevirtual 143, 3) := by decide +kernel
theorem dX7_isBelow_20 : decode cX7_isBelow 20 = .ok (.invokevirtual 146, 3) := by decide +kernel
theorem dX7_isBelow_23 : decode cX7_isBelow 23 = .ok (.iload_n 2, 1) := by decide +kernel
theorem dX7_isBelow_24 : decode cX7_isBelow 24 = .ok (.if_icmp .ne 7, 3) := by decide +kernel
theorem dX7_isBelow_27 : decode cX7_isBelow 27 = .ok (.iconst 1, 1) := by decide +kernel
theorem dX7_isBelow_28 : decode cX7_isBelow 28 = .ok (.goto 4, 3) := by decide +kernel
theorem dX7_isBelow_31 : decode cX7_isBelow 31 = .ok (.iconst 0, 1) := by decide +kernel
theorem dX7_isBelow_32 : decode cX7_isBelow 32 = .ok (.ireturn, 1) := by decide +kernel
theorem dX7_below_0 : decode cX7_below 0 = .ok (.iconst 0, 1) := by decide +kernel
theorem dX7_below_1 : decode cX7_below 1 = .ok (.istore_n 2, 1) := by decide +kernel
theorem dX7_below_2 : decode cX7_below 2 = .ok (.iconst 0, 1) := by decide +kernel
theorem dX7_below_3 : decode cX7_below 3 = .ok (.istore_n 3, 1) := by decide +kernel
theorem dX7_below_4 : decode cX7_below 4 = .ok (.iload_n 3, 1) := by decide +kernel
theorem dX7_below_5 : decode cX7_below 5 = .ok (.aload_n 0, 1) := by decide +kernel
theorem dX7_below_6 : decode cX7_below 6 = .ok (.getfield 140, 3) := by decide +kernel
theorem dX7_below_9 : decode cX7_below 9 = .ok (.if_icmp .ge 26, 3) := by decide +kernel
theorem dX7_below_12 : decode cX7_below 12 = .ok (.iload_n 2, 1) := by decide +kernel
theorem dX7_below_13 : decode cX7_below 13 = .ok (.aload_n 0, 1) := by decide +kernel
theorem dX7_below_14 : decode cX7_below 14 = .ok (.iload_n 3, 1) := by decide +kernel
theorem dX7_below_15 : decode cX7_below 15 = .ok (.iload_n 1, 1) := by decide +kernel
theorem dX7_below_16 : decode cX7_below 16 = .ok (.invokevirtual 158, 3) := by decide +kernel
theorem dX7_below_19 : decode cX7_below 19 = .ok (.ifCond .eq 7, 3) := by decide +kernel
theorem dX7_below_22 : decode cX7_below 22 = .ok (.iconst 1, 1) := by decide +kernel
theorem dX7_below_23 : decode cX7_below 23 = .ok (.goto 4, 3) := by decide +kernel
theorem dX7_below_26 : decode cX7_below 26 = .ok (.iconst 0, 1) := by decide +kernel
theorem dX7_below_27 : decode cX7_below 27 = .ok (.iadd, 1) := by decide +kernel
theorem dX7_below_28 : decode cX7_below 28 = .ok (.istore_n 2, 1) := by decide +kernel
theorem dX7_below_29 : decode cX7_below 29 = .ok (.iinc 3 1, 3) := by decide +kernel
theorem dX7_below_32 : decode cX7_below 32 = .ok (.goto (-28), 3) := by decide +kernel
theorem dX7_below_35 : decode cX7_below 35 = .ok (.iload_n 2, 1) := by decide +kernel
theorem dX7_below_36 : decode cX7_below 36 = .ok (.ireturn, 1) := by decide +kernel
theorem dX7_firstMet_0 : decode cX7_firstMet 0 = .ok (.aload_n 0, 1) := by decide +kernel
theorem dX7_firstMet_1 : decode cX7_firstMet 1 = .ok (.iload_n 1, 1) := by decide +kernel
theorem dX7_firstMet_2 : decode cX7_firstMet 2 = .ok (.invokevirtual 143, 3) := by decide +kernel
theorem dX7_firstMet_5 : decode cX7_firstMet 5 = .ok (.istore_n 2, 1) := by decide +kernel
theorem dX7_firstMet_6 : decode cX7_firstMet 6 = .ok (.iload_n 1, 1) := by decide +kernel
theorem dX7_firstMet_7 : decode cX7_firstMet 7 = .ok (.istore_n 3, 1) := by decide +kernel
theorem dX7_firstMet_8 : decode cX7_firstMet 8 = .ok (.aload_n 0, 1) := by decide +kernel
theorem dX7_firstMet_9 : decode cX7_firstMet 9 = .ok (.getfield 43, 3) := by decide +kernel
theorem dX7_firstMet_12 : decode cX7_firstMet 12 = .ok (.iload_n 3, 1) := by decide +kernel
theorem dX7_firstMet_13 : decode cX7_firstMet 13 = .ok (.iaload, 1) := by decide +kernel
theorem dX7_firstMet_14 : decode cX7_firstMet 14 = .ok (.iconst (-1), 1) := by decide +kernel
theorem dX7_firstMet_15 : decode cX7_firstMet 15 = .ok (.if_icmp .eq 59, 3) := by decide +kernel
theorem dX7_firstMet_18 : decode cX7_firstMet 18 = .ok (.iconst 0, 1) := by decide +kernel
theorem dX7_firstMet_19 : decode cX7_firstMet 19 = .ok (.istore 4, 2) := by decide +kernel
theorem dX7_firstMet_21 : decode cX7_firstMet 21 = .ok (.iload 4, 2) := by decide +kernel
theorem dX7_firstMet_23 : decode cX7_firstMet 23 = .ok (.iload_n 3, 1) := by decide +kernel
theorem dX7_firstMet_24 : decode cX7_firstMet 24 = .ok (.if_icmp .ge 40, 3) := by decide +kernel
theorem dX7_firstMet_27 : decode cX7_firstMet 27 = .ok (.iload_n 2, 1) := by decide +kernel
theorem dX7_firstMet_28 : decode cX7_firstMet 28 = .ok (.aload_n 0, 1) := by decide +kernel
theorem dX7_firstMet_29 : decode cX7_firstMet 29 = .ok (.getfield 43, 3) := by decide +kernel
theorem dX7_firstMet_32 : decode cX7_firstMet 32 = .ok (.iload 4, 2) := by decide +kernel
theorem dX7_firstMet_34 : decode cX7_firstMet 34 = .ok (.iaload, 1) := by decide +kernel
theorem dX7_firstMet_35 : decode cX7_firstMet 35 = .ok (.aload_n 0, 1) := by decide +kernel
theorem dX7_firstMet_36 : decode cX7_firstMet 36 = .ok (.getfield 43, 3) := by decide +kernel
theorem dX7_firstMet_39 : decode cX7_firstMet 39 = .ok (.iload_n 3, 1) := by decide +kernel
theorem dX7_firstMet_40 : decode cX7_firstMet 40 = .ok (.iaload, 1) := by decide +kernel
theorem dX7_firstMet_41 : decode cX7_firstMet 41 = .ok (.if_icmp .ne 14, 3) := by decide +kernel
theorem dX7_firstMet_44 : decode cX7_firstMet 44 = .ok (.iconst 2, 1) := by decide +kernel
theorem dX7_firstMet_45 : decode cX7_firstMet 45 = .ok (.aload_n 0, 1) := by decide +kernel
theorem dX7_firstMet_46 : decode cX7_firstMet 46 = .ok (.iload 4, 2) := by decide +kernel
theorem dX7_firstMet_48 : decode cX7_firstMet 48 = .ok (.invokevirtual 162, 3) := by decide +kernel
theorem dX7_firstMet_51 : decode cX7_firstMet 51 = .ok (.imul, 1) := by decide +kernel
theorem dX7_firstMet_52 : decode cX7_firstMet 52 = .ok (.goto 4, 3) := by decide +kernel
theorem dX7_firstMet_55 : decode cX7_firstMet 55 = .ok (.iconst 0, 1) := by decide +kernel
theorem dX7_firstMet_56 : decode cX7_firstMet 56 = .ok (.iadd, 1) := by decide +kernel
theorem dX7_firstMet_57 : decode cX7_firstMet 57 = .ok (.istore_n 2, 1) := by decide +kernel
theorem dX7_firstMet_58 : decode cX7_firstMet 58 = .ok (.iinc 4 1, 3) := by decide +kernel
theorem dX7_firstMet_61 : decode cX7_firstMet 61 = .ok (.goto (-40), 3) := by decide +kernel
theorem dX7_firstMet_64 : decode cX7_firstMet 64 = .ok (.aload_n 0, 1) := by decide +kernel
theorem dX7_firstMet_65 : decode cX7_firstMet 65 = .ok (.getfield 43, 3) := by decide +kernel
theorem dX7_firstMet_68 : decode cX7_firstMet 68 = .ok (.iload_n 3, 1) := by decide +kernel
theorem dX7_firstMet_69 : decode cX7_firstMet 69 = .ok (.iaload, 1) := by decide +kernel
theorem dX7_firstMet_70 : decode cX7_firstMet 70 = .ok (.istore_n 3, 1) := by decide +kernel
theorem dX7_firstMet_71 : decode cX7_firstMet 71 = .ok (.goto (-63), 3) := by decide +kernel
theorem dX7_firstMet_74 : decode cX7_firstMet 74 = .ok (.iload_n 2, 1) := by decide +kernel
theorem dX7_firstMet_75 : decode cX7_firstMet 75 = .ok (.ireturn, 1) := by decide +kernel
theorem dX7_node_0 : decode cX7_node 0 = .ok (.aload_n 0, 1) := by decide +kernel
theorem dX7_node_1 : decode cX7_node 1 = .ok (.iconst 0, 1) := by decide +kernel
theorem dX7_node_2 : decode cX7_node 2 = .ok (.putfield 46, 3) := by decide +kernel
theorem dX7_node_5 : decode cX7_node 5 = .ok (.aload_n 0, 1) := by decide +kernel
theorem dX7_node_6 : decode cX7_node 6 = .ok (.getfield 140, 3) := by decide +kernel
theorem dX7_node_9 : decode cX7_node 9 = .ok (.ifCond .ne 6, 3) := by decide +kernel
theorem dX7_node_12 : decode cX7_node 12 = .ok (.bipush (-2), 2) := by decide +kernel
theorem dX7_node_14 : decode cX7_node 14 = .ok (.ireturn, 1) := by decide +kernel
theorem dX7_node_15 : decode cX7_node 15 = .ok (.iload_n 2, 1) := by decide +kernel
theorem dX7_node_16 : decode cX7_node 16 = .ok (.iconst 0, 1) := by decide +kernel
theorem dX7_node_17 : decode cX7_node 17 = .ok (.iconst 2, 1) := by decide +kernel
theorem dX7_node_18 : decode cX7_node 18 = .ok (.invokestatic 56, 3) := by decide +kernel
theorem dX7_node_21 : decode cX7_node 21 = .ok (.ifCond .ne 5, 3) := by decide +kernel
theorem dX7_node_24 : decode cX7_node 24 = .ok (.iconst (-1), 1) := by decide +kernel
theorem dX7_node_25 : decode cX7_node 25 = .ok (.ireturn, 1) := by decide +kernel
theorem dX7_node_26 : decode cX7_node 26 = .ok (.aload_n 0, 1) := by decide +kernel
theorem dX7_node_27 : decode cX7_node 27 = .ok (.iload_n 1, 1) := by decide +kernel
theorem dX7_node_28 : decode cX7_node 28 = .ok (.invokevirtual 149, 3) := by decide +kernel
theorem dX7_node_31 : decode cX7_node 31 = .ok (.ifCond .ne 9, 3) := by decide +kernel
theorem dX7_node_34 : decode cX7_node 34 = .ok (.aload_n 0, 1) := by decide +kernel
theorem dX7_node_35 : decode cX7_node 35 = .ok (.iconst 2, 1) := by decide +kernel
theorem dX7_node_36 : decode cX7_node 36 = .ok (.invokevirtual 64, 3) := by decide +kernel
theorem dX7_node_39 : decode cX7_node 39 = .ok (.ireturn, 1) := by decide +kernel
theorem dX7_node_40 : decode cX7_node 40 = .ok (.iload_n 2, 1) := by decide +kernel
theorem dX7_node_41 : decode cX7_node 41 = .ok (.ifCond .ne 11, 3) := by decide +kernel
theorem dX7_node_44 : decode cX7_node 44 = .ok (.aload_n 0, 1) := by decide +kernel
theorem dX7_node_45 : decode cX7_node 45 = .ok (.iload_n 1, 1) := by decide +kernel
theorem dX7_node_46 : decode cX7_node 46 = .ok (.invokevirtual 143, 3) := by decide +kernel
theorem dX7_node_49 : decode cX7_node 49 = .ok (.goto 21, 3) := by decide +kernel
theorem dX7_node_52 : decode cX7_node 52 = .ok (.iload_n 2, 1) := by decide +kernel
theorem dX7_node_53 : decode cX7_node 53 = .ok (.iconst 1, 1) := by decide +kernel
theorem dX7_node_54 : decode cX7_node 54 = .ok (.if_icmp .ne 11, 3) := by decide +kernel
theorem dX7_node_57 : decode cX7_node 57 = .ok (.aload_n 0, 1) := by decide +kernel
theorem dX7_node_58 : decode cX7_node 58 = .ok (.iload_n 1, 1) := by decide +kernel
theorem dX7_node_59 : decode cX7_node 59 = .ok (.invokevirtual 162, 3) := by decide +kernel
theorem dX7_node_62 : decode cX7_node 62 = .ok (.goto 8, 3) := by decide +kernel
theorem dX7_node_65 : decode cX7_node 65 = .ok (.aload_n 0, 1) := by decide +kernel
theorem dX7_node_66 : decode cX7_node 66 = .ok (.iload_n 1, 1) := by decide +kernel
theorem dX7_node_67 : decode cX7_node 67 = .ok (.invokevirtual 165, 3) := by decide +kernel
theorem dX7_node_70 : decode cX7_node 70 = .ok (.ireturn, 1) := by decide +kernel
theorem dX7_asked_0 : decode cX7_asked 0 = .ok (.aload_n 0, 1) := by decide +kernel
theorem dX7_asked_1 : decode cX7_asked 1 = .ok (.iconst 0, 1) := by decide +kernel
theorem dX7_asked_2 : decode cX7_asked 2 = .ok (.putfield 46, 3) := by decide +kernel
theorem dX7_asked_5 : decode cX7_asked 5 = .ok (.aload_n 0, 1) := by decide +kernel
theorem dX7_asked_6 : decode cX7_asked 6 = .ok (.getfield 53, 3) := by decide +kernel
theorem dX7_asked_9 : decode cX7_asked 9 = .ok (.ireturn, 1) := by decide +kernel
theorem dX7_shapesNow_0 : decode cX7_shapesNow 0 = .ok (.iconst 0, 1) := by decide +kernel
theorem dX7_shapesNow_1 : decode cX7_shapesNow 1 = .ok (.istore_n 1, 1) := by decide +kernel
theorem dX7_shapesNow_2 : decode cX7_shapesNow 2 = .ok (.iconst 0, 1) := by decide +kernel
theorem dX7_shapesNow_3 : decode cX7_shapesNow 3 = .ok (.istore_n 2, 1) := by decide +kernel
theorem dX7_shapesNow_4 : decode cX7_shapesNow 4 = .ok (.iload_n 2, 1) := by decide +kernel
theorem dX7_shapesNow_5 : decode cX7_shapesNow 5 = .ok (.aload_n 0, 1) := by decide +kernel
theorem dX7_shapesNow_6 : decode cX7_shapesNow 6 = .ok (.invokevirtual 99, 3) := by decide +kernel
theorem dX7_shapesNow_9 : decode cX7_shapesNow 9 = .ok (.if_icmp .ge 68, 3) := by decide +kernel
theorem dX7_shapesNow_12 : decode cX7_shapesNow 12 = .ok (.aload_n 0, 1) := by decide +kernel
theorem dX7_shapesNow_13 : decode cX7_shapesNow 13 = .ok (.iload_n 2, 1) := by decide +kernel
theorem dX7_shapesNow_14 : decode cX7_shapesNow 14 = .ok (.invokevirtual 103, 3) := by decide +kernel
theorem dX7_shapesNow_17 : decode cX7_shapesNow 17 = .ok (.istore_n 3, 1) := by decide +kernel
theorem dX7_shapesNow_18 : decode cX7_shapesNow 18 = .ok (.iconst 1, 1) := by decide +kernel
theorem dX7_shapesNow_19 : decode cX7_shapesNow 19 = .ok (.istore 4, 2) := by decide +kernel
theorem dX7_shapesNow_21 : decode cX7_shapesNow 21 = .ok (.iconst 0, 1) := by decide +kernel
theorem dX7_shapesNow_22 : decode cX7_shapesNow 22 = .ok (.istore 5, 2) := by decide +kernel
theorem dX7_shapesNow_24 : decode cX7_shapesNow 24 = .ok (.iload 5, 2) := by decide +kernel
theorem dX7_shapesNow_26 : decode cX7_shapesNow 26 = .ok (.iload_n 2, 1) := by decide +kernel
theorem dX7_shapesNow_27 : decode cX7_shapesNow 27 = .ok (.if_icmp .ge 31, 3) := by decide +kernel
theorem dX7_shapesNow_30 : decode cX7_shapesNow 30 = .ok (.iload 4, 2) := by decide +kernel
theorem dX7_shapesNow_32 : decode cX7_shapesNow 32 = .ok (.ifCond .eq 17, 3) := by decide +kernel
theorem dX7_shapesNow_35 : decode cX7_shapesNow 35 = .ok (.aload_n 0, 1) := by decide +kernel
theorem dX7_shapesNow_36 : decode cX7_shapesNow 36 = .ok (.iload 5, 2) := by decide +kernel
theorem dX7_shapesNow_38 : decode cX7_shapesNow 38 = .ok (.invokevirtual 103, 3) := by decide +kernel
theorem dX7_shapesNow_41 : decode cX7_shapesNow 41 = .ok (.iload_n 3, 1) := by decide +kernel
theorem dX7_shapesNow_42 : decode cX7_shapesNow 42 = .ok (.if_icmp .eq 7, 3) := by decide +kernel
theorem dX7_shapesNow_45 : decode cX7_shapesNow 45 = .ok (.iconst 1, 1) := by decide +kernel
theorem dX7_shapesNow_46 : decode cX7_shapesNow 46 = .ok (.goto 4, 3) := by decide +kernel
theorem dX7_shapesNow_49 : decode cX7_shapesNow 49 = .ok (.iconst 0, 1) := by decide +kernel
theorem dX7_shapesNow_50 : decode cX7_shapesNow 50 = .ok (.istore 4, 2) := by decide +kernel
theorem dX7_shapesNow_52 : decode cX7_shapesNow 52 = .ok (.iinc 5 1, 3) := by decide +kernel
theorem dX7_shapesNow_55 : decode cX7_shapesNow 55 = .ok (.goto (-31), 3) := by decide +kernel
theorem dX7_shapesNow_58 : decode cX7_shapesNow 58 = .ok (.iload_n 1, 1) := by decide +kernel
theorem dX7_shapesNow_59 : decode cX7_shapesNow 59 = .ok (.iload 4, 2) := by decide +kernel
theorem dX7_shapesNow_61 : decode cX7_shapesNow 61 = .ok (.ifCond .eq 7, 3) := by decide +kernel
theorem dX7_shapesNow_64 : decode cX7_shapesNow 64 = .ok (.iconst 1, 1) := by decide +kernel
theorem dX7_shapesNow_65 : decode cX7_shapesNow 65 = .ok (.goto 4, 3) := by decide +kernel
theorem dX7_shapesNow_68 : decode cX7_shapesNow 68 = .ok (.iconst 0, 1) := by decide +kernel
theorem dX7_shapesNow_69 : decode cX7_shapesNow 69 = .ok (.iadd, 1) := by decide +kernel
theorem dX7_shapesNow_70 : decode cX7_shapesNow 70 = .ok (.istore_n 1, 1) := by decide +kernel
theorem dX7_shapesNow_71 : decode cX7_shapesNow 71 = .ok (.iinc 2 1, 3) := by decide +kernel
theorem dX7_shapesNow_74 : decode cX7_shapesNow 74 = .ok (.goto (-70), 3) := by decide +kernel
theorem dX7_shapesNow_77 : decode cX7_shapesNow 77 = .ok (.iload_n 1, 1) := by decide +kernel
theorem dX7_shapesNow_78 : decode cX7_shapesNow 78 = .ok (.ireturn, 1) := by decide +kernel
theorem dX7_levels_0 : decode cX7_levels 0 = .ok (.iconst 0, 1) := by decide +kernel
theorem dX7_levels_1 : decode cX7_levels 1 = .ok (.istore_n 1, 1) := by decide +kernel
theorem dX7_levels_2 : decode cX7_levels 2 = .ok (.iconst 1, 1) := by decide +kernel
theorem dX7_levels_3 : decode cX7_levels 3 = .ok (.istore_n 2, 1) := by decide +kernel
theorem dX7_levels_4 : decode cX7_levels 4 = .ok (.iload_n 2, 1) := by decide +kernel
theorem dX7_levels_5 : decode cX7_levels 5 = .ok (.aload_n 0, 1) := by decide +kernel
theorem dX7_levels_6 : decode cX7_levels 6 = .ok (.invokevirtual 99, 3) := by decide +kernel
theorem dX7_levels_9 : decode cX7_levels 9 = .ok (.if_icmp .gt 13, 3) := by decide +kernel
theorem dX7_levels_12 : decode cX7_levels 12 = .ok (.iinc 1 1, 3) := by decide +kernel
theorem dX7_levels_15 : decode cX7_levels 15 = .ok (.iload_n 2, 1) := by decide +kernel
theorem dX7_levels_16 : decode cX7_levels 16 = .ok (.iconst 2, 1) := by decide +kernel
theorem dX7_levels_17 : decode cX7_levels 17 = .ok (.imul, 1) := by decide +kernel
theorem dX7_levels_18 : decode cX7_levels 18 = .ok (.istore_n 2, 1) := by decide +kernel
theorem dX7_levels_19 : decode cX7_levels 19 = .ok (.goto (-15), 3) := by decide +kernel
theorem dX7_levels_22 : decode cX7_levels 22 = .ok (.iload_n 1, 1) := by decide +kernel
theorem dX7_levels_23 : decode cX7_levels 23 = .ok (.ireturn, 1) := by decide +kernel
theorem dX7_bits_0 : decode cX7_bits 0 = .ok (.iconst 0, 1) := by decide +kernel
theorem dX7_bits_1 : decode cX7_bits 1 = .ok (.istore_n 1, 1) := by decide +kernel
theorem dX7_bits_2 : decode cX7_bits 2 = .ok (.iconst 1, 1) := by decide +kernel
theorem dX7_bits_3 : decode cX7_bits 3 = .ok (.istore_n 2, 1) := by decide +kernel
theorem dX7_bits_4 : decode cX7_bits 4 = .ok (.iload_n 2, 1) := by decide +kernel
theorem dX7_bits_5 : decode cX7_bits 5 = .ok (.aload_n 0, 1) := by decide +kernel
theorem dX7_bits_6 : decode cX7_bits 6 = .ok (.invokevirtual 99, 3) := by decide +kernel
theorem dX7_bits_9 : decode cX7_bits 9 = .ok (.if_icmp .gt 21, 3) := by decide +kernel
theorem dX7_bits_12 : decode cX7_bits 12 = .ok (.iload_n 1, 1) := by decide +kernel
theorem dX7_bits_13 : decode cX7_bits 13 = .ok (.aload_n 0, 1) := by decide +kernel
theorem dX7_bits_14 : decode cX7_bits 14 = .ok (.invokevirtual 99, 3) := by decide +kernel
theorem dX7_bits_17 : decode cX7_bits 17 = .ok (.iload_n 2, 1) := by decide +kernel
theorem dX7_bits_18 : decode cX7_bits 18 = .ok (.isub, 1) := by decide +kernel
theorem dX7_bits_19 : decode cX7_bits 19 = .ok (.iconst 1, 1) := by decide +kernel
theorem dX7_bits_20 : decode cX7_bits 20 = .ok (.iadd, 1) := by decide +kernel
