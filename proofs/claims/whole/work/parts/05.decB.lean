theorem dX9_init_0 : decode cX9_init 0 = .ok (.aload_n 0, 1) := by decide +kernel
theorem dX9_init_1 : decode cX9_init 1 = .ok (.invokespecial 1, 3) := by decide +kernel
theorem dX9_init_4 : decode cX9_init 4 = .ok (.aload_n 0, 1) := by decide +kernel
theorem dX9_init_5 : decode cX9_init 5 = .ok (.sipush 606, 3) := by decide +kernel
theorem dX9_init_8 : decode cX9_init 8 = .ok (.newarray .int, 2) := by decide +kernel
theorem dX9_init_10 : decode cX9_init 10 = .ok (.putfield 7, 3) := by decide +kernel
theorem dX9_init_13 : decode cX9_init 13 = .ok (.aload_n 0, 1) := by decide +kernel
theorem dX9_init_14 : decode cX9_init 14 = .ok (.sipush 606, 3) := by decide +kernel
theorem dX9_init_17 : decode cX9_init 17 = .ok (.newarray .int, 2) := by decide +kernel
theorem dX9_init_19 : decode cX9_init 19 = .ok (.putfield 13, 3) := by decide +kernel
theorem dX9_init_22 : decode cX9_init 22 = .ok (.aload_n 0, 1) := by decide +kernel
theorem dX9_init_23 : decode cX9_init 23 = .ok (.sipush 4848, 3) := by decide +kernel
theorem dX9_init_26 : decode cX9_init 26 = .ok (.newarray .int, 2) := by decide +kernel
theorem dX9_init_28 : decode cX9_init 28 = .ok (.putfield 16, 3) := by decide +kernel
theorem dX9_init_31 : decode cX9_init 31 = .ok (.aload_n 0, 1) := by decide +kernel
theorem dX9_init_32 : decode cX9_init 32 = .ok (.bipush 37, 2) := by decide +kernel
theorem dX9_init_34 : decode cX9_init 34 = .ok (.newarray .long, 2) := by decide +kernel
theorem dX9_init_36 : decode cX9_init 36 = .ok (.putfield 19, 3) := by decide +kernel
theorem dX9_init_39 : decode cX9_init 39 = .ok (.aload_n 0, 1) := by decide +kernel
theorem dX9_init_40 : decode cX9_init 40 = .ok (.sipush 296, 3) := by decide +kernel
theorem dX9_init_43 : decode cX9_init 43 = .ok (.newarray .long, 2) := by decide +kernel
theorem dX9_init_45 : decode cX9_init 45 = .ok (.putfield 23, 3) := by decide +kernel
theorem dX9_init_48 : decode cX9_init 48 = .ok (.aload_n 0, 1) := by decide +kernel
theorem dX9_init_49 : decode cX9_init 49 = .ok (.sipush 800, 3) := by decide +kernel
theorem dX9_init_52 : decode cX9_init 52 = .ok (.newarray .int, 2) := by decide +kernel
theorem dX9_init_54 : decode cX9_init 54 = .ok (.putfield 26, 3) := by decide +kernel
theorem dX9_init_57 : decode cX9_init 57 = .ok (.aload_n 0, 1) := by decide +kernel
theorem dX9_init_58 : decode cX9_init 58 = .ok (.iconst (-1), 1) := by decide +kernel
theorem dX9_init_59 : decode cX9_init 59 = .ok (.putfield 29, 3) := by decide +kernel
theorem dX9_init_62 : decode cX9_init 62 = .ok (.aload_n 0, 1) := by decide +kernel
theorem dX9_init_63 : decode cX9_init 63 = .ok (.getfield 7, 3) := by decide +kernel
theorem dX9_init_66 : decode cX9_init 66 = .ok (.iconst 1, 1) := by decide +kernel
theorem dX9_init_67 : decode cX9_init 67 = .ok (.iconst 2, 1) := by decide +kernel
theorem dX9_init_68 : decode cX9_init 68 = .ok (.iastore, 1) := by decide +kernel
theorem dX9_init_69 : decode cX9_init 69 = .ok (.aload_n 0, 1) := by decide +kernel
theorem dX9_init_70 : decode cX9_init 70 = .ok (.getfield 7, 3) := by decide +kernel
theorem dX9_init_73 : decode cX9_init 73 = .ok (.iconst 2, 1) := by decide +kernel
theorem dX9_init_74 : decode cX9_init 74 = .ok (.iconst 1, 1) := by decide +kernel
theorem dX9_init_75 : decode cX9_init 75 = .ok (.iastore, 1) := by decide +kernel
theorem dX9_init_76 : decode cX9_init 76 = .ok (.return_, 1) := by decide +kernel
theorem dX9_thrown_0 : decode cX9_thrown 0 = .ok (.aload_n 0, 1) := by decide +kernel
theorem dX9_thrown_1 : decode cX9_thrown 1 = .ok (.getfield 33, 3) := by decide +kernel
theorem dX9_thrown_4 : decode cX9_thrown 4 = .ok (.ireturn, 1) := by decide +kernel
theorem dX9_isIn_0 : decode cX9_isIn 0 = .ok (.lload_n 0, 1) := by decide +kernel
theorem dX9_isIn_1 : decode cX9_isIn 1 = .ok (.lload_n 2, 1) := by decide +kernel
theorem dX9_isIn_2 : decode cX9_isIn 2 = .ok (.lcmp, 1) := by decide +kernel
theorem dX9_isIn_3 : decode cX9_isIn 3 = .ok (.ifCond .lt 14, 3) := by decide +kernel
theorem dX9_isIn_6 : decode cX9_isIn 6 = .ok (.lload_n 0, 1) := by decide +kernel
theorem dX9_isIn_7 : decode cX9_isIn 7 = .ok (.lload 4, 2) := by decide +kernel
theorem dX9_isIn_9 : decode cX9_isIn 9 = .ok (.lcmp, 1) := by decide +kernel
theorem dX9_isIn_10 : decode cX9_isIn 10 = .ok (.ifCond .gt 7, 3) := by decide +kernel
theorem dX9_isIn_13 : decode cX9_isIn 13 = .ok (.iconst 1, 1) := by decide +kernel
theorem dX9_isIn_14 : decode cX9_isIn 14 = .ok (.goto 4, 3) := by decide +kernel
theorem dX9_isIn_17 : decode cX9_isIn 17 = .ok (.iconst 0, 1) := by decide +kernel
theorem dX9_isIn_18 : decode cX9_isIn 18 = .ok (.ireturn, 1) := by decide +kernel
theorem dX9_keeps_0 : decode cX9_keeps 0 = .ok (.aload_n 0, 1) := by decide +kernel
theorem dX9_keeps_1 : decode cX9_keeps 1 = .ok (.getfield 36, 3) := by decide +kernel
theorem dX9_keeps_4 : decode cX9_keeps 4 = .ok (.bipush 8, 2) := by decide +kernel
theorem dX9_keeps_6 : decode cX9_keeps 6 = .ok (.if_icmp .ne 74, 3) := by decide +kernel
theorem dX9_keeps_9 : decode cX9_keeps 9 = .ok (.iconst 0, 1) := by decide +kernel
theorem dX9_keeps_10 : decode cX9_keeps 10 = .ok (.istore_n 1, 1) := by decide +kernel
theorem dX9_keeps_11 : decode cX9_keeps 11 = .ok (.iload_n 1, 1) := by decide +kernel
theorem dX9_keeps_12 : decode cX9_keeps 12 = .ok (.sipush 4242, 3) := by decide +kernel
theorem dX9_keeps_15 : decode cX9_keeps 15 = .ok (.if_icmp .ge 25, 3) := by decide +kernel
theorem dX9_keeps_18 : decode cX9_keeps 18 = .ok (.aload_n 0, 1) := by decide +kernel
theorem dX9_keeps_19 : decode cX9_keeps 19 = .ok (.getfield 16, 3) := by decide +kernel
theorem dX9_keeps_22 : decode cX9_keeps 22 = .ok (.iload_n 1, 1) := by decide +kernel
theorem dX9_keeps_23 : decode cX9_keeps 23 = .ok (.aload_n 0, 1) := by decide +kernel
theorem dX9_keeps_24 : decode cX9_keeps 24 = .ok (.getfield 16, 3) := by decide +kernel
theorem dX9_keeps_27 : decode cX9_keeps 27 = .ok (.iload_n 1, 1) := by decide +kernel
theorem dX9_keeps_28 : decode cX9_keeps 28 = .ok (.sipush 606, 3) := by decide +kernel
theorem dX9_keeps_31 : decode cX9_keeps 31 = .ok (.iadd, 1) := by decide +kernel
theorem dX9_keeps_32 : decode cX9_keeps 32 = .ok (.iaload, 1) := by decide +kernel
theorem dX9_keeps_33 : decode cX9_keeps 33 = .ok (.iastore, 1) := by decide +kernel
theorem dX9_keeps_34 : decode cX9_keeps 34 = .ok (.iinc 1 1, 3) := by decide +kernel
theorem dX9_keeps_37 : decode cX9_keeps 37 = .ok (.goto (-26), 3) := by decide +kernel
theorem dX9_keeps_40 : decode cX9_keeps 40 = .ok (.iconst 0, 1) := by decide +kernel
theorem dX9_keeps_41 : decode cX9_keeps 41 = .ok (.istore_n 1, 1) := by decide +kernel
theorem dX9_keeps_42 : decode cX9_keeps 42 = .ok (.iload_n 1, 1) := by decide +kernel
theorem dX9_keeps_43 : decode cX9_keeps 43 = .ok (.sipush 259, 3) := by decide +kernel
theorem dX9_keeps_46 : decode cX9_keeps 46 = .ok (.if_icmp .ge 24, 3) := by decide +kernel
theorem dX9_keeps_49 : decode cX9_keeps 49 = .ok (.aload_n 0, 1) := by decide +kernel
theorem dX9_keeps_50 : decode cX9_keeps 50 = .ok (.getfield 23, 3) := by decide +kernel
theorem dX9_keeps_53 : decode cX9_keeps 53 = .ok (.iload_n 1, 1) := by decide +kernel
theorem dX9_keeps_54 : decode cX9_keeps 54 = .ok (.aload_n 0, 1) := by decide +kernel
theorem dX9_keeps_55 : decode cX9_keeps 55 = .ok (.getfield 23, 3) := by decide +kernel
theorem dX9_keeps_58 : decode cX9_keeps 58 = .ok (.iload_n 1, 1) := by decide +kernel
theorem dX9_keeps_59 : decode cX9_keeps 59 = .ok (.bipush 37, 2) := by decide +kernel
theorem dX9_keeps_61 : decode cX9_keeps 61 = .ok (.iadd, 1) := by decide +kernel
theorem dX9_keeps_62 : decode cX9_keeps 62 = .ok (.laload, 1) := by decide +kernel
theorem dX9_keeps_63 : decode cX9_keeps 63 = .ok (.lastore, 1) := by decide +kernel
theorem dX9_keeps_64 : decode cX9_keeps 64 = .ok (.iinc 1 1, 3) := by decide +kernel
theorem dX9_keeps_67 : decode cX9_keeps 67 = .ok (.goto (-25), 3) := by decide +kernel
theorem dX9_keeps_70 : decode cX9_keeps 70 = .ok (.aload_n 0, 1) := by decide +kernel
theorem dX9_keeps_71 : decode cX9_keeps 71 = .ok (.dup, 1) := by decide +kernel
theorem dX9_keeps_72 : decode cX9_keeps 72 = .ok (.getfield 36, 3) := by decide +kernel
theorem dX9_keeps_75 : decode cX9_keeps 75 = .ok (.iconst 1, 1) := by decide +kernel
theorem dX9_keeps_76 : decode cX9_keeps 76 = .ok (.isub, 1) := by decide +kernel
theorem dX9_keeps_77 : decode cX9_keeps 77 = .ok (.putfield 36, 3) := by decide +kernel
theorem dX9_keeps_80 : decode cX9_keeps 80 = .ok (.iconst 0, 1) := by decide +kernel
theorem dX9_keeps_81 : decode cX9_keeps 81 = .ok (.istore_n 1, 1) := by decide +kernel
theorem dX9_keeps_82 : decode cX9_keeps 82 = .ok (.iload_n 1, 1) := by decide +kernel
theorem dX9_keeps_83 : decode cX9_keeps 83 = .ok (.sipush 606, 3) := by decide +kernel
theorem dX9_keeps_86 : decode cX9_keeps 86 = .ok (.if_icmp .ge 30, 3) := by decide +kernel
theorem dX9_keeps_89 : decode cX9_keeps 89 = .ok (.aload_n 0, 1) := by decide +kernel
theorem dX9_keeps_90 : decode cX9_keeps 90 = .ok (.getfield 16, 3) := by decide +kernel
theorem dX9_keeps_93 : decode cX9_keeps 93 = .ok (.sipush 606, 3) := by decide +kernel
theorem dX9_keeps_96 : decode cX9_keeps 96 = .ok (.aload_n 0, 1) := by decide +kernel
theorem dX9_keeps_97 : decode cX9_keeps 97 = .ok (.getfield 36, 3) := by decide +kernel
theorem dX9_keeps_100 : decode cX9_keeps 100 = .ok (.imul, 1) := by decide +kernel
theorem dX9_keeps_101 : decode cX9_keeps 101 = .ok (.iload_n 1, 1) := by decide +kernel
theorem dX9_keeps_102 : decode cX9_keeps 102 = .ok (.iadd, 1) := by decide +kernel
theorem dX9_keeps_103 : decode cX9_keeps 103 = .ok (.aload_n 0, 1) := by decide +kernel
theorem dX9_keeps_104 : decode cX9_keeps 104 = .ok (.getfield 7, 3) := by decide +kernel
theorem dX9_keeps_107 : decode cX9_keeps 107 = .ok (.iload_n 1, 1) := by decide +kernel
theorem dX9_keeps_108 : decode cX9_keeps 108 = .ok (.iaload, 1) := by decide +kernel
theorem dX9_keeps_109 : decode cX9_keeps 109 = .ok (.iastore, 1) := by decide +kernel
theorem dX9_keeps_110 : decode cX9_keeps 110 = .ok (.iinc 1 1, 3) := by decide +kernel
theorem dX9_keeps_113 : decode cX9_keeps 113 = .ok (.goto (-31), 3) := by decide +kernel
theorem dX9_keeps_116 : decode cX9_keeps 116 = .ok (.iconst 0, 1) := by decide +kernel
theorem dX9_keeps_117 : decode cX9_keeps 117 = .ok (.istore_n 1, 1) := by decide +kernel
theorem dX9_keeps_118 : decode cX9_keeps 118 = .ok (.iload_n 1, 1) := by decide +kernel
theorem dX9_keeps_119 : decode cX9_keeps 119 = .ok (.bipush 37, 2) := by decide +kernel
theorem dX9_keeps_121 : decode cX9_keeps 121 = .ok (.if_icmp .ge 29, 3) := by decide +kernel
theorem dX9_keeps_124 : decode cX9_keeps 124 = .ok (.aload_n 0, 1) := by decide +kernel
theorem dX9_keeps_125 : decode cX9_keeps 125 = .ok (.getfield 23, 3) := by decide +kernel
theorem dX9_keeps_128 : decode cX9_keeps 128 = .ok (.bipush 37, 2) := by decide +kernel
theorem dX9_keeps_130 : decode cX9_keeps 130 = .ok (.aload_n 0, 1) := by decide +kernel
theorem dX9_keeps_131 : decode cX9_keeps 131 = .ok (.getfield 36, 3) := by decide +kernel
theorem dX9_keeps_134 : decode cX9_keeps 134 = .ok (.imul, 1) := by decide +kernel
theorem dX9_keeps_135 : decode cX9_keeps 135 = .ok (.iload_n 1, 1) := by decide +kernel
theorem dX9_keeps_136 : decode cX9_keeps 136 = .ok (.iadd, 1) := by decide +kernel
theorem dX9_keeps_137 : decode cX9_keeps 137 = .ok (.aload_n 0, 1) := by decide +kernel
theorem dX9_keeps_138 : decode cX9_keeps 138 = .ok (.getfield 19, 3) := by decide +kernel
theorem dX9_keeps_141 : decode cX9_keeps 141 = .ok (.iload_n 1, 1) := by decide +kernel
theorem dX9_keeps_142 : decode cX9_keeps 142 = .ok (.laload, 1) := by decide +kernel
theorem dX9_keeps_143 : decode cX9_keeps 143 = .ok (.lastore, 1) := by decide +kernel
theorem dX9_keeps_144 : decode cX9_keeps 144 = .ok (.iinc 1 1, 3) := by decide +kernel
theorem dX9_keeps_147 : decode cX9_keeps 147 = .ok (.goto (-29), 3) := by decide +kernel
theorem dX9_keeps_150 : decode cX9_keeps 150 = .ok (.aload_n 0, 1) := by decide +kernel
theorem dX9_keeps_151 : decode cX9_keeps 151 = .ok (.dup, 1) := by decide +kernel
theorem dX9_keeps_152 : decode cX9_keeps 152 = .ok (.getfield 36, 3) := by decide +kernel
theorem dX9_keeps_155 : decode cX9_keeps 155 = .ok (.iconst 1, 1) := by decide +kernel
theorem dX9_keeps_156 : decode cX9_keeps 156 = .ok (.iadd, 1) := by decide +kernel
theorem dX9_keeps_157 : decode cX9_keeps 157 = .ok (.putfield 36, 3) := by decide +kernel
theorem dX9_keeps_160 : decode cX9_keeps 160 = .ok (.return_, 1) := by decide +kernel
theorem dX9_undo_0 : decode cX9_undo 0 = .ok (.aload_n 0, 1) := by decide +kernel
theorem dX9_undo_1 : decode cX9_undo 1 = .ok (.aload_n 0, 1) := by decide +kernel
theorem dX9_undo_2 : decode cX9_undo 2 = .ok (.getfield 36, 3) := by decide +kernel
theorem dX9_undo_5 : decode cX9_undo 5 = .ok (.ifCond .ne 7, 3) := by decide +kernel
theorem dX9_undo_8 : decode cX9_undo 8 = .ok (.iconst 1, 1) := by decide +kernel
theorem dX9_undo_9 : decode cX9_undo 9 = .ok (.goto 4, 3) := by decide +kernel
theorem dX9_undo_12 : decode cX9_undo 12 = .ok (.iconst 0, 1) := by decide +kernel
theorem dX9_undo_13 : decode cX9_undo 13 = .ok (.putfield 33, 3) := by decide +kernel
theorem dX9_undo_16 : decode cX9_undo 16 = .ok (.aload_n 0, 1) := by decide +kernel
theorem dX9_undo_17 : decode cX9_undo 17 = .ok (.getfield 33, 3) := by decide +kernel
theorem dX9_undo_20 : decode cX9_undo 20 = .ok (.ifCond .le 5, 3) := by decide +kernel
theorem dX9_undo_23 : decode cX9_undo 23 = .ok (.iconst 0, 1) := by decide +kernel
theorem dX9_undo_24 : decode cX9_undo 24 = .ok (.ireturn, 1) := by decide +kernel
theorem dX9_undo_25 : decode cX9_undo 25 = .ok (.aload_n 0, 1) := by decide +kernel
theorem dX9_undo_26 : decode cX9_undo 26 = .ok (.dup, 1) := by decide +kernel
theorem dX9_undo_27 : decode cX9_undo 27 = .ok (.getfield 36, 3) := by decide +kernel
theorem dX9_undo_30 : decode cX9_undo 30 = .ok (.iconst 1, 1) := by decide +kernel
theorem dX9_undo_31 : decode cX9_undo 31 = .ok (.isub, 1) := by decide +kernel
theorem dX9_undo_32 : decode cX9_undo 32 = .ok (.putfield 36, 3) := by decide +kernel
theorem dX9_undo_35 : decode cX9_undo 35 = .ok (.iconst 0, 1) := by decide +kernel
theorem dX9_undo_36 : decode cX9_undo 36 = .ok (.istore_n 1, 1) := by decide +kernel
theorem dX9_undo_37 : decode cX9_undo 37 = .ok (.iload_n 1, 1) := by decide +kernel
theorem dX9_undo_38 : decode cX9_undo 38 = .ok (.sipush 606, 3) := by decide +kernel
theorem dX9_undo_41 : decode cX9_undo 41 = .ok (.if_icmp .ge 30, 3) := by decide +kernel
theorem dX9_undo_44 : decode cX9_undo 44 = .ok (.aload_n 0, 1) := by decide +kernel
theorem dX9_undo_45 : decode cX9_undo 45 = .ok (.getfield 7, 3) := by decide +kernel
theorem dX9_undo_48 : decode cX9_undo 48 = .ok (.iload_n 1, 1) := by decide +kernel
theorem dX9_undo_49 : decode cX9_undo 49 = .ok (.aload_n 0, 1) := by decide +kernel
theorem dX9_undo_50 : decode cX9_undo 50 = .ok (.getfield 16, 3) := by decide +kernel
theorem dX9_undo_53 : decode cX9_undo 53 = .ok (.sipush 606, 3) := by decide +kernel
theorem dX9_undo_56 : decode cX9_undo 56 = .ok (.aload_n 0, 1) := by decide +kernel
theorem dX9_undo_57 : decode cX9_undo 57 = .ok (.getfield 36, 3) := by decide +kernel
theorem dX9_undo_60 : decode cX9_undo 60 = .ok (.imul, 1) := by decide +kernel
theorem dX9_undo_61 : decode cX9_undo 61 = .ok (.iload_n 1, 1) := by decide +kernel
theorem dX9_undo_62 : decode cX9_undo 62 = .ok (.iadd, 1) := by decide +kernel
theorem dX9_undo_63 : decode cX9_undo 63 = .ok (.iaload, 1) := by decide +kernel
theorem dX9_undo_64 : decode cX9_undo 64 = .ok (.iastore, 1) := by decide +kernel
theorem dX9_undo_65 : decode cX9_undo 65 = .ok (.iinc 1 1, 3) := by decide +kernel
theorem dX9_undo_68 : decode cX9_undo 68 = .ok (.goto (-31), 3) := by decide +kernel
theorem dX9_undo_71 : decode cX9_undo 71 = .ok (.iconst 0, 1) := by decide +kernel
theorem dX9_undo_72 : decode cX9_undo 72 = .ok (.istore_n 1, 1) := by decide +kernel
theorem dX9_undo_73 : decode cX9_undo 73 = .ok (.iload_n 1, 1) := by decide +kernel
theorem dX9_undo_74 : decode cX9_undo 74 = .ok (.bipush 37, 2) := by decide +kernel
theorem dX9_undo_76 : decode cX9_undo 76 = .ok (.if_icmp .ge 29, 3) := by decide +kernel
theorem dX9_undo_79 : decode cX9_undo 79 = .ok (.aload_n 0, 1) := by decide +kernel
theorem dX9_undo_80 : decode cX9_undo 80 = .ok (.getfield 19, 3) := by decide +kernel
theorem dX9_undo_83 : decode cX9_undo 83 = .ok (.iload_n 1, 1) := by decide +kernel
theorem dX9_undo_84 : decode cX9_undo 84 = .ok (.aload_n 0, 1) := by decide +kernel
theorem dX9_undo_85 : decode cX9_undo 85 = .ok (.getfield 23, 3) := by decide +kernel
theorem dX9_undo_88 : decode cX9_undo 88 = .ok (.bipush 37, 2) := by decide +kernel
theorem dX9_undo_90 : decode cX9_undo 90 = .ok (.aload_n 0, 1) := by decide +kernel
theorem dX9_undo_91 : decode cX9_undo 91 = .ok (.getfield 36, 3) := by decide +kernel
theorem dX9_undo_94 : decode cX9_undo 94 = .ok (.imul, 1) := by decide +kernel
theorem dX9_undo_95 : decode cX9_undo 95 = .ok (.iload_n 1, 1) := by decide +kernel
theorem dX9_undo_96 : decode cX9_undo 96 = .ok (.iadd, 1) := by decide +kernel
theorem dX9_undo_97 : decode cX9_undo 97 = .ok (.laload, 1) := by decide +kernel
theorem dX9_undo_98 : decode cX9_undo 98 = .ok (.lastore, 1) := by decide +kernel
theorem dX9_undo_99 : decode cX9_undo 99 = .ok (.iinc 1 1, 3) := by decide +kernel
theorem dX9_undo_102 : decode cX9_undo 102 = .ok (.goto (-29), 3) := by decide +kernel
theorem dX9_undo_105 : decode cX9_undo 105 = .ok (.aload_n 0, 1) := by decide +kernel
theorem dX9_undo_106 : decode cX9_undo 106 = .ok (.getfield 36, 3) := by decide +kernel
theorem dX9_undo_109 : decode cX9_undo 109 = .ok (.ireturn, 1) := by decide +kernel
theorem dX9_append_0 : decode cX9_append 0 = .ok (.aload_n 0, 1) := by decide +kernel
theorem dX9_append_1 : decode cX9_append 1 = .ok (.aload_n 0, 1) := by decide +kernel
theorem dX9_append_2 : decode cX9_append 2 = .ok (.getfield 39, 3) := by decide +kernel
theorem dX9_append_5 : decode cX9_append 5 = .ok (.bipush 20, 2) := by decide +kernel
theorem dX9_append_7 : decode cX9_append 7 = .ok (.iadd, 1) := by decide +kernel
theorem dX9_append_8 : decode cX9_append 8 = .ok (.sipush 800, 3) := by decide +kernel
theorem dX9_append_11 : decode cX9_append 11 = .ok (.if_icmp .le 7, 3) := by decide +kernel
theorem dX9_append_14 : decode cX9_append 14 = .ok (.iconst 1, 1) := by decide +kernel
theorem dX9_append_15 : decode cX9_append 15 = .ok (.goto 4, 3) := by decide +kernel
theorem dX9_append_18 : decode cX9_append 18 = .ok (.iconst 0, 1) := by decide +kernel
theorem dX9_append_19 : decode cX9_append 19 = .ok (.putfield 33, 3) := by decide +kernel
theorem dX9_append_22 : decode cX9_append 22 = .ok (.aload_n 0, 1) := by decide +kernel
theorem dX9_append_23 : decode cX9_append 23 = .ok (.getfield 33, 3) := by decide +kernel
theorem dX9_append_26 : decode cX9_append 26 = .ok (.ifCond .le 5, 3) := by decide +kernel
theorem dX9_append_29 : decode cX9_append 29 = .ok (.iconst 0, 1) := by decide +kernel
theorem dX9_append_30 : decode cX9_append 30 = .ok (.ireturn, 1) := by decide +kernel
theorem dX9_append_31 : decode cX9_append 31 = .ok (.iconst 0, 1) := by decide +kernel
theorem dX9_append_32 : decode cX9_append 32 = .ok (.istore 6, 2) := by decide +kernel
theorem dX9_append_34 : decode cX9_append 34 = .ok (.iload 6, 2) := by decide +kernel
theorem dX9_append_36 : decode cX9_append 36 = .ok (.bipush 20, 2) := by decide +kernel
theorem dX9_append_38 : decode cX9_append 38 = .ok (.if_icmp .ge 93, 3) := by decide +kernel
theorem dX9_append_41 : decode cX9_append 41 = .ok (.iload 6, 2) := by decide +kernel
theorem dX9_append_43 : decode cX9_append 43 = .ok (.iconst 4, 1) := by decide +kernel
theorem dX9_append_44 : decode cX9_append 44 = .ok (.if_icmp .ge 7, 3) := by decide +kernel
theorem dX9_append_47 : decode cX9_append 47 = .ok (.iload_n 1, 1) := by decide +kernel
theorem dX9_append_48 : decode cX9_append 48 = .ok (.goto 39, 3) := by decide +kernel
theorem dX9_append_51 : decode cX9_append 51 = .ok (.iload 6, 2) := by decide +kernel
theorem dX9_append_53 : decode cX9_append 53 = .ok (.bipush 8, 2) := by decide +kernel
theorem dX9_append_55 : decode cX9_append 55 = .ok (.if_icmp .ge 7, 3) := by decide +kernel
theorem dX9_append_58 : decode cX9_append 58 = .ok (.iload_n 2, 1) := by decide +kernel
theorem dX9_append_59 : decode cX9_append 59 = .ok (.goto 28, 3) := by decide +kernel
theorem dX9_append_62 : decode cX9_append 62 = .ok (.iload 6, 2) := by decide +kernel
theorem dX9_append_64 : decode cX9_append 64 = .ok (.bipush 12, 2) := by decide +kernel
theorem dX9_append_66 : decode cX9_append 66 = .ok (.if_icmp .ge 7, 3) := by decide +kernel
theorem dX9_append_69 : decode cX9_append 69 = .ok (.iload_n 3, 1) := by decide +kernel
theorem dX9_append_70 : decode cX9_append 70 = .ok (.goto 17, 3) := by decide +kernel
theorem dX9_append_73 : decode cX9_append 73 = .ok (.iload 6, 2) := by decide +kernel
theorem dX9_append_75 : decode cX9_append 75 = .ok (.bipush 16, 2) := by decide +kernel
theorem dX9_append_77 : decode cX9_append 77 = .ok (.if_icmp .ge 8, 3) := by decide +kernel
theorem dX9_append_80 : decode cX9_append 80 = .ok (.iload 4, 2) := by decide +kernel
theorem dX9_append_82 : decode cX9_append 82 = .ok (.goto 5, 3) := by decide +kernel
theorem dX9_append_85 : decode cX9_append 85 = .ok (.iload 5, 2) := by decide +kernel
theorem dX9_append_87 : decode cX9_append 87 = .ok (.istore 7, 2) := by decide +kernel
theorem dX9_append_89 : decode cX9_append 89 = .ok (.aload_n 0, 1) := by decide +kernel
theorem dX9_append_90 : decode cX9_append 90 = .ok (.getfield 26, 3) := by decide +kernel
theorem dX9_append_93 : decode cX9_append 93 = .ok (.aload_n 0, 1) := by decide +kernel
theorem dX9_append_94 : decode cX9_append 94 = .ok (.getfield 39, 3) := by decide +kernel
theorem dX9_append_97 : decode cX9_append 97 = .ok (.iload 7, 2) := by decide +kernel
theorem dX9_append_99 : decode cX9_append 99 = .ok (.bipush 24, 2) := by decide +kernel
theorem dX9_append_101 : decode cX9_append 101 = .ok (.bipush 8, 2) := by decide +kernel
theorem dX9_append_103 : decode cX9_append 103 = .ok (.iload 6, 2) := by decide +kernel
theorem dX9_append_105 : decode cX9_append 105 = .ok (.iconst 4, 1) := by decide +kernel
theorem dX9_append_106 : decode cX9_append 106 = .ok (.irem, 1) := by decide +kernel
theorem dX9_append_107 : decode cX9_append 107 = .ok (.imul, 1) := by decide +kernel
theorem dX9_append_108 : decode cX9_append 108 = .ok (.isub, 1) := by decide +kernel
theorem dX9_append_109 : decode cX9_append 109 = .ok (.ishr, 1) := by decide +kernel
theorem dX9_append_110 : decode cX9_append 110 = .ok (.sipush 255, 3) := by decide +kernel
theorem dX9_append_113 : decode cX9_append 113 = .ok (.iand, 1) := by decide +kernel
theorem dX9_append_114 : decode cX9_append 114 = .ok (.iastore, 1) := by decide +kernel
theorem dX9_append_115 : decode cX9_append 115 = .ok (.aload_n 0, 1) := by decide +kernel
theorem dX9_append_116 : decode cX9_append 116 = .ok (.dup, 1) := by decide +kernel
theorem dX9_append_117 : decode cX9_append 117 = .ok (.getfield 39, 3) := by decide +kernel
theorem dX9_append_120 : decode cX9_append 120 = .ok (.iconst 1, 1) := by decide +kernel
theorem dX9_append_121 : decode cX9_append 121 = .ok (.iadd, 1) := by decide +kernel
theorem dX9_append_122 : decode cX9_append 122 = .ok (.putfield 39, 3) := by decide +kernel
theorem dX9_append_125 : decode cX9_append 125 = .ok (.iinc 6 1, 3) := by decide +kernel
theorem dX9_append_128 : decode cX9_append 128 = .ok (.goto (-94), 3) := by decide +kernel
theorem dX9_append_131 : decode cX9_append 131 = .ok (.aload_n 0, 1) := by decide +kernel
theorem dX9_append_132 : decode cX9_append 132 = .ok (.getfield 39, 3) := by decide +kernel
theorem dX9_append_135 : decode cX9_append 135 = .ok (.ireturn, 1) := by decide +kernel
theorem dX9_see_0 : decode cX9_see 0 = .ok (.iload_n 1, 1) := by decide +kernel
theorem dX9_see_1 : decode cX9_see 1 = .ok (.aload_n 0, 1) := by decide +kernel
theorem dX9_see_2 : decode cX9_see 2 = .ok (.getfield 42, 3) := by decide +kernel
theorem dX9_see_5 : decode cX9_see 5 = .ok (.if_icmp .ge 12, 3) := by decide +kernel
theorem dX9_see_8 : decode cX9_see 8 = .ok (.aload_n 0, 1) := by decide +kernel
theorem dX9_see_9 : decode cX9_see 9 = .ok (.getfield 26, 3) := by decide +kernel
theorem dX9_see_12 : decode cX9_see 12 = .ok (.iload_n 1, 1) := by decide +kernel
theorem dX9_see_13 : decode cX9_see 13 = .ok (.iaload, 1) := by decide +kernel
theorem dX9_see_14 : decode cX9_see 14 = .ok (.goto 4, 3) := by decide +kernel
theorem dX9_see_17 : decode cX9_see 17 = .ok (.iconst (-1), 1) := by decide +kernel
theorem dX9_see_18 : decode cX9_see 18 = .ok (.ireturn, 1) := by decide +kernel
theorem dX9_wordAt_0 : decode cX9_wordAt 0 = .ok (.iconst 0, 1) := by decide +kernel
theorem dX9_wordAt_1 : decode cX9_wordAt 1 = .ok (.istore_n 1, 1) := by decide +kernel
theorem dX9_wordAt_2 : decode cX9_wordAt 2 = .ok (.iconst 1, 1) := by decide +kernel
theorem dX9_wordAt_3 : decode cX9_wordAt 3 = .ok (.istore_n 2, 1) := by decide +kernel
theorem dX9_wordAt_4 : decode cX9_wordAt 4 = .ok (.iload_n 2, 1) := by decide +kernel
theorem dX9_wordAt_5 : decode cX9_wordAt 5 = .ok (.ldc 45, 2) := by decide +kernel
theorem dX9_wordAt_7 : decode cX9_wordAt 7 = .ok (.invokevirtual 47, 3) := by decide +kernel
theorem dX9_wordAt_10 : decode cX9_wordAt 10 = .ok (.if_icmp .ge 113, 3) := by decide +kernel
theorem dX9_wordAt_13 : decode cX9_wordAt 13 = .ok (.iconst 0, 1) := by decide +kernel
theorem dX9_wordAt_14 : decode cX9_wordAt 14 = .ok (.istore_n 3, 1) := by decide +kernel
theorem dX9_wordAt_15 : decode cX9_wordAt 15 = .ok (.ldc 45, 2) := by decide +kernel
theorem dX9_wordAt_17 : decode cX9_wordAt 17 = .ok (.iload_n 2, 1) := by decide +kernel
theorem dX9_wordAt_18 : decode cX9_wordAt 18 = .ok (.iload_n 3, 1) := by decide +kernel
theorem dX9_wordAt_19 : decode cX9_wordAt 19 = .ok (.iadd, 1) := by decide +kernel
theorem dX9_wordAt_20 : decode cX9_wordAt 20 = .ok (.invokevirtual 53, 3) := by decide +kernel
theorem dX9_wordAt_23 : decode cX9_wordAt 23 = .ok (.bipush 32, 2) := by decide +kernel
theorem dX9_wordAt_25 : decode cX9_wordAt 25 = .ok (.if_icmp .eq 44, 3) := by decide +kernel
theorem dX9_wordAt_28 : decode cX9_wordAt 28 = .ok (.aload_n 0, 1) := by decide +kernel
theorem dX9_wordAt_29 : decode cX9_wordAt 29 = .ok (.getfield 57, 3) := by decide +kernel
theorem dX9_wordAt_32 : decode cX9_wordAt 32 = .ok (.iload_n 3, 1) := by decide +kernel
theorem dX9_wordAt_33 : decode cX9_wordAt 33 = .ok (.iadd, 1) := by decide +kernel
theorem dX9_wordAt_34 : decode cX9_wordAt 34 = .ok (.aload_n 0, 1) := by decide +kernel
theorem dX9_wordAt_35 : decode cX9_wordAt 35 = .ok (.getfield 60, 3) := by decide +kernel
theorem dX9_wordAt_38 : decode cX9_wordAt 38 = .ok (.if_icmp .ge 31, 3) := by decide +kernel
theorem dX9_wordAt_41 : decode cX9_wordAt 41 = .ok (.aload_n 0, 1) := by decide +kernel
theorem dX9_wordAt_42 : decode cX9_wordAt 42 = .ok (.getfield 26, 3) := by decide +kernel
theorem dX9_wordAt_45 : decode cX9_wordAt 45 = .ok (.aload_n 0, 1) := by decide +kernel
theorem dX9_wordAt_46 : decode cX9_wordAt 46 = .ok (.getfield 57, 3) := by decide +kernel
theorem dX9_wordAt_49 : decode cX9_wordAt 49 = .ok (.iload_n 3, 1) := by decide +kernel
theorem dX9_wordAt_50 : decode cX9_wordAt 50 = .ok (.iadd, 1) := by decide +kernel
theorem dX9_wordAt_51 : decode cX9_wordAt 51 = .ok (.iaload, 1) := by decide +kernel
theorem dX9_wordAt_52 : decode cX9_wordAt 52 = .ok (.ldc 45, 2) := by decide +kernel
theorem dX9_wordAt_54 : decode cX9_wordAt 54 = .ok (.iload_n 2, 1) := by decide +kernel
theorem dX9_wordAt_55 : decode cX9_wordAt 55 = .ok (.iload_n 3, 1) := by decide +kernel
theorem dX9_wordAt_56 : decode cX9_wordAt 56 = .ok (.iadd, 1) := by decide +kernel
theorem dX9_wordAt_57 : decode cX9_wordAt 57 = .ok (.invokevirtual 53, 3) := by decide +kernel
theorem dX9_wordAt_60 : decode cX9_wordAt 60 = .ok (.if_icmp .ne 9, 3) := by decide +kernel
theorem dX9_wordAt_63 : decode cX9_wordAt 63 = .ok (.iinc 3 1, 3) := by decide +kernel
theorem dX9_wordAt_66 : decode cX9_wordAt 66 = .ok (.goto (-51), 3) := by decide +kernel
theorem dX9_wordAt_69 : decode cX9_wordAt 69 = .ok (.ldc 45, 2) := by decide +kernel
theorem dX9_wordAt_71 : decode cX9_wordAt 71 = .ok (.iload_n 2, 1) := by decide +kernel
theorem dX9_wordAt_72 : decode cX9_wordAt 72 = .ok (.iload_n 3, 1) := by decide +kernel
theorem dX9_wordAt_73 : decode cX9_wordAt 73 = .ok (.iadd, 1) := by decide +kernel
theorem dX9_wordAt_74 : decode cX9_wordAt 74 = .ok (.invokevirtual 53, 3) := by decide +kernel
theorem dX9_wordAt_77 : decode cX9_wordAt 77 = .ok (.bipush 32, 2) := by decide +kernel
theorem dX9_wordAt_79 : decode cX9_wordAt 79 = .ok (.if_icmp .ne 18, 3) := by decide +kernel
theorem dX9_wordAt_82 : decode cX9_wordAt 82 = .ok (.aload_n 0, 1) := by decide +kernel
theorem dX9_wordAt_83 : decode cX9_wordAt 83 = .ok (.getfield 57, 3) := by decide +kernel
theorem dX9_wordAt_86 : decode cX9_wordAt 86 = .ok (.iload_n 3, 1) := by decide +kernel
theorem dX9_wordAt_87 : decode cX9_wordAt 87 = .ok (.iadd, 1) := by decide +kernel
theorem dX9_wordAt_88 : decode cX9_wordAt 88 = .ok (.aload_n 0, 1) := by decide +kernel
theorem dX9_wordAt_89 : decode cX9_wordAt 89 = .ok (.getfield 60, 3) := by decide +kernel
theorem dX9_wordAt_92 : decode cX9_wordAt 92 = .ok (.if_icmp .ne 5, 3) := by decide +kernel
theorem dX9_wordAt_95 : decode cX9_wordAt 95 = .ok (.iload_n 1, 1) := by decide +kernel
theorem dX9_wordAt_96 : decode cX9_wordAt 96 = .ok (.ireturn, 1) := by decide +kernel
theorem dX9_wordAt_97 : decode cX9_wordAt 97 = .ok (.ldc 45, 2) := by decide +kernel
theorem dX9_wordAt_99 : decode cX9_wordAt 99 = .ok (.iload_n 2, 1) := by decide +kernel
theorem dX9_wordAt_100 : decode cX9_wordAt 100 = .ok (.invokevirtual 53, 3) := by decide +kernel
theorem dX9_wordAt_103 : decode cX9_wordAt 103 = .ok (.bipush 32, 2) := by decide +kernel
theorem dX9_wordAt_105 : decode cX9_wordAt 105 = .ok (.if_icmp .eq 9, 3) := by decide +kernel
theorem dX9_wordAt_108 : decode cX9_wordAt 108 = .ok (.iinc 2 1, 3) := by decide +kernel
theorem dX9_wordAt_111 : decode cX9_wordAt 111 = .ok (.goto (-14), 3) := by decide +kernel
theorem dX9_wordAt_114 : decode cX9_wordAt 114 = .ok (.iinc 2 1, 3) := by decide +kernel
theorem dX9_wordAt_117 : decode cX9_wordAt 117 = .ok (.iinc 1 1, 3) := by decide +kernel
theorem dX9_wordAt_120 : decode cX9_wordAt 120 = .ok (.goto (-116), 3) := by decide +kernel
theorem dX9_wordAt_123 : decode cX9_wordAt 123 = .ok (.iconst 3, 1) := by decide +kernel
theorem dX9_wordAt_124 : decode cX9_wordAt 124 = .ok (.ireturn, 1) := by decide +kernel
theorem dX9_next_0 : decode cX9_next 0 = .ok (.aload_n 0, 1) := by decide +kernel
theorem dX9_next_1 : decode cX9_next 1 = .ok (.aload_n 0, 1) := by decide +kernel
theorem dX9_next_2 : decode cX9_next 2 = .ok (.getfield 60, 3) := by decide +kernel
theorem dX9_next_5 : decode cX9_next 5 = .ok (.putfield 57, 3) := by decide +kernel
theorem dX9_next_8 : decode cX9_next 8 = .ok (.aload_n 0, 1) := by decide +kernel
theorem dX9_next_9 : decode cX9_next 9 = .ok (.aload_n 0, 1) := by decide +kernel
theorem dX9_next_10 : decode cX9_next 10 = .ok (.getfield 57, 3) := by decide +kernel
theorem dX9_next_13 : decode cX9_next 13 = .ok (.invokevirtual 63, 3) := by decide +kernel
theorem dX9_next_16 : decode cX9_next 16 = .ok (.bipush 32, 2) := by decide +kernel
theorem dX9_next_18 : decode cX9_next 18 = .ok (.if_icmp .ne 16, 3) := by decide +kernel
theorem dX9_next_21 : decode cX9_next 21 = .ok (.aload_n 0, 1) := by decide +kernel
theorem dX9_next_22 : decode cX9_next 22 = .ok (.dup, 1) := by decide +kernel
theorem dX9_next_23 : decode cX9_next 23 = .ok (.getfield 57, 3) := by decide +kernel
theorem dX9_next_26 : decode cX9_next 26 = .ok (.iconst 1, 1) := by decide +kernel
theorem dX9_next_27 : decode cX9_next 27 = .ok (.iadd, 1) := by decide +kernel
theorem dX9_next_28 : decode cX9_next 28 = .ok (.putfield 57, 3) := by decide +kernel
theorem dX9_next_31 : decode cX9_next 31 = .ok (.goto (-23), 3) := by decide +kernel
theorem dX9_next_34 : decode cX9_next 34 = .ok (.aload_n 0, 1) := by decide +kernel
theorem dX9_next_35 : decode cX9_next 35 = .ok (.aload_n 0, 1) := by decide +kernel
theorem dX9_next_36 : decode cX9_next 36 = .ok (.getfield 57, 3) := by decide +kernel
theorem dX9_next_39 : decode cX9_next 39 = .ok (.putfield 60, 3) := by decide +kernel
theorem dX9_next_42 : decode cX9_next 42 = .ok (.aload_n 0, 1) := by decide +kernel
theorem dX9_next_43 : decode cX9_next 43 = .ok (.getfield 57, 3) := by decide +kernel
theorem dX9_next_46 : decode cX9_next 46 = .ok (.aload_n 0, 1) := by decide +kernel
theorem dX9_next_47 : decode cX9_next 47 = .ok (.getfield 42, 3) := by decide +kernel
theorem dX9_next_50 : decode cX9_next 50 = .ok (.if_icmp .lt 12, 3) := by decide +kernel
theorem dX9_next_53 : decode cX9_next 53 = .ok (.aload_n 0, 1) := by decide +kernel
theorem dX9_next_54 : decode cX9_next 54 = .ok (.bipush 6, 2) := by decide +kernel
theorem dX9_next_56 : decode cX9_next 56 = .ok (.putfield 67, 3) := by decide +kernel
theorem dX9_next_59 : decode cX9_next 59 = .ok (.goto 207, 3) := by decide +kernel
theorem dX9_next_62 : decode cX9_next 62 = .ok (.aload_n 0, 1) := by decide +kernel
theorem dX9_next_63 : decode cX9_next 63 = .ok (.aload_n 0, 1) := by decide +kernel
theorem dX9_next_64 : decode cX9_next 64 = .ok (.getfield 57, 3) := by decide +kernel
theorem dX9_next_67 : decode cX9_next 67 = .ok (.invokevirtual 63, 3) := by decide +kernel
theorem dX9_next_70 : decode cX9_next 70 = .ok (.i2l, 1) := by decide +kernel
theorem dX9_next_71 : decode cX9_next 71 = .ok (.ldc2_w 70, 3) := by decide +kernel
theorem dX9_next_74 : decode cX9_next 74 = .ok (.ldc2_w 72, 3) := by decide +kernel
theorem dX9_next_77 : decode cX9_next 77 = .ok (.invokestatic 74, 3) := by decide +kernel
theorem dX9_next_80 : decode cX9_next 80 = .ok (.ifCond .eq 48, 3) := by decide +kernel
theorem dX9_next_83 : decode cX9_next 83 = .ok (.aload_n 0, 1) := by decide +kernel
theorem dX9_next_84 : decode cX9_next 84 = .ok (.aload_n 0, 1) := by decide +kernel
theorem dX9_next_85 : decode cX9_next 85 = .ok (.getfield 60, 3) := by decide +kernel
theorem dX9_next_88 : decode cX9_next 88 = .ok (.invokevirtual 63, 3) := by decide +kernel
theorem dX9_next_91 : decode cX9_next 91 = .ok (.i2l, 1) := by decide +kernel
theorem dX9_next_92 : decode cX9_next 92 = .ok (.ldc2_w 70, 3) := by decide +kernel
theorem dX9_next_95 : decode cX9_next 95 = .ok (.ldc2_w 72, 3) := by decide +kernel
theorem dX9_next_98 : decode cX9_next 98 = .ok (.invokestatic 74, 3) := by decide +kernel
theorem dX9_next_101 : decode cX9_next 101 = .ok (.ifCond .eq 16, 3) := by decide +kernel
theorem dX9_next_104 : decode cX9_next 104 = .ok (.aload_n 0, 1) := by decide +kernel
theorem dX9_next_105 : decode cX9_next 105 = .ok (.dup, 1) := by decide +kernel
theorem dX9_next_106 : decode cX9_next 106 = .ok (.getfield 60, 3) := by decide +kernel
theorem dX9_next_109 : decode cX9_next 109 = .ok (.iconst 1, 1) := by decide +kernel
theorem dX9_next_110 : decode cX9_next 110 = .ok (.iadd, 1) := by decide +kernel
theorem dX9_next_111 : decode cX9_next 111 = .ok (.putfield 60, 3) := by decide +kernel
theorem dX9_next_114 : decode cX9_next 114 = .ok (.goto (-31), 3) := by decide +kernel
theorem dX9_next_117 : decode cX9_next 117 = .ok (.aload_n 0, 1) := by decide +kernel
theorem dX9_next_118 : decode cX9_next 118 = .ok (.aload_n 0, 1) := by decide +kernel
theorem dX9_next_119 : decode cX9_next 119 = .ok (.invokevirtual 78, 3) := by decide +kernel
theorem dX9_next_122 : decode cX9_next 122 = .ok (.putfield 67, 3) := by decide +kernel
theorem dX9_next_125 : decode cX9_next 125 = .ok (.goto 141, 3) := by decide +kernel
theorem dX9_next_128 : decode cX9_next 128 = .ok (.aload_n 0, 1) := by decide +kernel
theorem dX9_next_129 : decode cX9_next 129 = .ok (.aload_n 0, 1) := by decide +kernel
theorem dX9_next_130 : decode cX9_next 130 = .ok (.getfield 57, 3) := by decide +kernel
theorem dX9_next_133 : decode cX9_next 133 = .ok (.invokevirtual 63, 3) := by decide +kernel
theorem dX9_next_136 : decode cX9_next 136 = .ok (.i2l, 1) := by decide +kernel
theorem dX9_next_137 : decode cX9_next 137 = .ok (.ldc2_w 81, 3) := by decide +kernel
theorem dX9_next_140 : decode cX9_next 140 = .ok (.ldc2_w 83, 3) := by decide +kernel
theorem dX9_next_143 : decode cX9_next 143 = .ok (.invokestatic 74, 3) := by decide +kernel
theorem dX9_next_146 : decode cX9_next 146 = .ok (.ifCond .eq 87, 3) := by decide +kernel
theorem dX9_next_149 : decode cX9_next 149 = .ok (.aload_n 0, 1) := by decide +kernel
theorem dX9_next_150 : decode cX9_next 150 = .ok (.lconst 0, 1) := by decide +kernel
theorem dX9_next_151 : decode cX9_next 151 = .ok (.putfield 85, 3) := by decide +kernel
theorem dX9_next_154 : decode cX9_next 154 = .ok (.aload_n 0, 1) := by decide +kernel
theorem dX9_next_155 : decode cX9_next 155 = .ok (.aload_n 0, 1) := by decide +kernel
theorem dX9_next_156 : decode cX9_next 156 = .ok (.getfield 60, 3) := by decide +kernel
theorem dX9_next_159 : decode cX9_next 159 = .ok (.invokevirtual 63, 3) := by decide +kernel
theorem dX9_next_162 : decode cX9_next 162 = .ok (.i2l, 1) := by decide +kernel
theorem dX9_next_163 : decode cX9_next 163 = .ok (.ldc2_w 81, 3) := by decide +kernel
theorem dX9_next_166 : decode cX9_next 166 = .ok (.ldc2_w 83, 3) := by decide +kernel
theorem dX9_next_169 : decode cX9_next 169 = .ok (.invokestatic 74, 3) := by decide +kernel
theorem dX9_next_172 : decode cX9_next 172 = .ok (.ifCond .eq 53, 3) := by decide +kernel
theorem dX9_next_175 : decode cX9_next 175 = .ok (.aload_n 0, 1) := by decide +kernel
theorem dX9_next_176 : decode cX9_next 176 = .ok (.getfield 85, 3) := by decide +kernel
theorem dX9_next_179 : decode cX9_next 179 = .ok (.ldc2_w 89, 3) := by decide +kernel
theorem dX9_next_182 : decode cX9_next 182 = .ok (.lcmp, 1) := by decide +kernel
theorem dX9_next_183 : decode cX9_next 183 = .ok (.ifCond .ge 29, 3) := by decide +kernel
theorem dX9_next_186 : decode cX9_next 186 = .ok (.aload_n 0, 1) := by decide +kernel
theorem dX9_next_187 : decode cX9_next 187 = .ok (.ldc2_w 91, 3) := by decide +kernel
theorem dX9_next_190 : decode cX9_next 190 = .ok (.aload_n 0, 1) := by decide +kernel
theorem dX9_next_191 : decode cX9_next 191 = .ok (.getfield 85, 3) := by decide +kernel
theorem dX9_next_194 : decode cX9_next 194 = .ok (.lmul, 1) := by decide +kernel
theorem dX9_next_195 : decode cX9_next 195 = .ok (.aload_n 0, 1) := by decide +kernel
theorem dX9_next_196 : decode cX9_next 196 = .ok (.aload_n 0, 1) := by decide +kernel
theorem dX9_next_197 : decode cX9_next 197 = .ok (.getfield 60, 3) := by decide +kernel
theorem dX9_next_200 : decode cX9_next 200 = .ok (.invokevirtual 63, 3) := by decide +kernel
theorem dX9_next_203 : decode cX9_next 203 = .ok (.i2l, 1) := by decide +kernel
theorem dX9_next_204 : decode cX9_next 204 = .ok (.ladd, 1) := by decide +kernel
theorem dX9_next_205 : decode cX9_next 205 = .ok (.ldc2_w 81, 3) := by decide +kernel
theorem dX9_next_208 : decode cX9_next 208 = .ok (.lsub, 1) := by decide +kernel
theorem dX9_next_209 : decode cX9_next 209 = .ok (.putfield 85, 3) := by decide +kernel
theorem dX9_next_212 : decode cX9_next 212 = .ok (.aload_n 0, 1) := by decide +kernel
theorem dX9_next_213 : decode cX9_next 213 = .ok (.dup, 1) := by decide +kernel
theorem dX9_next_214 : decode cX9_next 214 = .ok (.getfield 60, 3) := by decide +kernel
theorem dX9_next_217 : decode cX9_next 217 = .ok (.iconst 1, 1) := by decide +kernel
theorem dX9_next_218 : decode cX9_next 218 = .ok (.iadd, 1) := by decide +kernel
theorem dX9_next_219 : decode cX9_next 219 = .ok (.putfield 60, 3) := by decide +kernel
theorem dX9_next_222 : decode cX9_next 222 = .ok (.goto (-68), 3) := by decide +kernel
theorem dX9_next_225 : decode cX9_next 225 = .ok (.aload_n 0, 1) := by decide +kernel
theorem dX9_next_226 : decode cX9_next 226 = .ok (.iconst 4, 1) := by decide +kernel
theorem dX9_next_227 : decode cX9_next 227 = .ok (.putfield 67, 3) := by decide +kernel
theorem dX9_next_230 : decode cX9_next 230 = .ok (.goto 36, 3) := by decide +kernel
theorem dX9_next_233 : decode cX9_next 233 = .ok (.aload_n 0, 1) := by decide +kernel
theorem dX9_next_234 : decode cX9_next 234 = .ok (.dup, 1) := by decide +kernel
theorem dX9_next_235 : decode cX9_next 235 = .ok (.getfield 60, 3) := by decide +kernel
theorem dX9_next_238 : decode cX9_next 238 = .ok (.iconst 1, 1) := by decide +kernel
theorem dX9_next_239 : decode cX9_next 239 = .ok (.iadd, 1) := by decide +kernel
theorem dX9_next_240 : decode cX9_next 240 = .ok (.putfield 60, 3) := by decide +kernel
theorem dX9_next_243 : decode cX9_next 243 = .ok (.aload_n 0, 1) := by decide +kernel
theorem dX9_next_244 : decode cX9_next 244 = .ok (.aload_n 0, 1) := by decide +kernel
theorem dX9_next_245 : decode cX9_next 245 = .ok (.aload_n 0, 1) := by decide +kernel
theorem dX9_next_246 : decode cX9_next 246 = .ok (.getfield 57, 3) := by decide +kernel
theorem dX9_next_249 : decode cX9_next 249 = .ok (.invokevirtual 63, 3) := by decide +kernel
theorem dX9_next_252 : decode cX9_next 252 = .ok (.bipush 59, 2) := by decide +kernel
theorem dX9_next_254 : decode cX9_next 254 = .ok (.if_icmp .ne 7, 3) := by decide +kernel
theorem dX9_next_257 : decode cX9_next 257 = .ok (.iconst 5, 1) := by decide +kernel
theorem dX9_next_258 : decode cX9_next 258 = .ok (.goto 5, 3) := by decide +kernel
theorem dX9_next_261 : decode cX9_next 261 = .ok (.bipush 7, 2) := by decide +kernel
theorem dX9_next_263 : decode cX9_next 263 = .ok (.putfield 67, 3) := by decide +kernel
theorem dX9_next_266 : decode cX9_next 266 = .ok (.return_, 1) := by decide +kernel
theorem dX9_fails_0 : decode cX9_fails 0 = .ok (.aload_n 0, 1) := by decide +kernel
theorem dX9_fails_1 : decode cX9_fails 1 = .ok (.getfield 93, 3) := by decide +kernel
theorem dX9_fails_4 : decode cX9_fails 4 = .ok (.ifCond .eq 4, 3) := by decide +kernel
theorem dX9_fails_7 : decode cX9_fails 7 = .ok (.return_, 1) := by decide +kernel
theorem dX9_fails_8 : decode cX9_fails 8 = .ok (.aload_n 0, 1) := by decide +kernel
theorem dX9_fails_9 : decode cX9_fails 9 = .ok (.iload_n 1, 1) := by decide +kernel
theorem dX9_fails_10 : decode cX9_fails 10 = .ok (.putfield 93, 3) := by decide +kernel
theorem dX9_fails_13 : decode cX9_fails 13 = .ok (.aload_n 0, 1) := by decide +kernel
theorem dX9_fails_14 : decode cX9_fails 14 = .ok (.aload_n 0, 1) := by decide +kernel
theorem dX9_fails_15 : decode cX9_fails 15 = .ok (.getfield 57, 3) := by decide +kernel
theorem dX9_fails_18 : decode cX9_fails 18 = .ok (.putfield 96, 3) := by decide +kernel
theorem dX9_fails_21 : decode cX9_fails 21 = .ok (.return_, 1) := by decide +kernel
theorem dX9_is_0 : decode cX9_is 0 = .ok (.aload_n 0, 1) := by decide +kernel
theorem dX9_is_1 : decode cX9_is 1 = .ok (.getfield 93, 3) := by decide +kernel
theorem dX9_is_4 : decode cX9_is 4 = .ok (.ifCond .ne 15, 3) := by decide +kernel
theorem dX9_is_7 : decode cX9_is 7 = .ok (.aload_n 0, 1) := by decide +kernel
theorem dX9_is_8 : decode cX9_is 8 = .ok (.getfield 67, 3) := by decide +kernel
theorem dX9_is_11 : decode cX9_is 11 = .ok (.iload_n 1, 1) := by decide +kernel
theorem dX9_is_12 : decode cX9_is 12 = .ok (.if_icmp .ne 7, 3) := by decide +kernel
theorem dX9_is_15 : decode cX9_is 15 = .ok (.iconst 1, 1) := by decide +kernel
theorem dX9_is_16 : decode cX9_is 16 = .ok (.goto 4, 3) := by decide +kernel
theorem dX9_is_19 : decode cX9_is 19 = .ok (.iconst 0, 1) := by decide +kernel
theorem dX9_is_20 : decode cX9_is 20 = .ok (.ireturn, 1) := by decide +kernel
theorem dX9_must_0 : decode cX9_must 0 = .ok (.aload_n 0, 1) := by decide +kernel
theorem dX9_must_1 : decode cX9_must 1 = .ok (.iload_n 1, 1) := by decide +kernel
theorem dX9_must_2 : decode cX9_must 2 = .ok (.invokevirtual 99, 3) := by decide +kernel
theorem dX9_must_5 : decode cX9_must 5 = .ok (.ifCond .ne 9, 3) := by decide +kernel
theorem dX9_must_8 : decode cX9_must 8 = .ok (.aload_n 0, 1) := by decide +kernel
theorem dX9_must_9 : decode cX9_must 9 = .ok (.bipush (-2), 2) := by decide +kernel
theorem dX9_must_11 : decode cX9_must 11 = .ok (.invokevirtual 103, 3) := by decide +kernel
theorem dX9_must_14 : decode cX9_must 14 = .ok (.aload_n 0, 1) := by decide +kernel
theorem dX9_must_15 : decode cX9_must 15 = .ok (.getfield 93, 3) := by decide +kernel
theorem dX9_must_18 : decode cX9_must 18 = .ok (.ifCond .ne 7, 3) := by decide +kernel
theorem dX9_must_21 : decode cX9_must 21 = .ok (.aload_n 0, 1) := by decide +kernel
theorem dX9_must_22 : decode cX9_must 22 = .ok (.invokevirtual 107, 3) := by decide +kernel
theorem dX9_must_25 : decode cX9_must 25 = .ok (.return_, 1) := by decide +kernel
theorem dX9_takes_0 : decode cX9_takes 0 = .ok (.aload_n 0, 1) := by decide +kernel
theorem dX9_takes_1 : decode cX9_takes 1 = .ok (.iconst 4, 1) := by decide +kernel
theorem dX9_takes_2 : decode cX9_takes 2 = .ok (.invokevirtual 99, 3) := by decide +kernel
theorem dX9_takes_5 : decode cX9_takes 5 = .ok (.ifCond .ne 12, 3) := by decide +kernel
theorem dX9_takes_8 : decode cX9_takes 8 = .ok (.aload_n 0, 1) := by decide +kernel
theorem dX9_takes_9 : decode cX9_takes 9 = .ok (.bipush (-2), 2) := by decide +kernel
theorem dX9_takes_11 : decode cX9_takes 11 = .ok (.invokevirtual 103, 3) := by decide +kernel
theorem dX9_takes_14 : decode cX9_takes 14 = .ok (.goto 23, 3) := by decide +kernel
theorem dX9_takes_17 : decode cX9_takes 17 = .ok (.aload_n 0, 1) := by decide +kernel
theorem dX9_takes_18 : decode cX9_takes 18 = .ok (.getfield 85, 3) := by decide +kernel
theorem dX9_takes_21 : decode cX9_takes 21 = .ok (.iload_n 1, 1) := by decide +kernel
theorem dX9_takes_22 : decode cX9_takes 22 = .ok (.i2l, 1) := by decide +kernel
theorem dX9_takes_23 : decode cX9_takes 23 = .ok (.iload_n 2, 1) := by decide +kernel
theorem dX9_takes_24 : decode cX9_takes 24 = .ok (.i2l, 1) := by decide +kernel
theorem dX9_takes_25 : decode cX9_takes 25 = .ok (.invokestatic 74, 3) := by decide +kernel
theorem dX9_takes_28 : decode cX9_takes 28 = .ok (.ifCond .ne 9, 3) := by decide +kernel
theorem dX9_takes_31 : decode cX9_takes 31 = .ok (.aload_n 0, 1) := by decide +kernel
theorem dX9_takes_32 : decode cX9_takes 32 = .ok (.bipush (-3), 2) := by decide +kernel
theorem dX9_takes_34 : decode cX9_takes 34 = .ok (.invokevirtual 103, 3) := by decide +kernel
theorem dX9_takes_37 : decode cX9_takes 37 = .ok (.aload_n 0, 1) := by decide +kernel
theorem dX9_takes_38 : decode cX9_takes 38 = .ok (.getfield 85, 3) := by decide +kernel
theorem dX9_takes_41 : decode cX9_takes 41 = .ok (.l2i, 1) := by decide +kernel
theorem dX9_takes_42 : decode cX9_takes 42 = .ok (.istore_n 3, 1) := by decide +kernel
theorem dX9_takes_43 : decode cX9_takes 43 = .ok (.aload_n 0, 1) := by decide +kernel
theorem dX9_takes_44 : decode cX9_takes 44 = .ok (.getfield 93, 3) := by decide +kernel
theorem dX9_takes_47 : decode cX9_takes 47 = .ok (.ifCond .ne 7, 3) := by decide +kernel
theorem dX9_takes_50 : decode cX9_takes 50 = .ok (.aload_n 0, 1) := by decide +kernel
theorem dX9_takes_51 : decode cX9_takes 51 = .ok (.invokevirtual 107, 3) := by decide +kernel
theorem dX9_takes_54 : decode cX9_takes 54 = .ok (.iload_n 3, 1) := by decide +kernel
theorem dX9_takes_55 : decode cX9_takes 55 = .ok (.ireturn, 1) := by decide +kernel
theorem dX9_readsSpecies_0 : decode cX9_readsSpecies 0 = .ok (.aload_n 0, 1) := by decide +kernel
theorem dX9_readsSpecies_1 : decode cX9_readsSpecies 1 = .ok (.getfield 13, 3) := by decide +kernel
theorem dX9_readsSpecies_4 : decode cX9_readsSpecies 4 = .ok (.bipush 8, 2) := by decide +kernel
theorem dX9_readsSpecies_6 : decode cX9_readsSpecies 6 = .ok (.iaload, 1) := by decide +kernel
theorem dX9_readsSpecies_7 : decode cX9_readsSpecies 7 = .ok (.istore_n 1, 1) := by decide +kernel
theorem dX9_readsSpecies_8 : decode cX9_readsSpecies 8 = .ok (.iload_n 1, 1) := by decide +kernel
theorem dX9_readsSpecies_9 : decode cX9_readsSpecies 9 = .ok (.bipush 6, 2) := by decide +kernel
theorem dX9_readsSpecies_11 : decode cX9_readsSpecies 11 = .ok (.if_icmp .ne 9, 3) := by decide +kernel
theorem dX9_readsSpecies_14 : decode cX9_readsSpecies 14 = .ok (.aload_n 0, 1) := by decide +kernel
theorem dX9_readsSpecies_15 : decode cX9_readsSpecies 15 = .ok (.bipush (-4), 2) := by decide +kernel
theorem dX9_readsSpecies_17 : decode cX9_readsSpecies 17 = .ok (.invokevirtual 103, 3) := by decide +kernel
theorem dX9_readsSpecies_20 : decode cX9_readsSpecies 20 = .ok (.aload_n 0, 1) := by decide +kernel
theorem dX9_readsSpecies_21 : decode cX9_readsSpecies 21 = .ok (.iconst 1, 1) := by decide +kernel
theorem dX9_readsSpecies_22 : decode cX9_readsSpecies 22 = .ok (.invokevirtual 110, 3) := by decide +kernel
theorem dX9_readsSpecies_25 : decode cX9_readsSpecies 25 = .ok (.aload_n 0, 1) := by decide +kernel
theorem dX9_readsSpecies_26 : decode cX9_readsSpecies 26 = .ok (.getfield 93, 3) := by decide +kernel
theorem dX9_readsSpecies_29 : decode cX9_readsSpecies 29 = .ok (.ifCond .eq 4, 3) := by decide +kernel
theorem dX9_readsSpecies_32 : decode cX9_readsSpecies 32 = .ok (.return_, 1) := by decide +kernel
theorem dX9_readsSpecies_33 : decode cX9_readsSpecies 33 = .ok (.aload_n 0, 1) := by decide +kernel
theorem dX9_readsSpecies_34 : decode cX9_readsSpecies 34 = .ok (.getfield 13, 3) := by decide +kernel
theorem dX9_readsSpecies_37 : decode cX9_readsSpecies 37 = .ok (.bipush 20, 2) := by decide +kernel
theorem dX9_readsSpecies_39 : decode cX9_readsSpecies 39 = .ok (.iload_n 1, 1) := by decide +kernel
theorem dX9_readsSpecies_40 : decode cX9_readsSpecies 40 = .ok (.iadd, 1) := by decide +kernel
theorem dX9_readsSpecies_41 : decode cX9_readsSpecies 41 = .ok (.aload_n 0, 1) := by decide +kernel
theorem dX9_readsSpecies_42 : decode cX9_readsSpecies 42 = .ok (.iconst 0, 1) := by decide +kernel
theorem dX9_readsSpecies_43 : decode cX9_readsSpecies 43 = .ok (.ldc 113, 2) := by decide +kernel
theorem dX9_readsSpecies_45 : decode cX9_readsSpecies 45 = .ok (.invokevirtual 114, 3) := by decide +kernel
theorem dX9_readsSpecies_48 : decode cX9_readsSpecies 48 = .ok (.iastore, 1) := by decide +kernel
theorem dX9_readsSpecies_49 : decode cX9_readsSpecies 49 = .ok (.aload_n 0, 1) := by decide +kernel
theorem dX9_readsSpecies_50 : decode cX9_readsSpecies 50 = .ok (.getfield 13, 3) := by decide +kernel
theorem dX9_readsSpecies_53 : decode cX9_readsSpecies 53 = .ok (.bipush 26, 2) := by decide +kernel
theorem dX9_readsSpecies_55 : decode cX9_readsSpecies 55 = .ok (.iload_n 1, 1) := by decide +kernel
theorem dX9_readsSpecies_56 : decode cX9_readsSpecies 56 = .ok (.iadd, 1) := by decide +kernel
theorem dX9_readsSpecies_57 : decode cX9_readsSpecies 57 = .ok (.aload_n 0, 1) := by decide +kernel
theorem dX9_readsSpecies_58 : decode cX9_readsSpecies 58 = .ok (.iconst 1, 1) := by decide +kernel
theorem dX9_readsSpecies_59 : decode cX9_readsSpecies 59 = .ok (.sipush 10000, 3) := by decide +kernel
theorem dX9_readsSpecies_62 : decode cX9_readsSpecies 62 = .ok (.invokevirtual 114, 3) := by decide +kernel
theorem dX9_readsSpecies_65 : decode cX9_readsSpecies 65 = .ok (.iastore, 1) := by decide +kernel
theorem dX9_readsSpecies_66 : decode cX9_readsSpecies 66 = .ok (.aload_n 0, 1) := by decide +kernel
theorem dX9_readsSpecies_67 : decode cX9_readsSpecies 67 = .ok (.iconst 5, 1) := by decide +kernel
theorem dX9_readsSpecies_68 : decode cX9_readsSpecies 68 = .ok (.invokevirtual 110, 3) := by decide +kernel
theorem dX9_readsSpecies_71 : decode cX9_readsSpecies 71 = .ok (.aload_n 0, 1) := by decide +kernel
theorem dX9_readsSpecies_72 : decode cX9_readsSpecies 72 = .ok (.getfield 13, 3) := by decide +kernel
theorem dX9_readsSpecies_75 : decode cX9_readsSpecies 75 = .ok (.bipush 8, 2) := by decide +kernel
theorem dX9_readsSpecies_77 : decode cX9_readsSpecies 77 = .ok (.dup2, 1) := by decide +kernel
theorem dX9_readsSpecies_78 : decode cX9_readsSpecies 78 = .ok (.iaload, 1) := by decide +kernel
theorem dX9_readsSpecies_79 : decode cX9_readsSpecies 79 = .ok (.iconst 1, 1) := by decide +kernel
theorem dX9_readsSpecies_80 : decode cX9_readsSpecies 80 = .ok (.iadd, 1) := by decide +kernel
theorem dX9_readsSpecies_81 : decode cX9_readsSpecies 81 = .ok (.iastore, 1) := by decide +kernel
theorem dX9_readsSpecies_82 : decode cX9_readsSpecies 82 = .ok (.return_, 1) := by decide +kernel
theorem dX9_readsPlot_0 : decode cX9_readsPlot 0 = .ok (.aload_n 0, 1) := by decide +kernel
theorem dX9_readsPlot_1 : decode cX9_readsPlot 1 = .ok (.getfield 13, 3) := by decide +kernel
theorem dX9_readsPlot_4 : decode cX9_readsPlot 4 = .ok (.bipush 9, 2) := by decide +kernel
theorem dX9_readsPlot_6 : decode cX9_readsPlot 6 = .ok (.iaload, 1) := by decide +kernel
theorem dX9_readsPlot_7 : decode cX9_readsPlot 7 = .ok (.istore_n 1, 1) := by decide +kernel
theorem dX9_readsPlot_8 : decode cX9_readsPlot 8 = .ok (.iload_n 1, 1) := by decide +kernel
theorem dX9_readsPlot_9 : decode cX9_readsPlot 9 = .ok (.bipush 30, 2) := by decide +kernel
theorem dX9_readsPlot_11 : decode cX9_readsPlot 11 = .ok (.if_icmp .eq 13, 3) := by decide +kernel
theorem dX9_readsPlot_14 : decode cX9_readsPlot 14 = .ok (.iload_n 1, 1) := by decide +kernel
theorem dX9_readsPlot_15 : decode cX9_readsPlot 15 = .ok (.aload_n 0, 1) := by decide +kernel
theorem dX9_readsPlot_16 : decode cX9_readsPlot 16 = .ok (.getfield 13, 3) := by decide +kernel
theorem dX9_readsPlot_19 : decode cX9_readsPlot 19 = .ok (.iconst 1, 1) := by decide +kernel
theorem dX9_readsPlot_20 : decode cX9_readsPlot 20 = .ok (.iaload, 1) := by decide +kernel
theorem dX9_readsPlot_21 : decode cX9_readsPlot 21 = .ok (.if_icmp .ne 9, 3) := by decide +kernel
theorem dX9_readsPlot_24 : decode cX9_readsPlot 24 = .ok (.aload_n 0, 1) := by decide +kernel
theorem dX9_readsPlot_25 : decode cX9_readsPlot 25 = .ok (.bipush (-4), 2) := by decide +kernel
theorem dX9_readsPlot_27 : decode cX9_readsPlot 27 = .ok (.invokevirtual 103, 3) := by decide +kernel
theorem dX9_readsPlot_30 : decode cX9_readsPlot 30 = .ok (.aload_n 0, 1) := by decide +kernel
theorem dX9_readsPlot_31 : decode cX9_readsPlot 31 = .ok (.iconst 2, 1) := by decide +kernel
theorem dX9_readsPlot_32 : decode cX9_readsPlot 32 = .ok (.invokevirtual 110, 3) := by decide +kernel
theorem dX9_readsPlot_35 : decode cX9_readsPlot 35 = .ok (.aload_n 0, 1) := by decide +kernel
theorem dX9_readsPlot_36 : decode cX9_readsPlot 36 = .ok (.getfield 93, 3) := by decide +kernel
theorem dX9_readsPlot_39 : decode cX9_readsPlot 39 = .ok (.ifCond .eq 4, 3) := by decide +kernel
theorem dX9_readsPlot_42 : decode cX9_readsPlot 42 = .ok (.return_, 1) := by decide +kernel
theorem dX9_readsPlot_43 : decode cX9_readsPlot 43 = .ok (.iconst 0, 1) := by decide +kernel
theorem dX9_readsPlot_44 : decode cX9_readsPlot 44 = .ok (.istore_n 2, 1) := by decide +kernel
theorem dX9_readsPlot_45 : decode cX9_readsPlot 45 = .ok (.iload_n 2, 1) := by decide +kernel
theorem dX9_readsPlot_46 : decode cX9_readsPlot 46 = .ok (.aload_n 0, 1) := by decide +kernel
theorem dX9_readsPlot_47 : decode cX9_readsPlot 47 = .ok (.getfield 13, 3) := by decide +kernel
theorem dX9_readsPlot_50 : decode cX9_readsPlot 50 = .ok (.bipush 8, 2) := by decide +kernel
theorem dX9_readsPlot_52 : decode cX9_readsPlot 52 = .ok (.iaload, 1) := by decide +kernel
theorem dX9_readsPlot_53 : decode cX9_readsPlot 53 = .ok (.if_icmp .ge 31, 3) := by decide +kernel
theorem dX9_readsPlot_56 : decode cX9_readsPlot 56 = .ok (.aload_n 0, 1) := by decide +kernel
theorem dX9_readsPlot_57 : decode cX9_readsPlot 57 = .ok (.getfield 13, 3) := by decide +kernel
theorem dX9_readsPlot_60 : decode cX9_readsPlot 60 = .ok (.bipush 44, 2) := by decide +kernel
theorem dX9_readsPlot_62 : decode cX9_readsPlot 62 = .ok (.bipush 6, 2) := by decide +kernel
theorem dX9_readsPlot_64 : decode cX9_readsPlot 64 = .ok (.iload_n 1, 1) := by decide +kernel
theorem dX9_readsPlot_65 : decode cX9_readsPlot 65 = .ok (.imul, 1) := by decide +kernel
theorem dX9_readsPlot_66 : decode cX9_readsPlot 66 = .ok (.iadd, 1) := by decide +kernel
theorem dX9_readsPlot_67 : decode cX9_readsPlot 67 = .ok (.iload_n 2, 1) := by decide +kernel
theorem dX9_readsPlot_68 : decode cX9_readsPlot 68 = .ok (.iadd, 1) := by decide +kernel
theorem dX9_readsPlot_69 : decode cX9_readsPlot 69 = .ok (.aload_n 0, 1) := by decide +kernel
theorem dX9_readsPlot_70 : decode cX9_readsPlot 70 = .ok (.iconst 0, 1) := by decide +kernel
theorem dX9_readsPlot_71 : decode cX9_readsPlot 71 = .ok (.sipush 500, 3) := by decide +kernel
theorem dX9_readsPlot_74 : decode cX9_readsPlot 74 = .ok (.invokevirtual 114, 3) := by decide +kernel
theorem dX9_readsPlot_77 : decode cX9_readsPlot 77 = .ok (.iastore, 1) := by decide +kernel
theorem dX9_readsPlot_78 : decode cX9_readsPlot 78 = .ok (.iinc 2 1, 3) := by decide +kernel
theorem dX9_readsPlot_81 : decode cX9_readsPlot 81 = .ok (.goto (-36), 3) := by decide +kernel
theorem dX9_readsPlot_84 : decode cX9_readsPlot 84 = .ok (.aload_n 0, 1) := by decide +kernel
theorem dX9_readsPlot_85 : decode cX9_readsPlot 85 = .ok (.iconst 5, 1) := by decide +kernel
theorem dX9_readsPlot_86 : decode cX9_readsPlot 86 = .ok (.invokevirtual 110, 3) := by decide +kernel
theorem dX9_readsPlot_89 : decode cX9_readsPlot 89 = .ok (.aload_n 0, 1) := by decide +kernel
theorem dX9_readsPlot_90 : decode cX9_readsPlot 90 = .ok (.getfield 13, 3) := by decide +kernel
theorem dX9_readsPlot_93 : decode cX9_readsPlot 93 = .ok (.bipush 9, 2) := by decide +kernel
theorem dX9_readsPlot_95 : decode cX9_readsPlot 95 = .ok (.dup2, 1) := by decide +kernel
theorem dX9_readsPlot_96 : decode cX9_readsPlot 96 = .ok (.iaload, 1) := by decide +kernel
theorem dX9_readsPlot_97 : decode cX9_readsPlot 97 = .ok (.iconst 1, 1) := by decide +kernel
theorem dX9_readsPlot_98 : decode cX9_readsPlot 98 = .ok (.iadd, 1) := by decide +kernel
theorem dX9_readsPlot_99 : decode cX9_readsPlot 99 = .ok (.iastore, 1) := by decide +kernel
theorem dX9_readsPlot_100 : decode cX9_readsPlot 100 = .ok (.return_, 1) := by decide +kernel
theorem dX9_readsAll_0 : decode cX9_readsAll 0 = .ok (.aload_n 0, 1) := by decide +kernel
theorem dX9_readsAll_1 : decode cX9_readsAll 1 = .ok (.iconst 0, 1) := by decide +kernel
theorem dX9_readsAll_2 : decode cX9_readsAll 2 = .ok (.invokevirtual 110, 3) := by decide +kernel
theorem dX9_readsAll_5 : decode cX9_readsAll 5 = .ok (.aload_n 0, 1) := by decide +kernel
theorem dX9_readsAll_6 : decode cX9_readsAll 6 = .ok (.getfield 13, 3) := by decide +kernel
theorem dX9_readsAll_9 : decode cX9_readsAll 9 = .ok (.iconst 1, 1) := by decide +kernel
theorem dX9_readsAll_10 : decode cX9_readsAll 10 = .ok (.aload_n 0, 1) := by decide +kernel
theorem dX9_readsAll_11 : decode cX9_readsAll 11 = .ok (.iconst 2, 1) := by decide +kernel
theorem dX9_readsAll_12 : decode cX9_readsAll 12 = .ok (.sipush 200, 3) := by decide +kernel
theorem dX9_readsAll_15 : decode cX9_readsAll 15 = .ok (.invokevirtual 114, 3) := by decide +kernel
theorem dX9_readsAll_18 : decode cX9_readsAll 18 = .ok (.iastore, 1) := by decide +kernel
theorem dX9_readsAll_19 : decode cX9_readsAll 19 = .ok (.aload_n 0, 1) := by decide +kernel
theorem dX9_readsAll_20 : decode cX9_readsAll 20 = .ok (.getfield 13, 3) := by decide +kernel
theorem dX9_readsAll_23 : decode cX9_readsAll 23 = .ok (.iconst 2, 1) := by decide +kernel
theorem dX9_readsAll_24 : decode cX9_readsAll 24 = .ok (.aload_n 0, 1) := by decide +kernel
theorem dX9_readsAll_25 : decode cX9_readsAll 25 = .ok (.iconst 1, 1) := by decide +kernel
theorem dX9_readsAll_26 : decode cX9_readsAll 26 = .ok (.bipush 35, 2) := by decide +kernel
theorem dX9_readsAll_28 : decode cX9_readsAll 28 = .ok (.invokevirtual 114, 3) := by decide +kernel
theorem dX9_readsAll_31 : decode cX9_readsAll 31 = .ok (.iastore, 1) := by decide +kernel
theorem dX9_readsAll_32 : decode cX9_readsAll 32 = .ok (.aload_n 0, 1) := by decide +kernel
theorem dX9_readsAll_33 : decode cX9_readsAll 33 = .ok (.getfield 13, 3) := by decide +kernel
theorem dX9_readsAll_36 : decode cX9_readsAll 36 = .ok (.iconst 3, 1) := by decide +kernel
theorem dX9_readsAll_37 : decode cX9_readsAll 37 = .ok (.aload_n 0, 1) := by decide +kernel
theorem dX9_readsAll_38 : decode cX9_readsAll 38 = .ok (.iconst 0, 1) := by decide +kernel
theorem dX9_readsAll_39 : decode cX9_readsAll 39 = .ok (.bipush 50, 2) := by decide +kernel
theorem dX9_readsAll_41 : decode cX9_readsAll 41 = .ok (.invokevirtual 114, 3) := by decide +kernel
theorem dX9_readsAll_44 : decode cX9_readsAll 44 = .ok (.iastore, 1) := by decide +kernel
theorem dX9_readsAll_45 : decode cX9_readsAll 45 = .ok (.aload_n 0, 1) := by decide +kernel
theorem dX9_readsAll_46 : decode cX9_readsAll 46 = .ok (.getfield 13, 3) := by decide +kernel
theorem dX9_readsAll_49 : decode cX9_readsAll 49 = .ok (.iconst 4, 1) := by decide +kernel
theorem dX9_readsAll_50 : decode cX9_readsAll 50 = .ok (.aload_n 0, 1) := by decide +kernel
theorem dX9_readsAll_51 : decode cX9_readsAll 51 = .ok (.iconst 0, 1) := by decide +kernel
theorem dX9_readsAll_52 : decode cX9_readsAll 52 = .ok (.bipush 100, 2) := by decide +kernel
theorem dX9_readsAll_54 : decode cX9_readsAll 54 = .ok (.invokevirtual 114, 3) := by decide +kernel
theorem dX9_readsAll_57 : decode cX9_readsAll 57 = .ok (.iastore, 1) := by decide +kernel
theorem dX9_readsAll_58 : decode cX9_readsAll 58 = .ok (.aload_n 0, 1) := by decide +kernel
theorem dX9_readsAll_59 : decode cX9_readsAll 59 = .ok (.getfield 13, 3) := by decide +kernel
theorem dX9_readsAll_62 : decode cX9_readsAll 62 = .ok (.iconst 5, 1) := by decide +kernel
theorem dX9_readsAll_63 : decode cX9_readsAll 63 = .ok (.aload_n 0, 1) := by decide +kernel
theorem dX9_readsAll_64 : decode cX9_readsAll 64 = .ok (.iconst 0, 1) := by decide +kernel
theorem dX9_readsAll_65 : decode cX9_readsAll 65 = .ok (.bipush 20, 2) := by decide +kernel
theorem dX9_readsAll_67 : decode cX9_readsAll 67 = .ok (.invokevirtual 114, 3) := by decide +kernel
theorem dX9_readsAll_70 : decode cX9_readsAll 70 = .ok (.iastore, 1) := by decide +kernel
theorem dX9_readsAll_71 : decode cX9_readsAll 71 = .ok (.aload_n 0, 1) := by decide +kernel
theorem dX9_readsAll_72 : decode cX9_readsAll 72 = .ok (.getfield 13, 3) := by decide +kernel
theorem dX9_readsAll_75 : decode cX9_readsAll 75 = .ok (.bipush 6, 2) := by decide +kernel
theorem dX9_readsAll_77 : decode cX9_readsAll 77 = .ok (.aload_n 0, 1) := by decide +kernel
theorem dX9_readsAll_78 : decode cX9_readsAll 78 = .ok (.iconst 0, 1) := by decide +kernel
theorem dX9_readsAll_79 : decode cX9_readsAll 79 = .ok (.bipush 50, 2) := by decide +kernel
theorem dX9_readsAll_81 : decode cX9_readsAll 81 = .ok (.invokevirtual 114, 3) := by decide +kernel
theorem dX9_readsAll_84 : decode cX9_readsAll 84 = .ok (.iastore, 1) := by decide +kernel
theorem dX9_readsAll_85 : decode cX9_readsAll 85 = .ok (.aload_n 0, 1) := by decide +kernel
theorem dX9_readsAll_86 : decode cX9_readsAll 86 = .ok (.getfield 13, 3) := by decide +kernel
theorem dX9_readsAll_89 : decode cX9_readsAll 89 = .ok (.bipush 7, 2) := by decide +kernel
theorem dX9_readsAll_91 : decode cX9_readsAll 91 = .ok (.aload_n 0, 1) := by decide +kernel
theorem dX9_readsAll_92 : decode cX9_readsAll 92 = .ok (.iconst 0, 1) := by decide +kernel
theorem dX9_readsAll_93 : decode cX9_readsAll 93 = .ok (.ldc 118, 2) := by decide +kernel
theorem dX9_readsAll_95 : decode cX9_readsAll 95 = .ok (.invokevirtual 114, 3) := by decide +kernel
theorem dX9_readsAll_98 : decode cX9_readsAll 98 = .ok (.iastore, 1) := by decide +kernel
theorem dX9_readsAll_99 : decode cX9_readsAll 99 = .ok (.aload_n 0, 1) := by decide +kernel
theorem dX9_readsAll_100 : decode cX9_readsAll 100 = .ok (.iconst 5, 1) := by decide +kernel
theorem dX9_readsAll_101 : decode cX9_readsAll 101 = .ok (.invokevirtual 110, 3) := by decide +kernel
theorem dX9_readsAll_104 : decode cX9_readsAll 104 = .ok (.aload_n 0, 1) := by decide +kernel
theorem dX9_readsAll_105 : decode cX9_readsAll 105 = .ok (.iconst 1, 1) := by decide +kernel
theorem dX9_readsAll_106 : decode cX9_readsAll 106 = .ok (.invokevirtual 99, 3) := by decide +kernel
theorem dX9_readsAll_109 : decode cX9_readsAll 109 = .ok (.ifCond .eq 10, 3) := by decide +kernel
theorem dX9_readsAll_112 : decode cX9_readsAll 112 = .ok (.aload_n 0, 1) := by decide +kernel
theorem dX9_readsAll_113 : decode cX9_readsAll 113 = .ok (.invokevirtual 119, 3) := by decide +kernel
theorem dX9_readsAll_116 : decode cX9_readsAll 116 = .ok (.goto (-12), 3) := by decide +kernel
theorem dX9_readsAll_119 : decode cX9_readsAll 119 = .ok (.aload_n 0, 1) := by decide +kernel
theorem dX9_readsAll_120 : decode cX9_readsAll 120 = .ok (.iconst 2, 1) := by decide +kernel
theorem dX9_readsAll_121 : decode cX9_readsAll 121 = .ok (.invokevirtual 99, 3) := by decide +kernel
theorem dX9_readsAll_124 : decode cX9_readsAll 124 = .ok (.ifCond .eq 10, 3) := by decide +kernel
theorem dX9_readsAll_127 : decode cX9_readsAll 127 = .ok (.aload_n 0, 1) := by decide +kernel
theorem dX9_readsAll_128 : decode cX9_readsAll 128 = .ok (.invokevirtual 122, 3) := by decide +kernel
theorem dX9_readsAll_131 : decode cX9_readsAll 131 = .ok (.goto (-12), 3) := by decide +kernel
theorem dX9_readsAll_134 : decode cX9_readsAll 134 = .ok (.aload_n 0, 1) := by decide +kernel
theorem dX9_readsAll_135 : decode cX9_readsAll 135 = .ok (.getfield 93, 3) := by decide +kernel
theorem dX9_readsAll_138 : decode cX9_readsAll 138 = .ok (.ifCond .ne 18, 3) := by decide +kernel
theorem dX9_readsAll_141 : decode cX9_readsAll 141 = .ok (.aload_n 0, 1) := by decide +kernel
theorem dX9_readsAll_142 : decode cX9_readsAll 142 = .ok (.getfield 67, 3) := by decide +kernel
theorem dX9_readsAll_145 : decode cX9_readsAll 145 = .ok (.bipush 6, 2) := by decide +kernel
theorem dX9_readsAll_147 : decode cX9_readsAll 147 = .ok (.if_icmp .eq 9, 3) := by decide +kernel
theorem dX9_readsAll_150 : decode cX9_readsAll 150 = .ok (.aload_n 0, 1) := by decide +kernel
theorem dX9_readsAll_151 : decode cX9_readsAll 151 = .ok (.bipush (-2), 2) := by decide +kernel
theorem dX9_readsAll_153 : decode cX9_readsAll 153 = .ok (.invokevirtual 103, 3) := by decide +kernel
theorem dX9_readsAll_156 : decode cX9_readsAll 156 = .ok (.return_, 1) := by decide +kernel
theorem dX9_load_0 : decode cX9_load 0 = .ok (.aload_n 0, 1) := by decide +kernel
theorem dX9_load_1 : decode cX9_load 1 = .ok (.iload_n 1, 1) := by decide +kernel
theorem dX9_load_2 : decode cX9_load 2 = .ok (.i2l, 1) := by decide +kernel
theorem dX9_load_3 : decode cX9_load 3 = .ok (.lconst 0, 1) := by decide +kernel
theorem dX9_load_4 : decode cX9_load 4 = .ok (.aload_n 0, 1) := by decide +kernel
theorem dX9_load_5 : decode cX9_load 5 = .ok (.getfield 39, 3) := by decide +kernel
theorem dX9_load_8 : decode cX9_load 8 = .ok (.i2l, 1) := by decide +kernel
theorem dX9_load_9 : decode cX9_load 9 = .ok (.invokestatic 74, 3) := by decide +kernel
theorem dX9_load_12 : decode cX9_load 12 = .ok (.ifCond .eq 7, 3) := by decide +kernel
theorem dX9_load_15 : decode cX9_load 15 = .ok (.iconst 0, 1) := by decide +kernel
theorem dX9_load_16 : decode cX9_load 16 = .ok (.goto 4, 3) := by decide +kernel
theorem dX9_load_19 : decode cX9_load 19 = .ok (.iconst 1, 1) := by decide +kernel
theorem dX9_load_20 : decode cX9_load 20 = .ok (.putfield 33, 3) := by decide +kernel
theorem dX9_load_23 : decode cX9_load 23 = .ok (.aload_n 0, 1) := by decide +kernel
theorem dX9_load_24 : decode cX9_load 24 = .ok (.getfield 33, 3) := by decide +kernel
theorem dX9_load_27 : decode cX9_load 27 = .ok (.ifCond .le 5, 3) := by decide +kernel
theorem dX9_load_30 : decode cX9_load 30 = .ok (.iconst 0, 1) := by decide +kernel
theorem dX9_load_31 : decode cX9_load 31 = .ok (.ireturn, 1) := by decide +kernel
theorem dX9_load_32 : decode cX9_load 32 = .ok (.aload_n 0, 1) := by decide +kernel
theorem dX9_load_33 : decode cX9_load 33 = .ok (.iload_n 1, 1) := by decide +kernel
theorem dX9_load_34 : decode cX9_load 34 = .ok (.putfield 42, 3) := by decide +kernel
theorem dX9_load_37 : decode cX9_load 37 = .ok (.aload_n 0, 1) := by decide +kernel
theorem dX9_load_38 : decode cX9_load 38 = .ok (.iconst 0, 1) := by decide +kernel
theorem dX9_load_39 : decode cX9_load 39 = .ok (.putfield 39, 3) := by decide +kernel
theorem dX9_load_42 : decode cX9_load 42 = .ok (.aload_n 0, 1) := by decide +kernel
theorem dX9_load_43 : decode cX9_load 43 = .ok (.iconst 0, 1) := by decide +kernel
theorem dX9_load_44 : decode cX9_load 44 = .ok (.putfield 60, 3) := by decide +kernel
theorem dX9_load_47 : decode cX9_load 47 = .ok (.aload_n 0, 1) := by decide +kernel
theorem dX9_load_48 : decode cX9_load 48 = .ok (.iconst 0, 1) := by decide +kernel
theorem dX9_load_49 : decode cX9_load 49 = .ok (.putfield 93, 3) := by decide +kernel
theorem dX9_load_52 : decode cX9_load 52 = .ok (.iconst 0, 1) := by decide +kernel
theorem dX9_load_53 : decode cX9_load 53 = .ok (.istore_n 2, 1) := by decide +kernel
theorem dX9_load_54 : decode cX9_load 54 = .ok (.iload_n 2, 1) := by decide +kernel
theorem dX9_load_55 : decode cX9_load 55 = .ok (.sipush 606, 3) := by decide +kernel
theorem dX9_load_58 : decode cX9_load 58 = .ok (.if_icmp .ge 16, 3) := by decide +kernel
theorem dX9_load_61 : decode cX9_load 61 = .ok (.aload_n 0, 1) := by decide +kernel
theorem dX9_load_62 : decode cX9_load 62 = .ok (.getfield 13, 3) := by decide +kernel
theorem dX9_load_65 : decode cX9_load 65 = .ok (.iload_n 2, 1) := by decide +kernel
theorem dX9_load_66 : decode cX9_load 66 = .ok (.iconst 0, 1) := by decide +kernel
theorem dX9_load_67 : decode cX9_load 67 = .ok (.iastore, 1) := by decide +kernel
theorem dX9_load_68 : decode cX9_load 68 = .ok (.iinc 2 1, 3) := by decide +kernel
theorem dX9_load_71 : decode cX9_load 71 = .ok (.goto (-17), 3) := by decide +kernel
theorem dX9_load_74 : decode cX9_load 74 = .ok (.aload_n 0, 1) := by decide +kernel
theorem dX9_load_75 : decode cX9_load 75 = .ok (.invokevirtual 107, 3) := by decide +kernel
theorem dX9_load_78 : decode cX9_load 78 = .ok (.aload_n 0, 1) := by decide +kernel
theorem dX9_load_79 : decode cX9_load 79 = .ok (.invokevirtual 125, 3) := by decide +kernel
theorem dX9_load_82 : decode cX9_load 82 = .ok (.aload_n 0, 1) := by decide +kernel
theorem dX9_load_83 : decode cX9_load 83 = .ok (.aload_n 0, 1) := by decide +kernel
theorem dX9_load_84 : decode cX9_load 84 = .ok (.getfield 93, 3) := by decide +kernel
theorem dX9_load_87 : decode cX9_load 87 = .ok (.ifCond .ne 7, 3) := by decide +kernel
theorem dX9_load_90 : decode cX9_load 90 = .ok (.iconst (-1), 1) := by decide +kernel
theorem dX9_load_91 : decode cX9_load 91 = .ok (.goto 7, 3) := by decide +kernel
theorem dX9_load_94 : decode cX9_load 94 = .ok (.aload_n 0, 1) := by decide +kernel
theorem dX9_load_95 : decode cX9_load 95 = .ok (.getfield 96, 3) := by decide +kernel
theorem dX9_load_98 : decode cX9_load 98 = .ok (.putfield 29, 3) := by decide +kernel
theorem dX9_load_101 : decode cX9_load 101 = .ok (.aload_n 0, 1) := by decide +kernel
theorem dX9_load_102 : decode cX9_load 102 = .ok (.getfield 93, 3) := by decide +kernel
theorem dX9_load_105 : decode cX9_load 105 = .ok (.ifCond .eq 8, 3) := by decide +kernel
theorem dX9_load_108 : decode cX9_load 108 = .ok (.aload_n 0, 1) := by decide +kernel
theorem dX9_load_109 : decode cX9_load 109 = .ok (.getfield 93, 3) := by decide +kernel
theorem dX9_load_112 : decode cX9_load 112 = .ok (.ireturn, 1) := by decide +kernel
theorem dX9_load_113 : decode cX9_load 113 = .ok (.aload_n 0, 1) := by decide +kernel
theorem dX9_load_114 : decode cX9_load 114 = .ok (.invokevirtual 128, 3) := by decide +kernel
theorem dX9_load_117 : decode cX9_load 117 = .ok (.iconst 0, 1) := by decide +kernel
theorem dX9_load_118 : decode cX9_load 118 = .ok (.istore_n 2, 1) := by decide +kernel
theorem dX9_load_119 : decode cX9_load 119 = .ok (.iload_n 2, 1) := by decide +kernel
theorem dX9_load_120 : decode cX9_load 120 = .ok (.sipush 606, 3) := by decide +kernel
theorem dX9_load_123 : decode cX9_load 123 = .ok (.if_icmp .ge 21, 3) := by decide +kernel
theorem dX9_load_126 : decode cX9_load 126 = .ok (.aload_n 0, 1) := by decide +kernel
theorem dX9_load_127 : decode cX9_load 127 = .ok (.getfield 7, 3) := by decide +kernel
theorem dX9_load_130 : decode cX9_load 130 = .ok (.iload_n 2, 1) := by decide +kernel
theorem dX9_load_131 : decode cX9_load 131 = .ok (.aload_n 0, 1) := by decide +kernel
theorem dX9_load_132 : decode cX9_load 132 = .ok (.getfield 13, 3) := by decide +kernel
theorem dX9_load_135 : decode cX9_load 135 = .ok (.iload_n 2, 1) := by decide +kernel
theorem dX9_load_136 : decode cX9_load 136 = .ok (.iaload, 1) := by decide +kernel
theorem dX9_load_137 : decode cX9_load 137 = .ok (.iastore, 1) := by decide +kernel
theorem dX9_load_138 : decode cX9_load 138 = .ok (.iinc 2 1, 3) := by decide +kernel
theorem dX9_load_141 : decode cX9_load 141 = .ok (.goto (-22), 3) := by decide +kernel
theorem dX9_load_144 : decode cX9_load 144 = .ok (.iconst 0, 1) := by decide +kernel
theorem dX9_load_145 : decode cX9_load 145 = .ok (.istore_n 2, 1) := by decide +kernel
theorem dX9_load_146 : decode cX9_load 146 = .ok (.iload_n 2, 1) := by decide +kernel
theorem dX9_load_147 : decode cX9_load 147 = .ok (.bipush 37, 2) := by decide +kernel
theorem dX9_load_149 : decode cX9_load 149 = .ok (.if_icmp .ge 16, 3) := by decide +kernel
theorem dX9_load_152 : decode cX9_load 152 = .ok (.aload_n 0, 1) := by decide +kernel
theorem dX9_load_153 : decode cX9_load 153 = .ok (.getfield 19, 3) := by decide +kernel
theorem dX9_load_156 : decode cX9_load 156 = .ok (.iload_n 2, 1) := by decide +kernel
theorem dX9_load_157 : decode cX9_load 157 = .ok (.lconst 0, 1) := by decide +kernel
theorem dX9_load_158 : decode cX9_load 158 = .ok (.lastore, 1) := by decide +kernel
theorem dX9_load_159 : decode cX9_load 159 = .ok (.iinc 2 1, 3) := by decide +kernel
theorem dX9_load_162 : decode cX9_load 162 = .ok (.goto (-16), 3) := by decide +kernel
theorem dX9_load_165 : decode cX9_load 165 = .ok (.aload_n 0, 1) := by decide +kernel
theorem dX9_load_166 : decode cX9_load 166 = .ok (.getfield 7, 3) := by decide +kernel
theorem dX9_load_169 : decode cX9_load 169 = .ok (.bipush 9, 2) := by decide +kernel
theorem dX9_load_171 : decode cX9_load 171 = .ok (.iaload, 1) := by decide +kernel
theorem dX9_load_172 : decode cX9_load 172 = .ok (.ireturn, 1) := by decide +kernel
theorem dX9_errorPosition_0 : decode cX9_errorPosition 0 = .ok (.aload_n 0, 1) := by decide +kernel
theorem dX9_errorPosition_1 : decode cX9_errorPosition 1 = .ok (.iconst 0, 1) := by decide +kernel
theorem dX9_errorPosition_2 : decode cX9_errorPosition 2 = .ok (.putfield 33, 3) := by decide +kernel
theorem dX9_errorPosition_5 : decode cX9_errorPosition 5 = .ok (.aload_n 0, 1) := by decide +kernel
theorem dX9_errorPosition_6 : decode cX9_errorPosition 6 = .ok (.getfield 29, 3) := by decide +kernel
theorem dX9_errorPosition_9 : decode cX9_errorPosition 9 = .ok (.ireturn, 1) := by decide +kernel
theorem dX9_phase_0 : decode cX9_phase 0 = .ok (.aload_n 0, 1) := by decide +kernel
theorem dX9_phase_1 : decode cX9_phase 1 = .ok (.iconst 0, 1) := by decide +kernel
theorem dX9_phase_2 : decode cX9_phase 2 = .ok (.putfield 33, 3) := by decide +kernel
theorem dX9_phase_5 : decode cX9_phase 5 = .ok (.aload_n 0, 1) := by decide +kernel
theorem dX9_phase_6 : decode cX9_phase 6 = .ok (.getfield 7, 3) := by decide +kernel
theorem dX9_phase_9 : decode cX9_phase 9 = .ok (.iconst 0, 1) := by decide +kernel
theorem dX9_phase_10 : decode cX9_phase 10 = .ok (.iaload, 1) := by decide +kernel
theorem dX9_phase_11 : decode cX9_phase 11 = .ok (.ireturn, 1) := by decide +kernel
theorem dX9_plotCount_0 : decode cX9_plotCount 0 = .ok (.aload_n 0, 1) := by decide +kernel
theorem dX9_plotCount_1 : decode cX9_plotCount 1 = .ok (.iconst 0, 1) := by decide +kernel
theorem dX9_plotCount_2 : decode cX9_plotCount 2 = .ok (.putfield 33, 3) := by decide +kernel
theorem dX9_plotCount_5 : decode cX9_plotCount 5 = .ok (.aload_n 0, 1) := by decide +kernel
theorem dX9_plotCount_6 : decode cX9_plotCount 6 = .ok (.getfield 7, 3) := by decide +kernel
theorem dX9_plotCount_9 : decode cX9_plotCount 9 = .ok (.bipush 9, 2) := by decide +kernel
theorem dX9_plotCount_11 : decode cX9_plotCount 11 = .ok (.iaload, 1) := by decide +kernel
theorem dX9_plotCount_12 : decode cX9_plotCount 12 = .ok (.ireturn, 1) := by decide +kernel
theorem dX9_isVolume_0 : decode cX9_isVolume 0 = .ok (.iload_n 0, 1) := by decide +kernel
theorem dX9_isVolume_1 : decode cX9_isVolume 1 = .ok (.i2l, 1) := by decide +kernel
theorem dX9_isVolume_2 : decode cX9_isVolume 2 = .ok (.lconst 0, 1) := by decide +kernel
theorem dX9_isVolume_3 : decode cX9_isVolume 3 = .ok (.iload_n 1, 1) := by decide +kernel
theorem dX9_isVolume_4 : decode cX9_isVolume 4 = .ok (.ifCond .eq 9, 3) := by decide +kernel
theorem dX9_isVolume_7 : decode cX9_isVolume 7 = .ok (.ldc2_w 131, 3) := by decide +kernel
theorem dX9_isVolume_10 : decode cX9_isVolume 10 = .ok (.goto 4, 3) := by decide +kernel
theorem dX9_isVolume_13 : decode cX9_isVolume 13 = .ok (.lconst 0, 1) := by decide +kernel
theorem dX9_isVolume_14 : decode cX9_isVolume 14 = .ok (.invokestatic 74, 3) := by decide +kernel
theorem dX9_isVolume_17 : decode cX9_isVolume 17 = .ok (.ireturn, 1) := by decide +kernel
theorem dX9_addPlot_0 : decode cX9_addPlot 0 = .ok (.aload_n 0, 1) := by decide +kernel
theorem dX9_addPlot_1 : decode cX9_addPlot 1 = .ok (.getfield 7, 3) := by decide +kernel
theorem dX9_addPlot_4 : decode cX9_addPlot 4 = .ok (.bipush 8, 2) := by decide +kernel
theorem dX9_addPlot_6 : decode cX9_addPlot 6 = .ok (.iaload, 1) := by decide +kernel
theorem dX9_addPlot_7 : decode cX9_addPlot 7 = .ok (.istore 7, 2) := by decide +kernel
theorem dX9_addPlot_9 : decode cX9_addPlot 9 = .ok (.iload_n 1, 1) := by decide +kernel
theorem dX9_addPlot_10 : decode cX9_addPlot 10 = .ok (.iload 7, 2) := by decide +kernel
theorem dX9_addPlot_12 : decode cX9_addPlot 12 = .ok (.ifCond .le 7, 3) := by decide +kernel
theorem dX9_addPlot_15 : decode cX9_addPlot 15 = .ok (.iconst 1, 1) := by decide +kernel
theorem dX9_addPlot_16 : decode cX9_addPlot 16 = .ok (.goto 4, 3) := by decide +kernel
theorem dX9_addPlot_19 : decode cX9_addPlot 19 = .ok (.iconst 0, 1) := by decide +kernel
theorem dX9_addPlot_20 : decode cX9_addPlot 20 = .ok (.invokestatic 133, 3) := by decide +kernel
theorem dX9_addPlot_23 : decode cX9_addPlot 23 = .ok (.ifCond .eq 100, 3) := by decide +kernel
theorem dX9_addPlot_26 : decode cX9_addPlot 26 = .ok (.iload_n 2, 1) := by decide +kernel
theorem dX9_addPlot_27 : decode cX9_addPlot 27 = .ok (.iload 7, 2) := by decide +kernel
theorem dX9_addPlot_29 : decode cX9_addPlot 29 = .ok (.iconst 1, 1) := by decide +kernel
theorem dX9_addPlot_30 : decode cX9_addPlot 30 = .ok (.if_icmp .le 7, 3) := by decide +kernel
theorem dX9_addPlot_33 : decode cX9_addPlot 33 = .ok (.iconst 1, 1) := by decide +kernel
theorem dX9_addPlot_34 : decode cX9_addPlot 34 = .ok (.goto 4, 3) := by decide +kernel
theorem dX9_addPlot_37 : decode cX9_addPlot 37 = .ok (.iconst 0, 1) := by decide +kernel
theorem dX9_addPlot_38 : decode cX9_addPlot 38 = .ok (.invokestatic 133, 3) := by decide +kernel
theorem dX9_addPlot_41 : decode cX9_addPlot 41 = .ok (.ifCond .eq 82, 3) := by decide +kernel
theorem dX9_addPlot_44 : decode cX9_addPlot 44 = .ok (.iload_n 3, 1) := by decide +kernel
theorem dX9_addPlot_45 : decode cX9_addPlot 45 = .ok (.iload 7, 2) := by decide +kernel
theorem dX9_addPlot_47 : decode cX9_addPlot 47 = .ok (.iconst 2, 1) := by decide +kernel
theorem dX9_addPlot_48 : decode cX9_addPlot 48 = .ok (.if_icmp .le 7, 3) := by decide +kernel
theorem dX9_addPlot_51 : decode cX9_addPlot 51 = .ok (.iconst 1, 1) := by decide +kernel
theorem dX9_addPlot_52 : decode cX9_addPlot 52 = .ok (.goto 4, 3) := by decide +kernel
theorem dX9_addPlot_55 : decode cX9_addPlot 55 = .ok (.iconst 0, 1) := by decide +kernel
theorem dX9_addPlot_56 : decode cX9_addPlot 56 = .ok (.invokestatic 133, 3) := by decide +kernel
theorem dX9_addPlot_59 : decode cX9_addPlot 59 = .ok (.ifCond .eq 64, 3) := by decide +kernel
theorem dX9_addPlot_62 : decode cX9_addPlot 62 = .ok (.iload 4, 2) := by decide +kernel
theorem dX9_addPlot_64 : decode cX9_addPlot 64 = .ok (.iload 7, 2) := by decide +kernel
theorem dX9_addPlot_66 : decode cX9_addPlot 66 = .ok (.iconst 3, 1) := by decide +kernel
theorem dX9_addPlot_67 : decode cX9_addPlot 67 = .ok (.if_icmp .le 7, 3) := by decide +kernel
theorem dX9_addPlot_70 : decode cX9_addPlot 70 = .ok (.iconst 1, 1) := by decide +kernel
theorem dX9_addPlot_71 : decode cX9_addPlot 71 = .ok (.goto 4, 3) := by decide +kernel
theorem dX9_addPlot_74 : decode cX9_addPlot 74 = .ok (.iconst 0, 1) := by decide +kernel
theorem dX9_addPlot_75 : decode cX9_addPlot 75 = .ok (.invokestatic 133, 3) := by decide +kernel
theorem dX9_addPlot_78 : decode cX9_addPlot 78 = .ok (.ifCond .eq 45, 3) := by decide +kernel
theorem dX9_addPlot_81 : decode cX9_addPlot 81 = .ok (.iload 5, 2) := by decide +kernel
theorem dX9_addPlot_83 : decode cX9_addPlot 83 = .ok (.iload 7, 2) := by decide +kernel
theorem dX9_addPlot_85 : decode cX9_addPlot 85 = .ok (.iconst 4, 1) := by decide +kernel
theorem dX9_addPlot_86 : decode cX9_addPlot 86 = .ok (.if_icmp .le 7, 3) := by decide +kernel
theorem dX9_addPlot_89 : decode cX9_addPlot 89 = .ok (.iconst 1, 1) := by decide +kernel
theorem dX9_addPlot_90 : decode cX9_addPlot 90 = .ok (.goto 4, 3) := by decide +kernel
theorem dX9_addPlot_93 : decode cX9_addPlot 93 = .ok (.iconst 0, 1) := by decide +kernel
theorem dX9_addPlot_94 : decode cX9_addPlot 94 = .ok (.invokestatic 133, 3) := by decide +kernel
theorem dX9_addPlot_97 : decode cX9_addPlot 97 = .ok (.ifCond .eq 26, 3) := by decide +kernel
theorem dX9_addPlot_100 : decode cX9_addPlot 100 = .ok (.iload 6, 2) := by decide +kernel
theorem dX9_addPlot_102 : decode cX9_addPlot 102 = .ok (.iload 7, 2) := by decide +kernel
theorem dX9_addPlot_104 : decode cX9_addPlot 104 = .ok (.iconst 5, 1) := by decide +kernel
theorem dX9_addPlot_105 : decode cX9_addPlot 105 = .ok (.if_icmp .le 7, 3) := by decide +kernel
theorem dX9_addPlot_108 : decode cX9_addPlot 108 = .ok (.iconst 1, 1) := by decide +kernel
theorem dX9_addPlot_109 : decode cX9_addPlot 109 = .ok (.goto 4, 3) := by decide +kernel
theorem dX9_addPlot_112 : decode cX9_addPlot 112 = .ok (.iconst 0, 1) := by decide +kernel
theorem dX9_addPlot_113 : decode cX9_addPlot 113 = .ok (.invokestatic 133, 3) := by decide +kernel
theorem dX9_addPlot_116 : decode cX9_addPlot 116 = .ok (.ifCond .eq 7, 3) := by decide +kernel
theorem dX9_addPlot_119 : decode cX9_addPlot 119 = .ok (.iconst 1, 1) := by decide +kernel
theorem dX9_addPlot_120 : decode cX9_addPlot 120 = .ok (.goto 4, 3) := by decide +kernel
theorem dX9_addPlot_123 : decode cX9_addPlot 123 = .ok (.iconst 0, 1) := by decide +kernel
theorem dX9_addPlot_124 : decode cX9_addPlot 124 = .ok (.istore 8, 2) := by decide +kernel
theorem dX9_addPlot_126 : decode cX9_addPlot 126 = .ok (.aload_n 0, 1) := by decide +kernel
theorem dX9_addPlot_127 : decode cX9_addPlot 127 = .ok (.iload 8, 2) := by decide +kernel
theorem dX9_addPlot_129 : decode cX9_addPlot 129 = .ok (.ifCond .ne 7, 3) := by decide +kernel
theorem dX9_addPlot_132 : decode cX9_addPlot 132 = .ok (.iconst 1, 1) := by decide +kernel
theorem dX9_addPlot_133 : decode cX9_addPlot 133 = .ok (.goto 45, 3) := by decide +kernel
theorem dX9_addPlot_136 : decode cX9_addPlot 136 = .ok (.aload_n 0, 1) := by decide +kernel
theorem dX9_addPlot_137 : decode cX9_addPlot 137 = .ok (.getfield 7, 3) := by decide +kernel
theorem dX9_addPlot_140 : decode cX9_addPlot 140 = .ok (.iconst 0, 1) := by decide +kernel
theorem dX9_addPlot_141 : decode cX9_addPlot 141 = .ok (.iaload, 1) := by decide +kernel
theorem dX9_addPlot_142 : decode cX9_addPlot 142 = .ok (.ifCond .ne 31, 3) := by decide +kernel
theorem dX9_addPlot_145 : decode cX9_addPlot 145 = .ok (.aload_n 0, 1) := by decide +kernel
theorem dX9_addPlot_146 : decode cX9_addPlot 146 = .ok (.getfield 7, 3) := by decide +kernel
theorem dX9_addPlot_149 : decode cX9_addPlot 149 = .ok (.bipush 9, 2) := by decide +kernel
theorem dX9_addPlot_151 : decode cX9_addPlot 151 = .ok (.iaload, 1) := by decide +kernel
theorem dX9_addPlot_152 : decode cX9_addPlot 152 = .ok (.bipush 30, 2) := by decide +kernel
theorem dX9_addPlot_154 : decode cX9_addPlot 154 = .ok (.if_icmp .eq 19, 3) := by decide +kernel
theorem dX9_addPlot_157 : decode cX9_addPlot 157 = .ok (.aload_n 0, 1) := by decide +kernel
theorem dX9_addPlot_158 : decode cX9_addPlot 158 = .ok (.getfield 7, 3) := by decide +kernel
theorem dX9_addPlot_161 : decode cX9_addPlot 161 = .ok (.bipush 9, 2) := by decide +kernel
theorem dX9_addPlot_163 : decode cX9_addPlot 163 = .ok (.iaload, 1) := by decide +kernel
theorem dX9_addPlot_164 : decode cX9_addPlot 164 = .ok (.aload_n 0, 1) := by decide +kernel
theorem dX9_addPlot_165 : decode cX9_addPlot 165 = .ok (.getfield 7, 3) := by decide +kernel
theorem dX9_addPlot_168 : decode cX9_addPlot 168 = .ok (.iconst 1, 1) := by decide +kernel
theorem dX9_addPlot_169 : decode cX9_addPlot 169 = .ok (.iaload, 1) := by decide +kernel
theorem dX9_addPlot_170 : decode cX9_addPlot 170 = .ok (.if_icmp .ne 7, 3) := by decide +kernel
theorem dX9_addPlot_173 : decode cX9_addPlot 173 = .ok (.iconst 2, 1) := by decide +kernel
theorem dX9_addPlot_174 : decode cX9_addPlot 174 = .ok (.goto 4, 3) := by decide +kernel
theorem dX9_addPlot_177 : decode cX9_addPlot 177 = .ok (.iconst 0, 1) := by decide +kernel
theorem dX9_addPlot_178 : decode cX9_addPlot 178 = .ok (.putfield 33, 3) := by decide +kernel
theorem dX9_addPlot_181 : decode cX9_addPlot 181 = .ok (.aload_n 0, 1) := by decide +kernel
theorem dX9_addPlot_182 : decode cX9_addPlot 182 = .ok (.getfield 33, 3) := by decide +kernel
theorem dX9_addPlot_185 : decode cX9_addPlot 185 = .ok (.ifCond .le 5, 3) := by decide +kernel
theorem dX9_addPlot_188 : decode cX9_addPlot 188 = .ok (.iconst 0, 1) := by decide +kernel
theorem dX9_addPlot_189 : decode cX9_addPlot 189 = .ok (.ireturn, 1) := by decide +kernel
theorem dX9_addPlot_190 : decode cX9_addPlot 190 = .ok (.aload_n 0, 1) := by decide +kernel
theorem dX9_addPlot_191 : decode cX9_addPlot 191 = .ok (.invokevirtual 128, 3) := by decide +kernel
theorem dX9_addPlot_194 : decode cX9_addPlot 194 = .ok (.bipush 44, 2) := by decide +kernel
theorem dX9_addPlot_196 : decode cX9_addPlot 196 = .ok (.bipush 6, 2) := by decide +kernel
theorem dX9_addPlot_198 : decode cX9_addPlot 198 = .ok (.aload_n 0, 1) := by decide +kernel
theorem dX9_addPlot_199 : decode cX9_addPlot 199 = .ok (.getfield 7, 3) := by decide +kernel
theorem dX9_addPlot_202 : decode cX9_addPlot 202 = .ok (.bipush 9, 2) := by decide +kernel
theorem dX9_addPlot_204 : decode cX9_addPlot 204 = .ok (.iaload, 1) := by decide +kernel
theorem dX9_addPlot_205 : decode cX9_addPlot 205 = .ok (.imul, 1) := by decide +kernel
theorem dX9_addPlot_206 : decode cX9_addPlot 206 = .ok (.iadd, 1) := by decide +kernel
theorem dX9_addPlot_207 : decode cX9_addPlot 207 = .ok (.istore 9, 2) := by decide +kernel
theorem dX9_addPlot_209 : decode cX9_addPlot 209 = .ok (.aload_n 0, 1) := by decide +kernel
theorem dX9_addPlot_210 : decode cX9_addPlot 210 = .ok (.getfield 7, 3) := by decide +kernel
theorem dX9_addPlot_213 : decode cX9_addPlot 213 = .ok (.iload 9, 2) := by decide +kernel
theorem dX9_addPlot_215 : decode cX9_addPlot 215 = .ok (.iload_n 1, 1) := by decide +kernel
theorem dX9_addPlot_216 : decode cX9_addPlot 216 = .ok (.iastore, 1) := by decide +kernel
theorem dX9_addPlot_217 : decode cX9_addPlot 217 = .ok (.aload_n 0, 1) := by decide +kernel
theorem dX9_addPlot_218 : decode cX9_addPlot 218 = .ok (.getfield 7, 3) := by decide +kernel
theorem dX9_addPlot_221 : decode cX9_addPlot 221 = .ok (.iload 9, 2) := by decide +kernel
theorem dX9_addPlot_223 : decode cX9_addPlot 223 = .ok (.iconst 1, 1) := by decide +kernel
theorem dX9_addPlot_224 : decode cX9_addPlot 224 = .ok (.iadd, 1) := by decide +kernel
theorem dX9_addPlot_225 : decode cX9_addPlot 225 = .ok (.iload_n 2, 1) := by decide +kernel
theorem dX9_addPlot_226 : decode cX9_addPlot 226 = .ok (.iastore, 1) := by decide +kernel
theorem dX9_addPlot_227 : decode cX9_addPlot 227 = .ok (.aload_n 0, 1) := by decide +kernel
theorem dX9_addPlot_228 : decode cX9_addPlot 228 = .ok (.getfield 7, 3) := by decide +kernel
theorem dX9_addPlot_231 : decode cX9_addPlot 231 = .ok (.iload 9, 2) := by decide +kernel
theorem dX9_addPlot_233 : decode cX9_addPlot 233 = .ok (.iconst 2, 1) := by decide +kernel
theorem dX9_addPlot_234 : decode cX9_addPlot 234 = .ok (.iadd, 1) := by decide +kernel
theorem dX9_addPlot_235 : decode cX9_addPlot 235 = .ok (.iload_n 3, 1) := by decide +kernel
theorem dX9_addPlot_236 : decode cX9_addPlot 236 = .ok (.iastore, 1) := by decide +kernel
theorem dX9_addPlot_237 : decode cX9_addPlot 237 = .ok (.aload_n 0, 1) := by decide +kernel
theorem dX9_addPlot_238 : decode cX9_addPlot 238 = .ok (.getfield 7, 3) := by decide +kernel
theorem dX9_addPlot_241 : decode cX9_addPlot 241 = .ok (.iload 9, 2) := by decide +kernel
theorem dX9_addPlot_243 : decode cX9_addPlot 243 = .ok (.iconst 3, 1) := by decide +kernel
theorem dX9_addPlot_244 : decode cX9_addPlot 244 = .ok (.iadd, 1) := by decide +kernel
theorem dX9_addPlot_245 : decode cX9_addPlot 245 = .ok (.iload 4, 2) := by decide +kernel
theorem dX9_addPlot_247 : decode cX9_addPlot 247 = .ok (.iastore, 1) := by decide +kernel
theorem dX9_addPlot_248 : decode cX9_addPlot 248 = .ok (.aload_n 0, 1) := by decide +kernel
theorem dX9_addPlot_249 : decode cX9_addPlot 249 = .ok (.getfield 7, 3) := by decide +kernel
theorem dX9_addPlot_252 : decode cX9_addPlot 252 = .ok (.iload 9, 2) := by decide +kernel
theorem dX9_addPlot_254 : decode cX9_addPlot 254 = .ok (.iconst 4, 1) := by decide +kernel
theorem dX9_addPlot_255 : decode cX9_addPlot 255 = .ok (.iadd, 1) := by decide +kernel
theorem dX9_addPlot_256 : decode cX9_addPlot 256 = .ok (.iload 5, 2) := by decide +kernel
theorem dX9_addPlot_258 : decode cX9_addPlot 258 = .ok (.iastore, 1) := by decide +kernel
theorem dX9_addPlot_259 : decode cX9_addPlot 259 = .ok (.aload_n 0, 1) := by decide +kernel
theorem dX9_addPlot_260 : decode cX9_addPlot 260 = .ok (.getfield 7, 3) := by decide +kernel
theorem dX9_addPlot_263 : decode cX9_addPlot 263 = .ok (.iload 9, 2) := by decide +kernel
theorem dX9_addPlot_265 : decode cX9_addPlot 265 = .ok (.iconst 5, 1) := by decide +kernel
theorem dX9_addPlot_266 : decode cX9_addPlot 266 = .ok (.iadd, 1) := by decide +kernel
theorem dX9_addPlot_267 : decode cX9_addPlot 267 = .ok (.iload 6, 2) := by decide +kernel
theorem dX9_addPlot_269 : decode cX9_addPlot 269 = .ok (.iastore, 1) := by decide +kernel
theorem dX9_addPlot_270 : decode cX9_addPlot 270 = .ok (.aload_n 0, 1) := by decide +kernel
theorem dX9_addPlot_271 : decode cX9_addPlot 271 = .ok (.getfield 7, 3) := by decide +kernel
theorem dX9_addPlot_274 : decode cX9_addPlot 274 = .ok (.bipush 9, 2) := by decide +kernel
theorem dX9_addPlot_276 : decode cX9_addPlot 276 = .ok (.dup2, 1) := by decide +kernel
theorem dX9_addPlot_277 : decode cX9_addPlot 277 = .ok (.iaload, 1) := by decide +kernel
theorem dX9_addPlot_278 : decode cX9_addPlot 278 = .ok (.iconst 1, 1) := by decide +kernel
theorem dX9_addPlot_279 : decode cX9_addPlot 279 = .ok (.iadd, 1) := by decide +kernel
theorem dX9_addPlot_280 : decode cX9_addPlot 280 = .ok (.iastore, 1) := by decide +kernel
theorem dX9_addPlot_281 : decode cX9_addPlot 281 = .ok (.aload_n 0, 1) := by decide +kernel
theorem dX9_addPlot_282 : decode cX9_addPlot 282 = .ok (.getfield 7, 3) := by decide +kernel
theorem dX9_addPlot_285 : decode cX9_addPlot 285 = .ok (.bipush 9, 2) := by decide +kernel
theorem dX9_addPlot_287 : decode cX9_addPlot 287 = .ok (.iaload, 1) := by decide +kernel
theorem dX9_addPlot_288 : decode cX9_addPlot 288 = .ok (.ireturn, 1) := by decide +kernel
theorem dX9_removePlot_0 : decode cX9_removePlot 0 = .ok (.aload_n 0, 1) := by decide +kernel
theorem dX9_removePlot_1 : decode cX9_removePlot 1 = .ok (.iload_n 1, 1) := by decide +kernel
theorem dX9_removePlot_2 : decode cX9_removePlot 2 = .ok (.i2l, 1) := by decide +kernel
theorem dX9_removePlot_3 : decode cX9_removePlot 3 = .ok (.lconst 0, 1) := by decide +kernel
theorem dX9_removePlot_4 : decode cX9_removePlot 4 = .ok (.aload_n 0, 1) := by decide +kernel
theorem dX9_removePlot_5 : decode cX9_removePlot 5 = .ok (.getfield 7, 3) := by decide +kernel
theorem dX9_removePlot_8 : decode cX9_removePlot 8 = .ok (.bipush 9, 2) := by decide +kernel
theorem dX9_removePlot_10 : decode cX9_removePlot 10 = .ok (.iaload, 1) := by decide +kernel
theorem dX9_removePlot_11 : decode cX9_removePlot 11 = .ok (.iconst 1, 1) := by decide +kernel
theorem dX9_removePlot_12 : decode cX9_removePlot 12 = .ok (.isub, 1) := by decide +kernel
theorem dX9_removePlot_13 : decode cX9_removePlot 13 = .ok (.i2l, 1) := by decide +kernel
theorem dX9_removePlot_14 : decode cX9_removePlot 14 = .ok (.invokestatic 74, 3) := by decide +kernel
theorem dX9_removePlot_17 : decode cX9_removePlot 17 = .ok (.ifCond .ne 7, 3) := by decide +kernel
theorem dX9_removePlot_20 : decode cX9_removePlot 20 = .ok (.iconst 1, 1) := by decide +kernel
theorem dX9_removePlot_21 : decode cX9_removePlot 21 = .ok (.goto 17, 3) := by decide +kernel
theorem dX9_removePlot_24 : decode cX9_removePlot 24 = .ok (.aload_n 0, 1) := by decide +kernel
theorem dX9_removePlot_25 : decode cX9_removePlot 25 = .ok (.getfield 7, 3) := by decide +kernel
theorem dX9_removePlot_28 : decode cX9_removePlot 28 = .ok (.iconst 0, 1) := by decide +kernel
theorem dX9_removePlot_29 : decode cX9_removePlot 29 = .ok (.iaload, 1) := by decide +kernel
theorem dX9_removePlot_30 : decode cX9_removePlot 30 = .ok (.ifCond .eq 7, 3) := by decide +kernel
theorem dX9_removePlot_33 : decode cX9_removePlot 33 = .ok (.iconst 2, 1) := by decide +kernel
theorem dX9_removePlot_34 : decode cX9_removePlot 34 = .ok (.goto 4, 3) := by decide +kernel
theorem dX9_removePlot_37 : decode cX9_removePlot 37 = .ok (.iconst 0, 1) := by decide +kernel
theorem dX9_removePlot_38 : decode cX9_removePlot 38 = .ok (.putfield 33, 3) := by decide +kernel
theorem dX9_removePlot_41 : decode cX9_removePlot 41 = .ok (.aload_n 0, 1) := by decide +kernel
theorem dX9_removePlot_42 : decode cX9_removePlot 42 = .ok (.getfield 33, 3) := by decide +kernel
theorem dX9_removePlot_45 : decode cX9_removePlot 45 = .ok (.ifCond .le 5, 3) := by decide +kernel
theorem dX9_removePlot_48 : decode cX9_removePlot 48 = .ok (.iconst 0, 1) := by decide +kernel
theorem dX9_removePlot_49 : decode cX9_removePlot 49 = .ok (.ireturn, 1) := by decide +kernel
theorem dX9_removePlot_50 : decode cX9_removePlot 50 = .ok (.aload_n 0, 1) := by decide +kernel
theorem dX9_removePlot_51 : decode cX9_removePlot 51 = .ok (.invokevirtual 128, 3) := by decide +kernel
theorem dX9_removePlot_54 : decode cX9_removePlot 54 = .ok (.aload_n 0, 1) := by decide +kernel
theorem dX9_removePlot_55 : decode cX9_removePlot 55 = .ok (.getfield 7, 3) := by decide +kernel
theorem dX9_removePlot_58 : decode cX9_removePlot 58 = .ok (.bipush 9, 2) := by decide +kernel
theorem dX9_removePlot_60 : decode cX9_removePlot 60 = .ok (.dup2, 1) := by decide +kernel
theorem dX9_removePlot_61 : decode cX9_removePlot 61 = .ok (.iaload, 1) := by decide +kernel
theorem dX9_removePlot_62 : decode cX9_removePlot 62 = .ok (.iconst 1, 1) := by decide +kernel
theorem dX9_removePlot_63 : decode cX9_removePlot 63 = .ok (.isub, 1) := by decide +kernel
theorem dX9_removePlot_64 : decode cX9_removePlot 64 = .ok (.iastore, 1) := by decide +kernel
theorem dX9_removePlot_65 : decode cX9_removePlot 65 = .ok (.bipush 6, 2) := by decide +kernel
theorem dX9_removePlot_67 : decode cX9_removePlot 67 = .ok (.iload_n 1, 1) := by decide +kernel
theorem dX9_removePlot_68 : decode cX9_removePlot 68 = .ok (.imul, 1) := by decide +kernel
theorem dX9_removePlot_69 : decode cX9_removePlot 69 = .ok (.istore_n 2, 1) := by decide +kernel
theorem dX9_removePlot_70 : decode cX9_removePlot 70 = .ok (.iload_n 2, 1) := by decide +kernel
theorem dX9_removePlot_71 : decode cX9_removePlot 71 = .ok (.bipush 6, 2) := by decide +kernel
theorem dX9_removePlot_73 : decode cX9_removePlot 73 = .ok (.aload_n 0, 1) := by decide +kernel
theorem dX9_removePlot_74 : decode cX9_removePlot 74 = .ok (.getfield 7, 3) := by decide +kernel
theorem dX9_removePlot_77 : decode cX9_removePlot 77 = .ok (.bipush 9, 2) := by decide +kernel
theorem dX9_removePlot_79 : decode cX9_removePlot 79 = .ok (.iaload, 1) := by decide +kernel
theorem dX9_removePlot_80 : decode cX9_removePlot 80 = .ok (.imul, 1) := by decide +kernel
theorem dX9_removePlot_81 : decode cX9_removePlot 81 = .ok (.if_icmp .ge 30, 3) := by decide +kernel
theorem dX9_removePlot_84 : decode cX9_removePlot 84 = .ok (.aload_n 0, 1) := by decide +kernel
theorem dX9_removePlot_85 : decode cX9_removePlot 85 = .ok (.getfield 7, 3) := by decide +kernel
theorem dX9_removePlot_88 : decode cX9_removePlot 88 = .ok (.bipush 44, 2) := by decide +kernel
theorem dX9_removePlot_90 : decode cX9_removePlot 90 = .ok (.iload_n 2, 1) := by decide +kernel
theorem dX9_removePlot_91 : decode cX9_removePlot 91 = .ok (.iadd, 1) := by decide +kernel
theorem dX9_removePlot_92 : decode cX9_removePlot 92 = .ok (.aload_n 0, 1) := by decide +kernel
theorem dX9_removePlot_93 : decode cX9_removePlot 93 = .ok (.getfield 7, 3) := by decide +kernel
theorem dX9_removePlot_96 : decode cX9_removePlot 96 = .ok (.bipush 44, 2) := by decide +kernel
theorem dX9_removePlot_98 : decode cX9_removePlot 98 = .ok (.iload_n 2, 1) := by decide +kernel
theorem dX9_removePlot_99 : decode cX9_removePlot 99 = .ok (.iadd, 1) := by decide +kernel
theorem dX9_removePlot_100 : decode cX9_removePlot 100 = .ok (.bipush 6, 2) := by decide +kernel
theorem dX9_removePlot_102 : decode cX9_removePlot 102 = .ok (.iadd, 1) := by decide +kernel
theorem dX9_removePlot_103 : decode cX9_removePlot 103 = .ok (.iaload, 1) := by decide +kernel
theorem dX9_removePlot_104 : decode cX9_removePlot 104 = .ok (.iastore, 1) := by decide +kernel
theorem dX9_removePlot_105 : decode cX9_removePlot 105 = .ok (.iinc 2 1, 3) := by decide +kernel
theorem dX9_removePlot_108 : decode cX9_removePlot 108 = .ok (.goto (-38), 3) := by decide +kernel
theorem dX9_removePlot_111 : decode cX9_removePlot 111 = .ok (.aload_n 0, 1) := by decide +kernel
theorem dX9_removePlot_112 : decode cX9_removePlot 112 = .ok (.getfield 7, 3) := by decide +kernel
theorem dX9_removePlot_115 : decode cX9_removePlot 115 = .ok (.bipush 9, 2) := by decide +kernel
theorem dX9_removePlot_117 : decode cX9_removePlot 117 = .ok (.iaload, 1) := by decide +kernel
theorem dX9_removePlot_118 : decode cX9_removePlot 118 = .ok (.ireturn, 1) := by decide +kernel
theorem dX9_isSpecies_0 : decode cX9_isSpecies 0 = .ok (.iload_n 1, 1) := by decide +kernel
theorem dX9_isSpecies_1 : decode cX9_isSpecies 1 = .ok (.i2l, 1) := by decide +kernel
theorem dX9_isSpecies_2 : decode cX9_isSpecies 2 = .ok (.lconst 0, 1) := by decide +kernel
theorem dX9_isSpecies_3 : decode cX9_isSpecies 3 = .ok (.aload_n 0, 1) := by decide +kernel
theorem dX9_isSpecies_4 : decode cX9_isSpecies 4 = .ok (.getfield 7, 3) := by decide +kernel
theorem dX9_isSpecies_7 : decode cX9_isSpecies 7 = .ok (.bipush 8, 2) := by decide +kernel
theorem dX9_isSpecies_9 : decode cX9_isSpecies 9 = .ok (.iaload, 1) := by decide +kernel
theorem dX9_isSpecies_10 : decode cX9_isSpecies 10 = .ok (.iconst 1, 1) := by decide +kernel
theorem dX9_isSpecies_11 : decode cX9_isSpecies 11 = .ok (.isub, 1) := by decide +kernel
theorem dX9_isSpecies_12 : decode cX9_isSpecies 12 = .ok (.i2l, 1) := by decide +kernel
theorem dX9_isSpecies_13 : decode cX9_isSpecies 13 = .ok (.invokestatic 74, 3) := by decide +kernel
theorem dX9_isSpecies_16 : decode cX9_isSpecies 16 = .ok (.ireturn, 1) := by decide +kernel
theorem dX9_isAny_0 : decode cX9_isAny 0 = .ok (.iload_n 1, 1) := by decide +kernel
theorem dX9_isAny_1 : decode cX9_isAny 1 = .ok (.iconst (-1), 1) := by decide +kernel
theorem dX9_isAny_2 : decode cX9_isAny 2 = .ok (.if_icmp .eq 11, 3) := by decide +kernel
theorem dX9_isAny_5 : decode cX9_isAny 5 = .ok (.aload_n 0, 1) := by decide +kernel
theorem dX9_isAny_6 : decode cX9_isAny 6 = .ok (.iload_n 1, 1) := by decide +kernel
theorem dX9_isAny_7 : decode cX9_isAny 7 = .ok (.invokevirtual 137, 3) := by decide +kernel
theorem dX9_isAny_10 : decode cX9_isAny 10 = .ok (.ifCond .eq 7, 3) := by decide +kernel
theorem dX9_isAny_13 : decode cX9_isAny 13 = .ok (.iconst 1, 1) := by decide +kernel
theorem dX9_isAny_14 : decode cX9_isAny 14 = .ok (.goto 4, 3) := by decide +kernel
theorem dX9_isAny_17 : decode cX9_isAny 17 = .ok (.iconst 0, 1) := by decide +kernel
theorem dX9_isAny_18 : decode cX9_isAny 18 = .ok (.ireturn, 1) := by decide +kernel
theorem dX9_inPlot_0 : decode cX9_inPlot 0 = .ok (.iload_n 2, 1) := by decide +kernel
theorem dX9_inPlot_1 : decode cX9_inPlot 1 = .ok (.iconst (-1), 1) := by decide +kernel
theorem dX9_inPlot_2 : decode cX9_inPlot 2 = .ok (.if_icmp .eq 18, 3) := by decide +kernel
theorem dX9_inPlot_5 : decode cX9_inPlot 5 = .ok (.aload_n 0, 1) := by decide +kernel
theorem dX9_inPlot_6 : decode cX9_inPlot 6 = .ok (.getfield 7, 3) := by decide +kernel
theorem dX9_inPlot_9 : decode cX9_inPlot 9 = .ok (.bipush 44, 2) := by decide +kernel
theorem dX9_inPlot_11 : decode cX9_inPlot 11 = .ok (.bipush 6, 2) := by decide +kernel
theorem dX9_inPlot_13 : decode cX9_inPlot 13 = .ok (.iload_n 1, 1) := by decide +kernel
theorem dX9_inPlot_14 : decode cX9_inPlot 14 = .ok (.imul, 1) := by decide +kernel
theorem dX9_inPlot_15 : decode cX9_inPlot 15 = .ok (.iadd, 1) := by decide +kernel
theorem dX9_inPlot_16 : decode cX9_inPlot 16 = .ok (.iload_n 2, 1) := by decide +kernel
theorem dX9_inPlot_17 : decode cX9_inPlot 17 = .ok (.iadd, 1) := by decide +kernel
theorem dX9_inPlot_18 : decode cX9_inPlot 18 = .ok (.iaload, 1) := by decide +kernel
theorem dX9_inPlot_19 : decode cX9_inPlot 19 = .ok (.ireturn, 1) := by decide +kernel
theorem dX9_inPlot_20 : decode cX9_inPlot 20 = .ok (.iconst 0, 1) := by decide +kernel
theorem dX9_inPlot_21 : decode cX9_inPlot 21 = .ok (.istore_n 3, 1) := by decide +kernel
theorem dX9_inPlot_22 : decode cX9_inPlot 22 = .ok (.iconst 0, 1) := by decide +kernel
theorem dX9_inPlot_23 : decode cX9_inPlot 23 = .ok (.istore 4, 2) := by decide +kernel
theorem dX9_inPlot_25 : decode cX9_inPlot 25 = .ok (.iload 4, 2) := by decide +kernel
theorem dX9_inPlot_27 : decode cX9_inPlot 27 = .ok (.bipush 6, 2) := by decide +kernel
theorem dX9_inPlot_29 : decode cX9_inPlot 29 = .ok (.if_icmp .ge 27, 3) := by decide +kernel
theorem dX9_inPlot_32 : decode cX9_inPlot 32 = .ok (.iload_n 3, 1) := by decide +kernel
theorem dX9_inPlot_33 : decode cX9_inPlot 33 = .ok (.aload_n 0, 1) := by decide +kernel
theorem dX9_inPlot_34 : decode cX9_inPlot 34 = .ok (.getfield 7, 3) := by decide +kernel
theorem dX9_inPlot_37 : decode cX9_inPlot 37 = .ok (.bipush 44, 2) := by decide +kernel
theorem dX9_inPlot_39 : decode cX9_inPlot 39 = .ok (.bipush 6, 2) := by decide +kernel
theorem dX9_inPlot_41 : decode cX9_inPlot 41 = .ok (.iload_n 1, 1) := by decide +kernel
theorem dX9_inPlot_42 : decode cX9_inPlot 42 = .ok (.imul, 1) := by decide +kernel
theorem dX9_inPlot_43 : decode cX9_inPlot 43 = .ok (.iadd, 1) := by decide +kernel
theorem dX9_inPlot_44 : decode cX9_inPlot 44 = .ok (.iload 4, 2) := by decide +kernel
theorem dX9_inPlot_46 : decode cX9_inPlot 46 = .ok (.iadd, 1) := by decide +kernel
theorem dX9_inPlot_47 : decode cX9_inPlot 47 = .ok (.iaload, 1) := by decide +kernel
theorem dX9_inPlot_48 : decode cX9_inPlot 48 = .ok (.iadd, 1) := by decide +kernel
theorem dX9_inPlot_49 : decode cX9_inPlot 49 = .ok (.istore_n 3, 1) := by decide +kernel
theorem dX9_inPlot_50 : decode cX9_inPlot 50 = .ok (.iinc 4 1, 3) := by decide +kernel
theorem dX9_inPlot_53 : decode cX9_inPlot 53 = .ok (.goto (-28), 3) := by decide +kernel
theorem dX9_inPlot_56 : decode cX9_inPlot 56 = .ok (.iload_n 3, 1) := by decide +kernel
theorem dX9_inPlot_57 : decode cX9_inPlot 57 = .ok (.ireturn, 1) := by decide +kernel
theorem dX9_sumOf_0 : decode cX9_sumOf 0 = .ok (.lconst 0, 1) := by decide +kernel
theorem dX9_sumOf_1 : decode cX9_sumOf 1 = .ok (.lstore_n 2, 1) := by decide +kernel
theorem dX9_sumOf_2 : decode cX9_sumOf 2 = .ok (.iconst 0, 1) := by decide +kernel
theorem dX9_sumOf_3 : decode cX9_sumOf 3 = .ok (.istore 4, 2) := by decide +kernel
theorem dX9_sumOf_5 : decode cX9_sumOf 5 = .ok (.iload 4, 2) := by decide +kernel
theorem dX9_sumOf_7 : decode cX9_sumOf 7 = .ok (.aload_n 0, 1) := by decide +kernel
theorem dX9_sumOf_8 : decode cX9_sumOf 8 = .ok (.getfield 7, 3) := by decide +kernel
theorem dX9_sumOf_11 : decode cX9_sumOf 11 = .ok (.bipush 9, 2) := by decide +kernel
theorem dX9_sumOf_13 : decode cX9_sumOf 13 = .ok (.iaload, 1) := by decide +kernel
theorem dX9_sumOf_14 : decode cX9_sumOf 14 = .ok (.if_icmp .ge 20, 3) := by decide +kernel
theorem dX9_sumOf_17 : decode cX9_sumOf 17 = .ok (.lload_n 2, 1) := by decide +kernel
theorem dX9_sumOf_18 : decode cX9_sumOf 18 = .ok (.aload_n 0, 1) := by decide +kernel
theorem dX9_sumOf_19 : decode cX9_sumOf 19 = .ok (.iload 4, 2) := by decide +kernel
theorem dX9_sumOf_21 : decode cX9_sumOf 21 = .ok (.iload_n 1, 1) := by decide +kernel
theorem dX9_sumOf_22 : decode cX9_sumOf 22 = .ok (.invokevirtual 140, 3) := by decide +kernel
theorem dX9_sumOf_25 : decode cX9_sumOf 25 = .ok (.i2l, 1) := by decide +kernel
theorem dX9_sumOf_26 : decode cX9_sumOf 26 = .ok (.ladd, 1) := by decide +kernel
theorem dX9_sumOf_27 : decode cX9_sumOf 27 = .ok (.lstore_n 2, 1) := by decide +kernel
theorem dX9_sumOf_28 : decode cX9_sumOf 28 = .ok (.iinc 4 1, 3) := by decide +kernel
theorem dX9_sumOf_31 : decode cX9_sumOf 31 = .ok (.goto (-26), 3) := by decide +kernel
theorem dX9_sumOf_34 : decode cX9_sumOf 34 = .ok (.lload_n 2, 1) := by decide +kernel
theorem dX9_sumOf_35 : decode cX9_sumOf 35 = .ok (.lreturn, 1) := by decide +kernel
theorem dX9_spreadOf_0 : decode cX9_spreadOf 0 = .ok (.lconst 0, 1) := by decide +kernel
theorem dX9_spreadOf_1 : decode cX9_spreadOf 1 = .ok (.lstore_n 2, 1) := by decide +kernel
theorem dX9_spreadOf_2 : decode cX9_spreadOf 2 = .ok (.iconst 0, 1) := by decide +kernel
theorem dX9_spreadOf_3 : decode cX9_spreadOf 3 = .ok (.istore 4, 2) := by decide +kernel
theorem dX9_spreadOf_5 : decode cX9_spreadOf 5 = .ok (.iload 4, 2) := by decide +kernel
theorem dX9_spreadOf_7 : decode cX9_spreadOf 7 = .ok (.aload_n 0, 1) := by decide +kernel
theorem dX9_spreadOf_8 : decode cX9_spreadOf 8 = .ok (.getfield 7, 3) := by decide +kernel
theorem dX9_spreadOf_11 : decode cX9_spreadOf 11 = .ok (.bipush 9, 2) := by decide +kernel
theorem dX9_spreadOf_13 : decode cX9_spreadOf 13 = .ok (.iaload, 1) := by decide +kernel
theorem dX9_spreadOf_14 : decode cX9_spreadOf 14 = .ok (.if_icmp .ge 29, 3) := by decide +kernel
theorem dX9_spreadOf_17 : decode cX9_spreadOf 17 = .ok (.lload_n 2, 1) := by decide +kernel
theorem dX9_spreadOf_18 : decode cX9_spreadOf 18 = .ok (.aload_n 0, 1) := by decide +kernel
theorem dX9_spreadOf_19 : decode cX9_spreadOf 19 = .ok (.iload 4, 2) := by decide +kernel
theorem dX9_spreadOf_21 : decode cX9_spreadOf 21 = .ok (.iload_n 1, 1) := by decide +kernel
theorem dX9_spreadOf_22 : decode cX9_spreadOf 22 = .ok (.invokevirtual 140, 3) := by decide +kernel
theorem dX9_spreadOf_25 : decode cX9_spreadOf 25 = .ok (.i2l, 1) := by decide +kernel
theorem dX9_spreadOf_26 : decode cX9_spreadOf 26 = .ok (.aload_n 0, 1) := by decide +kernel
theorem dX9_spreadOf_27 : decode cX9_spreadOf 27 = .ok (.iload 4, 2) := by decide +kernel
theorem dX9_spreadOf_29 : decode cX9_spreadOf 29 = .ok (.iload_n 1, 1) := by decide +kernel
theorem dX9_spreadOf_30 : decode cX9_spreadOf 30 = .ok (.invokevirtual 140, 3) := by decide +kernel
theorem dX9_spreadOf_33 : decode cX9_spreadOf 33 = .ok (.i2l, 1) := by decide +kernel
theorem dX9_spreadOf_34 : decode cX9_spreadOf 34 = .ok (.lmul, 1) := by decide +kernel
theorem dX9_spreadOf_35 : decode cX9_spreadOf 35 = .ok (.ladd, 1) := by decide +kernel
theorem dX9_spreadOf_36 : decode cX9_spreadOf 36 = .ok (.lstore_n 2, 1) := by decide +kernel
theorem dX9_spreadOf_37 : decode cX9_spreadOf 37 = .ok (.iinc 4 1, 3) := by decide +kernel
theorem dX9_spreadOf_40 : decode cX9_spreadOf 40 = .ok (.goto (-35), 3) := by decide +kernel
theorem dX9_spreadOf_43 : decode cX9_spreadOf 43 = .ok (.aload_n 0, 1) := by decide +kernel
theorem dX9_spreadOf_44 : decode cX9_spreadOf 44 = .ok (.getfield 7, 3) := by decide +kernel
theorem dX9_spreadOf_47 : decode cX9_spreadOf 47 = .ok (.bipush 9, 2) := by decide +kernel
theorem dX9_spreadOf_49 : decode cX9_spreadOf 49 = .ok (.iaload, 1) := by decide +kernel
theorem dX9_spreadOf_50 : decode cX9_spreadOf 50 = .ok (.i2l, 1) := by decide +kernel
theorem dX9_spreadOf_51 : decode cX9_spreadOf 51 = .ok (.lload_n 2, 1) := by decide +kernel
theorem dX9_spreadOf_52 : decode cX9_spreadOf 52 = .ok (.lmul, 1) := by decide +kernel
theorem dX9_spreadOf_53 : decode cX9_spreadOf 53 = .ok (.aload_n 0, 1) := by decide +kernel
theorem dX9_spreadOf_54 : decode cX9_spreadOf 54 = .ok (.iload_n 1, 1) := by decide +kernel
theorem dX9_spreadOf_55 : decode cX9_spreadOf 55 = .ok (.invokevirtual 143, 3) := by decide +kernel
theorem dX9_spreadOf_58 : decode cX9_spreadOf 58 = .ok (.aload_n 0, 1) := by decide +kernel
theorem dX9_spreadOf_59 : decode cX9_spreadOf 59 = .ok (.iload_n 1, 1) := by decide +kernel
theorem dX9_spreadOf_60 : decode cX9_spreadOf 60 = .ok (.invokevirtual 143, 3) := by decide +kernel
theorem dX9_spreadOf_63 : decode cX9_spreadOf 63 = .ok (.lmul, 1) := by decide +kernel
theorem dX9_spreadOf_64 : decode cX9_spreadOf 64 = .ok (.lsub, 1) := by decide +kernel
theorem dX9_spreadOf_65 : decode cX9_spreadOf 65 = .ok (.lreturn, 1) := by decide +kernel
theorem dX9_divisor_0 : decode cX9_divisor 0 = .ok (.lload_n 2, 1) := by decide +kernel
theorem dX9_divisor_1 : decode cX9_divisor 1 = .ok (.lconst 0, 1) := by decide +kernel
theorem dX9_divisor_2 : decode cX9_divisor 2 = .ok (.lcmp, 1) := by decide +kernel
theorem dX9_divisor_3 : decode cX9_divisor 3 = .ok (.ifCond .ne 7, 3) := by decide +kernel
theorem dX9_divisor_6 : decode cX9_divisor 6 = .ok (.lload_n 0, 1) := by decide +kernel
theorem dX9_divisor_7 : decode cX9_divisor 7 = .ok (.goto 10, 3) := by decide +kernel
theorem dX9_divisor_10 : decode cX9_divisor 10 = .ok (.lload_n 2, 1) := by decide +kernel
theorem dX9_divisor_11 : decode cX9_divisor 11 = .ok (.lload_n 0, 1) := by decide +kernel
theorem dX9_divisor_12 : decode cX9_divisor 12 = .ok (.lload_n 2, 1) := by decide +kernel
theorem dX9_divisor_13 : decode cX9_divisor 13 = .ok (.lrem, 1) := by decide +kernel
theorem dX9_divisor_14 : decode cX9_divisor 14 = .ok (.invokestatic 147, 3) := by decide +kernel
theorem dX9_divisor_17 : decode cX9_divisor 17 = .ok (.lreturn, 1) := by decide +kernel
theorem dX9_part_0 : decode cX9_part 0 = .ok (.iload 4, 2) := by decide +kernel
theorem dX9_part_2 : decode cX9_part 2 = .ok (.ifCond .eq 7, 3) := by decide +kernel
theorem dX9_part_5 : decode cX9_part 5 = .ok (.lload_n 2, 1) := by decide +kernel
theorem dX9_part_6 : decode cX9_part 6 = .ok (.goto 4, 3) := by decide +kernel
theorem dX9_part_9 : decode cX9_part 9 = .ok (.lload_n 0, 1) := by decide +kernel
theorem dX9_part_10 : decode cX9_part 10 = .ok (.lload_n 0, 1) := by decide +kernel
theorem dX9_part_11 : decode cX9_part 11 = .ok (.lload_n 2, 1) := by decide +kernel
theorem dX9_part_12 : decode cX9_part 12 = .ok (.invokestatic 147, 3) := by decide +kernel
theorem dX9_part_15 : decode cX9_part 15 = .ok (.ldiv, 1) := by decide +kernel
theorem dX9_part_16 : decode cX9_part 16 = .ok (.lreturn, 1) := by decide +kernel
theorem dX9_estimate_0 : decode cX9_estimate 0 = .ok (.aload_n 0, 1) := by decide +kernel
theorem dX9_estimate_1 : decode cX9_estimate 1 = .ok (.aload_n 0, 1) := by decide +kernel
theorem dX9_estimate_2 : decode cX9_estimate 2 = .ok (.iload_n 1, 1) := by decide +kernel
theorem dX9_estimate_3 : decode cX9_estimate 3 = .ok (.invokevirtual 151, 3) := by decide +kernel
theorem dX9_estimate_6 : decode cX9_estimate 6 = .ok (.ifCond .ne 7, 3) := by decide +kernel
theorem dX9_estimate_9 : decode cX9_estimate 9 = .ok (.iconst 1, 1) := by decide +kernel
theorem dX9_estimate_10 : decode cX9_estimate 10 = .ok (.goto 18, 3) := by decide +kernel
theorem dX9_estimate_13 : decode cX9_estimate 13 = .ok (.aload_n 0, 1) := by decide +kernel
theorem dX9_estimate_14 : decode cX9_estimate 14 = .ok (.getfield 7, 3) := by decide +kernel
theorem dX9_estimate_17 : decode cX9_estimate 17 = .ok (.bipush 9, 2) := by decide +kernel
theorem dX9_estimate_19 : decode cX9_estimate 19 = .ok (.iaload, 1) := by decide +kernel
theorem dX9_estimate_20 : decode cX9_estimate 20 = .ok (.ifCond .ne 7, 3) := by decide +kernel
theorem dX9_estimate_23 : decode cX9_estimate 23 = .ok (.iconst 2, 1) := by decide +kernel
theorem dX9_estimate_24 : decode cX9_estimate 24 = .ok (.goto 4, 3) := by decide +kernel
theorem dX9_estimate_27 : decode cX9_estimate 27 = .ok (.iconst 0, 1) := by decide +kernel
theorem dX9_estimate_28 : decode cX9_estimate 28 = .ok (.putfield 33, 3) := by decide +kernel
theorem dX9_estimate_31 : decode cX9_estimate 31 = .ok (.aload_n 0, 1) := by decide +kernel
theorem dX9_estimate_32 : decode cX9_estimate 32 = .ok (.getfield 33, 3) := by decide +kernel
theorem dX9_estimate_35 : decode cX9_estimate 35 = .ok (.ifCond .le 7, 3) := by decide +kernel
theorem dX9_estimate_38 : decode cX9_estimate 38 = .ok (.lconst 0, 1) := by decide +kernel
theorem dX9_estimate_39 : decode cX9_estimate 39 = .ok (.goto 28, 3) := by decide +kernel
theorem dX9_estimate_42 : decode cX9_estimate 42 = .ok (.aload_n 0, 1) := by decide +kernel
theorem dX9_estimate_43 : decode cX9_estimate 43 = .ok (.getfield 7, 3) := by decide +kernel
theorem dX9_estimate_46 : decode cX9_estimate 46 = .ok (.iconst 1, 1) := by decide +kernel
theorem dX9_estimate_47 : decode cX9_estimate 47 = .ok (.iaload, 1) := by decide +kernel
theorem dX9_estimate_48 : decode cX9_estimate 48 = .ok (.i2l, 1) := by decide +kernel
theorem dX9_estimate_49 : decode cX9_estimate 49 = .ok (.aload_n 0, 1) := by decide +kernel
theorem dX9_estimate_50 : decode cX9_estimate 50 = .ok (.iload_n 1, 1) := by decide +kernel
theorem dX9_estimate_51 : decode cX9_estimate 51 = .ok (.invokevirtual 143, 3) := by decide +kernel
theorem dX9_estimate_54 : decode cX9_estimate 54 = .ok (.lmul, 1) := by decide +kernel
theorem dX9_estimate_55 : decode cX9_estimate 55 = .ok (.aload_n 0, 1) := by decide +kernel
theorem dX9_estimate_56 : decode cX9_estimate 56 = .ok (.getfield 7, 3) := by decide +kernel
theorem dX9_estimate_59 : decode cX9_estimate 59 = .ok (.bipush 9, 2) := by decide +kernel
theorem dX9_estimate_61 : decode cX9_estimate 61 = .ok (.iaload, 1) := by decide +kernel
theorem dX9_estimate_62 : decode cX9_estimate 62 = .ok (.i2l, 1) := by decide +kernel
theorem dX9_estimate_63 : decode cX9_estimate 63 = .ok (.iload_n 2, 1) := by decide +kernel
theorem dX9_estimate_64 : decode cX9_estimate 64 = .ok (.invokestatic 154, 3) := by decide +kernel
theorem dX9_estimate_67 : decode cX9_estimate 67 = .ok (.lreturn, 1) := by decide +kernel
theorem dX9_squaredError_0 : decode cX9_squaredError 0 = .ok (.aload_n 0, 1) := by decide +kernel
theorem dX9_squaredError_1 : decode cX9_squaredError 1 = .ok (.aload_n 0, 1) := by decide +kernel
theorem dX9_squaredError_2 : decode cX9_squaredError 2 = .ok (.iload_n 1, 1) := by decide +kernel
theorem dX9_squaredError_3 : decode cX9_squaredError 3 = .ok (.invokevirtual 151, 3) := by decide +kernel
theorem dX9_squaredError_6 : decode cX9_squaredError 6 = .ok (.ifCond .ne 7, 3) := by decide +kernel
theorem dX9_squaredError_9 : decode cX9_squaredError 9 = .ok (.iconst 1, 1) := by decide +kernel
theorem dX9_squaredError_10 : decode cX9_squaredError 10 = .ok (.goto 19, 3) := by decide +kernel
theorem dX9_squaredError_13 : decode cX9_squaredError 13 = .ok (.aload_n 0, 1) := by decide +kernel
theorem dX9_squaredError_14 : decode cX9_squaredError 14 = .ok (.getfield 7, 3) := by decide +kernel
theorem dX9_squaredError_17 : decode cX9_squaredError 17 = .ok (.bipush 9, 2) := by decide +kernel
theorem dX9_squaredError_19 : decode cX9_squaredError 19 = .ok (.iaload, 1) := by decide +kernel
theorem dX9_squaredError_20 : decode cX9_squaredError 20 = .ok (.iconst 2, 1) := by decide +kernel
theorem dX9_squaredError_21 : decode cX9_squaredError 21 = .ok (.if_icmp .ge 7, 3) := by decide +kernel
theorem dX9_squaredError_24 : decode cX9_squaredError 24 = .ok (.iconst 2, 1) := by decide +kernel
theorem dX9_squaredError_25 : decode cX9_squaredError 25 = .ok (.goto 4, 3) := by decide +kernel
theorem dX9_squaredError_28 : decode cX9_squaredError 28 = .ok (.iconst 0, 1) := by decide +kernel
theorem dX9_squaredError_29 : decode cX9_squaredError 29 = .ok (.putfield 33, 3) := by decide +kernel
theorem dX9_squaredError_32 : decode cX9_squaredError 32 = .ok (.aload_n 0, 1) := by decide +kernel
theorem dX9_squaredError_33 : decode cX9_squaredError 33 = .ok (.getfield 33, 3) := by decide +kernel
theorem dX9_squaredError_36 : decode cX9_squaredError 36 = .ok (.ifCond .le 5, 3) := by decide +kernel
theorem dX9_squaredError_39 : decode cX9_squaredError 39 = .ok (.lconst 0, 1) := by decide +kernel
theorem dX9_squaredError_40 : decode cX9_squaredError 40 = .ok (.lreturn, 1) := by decide +kernel
theorem dX9_squaredError_41 : decode cX9_squaredError 41 = .ok (.aload_n 0, 1) := by decide +kernel
theorem dX9_squaredError_42 : decode cX9_squaredError 42 = .ok (.getfield 7, 3) := by decide +kernel
theorem dX9_squaredError_45 : decode cX9_squaredError 45 = .ok (.bipush 9, 2) := by decide +kernel
theorem dX9_squaredError_47 : decode cX9_squaredError 47 = .ok (.iaload, 1) := by decide +kernel
theorem dX9_squaredError_48 : decode cX9_squaredError 48 = .ok (.i2l, 1) := by decide +kernel
theorem dX9_squaredError_49 : decode cX9_squaredError 49 = .ok (.lstore_n 3, 1) := by decide +kernel
theorem dX9_squaredError_50 : decode cX9_squaredError 50 = .ok (.aload_n 0, 1) := by decide +kernel
theorem dX9_squaredError_51 : decode cX9_squaredError 51 = .ok (.getfield 7, 3) := by decide +kernel
theorem dX9_squaredError_54 : decode cX9_squaredError 54 = .ok (.iconst 1, 1) := by decide +kernel
theorem dX9_squaredError_55 : decode cX9_squaredError 55 = .ok (.iaload, 1) := by decide +kernel
theorem dX9_squaredError_56 : decode cX9_squaredError 56 = .ok (.i2l, 1) := by decide +kernel
theorem dX9_squaredError_57 : decode cX9_squaredError 57 = .ok (.aload_n 0, 1) := by decide +kernel
theorem dX9_squaredError_58 : decode cX9_squaredError 58 = .ok (.getfield 7, 3) := by decide +kernel
theorem dX9_squaredError_61 : decode cX9_squaredError 61 = .ok (.iconst 1, 1) := by decide +kernel
theorem dX9_squaredError_62 : decode cX9_squaredError 62 = .ok (.iaload, 1) := by decide +kernel
theorem dX9_squaredError_63 : decode cX9_squaredError 63 = .ok (.i2l, 1) := by decide +kernel
theorem dX9_squaredError_64 : decode cX9_squaredError 64 = .ok (.lload_n 3, 1) := by decide +kernel
theorem dX9_squaredError_65 : decode cX9_squaredError 65 = .ok (.lsub, 1) := by decide +kernel
theorem dX9_squaredError_66 : decode cX9_squaredError 66 = .ok (.lmul, 1) := by decide +kernel
theorem dX9_squaredError_67 : decode cX9_squaredError 67 = .ok (.aload_n 0, 1) := by decide +kernel
theorem dX9_squaredError_68 : decode cX9_squaredError 68 = .ok (.iload_n 1, 1) := by decide +kernel
theorem dX9_squaredError_69 : decode cX9_squaredError 69 = .ok (.invokevirtual 158, 3) := by decide +kernel
theorem dX9_squaredError_72 : decode cX9_squaredError 72 = .ok (.lmul, 1) := by decide +kernel
theorem dX9_squaredError_73 : decode cX9_squaredError 73 = .ok (.lload_n 3, 1) := by decide +kernel
theorem dX9_squaredError_74 : decode cX9_squaredError 74 = .ok (.lload_n 3, 1) := by decide +kernel
theorem dX9_squaredError_75 : decode cX9_squaredError 75 = .ok (.lmul, 1) := by decide +kernel
theorem dX9_squaredError_76 : decode cX9_squaredError 76 = .ok (.lload_n 3, 1) := by decide +kernel
theorem dX9_squaredError_77 : decode cX9_squaredError 77 = .ok (.lconst 1, 1) := by decide +kernel
theorem dX9_squaredError_78 : decode cX9_squaredError 78 = .ok (.lsub, 1) := by decide +kernel
theorem dX9_squaredError_79 : decode cX9_squaredError 79 = .ok (.lmul, 1) := by decide +kernel
theorem dX9_squaredError_80 : decode cX9_squaredError 80 = .ok (.iload_n 2, 1) := by decide +kernel
theorem dX9_squaredError_81 : decode cX9_squaredError 81 = .ok (.invokestatic 154, 3) := by decide +kernel
theorem dX9_squaredError_84 : decode cX9_squaredError 84 = .ok (.lreturn, 1) := by decide +kernel
theorem dX9_refusal_0 : decode cX9_refusal 0 = .ok (.aload_n 0, 1) := by decide +kernel
theorem dX9_refusal_1 : decode cX9_refusal 1 = .ok (.iload_n 1, 1) := by decide +kernel
theorem dX9_refusal_2 : decode cX9_refusal 2 = .ok (.invokevirtual 151, 3) := by decide +kernel
theorem dX9_refusal_5 : decode cX9_refusal 5 = .ok (.ifCond .ne 7, 3) := by decide +kernel
theorem dX9_refusal_8 : decode cX9_refusal 8 = .ok (.iconst 1, 1) := by decide +kernel
theorem dX9_refusal_9 : decode cX9_refusal 9 = .ok (.goto 35, 3) := by decide +kernel
theorem dX9_refusal_12 : decode cX9_refusal 12 = .ok (.iload_n 2, 1) := by decide +kernel
theorem dX9_refusal_13 : decode cX9_refusal 13 = .ok (.i2l, 1) := by decide +kernel
theorem dX9_refusal_14 : decode cX9_refusal 14 = .ok (.lconst 1, 1) := by decide +kernel
theorem dX9_refusal_15 : decode cX9_refusal 15 = .ok (.ldc2_w 161, 3) := by decide +kernel
theorem dX9_refusal_18 : decode cX9_refusal 18 = .ok (.invokestatic 74, 3) := by decide +kernel
theorem dX9_refusal_21 : decode cX9_refusal 21 = .ok (.ifCond .ne 7, 3) := by decide +kernel
theorem dX9_refusal_24 : decode cX9_refusal 24 = .ok (.iconst 2, 1) := by decide +kernel
theorem dX9_refusal_25 : decode cX9_refusal 25 = .ok (.goto 19, 3) := by decide +kernel
theorem dX9_refusal_28 : decode cX9_refusal 28 = .ok (.aload_n 0, 1) := by decide +kernel
theorem dX9_refusal_29 : decode cX9_refusal 29 = .ok (.getfield 7, 3) := by decide +kernel
theorem dX9_refusal_32 : decode cX9_refusal 32 = .ok (.bipush 9, 2) := by decide +kernel
theorem dX9_refusal_34 : decode cX9_refusal 34 = .ok (.iaload, 1) := by decide +kernel
theorem dX9_refusal_35 : decode cX9_refusal 35 = .ok (.iconst 2, 1) := by decide +kernel
theorem dX9_refusal_36 : decode cX9_refusal 36 = .ok (.if_icmp .ge 7, 3) := by decide +kernel
theorem dX9_refusal_39 : decode cX9_refusal 39 = .ok (.iconst 3, 1) := by decide +kernel
theorem dX9_refusal_40 : decode cX9_refusal 40 = .ok (.goto 4, 3) := by decide +kernel
theorem dX9_refusal_43 : decode cX9_refusal 43 = .ok (.iconst 0, 1) := by decide +kernel
theorem dX9_refusal_44 : decode cX9_refusal 44 = .ok (.ireturn, 1) := by decide +kernel
theorem dX9_isAccurate_0 : decode cX9_isAccurate 0 = .ok (.aload_n 0, 1) := by decide +kernel
theorem dX9_isAccurate_1 : decode cX9_isAccurate 1 = .ok (.aload_n 0, 1) := by decide +kernel
theorem dX9_isAccurate_2 : decode cX9_isAccurate 2 = .ok (.iload_n 1, 1) := by decide +kernel
theorem dX9_isAccurate_3 : decode cX9_isAccurate 3 = .ok (.iload_n 2, 1) := by decide +kernel
theorem dX9_isAccurate_4 : decode cX9_isAccurate 4 = .ok (.invokevirtual 163, 3) := by decide +kernel
theorem dX9_isAccurate_7 : decode cX9_isAccurate 7 = .ok (.putfield 33, 3) := by decide +kernel
theorem dX9_isAccurate_10 : decode cX9_isAccurate 10 = .ok (.aload_n 0, 1) := by decide +kernel
theorem dX9_isAccurate_11 : decode cX9_isAccurate 11 = .ok (.getfield 33, 3) := by decide +kernel
theorem dX9_isAccurate_14 : decode cX9_isAccurate 14 = .ok (.ifCond .le 5, 3) := by decide +kernel
theorem dX9_isAccurate_17 : decode cX9_isAccurate 17 = .ok (.iconst 0, 1) := by decide +kernel
theorem dX9_isAccurate_18 : decode cX9_isAccurate 18 = .ok (.ireturn, 1) := by decide +kernel
theorem dX9_isAccurate_19 : decode cX9_isAccurate 19 = .ok (.aload_n 0, 1) := by decide +kernel
theorem dX9_isAccurate_20 : decode cX9_isAccurate 20 = .ok (.getfield 7, 3) := by decide +kernel
theorem dX9_isAccurate_23 : decode cX9_isAccurate 23 = .ok (.bipush 9, 2) := by decide +kernel
theorem dX9_isAccurate_25 : decode cX9_isAccurate 25 = .ok (.iaload, 1) := by decide +kernel
theorem dX9_isAccurate_26 : decode cX9_isAccurate 26 = .ok (.i2l, 1) := by decide +kernel
theorem dX9_isAccurate_27 : decode cX9_isAccurate 27 = .ok (.lstore_n 3, 1) := by decide +kernel
theorem dX9_isAccurate_28 : decode cX9_isAccurate 28 = .ok (.ldc2_w 166, 3) := by decide +kernel
theorem dX9_isAccurate_31 : decode cX9_isAccurate 31 = .ok (.aload_n 0, 1) := by decide +kernel
theorem dX9_isAccurate_32 : decode cX9_isAccurate 32 = .ok (.getfield 7, 3) := by decide +kernel
theorem dX9_isAccurate_35 : decode cX9_isAccurate 35 = .ok (.iconst 1, 1) := by decide +kernel
theorem dX9_isAccurate_36 : decode cX9_isAccurate 36 = .ok (.iaload, 1) := by decide +kernel
theorem dX9_isAccurate_37 : decode cX9_isAccurate 37 = .ok (.i2l, 1) := by decide +kernel
theorem dX9_isAccurate_38 : decode cX9_isAccurate 38 = .ok (.lload_n 3, 1) := by decide +kernel
theorem dX9_isAccurate_39 : decode cX9_isAccurate 39 = .ok (.lsub, 1) := by decide +kernel
theorem dX9_isAccurate_40 : decode cX9_isAccurate 40 = .ok (.lmul, 1) := by decide +kernel
theorem dX9_isAccurate_41 : decode cX9_isAccurate 41 = .ok (.aload_n 0, 1) := by decide +kernel
theorem dX9_isAccurate_42 : decode cX9_isAccurate 42 = .ok (.iload_n 1, 1) := by decide +kernel
theorem dX9_isAccurate_43 : decode cX9_isAccurate 43 = .ok (.invokevirtual 158, 3) := by decide +kernel
theorem dX9_isAccurate_46 : decode cX9_isAccurate 46 = .ok (.lmul, 1) := by decide +kernel
theorem dX9_isAccurate_47 : decode cX9_isAccurate 47 = .ok (.iload_n 2, 1) := by decide +kernel
theorem dX9_isAccurate_48 : decode cX9_isAccurate 48 = .ok (.i2l, 1) := by decide +kernel
theorem dX9_isAccurate_49 : decode cX9_isAccurate 49 = .ok (.iload_n 2, 1) := by decide +kernel
theorem dX9_isAccurate_50 : decode cX9_isAccurate 50 = .ok (.i2l, 1) := by decide +kernel
theorem dX9_isAccurate_51 : decode cX9_isAccurate 51 = .ok (.lmul, 1) := by decide +kernel
theorem dX9_isAccurate_52 : decode cX9_isAccurate 52 = .ok (.aload_n 0, 1) := by decide +kernel
theorem dX9_isAccurate_53 : decode cX9_isAccurate 53 = .ok (.getfield 7, 3) := by decide +kernel
theorem dX9_isAccurate_56 : decode cX9_isAccurate 56 = .ok (.iconst 1, 1) := by decide +kernel
theorem dX9_isAccurate_57 : decode cX9_isAccurate 57 = .ok (.iaload, 1) := by decide +kernel
theorem dX9_isAccurate_58 : decode cX9_isAccurate 58 = .ok (.i2l, 1) := by decide +kernel
theorem dX9_isAccurate_59 : decode cX9_isAccurate 59 = .ok (.lmul, 1) := by decide +kernel
theorem dX9_isAccurate_60 : decode cX9_isAccurate 60 = .ok (.aload_n 0, 1) := by decide +kernel
theorem dX9_isAccurate_61 : decode cX9_isAccurate 61 = .ok (.iload_n 1, 1) := by decide +kernel
theorem dX9_isAccurate_62 : decode cX9_isAccurate 62 = .ok (.invokevirtual 143, 3) := by decide +kernel
theorem dX9_isAccurate_65 : decode cX9_isAccurate 65 = .ok (.lmul, 1) := by decide +kernel
theorem dX9_isAccurate_66 : decode cX9_isAccurate 66 = .ok (.aload_n 0, 1) := by decide +kernel
theorem dX9_isAccurate_67 : decode cX9_isAccurate 67 = .ok (.iload_n 1, 1) := by decide +kernel
theorem dX9_isAccurate_68 : decode cX9_isAccurate 68 = .ok (.invokevirtual 143, 3) := by decide +kernel
theorem dX9_isAccurate_71 : decode cX9_isAccurate 71 = .ok (.lmul, 1) := by decide +kernel
theorem dX9_isAccurate_72 : decode cX9_isAccurate 72 = .ok (.lload_n 3, 1) := by decide +kernel
theorem dX9_isAccurate_73 : decode cX9_isAccurate 73 = .ok (.lconst 1, 1) := by decide +kernel
theorem dX9_isAccurate_74 : decode cX9_isAccurate 74 = .ok (.lsub, 1) := by decide +kernel
theorem dX9_isAccurate_75 : decode cX9_isAccurate 75 = .ok (.lmul, 1) := by decide +kernel
theorem dX9_isAccurate_76 : decode cX9_isAccurate 76 = .ok (.lcmp, 1) := by decide +kernel
theorem dX9_isAccurate_77 : decode cX9_isAccurate 77 = .ok (.ifCond .gt 7, 3) := by decide +kernel
theorem dX9_isAccurate_80 : decode cX9_isAccurate 80 = .ok (.iconst 1, 1) := by decide +kernel
theorem dX9_isAccurate_81 : decode cX9_isAccurate 81 = .ok (.goto 4, 3) := by decide +kernel
theorem dX9_isAccurate_84 : decode cX9_isAccurate 84 = .ok (.iconst 0, 1) := by decide +kernel
theorem dX9_isAccurate_85 : decode cX9_isAccurate 85 = .ok (.ireturn, 1) := by decide +kernel
theorem dX9_neededPlots_0 : decode cX9_neededPlots 0 = .ok (.aload_n 0, 1) := by decide +kernel
theorem dX9_neededPlots_1 : decode cX9_neededPlots 1 = .ok (.aload_n 0, 1) := by decide +kernel
theorem dX9_neededPlots_2 : decode cX9_neededPlots 2 = .ok (.iload_n 1, 1) := by decide +kernel
theorem dX9_neededPlots_3 : decode cX9_neededPlots 3 = .ok (.iload_n 2, 1) := by decide +kernel
theorem dX9_neededPlots_4 : decode cX9_neededPlots 4 = .ok (.invokevirtual 163, 3) := by decide +kernel
theorem dX9_neededPlots_7 : decode cX9_neededPlots 7 = .ok (.putfield 33, 3) := by decide +kernel
theorem dX9_neededPlots_10 : decode cX9_neededPlots 10 = .ok (.aload_n 0, 1) := by decide +kernel
theorem dX9_neededPlots_11 : decode cX9_neededPlots 11 = .ok (.getfield 33, 3) := by decide +kernel
theorem dX9_neededPlots_14 : decode cX9_neededPlots 14 = .ok (.ifCond .le 5, 3) := by decide +kernel
theorem dX9_neededPlots_17 : decode cX9_neededPlots 17 = .ok (.iconst 0, 1) := by decide +kernel
theorem dX9_neededPlots_18 : decode cX9_neededPlots 18 = .ok (.ireturn, 1) := by decide +kernel
theorem dX9_neededPlots_19 : decode cX9_neededPlots 19 = .ok (.aload_n 0, 1) := by decide +kernel
theorem dX9_neededPlots_20 : decode cX9_neededPlots 20 = .ok (.getfield 7, 3) := by decide +kernel
theorem dX9_neededPlots_23 : decode cX9_neededPlots 23 = .ok (.bipush 9, 2) := by decide +kernel
theorem dX9_neededPlots_25 : decode cX9_neededPlots 25 = .ok (.iaload, 1) := by decide +kernel
theorem dX9_neededPlots_26 : decode cX9_neededPlots 26 = .ok (.i2l, 1) := by decide +kernel
theorem dX9_neededPlots_27 : decode cX9_neededPlots 27 = .ok (.lstore_n 3, 1) := by decide +kernel
theorem dX9_neededPlots_28 : decode cX9_neededPlots 28 = .ok (.ldc2_w 166, 3) := by decide +kernel
theorem dX9_neededPlots_31 : decode cX9_neededPlots 31 = .ok (.aload_n 0, 1) := by decide +kernel
theorem dX9_neededPlots_32 : decode cX9_neededPlots 32 = .ok (.iload_n 1, 1) := by decide +kernel
theorem dX9_neededPlots_33 : decode cX9_neededPlots 33 = .ok (.invokevirtual 158, 3) := by decide +kernel
theorem dX9_neededPlots_36 : decode cX9_neededPlots 36 = .ok (.lmul, 1) := by decide +kernel
theorem dX9_neededPlots_37 : decode cX9_neededPlots 37 = .ok (.lload_n 3, 1) := by decide +kernel
theorem dX9_neededPlots_38 : decode cX9_neededPlots 38 = .ok (.lmul, 1) := by decide +kernel
theorem dX9_neededPlots_39 : decode cX9_neededPlots 39 = .ok (.lstore 5, 2) := by decide +kernel
theorem dX9_neededPlots_41 : decode cX9_neededPlots 41 = .ok (.iload_n 2, 1) := by decide +kernel
theorem dX9_neededPlots_42 : decode cX9_neededPlots 42 = .ok (.i2l, 1) := by decide +kernel
theorem dX9_neededPlots_43 : decode cX9_neededPlots 43 = .ok (.iload_n 2, 1) := by decide +kernel
theorem dX9_neededPlots_44 : decode cX9_neededPlots 44 = .ok (.i2l, 1) := by decide +kernel
theorem dX9_neededPlots_45 : decode cX9_neededPlots 45 = .ok (.lmul, 1) := by decide +kernel
theorem dX9_neededPlots_46 : decode cX9_neededPlots 46 = .ok (.aload_n 0, 1) := by decide +kernel
theorem dX9_neededPlots_47 : decode cX9_neededPlots 47 = .ok (.getfield 7, 3) := by decide +kernel
theorem dX9_neededPlots_50 : decode cX9_neededPlots 50 = .ok (.iconst 1, 1) := by decide +kernel
theorem dX9_neededPlots_51 : decode cX9_neededPlots 51 = .ok (.iaload, 1) := by decide +kernel
theorem dX9_neededPlots_52 : decode cX9_neededPlots 52 = .ok (.i2l, 1) := by decide +kernel
theorem dX9_neededPlots_53 : decode cX9_neededPlots 53 = .ok (.lmul, 1) := by decide +kernel
theorem dX9_neededPlots_54 : decode cX9_neededPlots 54 = .ok (.aload_n 0, 1) := by decide +kernel
theorem dX9_neededPlots_55 : decode cX9_neededPlots 55 = .ok (.iload_n 1, 1) := by decide +kernel
theorem dX9_neededPlots_56 : decode cX9_neededPlots 56 = .ok (.invokevirtual 143, 3) := by decide +kernel
theorem dX9_neededPlots_59 : decode cX9_neededPlots 59 = .ok (.lmul, 1) := by decide +kernel
theorem dX9_neededPlots_60 : decode cX9_neededPlots 60 = .ok (.aload_n 0, 1) := by decide +kernel
theorem dX9_neededPlots_61 : decode cX9_neededPlots 61 = .ok (.iload_n 1, 1) := by decide +kernel
theorem dX9_neededPlots_62 : decode cX9_neededPlots 62 = .ok (.invokevirtual 143, 3) := by decide +kernel
theorem dX9_neededPlots_65 : decode cX9_neededPlots 65 = .ok (.lmul, 1) := by decide +kernel
theorem dX9_neededPlots_66 : decode cX9_neededPlots 66 = .ok (.lload_n 3, 1) := by decide +kernel
theorem dX9_neededPlots_67 : decode cX9_neededPlots 67 = .ok (.lconst 1, 1) := by decide +kernel
theorem dX9_neededPlots_68 : decode cX9_neededPlots 68 = .ok (.lsub, 1) := by decide +kernel
theorem dX9_neededPlots_69 : decode cX9_neededPlots 69 = .ok (.lmul, 1) := by decide +kernel
theorem dX9_neededPlots_70 : decode cX9_neededPlots 70 = .ok (.lstore 7, 2) := by decide +kernel
theorem dX9_neededPlots_72 : decode cX9_neededPlots 72 = .ok (.iconst 1, 1) := by decide +kernel
theorem dX9_neededPlots_73 : decode cX9_neededPlots 73 = .ok (.istore 9, 2) := by decide +kernel
theorem dX9_neededPlots_75 : decode cX9_neededPlots 75 = .ok (.lload 5, 2) := by decide +kernel
theorem dX9_neededPlots_77 : decode cX9_neededPlots 77 = .ok (.aload_n 0, 1) := by decide +kernel
theorem dX9_neededPlots_78 : decode cX9_neededPlots 78 = .ok (.getfield 7, 3) := by decide +kernel
theorem dX9_neededPlots_81 : decode cX9_neededPlots 81 = .ok (.iconst 1, 1) := by decide +kernel
theorem dX9_neededPlots_82 : decode cX9_neededPlots 82 = .ok (.iaload, 1) := by decide +kernel
theorem dX9_neededPlots_83 : decode cX9_neededPlots 83 = .ok (.iload 9, 2) := by decide +kernel
theorem dX9_neededPlots_85 : decode cX9_neededPlots 85 = .ok (.isub, 1) := by decide +kernel
theorem dX9_neededPlots_86 : decode cX9_neededPlots 86 = .ok (.i2l, 1) := by decide +kernel
theorem dX9_neededPlots_87 : decode cX9_neededPlots 87 = .ok (.lmul, 1) := by decide +kernel
theorem dX9_neededPlots_88 : decode cX9_neededPlots 88 = .ok (.lload 7, 2) := by decide +kernel
theorem dX9_neededPlots_90 : decode cX9_neededPlots 90 = .ok (.iload 9, 2) := by decide +kernel
theorem dX9_neededPlots_92 : decode cX9_neededPlots 92 = .ok (.i2l, 1) := by decide +kernel
theorem dX9_neededPlots_93 : decode cX9_neededPlots 93 = .ok (.lmul, 1) := by decide +kernel
theorem dX9_neededPlots_94 : decode cX9_neededPlots 94 = .ok (.lcmp, 1) := by decide +kernel
theorem dX9_neededPlots_95 : decode cX9_neededPlots 95 = .ok (.ifCond .le 9, 3) := by decide +kernel
theorem dX9_neededPlots_98 : decode cX9_neededPlots 98 = .ok (.iinc 9 1, 3) := by decide +kernel
theorem dX9_neededPlots_101 : decode cX9_neededPlots 101 = .ok (.goto (-26), 3) := by decide +kernel
theorem dX9_neededPlots_104 : decode cX9_neededPlots 104 = .ok (.iload 9, 2) := by decide +kernel
theorem dX9_neededPlots_106 : decode cX9_neededPlots 106 = .ok (.ireturn, 1) := by decide +kernel
theorem dX9_mostInfluentialPlot_0 : decode cX9_mostInfluentialPlot 0 = .ok (.aload_n 0, 1) := by decide +kernel
theorem dX9_mostInfluentialPlot_1 : decode cX9_mostInfluentialPlot 1 = .ok (.aload_n 0, 1) := by decide +kernel
theorem dX9_mostInfluentialPlot_2 : decode cX9_mostInfluentialPlot 2 = .ok (.iload_n 1, 1) := by decide +kernel
theorem dX9_mostInfluentialPlot_3 : decode cX9_mostInfluentialPlot 3 = .ok (.invokevirtual 151, 3) := by decide +kernel
theorem dX9_mostInfluentialPlot_6 : decode cX9_mostInfluentialPlot 6 = .ok (.ifCond .ne 7, 3) := by decide +kernel
theorem dX9_mostInfluentialPlot_9 : decode cX9_mostInfluentialPlot 9 = .ok (.iconst 1, 1) := by decide +kernel
theorem dX9_mostInfluentialPlot_10 : decode cX9_mostInfluentialPlot 10 = .ok (.goto 19, 3) := by decide +kernel
theorem dX9_mostInfluentialPlot_13 : decode cX9_mostInfluentialPlot 13 = .ok (.aload_n 0, 1) := by decide +kernel
theorem dX9_mostInfluentialPlot_14 : decode cX9_mostInfluentialPlot 14 = .ok (.getfield 7, 3) := by decide +kernel
theorem dX9_mostInfluentialPlot_17 : decode cX9_mostInfluentialPlot 17 = .ok (.bipush 9, 2) := by decide +kernel
theorem dX9_mostInfluentialPlot_19 : decode cX9_mostInfluentialPlot 19 = .ok (.iaload, 1) := by decide +kernel
theorem dX9_mostInfluentialPlot_20 : decode cX9_mostInfluentialPlot 20 = .ok (.iconst 2, 1) := by decide +kernel
theorem dX9_mostInfluentialPlot_21 : decode cX9_mostInfluentialPlot 21 = .ok (.if_icmp .ge 7, 3) := by decide +kernel
theorem dX9_mostInfluentialPlot_24 : decode cX9_mostInfluentialPlot 24 = .ok (.iconst 2, 1) := by decide +kernel
theorem dX9_mostInfluentialPlot_25 : decode cX9_mostInfluentialPlot 25 = .ok (.goto 4, 3) := by decide +kernel
theorem dX9_mostInfluentialPlot_28 : decode cX9_mostInfluentialPlot 28 = .ok (.iconst 0, 1) := by decide +kernel
theorem dX9_mostInfluentialPlot_29 : decode cX9_mostInfluentialPlot 29 = .ok (.putfield 33, 3) := by decide +kernel
theorem dX9_mostInfluentialPlot_32 : decode cX9_mostInfluentialPlot 32 = .ok (.aload_n 0, 1) := by decide +kernel
theorem dX9_mostInfluentialPlot_33 : decode cX9_mostInfluentialPlot 33 = .ok (.getfield 33, 3) := by decide +kernel
theorem dX9_mostInfluentialPlot_36 : decode cX9_mostInfluentialPlot 36 = .ok (.ifCond .le 5, 3) := by decide +kernel
theorem dX9_mostInfluentialPlot_39 : decode cX9_mostInfluentialPlot 39 = .ok (.iconst 0, 1) := by decide +kernel
theorem dX9_mostInfluentialPlot_40 : decode cX9_mostInfluentialPlot 40 = .ok (.ireturn, 1) := by decide +kernel
theorem dX9_mostInfluentialPlot_41 : decode cX9_mostInfluentialPlot 41 = .ok (.iconst 0, 1) := by decide +kernel
theorem dX9_mostInfluentialPlot_42 : decode cX9_mostInfluentialPlot 42 = .ok (.istore_n 2, 1) := by decide +kernel
theorem dX9_mostInfluentialPlot_43 : decode cX9_mostInfluentialPlot 43 = .ok (.ldc2_w 168, 3) := by decide +kernel
theorem dX9_mostInfluentialPlot_46 : decode cX9_mostInfluentialPlot 46 = .ok (.lstore_n 3, 1) := by decide +kernel
theorem dX9_mostInfluentialPlot_47 : decode cX9_mostInfluentialPlot 47 = .ok (.iconst 0, 1) := by decide +kernel
theorem dX9_mostInfluentialPlot_48 : decode cX9_mostInfluentialPlot 48 = .ok (.istore 5, 2) := by decide +kernel
theorem dX9_mostInfluentialPlot_50 : decode cX9_mostInfluentialPlot 50 = .ok (.iload 5, 2) := by decide +kernel
theorem dX9_mostInfluentialPlot_52 : decode cX9_mostInfluentialPlot 52 = .ok (.aload_n 0, 1) := by decide +kernel
theorem dX9_mostInfluentialPlot_53 : decode cX9_mostInfluentialPlot 53 = .ok (.getfield 7, 3) := by decide +kernel
theorem dX9_mostInfluentialPlot_56 : decode cX9_mostInfluentialPlot 56 = .ok (.bipush 9, 2) := by decide +kernel
theorem dX9_mostInfluentialPlot_58 : decode cX9_mostInfluentialPlot 58 = .ok (.iaload, 1) := by decide +kernel
theorem dX9_mostInfluentialPlot_59 : decode cX9_mostInfluentialPlot 59 = .ok (.if_icmp .ge 67, 3) := by decide +kernel
theorem dX9_mostInfluentialPlot_62 : decode cX9_mostInfluentialPlot 62 = .ok (.aload_n 0, 1) := by decide +kernel
theorem dX9_mostInfluentialPlot_63 : decode cX9_mostInfluentialPlot 63 = .ok (.getfield 7, 3) := by decide +kernel
theorem dX9_mostInfluentialPlot_66 : decode cX9_mostInfluentialPlot 66 = .ok (.bipush 9, 2) := by decide +kernel
theorem dX9_mostInfluentialPlot_68 : decode cX9_mostInfluentialPlot 68 = .ok (.iaload, 1) := by decide +kernel
theorem dX9_mostInfluentialPlot_69 : decode cX9_mostInfluentialPlot 69 = .ok (.i2l, 1) := by decide +kernel
theorem dX9_mostInfluentialPlot_70 : decode cX9_mostInfluentialPlot 70 = .ok (.aload_n 0, 1) := by decide +kernel
theorem dX9_mostInfluentialPlot_71 : decode cX9_mostInfluentialPlot 71 = .ok (.iload 5, 2) := by decide +kernel
theorem dX9_mostInfluentialPlot_73 : decode cX9_mostInfluentialPlot 73 = .ok (.iload_n 1, 1) := by decide +kernel
theorem dX9_mostInfluentialPlot_74 : decode cX9_mostInfluentialPlot 74 = .ok (.invokevirtual 140, 3) := by decide +kernel
theorem dX9_mostInfluentialPlot_77 : decode cX9_mostInfluentialPlot 77 = .ok (.i2l, 1) := by decide +kernel
theorem dX9_mostInfluentialPlot_78 : decode cX9_mostInfluentialPlot 78 = .ok (.lmul, 1) := by decide +kernel
theorem dX9_mostInfluentialPlot_79 : decode cX9_mostInfluentialPlot 79 = .ok (.aload_n 0, 1) := by decide +kernel
theorem dX9_mostInfluentialPlot_80 : decode cX9_mostInfluentialPlot 80 = .ok (.iload_n 1, 1) := by decide +kernel
theorem dX9_mostInfluentialPlot_81 : decode cX9_mostInfluentialPlot 81 = .ok (.invokevirtual 143, 3) := by decide +kernel
theorem dX9_mostInfluentialPlot_84 : decode cX9_mostInfluentialPlot 84 = .ok (.lsub, 1) := by decide +kernel
theorem dX9_mostInfluentialPlot_85 : decode cX9_mostInfluentialPlot 85 = .ok (.lstore 6, 2) := by decide +kernel
theorem dX9_mostInfluentialPlot_87 : decode cX9_mostInfluentialPlot 87 = .ok (.lload 6, 2) := by decide +kernel
theorem dX9_mostInfluentialPlot_89 : decode cX9_mostInfluentialPlot 89 = .ok (.lconst 0, 1) := by decide +kernel
theorem dX9_mostInfluentialPlot_90 : decode cX9_mostInfluentialPlot 90 = .ok (.lcmp, 1) := by decide +kernel
theorem dX9_mostInfluentialPlot_91 : decode cX9_mostInfluentialPlot 91 = .ok (.ifCond .ge 9, 3) := by decide +kernel
theorem dX9_mostInfluentialPlot_94 : decode cX9_mostInfluentialPlot 94 = .ok (.lload 6, 2) := by decide +kernel
theorem dX9_mostInfluentialPlot_96 : decode cX9_mostInfluentialPlot 96 = .ok (.lneg, 1) := by decide +kernel
theorem dX9_mostInfluentialPlot_97 : decode cX9_mostInfluentialPlot 97 = .ok (.goto 5, 3) := by decide +kernel
theorem dX9_mostInfluentialPlot_100 : decode cX9_mostInfluentialPlot 100 = .ok (.lload 6, 2) := by decide +kernel
theorem dX9_mostInfluentialPlot_102 : decode cX9_mostInfluentialPlot 102 = .ok (.lstore 6, 2) := by decide +kernel
theorem dX9_mostInfluentialPlot_104 : decode cX9_mostInfluentialPlot 104 = .ok (.lload 6, 2) := by decide +kernel
theorem dX9_mostInfluentialPlot_106 : decode cX9_mostInfluentialPlot 106 = .ok (.lload_n 3, 1) := by decide +kernel
theorem dX9_mostInfluentialPlot_107 : decode cX9_mostInfluentialPlot 107 = .ok (.lcmp, 1) := by decide +kernel
theorem dX9_mostInfluentialPlot_108 : decode cX9_mostInfluentialPlot 108 = .ok (.ifCond .gt 6, 3) := by decide +kernel
theorem dX9_mostInfluentialPlot_111 : decode cX9_mostInfluentialPlot 111 = .ok (.goto 9, 3) := by decide +kernel
theorem dX9_mostInfluentialPlot_114 : decode cX9_mostInfluentialPlot 114 = .ok (.iload 5, 2) := by decide +kernel
theorem dX9_mostInfluentialPlot_116 : decode cX9_mostInfluentialPlot 116 = .ok (.istore_n 2, 1) := by decide +kernel
theorem dX9_mostInfluentialPlot_117 : decode cX9_mostInfluentialPlot 117 = .ok (.lload 6, 2) := by decide +kernel
theorem dX9_mostInfluentialPlot_119 : decode cX9_mostInfluentialPlot 119 = .ok (.lstore_n 3, 1) := by decide +kernel
theorem dX9_mostInfluentialPlot_120 : decode cX9_mostInfluentialPlot 120 = .ok (.iinc 5 1, 3) := by decide +kernel
theorem dX9_mostInfluentialPlot_123 : decode cX9_mostInfluentialPlot 123 = .ok (.goto (-73), 3) := by decide +kernel
theorem dX9_mostInfluentialPlot_126 : decode cX9_mostInfluentialPlot 126 = .ok (.iload_n 2, 1) := by decide +kernel
theorem dX9_mostInfluentialPlot_127 : decode cX9_mostInfluentialPlot 127 = .ok (.ireturn, 1) := by decide +kernel
theorem dX9_isSecond_0 : decode cX9_isSecond 0 = .ok (.aload_n 0, 1) := by decide +kernel
theorem dX9_isSecond_1 : decode cX9_isSecond 1 = .ok (.getfield 7, 3) := by decide +kernel
theorem dX9_isSecond_4 : decode cX9_isSecond 4 = .ok (.iconst 0, 1) := by decide +kernel
theorem dX9_isSecond_5 : decode cX9_isSecond 5 = .ok (.iaload, 1) := by decide +kernel
theorem dX9_isSecond_6 : decode cX9_isSecond 6 = .ok (.bipush 6, 2) := by decide +kernel
theorem dX9_isSecond_8 : decode cX9_isSecond 8 = .ok (.if_icmp .lt 7, 3) := by decide +kernel
theorem dX9_isSecond_11 : decode cX9_isSecond 11 = .ok (.iconst 1, 1) := by decide +kernel
theorem dX9_isSecond_12 : decode cX9_isSecond 12 = .ok (.goto 4, 3) := by decide +kernel
theorem dX9_isSecond_15 : decode cX9_isSecond 15 = .ok (.iconst 0, 1) := by decide +kernel
theorem dX9_isSecond_16 : decode cX9_isSecond 16 = .ok (.ireturn, 1) := by decide +kernel
theorem dX9_volumeAt_0 : decode cX9_volumeAt 0 = .ok (.aload_n 0, 1) := by decide +kernel
theorem dX9_volumeAt_1 : decode cX9_volumeAt 1 = .ok (.getfield 7, 3) := by decide +kernel
theorem dX9_volumeAt_4 : decode cX9_volumeAt 4 = .ok (.aload_n 0, 1) := by decide +kernel
theorem dX9_volumeAt_5 : decode cX9_volumeAt 5 = .ok (.invokevirtual 170, 3) := by decide +kernel
theorem dX9_volumeAt_8 : decode cX9_volumeAt 8 = .ok (.ifCond .eq 8, 3) := by decide +kernel
theorem dX9_volumeAt_11 : decode cX9_volumeAt 11 = .ok (.bipush 38, 2) := by decide +kernel
theorem dX9_volumeAt_13 : decode cX9_volumeAt 13 = .ok (.goto 5, 3) := by decide +kernel
theorem dX9_volumeAt_16 : decode cX9_volumeAt 16 = .ok (.bipush 32, 2) := by decide +kernel
theorem dX9_volumeAt_18 : decode cX9_volumeAt 18 = .ok (.iload_n 1, 1) := by decide +kernel
theorem dX9_volumeAt_19 : decode cX9_volumeAt 19 = .ok (.iadd, 1) := by decide +kernel
theorem dX9_volumeAt_20 : decode cX9_volumeAt 20 = .ok (.iaload, 1) := by decide +kernel
theorem dX9_volumeAt_21 : decode cX9_volumeAt 21 = .ok (.ireturn, 1) := by decide +kernel
theorem dX9_advertise_0 : decode cX9_advertise 0 = .ok (.aload_n 0, 1) := by decide +kernel
theorem dX9_advertise_1 : decode cX9_advertise 1 = .ok (.aload_n 0, 1) := by decide +kernel
theorem dX9_advertise_2 : decode cX9_advertise 2 = .ok (.getfield 7, 3) := by decide +kernel
theorem dX9_advertise_5 : decode cX9_advertise 5 = .ok (.iconst 0, 1) := by decide +kernel
theorem dX9_advertise_6 : decode cX9_advertise 6 = .ok (.iaload, 1) := by decide +kernel
theorem dX9_advertise_7 : decode cX9_advertise 7 = .ok (.ifCond .eq 13, 3) := by decide +kernel
theorem dX9_advertise_10 : decode cX9_advertise 10 = .ok (.aload_n 0, 1) := by decide +kernel
theorem dX9_advertise_11 : decode cX9_advertise 11 = .ok (.getfield 7, 3) := by decide +kernel
theorem dX9_advertise_14 : decode cX9_advertise 14 = .ok (.iconst 0, 1) := by decide +kernel
theorem dX9_advertise_15 : decode cX9_advertise 15 = .ok (.iaload, 1) := by decide +kernel
theorem dX9_advertise_16 : decode cX9_advertise 16 = .ok (.iconst 5, 1) := by decide +kernel
theorem dX9_advertise_17 : decode cX9_advertise 17 = .ok (.if_icmp .ne 13, 3) := by decide +kernel
theorem dX9_advertise_20 : decode cX9_advertise 20 = .ok (.aload_n 0, 1) := by decide +kernel
theorem dX9_advertise_21 : decode cX9_advertise 21 = .ok (.getfield 7, 3) := by decide +kernel
theorem dX9_advertise_24 : decode cX9_advertise 24 = .ok (.bipush 8, 2) := by decide +kernel
theorem dX9_advertise_26 : decode cX9_advertise 26 = .ok (.iaload, 1) := by decide +kernel
theorem dX9_advertise_27 : decode cX9_advertise 27 = .ok (.ifCond .ne 7, 3) := by decide +kernel
theorem dX9_advertise_30 : decode cX9_advertise 30 = .ok (.iconst 1, 1) := by decide +kernel
theorem dX9_advertise_31 : decode cX9_advertise 31 = .ok (.goto 4, 3) := by decide +kernel
theorem dX9_advertise_34 : decode cX9_advertise 34 = .ok (.iconst 0, 1) := by decide +kernel
theorem dX9_advertise_35 : decode cX9_advertise 35 = .ok (.putfield 33, 3) := by decide +kernel
theorem dX9_advertise_38 : decode cX9_advertise 38 = .ok (.aload_n 0, 1) := by decide +kernel
theorem dX9_advertise_39 : decode cX9_advertise 39 = .ok (.getfield 33, 3) := by decide +kernel
theorem dX9_advertise_42 : decode cX9_advertise 42 = .ok (.ifCond .le 5, 3) := by decide +kernel
theorem dX9_advertise_45 : decode cX9_advertise 45 = .ok (.iconst 0, 1) := by decide +kernel
theorem dX9_advertise_46 : decode cX9_advertise 46 = .ok (.ireturn, 1) := by decide +kernel
theorem dX9_advertise_47 : decode cX9_advertise 47 = .ok (.aload_n 0, 1) := by decide +kernel
theorem dX9_advertise_48 : decode cX9_advertise 48 = .ok (.invokevirtual 128, 3) := by decide +kernel
theorem dX9_advertise_51 : decode cX9_advertise 51 = .ok (.aload_n 0, 1) := by decide +kernel
theorem dX9_advertise_52 : decode cX9_advertise 52 = .ok (.getfield 7, 3) := by decide +kernel
theorem dX9_advertise_55 : decode cX9_advertise 55 = .ok (.iconst 0, 1) := by decide +kernel
theorem dX9_advertise_56 : decode cX9_advertise 56 = .ok (.iaload, 1) := by decide +kernel
theorem dX9_advertise_57 : decode cX9_advertise 57 = .ok (.iconst 5, 1) := by decide +kernel
theorem dX9_advertise_58 : decode cX9_advertise 58 = .ok (.if_icmp .ne 7, 3) := by decide +kernel
theorem dX9_advertise_61 : decode cX9_advertise 61 = .ok (.iconst 1, 1) := by decide +kernel
theorem dX9_advertise_62 : decode cX9_advertise 62 = .ok (.goto 4, 3) := by decide +kernel
theorem dX9_advertise_65 : decode cX9_advertise 65 = .ok (.iconst 0, 1) := by decide +kernel
theorem dX9_advertise_66 : decode cX9_advertise 66 = .ok (.istore_n 1, 1) := by decide +kernel
theorem dX9_advertise_67 : decode cX9_advertise 67 = .ok (.iconst 0, 1) := by decide +kernel
theorem dX9_advertise_68 : decode cX9_advertise 68 = .ok (.istore_n 2, 1) := by decide +kernel
theorem dX9_advertise_69 : decode cX9_advertise 69 = .ok (.iconst 0, 1) := by decide +kernel
theorem dX9_advertise_70 : decode cX9_advertise 70 = .ok (.istore_n 3, 1) := by decide +kernel
theorem dX9_advertise_71 : decode cX9_advertise 71 = .ok (.iload_n 3, 1) := by decide +kernel
theorem dX9_advertise_72 : decode cX9_advertise 72 = .ok (.aload_n 0, 1) := by decide +kernel
theorem dX9_advertise_73 : decode cX9_advertise 73 = .ok (.getfield 7, 3) := by decide +kernel
theorem dX9_advertise_76 : decode cX9_advertise 76 = .ok (.bipush 8, 2) := by decide +kernel
theorem dX9_advertise_78 : decode cX9_advertise 78 = .ok (.iaload, 1) := by decide +kernel
theorem dX9_advertise_79 : decode cX9_advertise 79 = .ok (.if_icmp .ge 85, 3) := by decide +kernel
theorem dX9_advertise_82 : decode cX9_advertise 82 = .ok (.iload_n 1, 1) := by decide +kernel
theorem dX9_advertise_83 : decode cX9_advertise 83 = .ok (.ifCond .eq 11, 3) := by decide +kernel
theorem dX9_advertise_86 : decode cX9_advertise 86 = .ok (.aload_n 0, 1) := by decide +kernel
theorem dX9_advertise_87 : decode cX9_advertise 87 = .ok (.iload_n 3, 1) := by decide +kernel
theorem dX9_advertise_88 : decode cX9_advertise 88 = .ok (.invokevirtual 174, 3) := by decide +kernel
theorem dX9_advertise_91 : decode cX9_advertise 91 = .ok (.goto 40, 3) := by decide +kernel
theorem dX9_advertise_94 : decode cX9_advertise 94 = .ok (.aload_n 0, 1) := by decide +kernel
theorem dX9_advertise_95 : decode cX9_advertise 95 = .ok (.getfield 7, 3) := by decide +kernel
theorem dX9_advertise_98 : decode cX9_advertise 98 = .ok (.bipush 9, 2) := by decide +kernel
theorem dX9_advertise_100 : decode cX9_advertise 100 = .ok (.iaload, 1) := by decide +kernel
theorem dX9_advertise_101 : decode cX9_advertise 101 = .ok (.ifCond .ne 7, 3) := by decide +kernel
theorem dX9_advertise_104 : decode cX9_advertise 104 = .ok (.iconst 0, 1) := by decide +kernel
theorem dX9_advertise_105 : decode cX9_advertise 105 = .ok (.goto 26, 3) := by decide +kernel
theorem dX9_advertise_108 : decode cX9_advertise 108 = .ok (.aload_n 0, 1) := by decide +kernel
theorem dX9_advertise_109 : decode cX9_advertise 109 = .ok (.getfield 7, 3) := by decide +kernel
theorem dX9_advertise_112 : decode cX9_advertise 112 = .ok (.iconst 1, 1) := by decide +kernel
theorem dX9_advertise_113 : decode cX9_advertise 113 = .ok (.iaload, 1) := by decide +kernel
theorem dX9_advertise_114 : decode cX9_advertise 114 = .ok (.i2l, 1) := by decide +kernel
theorem dX9_advertise_115 : decode cX9_advertise 115 = .ok (.aload_n 0, 1) := by decide +kernel
theorem dX9_advertise_116 : decode cX9_advertise 116 = .ok (.iload_n 3, 1) := by decide +kernel
theorem dX9_advertise_117 : decode cX9_advertise 117 = .ok (.invokevirtual 143, 3) := by decide +kernel
theorem dX9_advertise_120 : decode cX9_advertise 120 = .ok (.lmul, 1) := by decide +kernel
theorem dX9_advertise_121 : decode cX9_advertise 121 = .ok (.aload_n 0, 1) := by decide +kernel
theorem dX9_advertise_122 : decode cX9_advertise 122 = .ok (.getfield 7, 3) := by decide +kernel
theorem dX9_advertise_125 : decode cX9_advertise 125 = .ok (.bipush 9, 2) := by decide +kernel
theorem dX9_advertise_127 : decode cX9_advertise 127 = .ok (.iaload, 1) := by decide +kernel
theorem dX9_advertise_128 : decode cX9_advertise 128 = .ok (.i2l, 1) := by decide +kernel
theorem dX9_advertise_129 : decode cX9_advertise 129 = .ok (.ldiv, 1) := by decide +kernel
theorem dX9_advertise_130 : decode cX9_advertise 130 = .ok (.l2i, 1) := by decide +kernel
theorem dX9_advertise_131 : decode cX9_advertise 131 = .ok (.istore 4, 2) := by decide +kernel
theorem dX9_advertise_133 : decode cX9_advertise 133 = .ok (.aload_n 0, 1) := by decide +kernel
theorem dX9_advertise_134 : decode cX9_advertise 134 = .ok (.getfield 7, 3) := by decide +kernel
theorem dX9_advertise_137 : decode cX9_advertise 137 = .ok (.iload_n 1, 1) := by decide +kernel
theorem dX9_advertise_138 : decode cX9_advertise 138 = .ok (.ifCond .eq 8, 3) := by decide +kernel
theorem dX9_advertise_141 : decode cX9_advertise 141 = .ok (.bipush 38, 2) := by decide +kernel
theorem dX9_advertise_143 : decode cX9_advertise 143 = .ok (.goto 5, 3) := by decide +kernel
theorem dX9_advertise_146 : decode cX9_advertise 146 = .ok (.bipush 32, 2) := by decide +kernel
theorem dX9_advertise_148 : decode cX9_advertise 148 = .ok (.iload_n 3, 1) := by decide +kernel
theorem dX9_advertise_149 : decode cX9_advertise 149 = .ok (.iadd, 1) := by decide +kernel
theorem dX9_advertise_150 : decode cX9_advertise 150 = .ok (.iload 4, 2) := by decide +kernel
theorem dX9_advertise_152 : decode cX9_advertise 152 = .ok (.iastore, 1) := by decide +kernel
theorem dX9_advertise_153 : decode cX9_advertise 153 = .ok (.iload_n 2, 1) := by decide +kernel
theorem dX9_advertise_154 : decode cX9_advertise 154 = .ok (.iload 4, 2) := by decide +kernel
theorem dX9_advertise_156 : decode cX9_advertise 156 = .ok (.iadd, 1) := by decide +kernel
theorem dX9_advertise_157 : decode cX9_advertise 157 = .ok (.istore_n 2, 1) := by decide +kernel
theorem dX9_advertise_158 : decode cX9_advertise 158 = .ok (.iinc 3 1, 3) := by decide +kernel
theorem dX9_advertise_161 : decode cX9_advertise 161 = .ok (.goto (-90), 3) := by decide +kernel
theorem dX9_advertise_164 : decode cX9_advertise 164 = .ok (.iconst 0, 1) := by decide +kernel
theorem dX9_advertise_165 : decode cX9_advertise 165 = .ok (.istore_n 3, 1) := by decide +kernel
theorem dX9_advertise_166 : decode cX9_advertise 166 = .ok (.iload_n 3, 1) := by decide +kernel
theorem dX9_advertise_167 : decode cX9_advertise 167 = .ok (.bipush 64, 2) := by decide +kernel
theorem dX9_advertise_169 : decode cX9_advertise 169 = .ok (.if_icmp .ge 20, 3) := by decide +kernel
theorem dX9_advertise_172 : decode cX9_advertise 172 = .ok (.aload_n 0, 1) := by decide +kernel
theorem dX9_advertise_173 : decode cX9_advertise 173 = .ok (.getfield 7, 3) := by decide +kernel
theorem dX9_advertise_176 : decode cX9_advertise 176 = .ok (.sipush 224, 3) := by decide +kernel
theorem dX9_advertise_179 : decode cX9_advertise 179 = .ok (.iload_n 3, 1) := by decide +kernel
theorem dX9_advertise_180 : decode cX9_advertise 180 = .ok (.iadd, 1) := by decide +kernel
theorem dX9_advertise_181 : decode cX9_advertise 181 = .ok (.iconst 0, 1) := by decide +kernel
theorem dX9_advertise_182 : decode cX9_advertise 182 = .ok (.iastore, 1) := by decide +kernel
theorem dX9_advertise_183 : decode cX9_advertise 183 = .ok (.iinc 3 1, 3) := by decide +kernel
theorem dX9_advertise_186 : decode cX9_advertise 186 = .ok (.goto (-20), 3) := by decide +kernel
theorem dX9_advertise_189 : decode cX9_advertise 189 = .ok (.aload_n 0, 1) := by decide +kernel
theorem dX9_advertise_190 : decode cX9_advertise 190 = .ok (.getfield 7, 3) := by decide +kernel
theorem dX9_advertise_193 : decode cX9_advertise 193 = .ok (.bipush 10, 2) := by decide +kernel
theorem dX9_advertise_195 : decode cX9_advertise 195 = .ok (.iconst 0, 1) := by decide +kernel
theorem dX9_advertise_196 : decode cX9_advertise 196 = .ok (.iastore, 1) := by decide +kernel
theorem dX9_advertise_197 : decode cX9_advertise 197 = .ok (.aload_n 0, 1) := by decide +kernel
theorem dX9_advertise_198 : decode cX9_advertise 198 = .ok (.getfield 7, 3) := by decide +kernel
theorem dX9_advertise_201 : decode cX9_advertise 201 = .ok (.iconst 0, 1) := by decide +kernel
theorem dX9_advertise_202 : decode cX9_advertise 202 = .ok (.iload_n 1, 1) := by decide +kernel
theorem dX9_advertise_203 : decode cX9_advertise 203 = .ok (.ifCond .eq 8, 3) := by decide +kernel
theorem dX9_advertise_206 : decode cX9_advertise 206 = .ok (.bipush 6, 2) := by decide +kernel
theorem dX9_advertise_208 : decode cX9_advertise 208 = .ok (.goto 4, 3) := by decide +kernel
theorem dX9_advertise_211 : decode cX9_advertise 211 = .ok (.iconst 1, 1) := by decide +kernel
theorem dX9_advertise_212 : decode cX9_advertise 212 = .ok (.iastore, 1) := by decide +kernel
theorem dX9_advertise_213 : decode cX9_advertise 213 = .ok (.iload_n 2, 1) := by decide +kernel
theorem dX9_advertise_214 : decode cX9_advertise 214 = .ok (.ireturn, 1) := by decide +kernel
theorem dX9_volume_0 : decode cX9_volume 0 = .ok (.aload_n 0, 1) := by decide +kernel
theorem dX9_volume_1 : decode cX9_volume 1 = .ok (.aload_n 0, 1) := by decide +kernel
theorem dX9_volume_2 : decode cX9_volume 2 = .ok (.iload_n 1, 1) := by decide +kernel
theorem dX9_volume_3 : decode cX9_volume 3 = .ok (.invokevirtual 137, 3) := by decide +kernel
theorem dX9_volume_6 : decode cX9_volume 6 = .ok (.ifCond .ne 7, 3) := by decide +kernel
theorem dX9_volume_9 : decode cX9_volume 9 = .ok (.iconst 1, 1) := by decide +kernel
theorem dX9_volume_10 : decode cX9_volume 10 = .ok (.goto 17, 3) := by decide +kernel
theorem dX9_volume_13 : decode cX9_volume 13 = .ok (.aload_n 0, 1) := by decide +kernel
theorem dX9_volume_14 : decode cX9_volume 14 = .ok (.getfield 7, 3) := by decide +kernel
theorem dX9_volume_17 : decode cX9_volume 17 = .ok (.iconst 0, 1) := by decide +kernel
theorem dX9_volume_18 : decode cX9_volume 18 = .ok (.iaload, 1) := by decide +kernel
theorem dX9_volume_19 : decode cX9_volume 19 = .ok (.ifCond .ne 7, 3) := by decide +kernel
theorem dX9_volume_22 : decode cX9_volume 22 = .ok (.iconst 2, 1) := by decide +kernel
theorem dX9_volume_23 : decode cX9_volume 23 = .ok (.goto 4, 3) := by decide +kernel
theorem dX9_volume_26 : decode cX9_volume 26 = .ok (.iconst 0, 1) := by decide +kernel
theorem dX9_volume_27 : decode cX9_volume 27 = .ok (.putfield 33, 3) := by decide +kernel
theorem dX9_volume_30 : decode cX9_volume 30 = .ok (.aload_n 0, 1) := by decide +kernel
theorem dX9_volume_31 : decode cX9_volume 31 = .ok (.getfield 33, 3) := by decide +kernel
theorem dX9_volume_34 : decode cX9_volume 34 = .ok (.ifCond .le 7, 3) := by decide +kernel
theorem dX9_volume_37 : decode cX9_volume 37 = .ok (.iconst 0, 1) := by decide +kernel
theorem dX9_volume_38 : decode cX9_volume 38 = .ok (.goto 8, 3) := by decide +kernel
theorem dX9_volume_41 : decode cX9_volume 41 = .ok (.aload_n 0, 1) := by decide +kernel
theorem dX9_volume_42 : decode cX9_volume 42 = .ok (.iload_n 1, 1) := by decide +kernel
theorem dX9_volume_43 : decode cX9_volume 43 = .ok (.invokevirtual 177, 3) := by decide +kernel
theorem dX9_volume_46 : decode cX9_volume 46 = .ok (.ireturn, 1) := by decide +kernel
theorem dX9_isBidder_0 : decode cX9_isBidder 0 = .ok (.iload_n 0, 1) := by decide +kernel
theorem dX9_isBidder_1 : decode cX9_isBidder 1 = .ok (.i2l, 1) := by decide +kernel
theorem dX9_isBidder_2 : decode cX9_isBidder 2 = .ok (.lconst 0, 1) := by decide +kernel
theorem dX9_isBidder_3 : decode cX9_isBidder 3 = .ok (.ldc2_w 180, 3) := by decide +kernel
theorem dX9_isBidder_6 : decode cX9_isBidder 6 = .ok (.invokestatic 74, 3) := by decide +kernel
theorem dX9_isBidder_9 : decode cX9_isBidder 9 = .ok (.ireturn, 1) := by decide +kernel
theorem dX9_isBidding_0 : decode cX9_isBidding 0 = .ok (.aload_n 0, 1) := by decide +kernel
theorem dX9_isBidding_1 : decode cX9_isBidding 1 = .ok (.getfield 7, 3) := by decide +kernel
theorem dX9_isBidding_4 : decode cX9_isBidding 4 = .ok (.iconst 0, 1) := by decide +kernel
theorem dX9_isBidding_5 : decode cX9_isBidding 5 = .ok (.iaload, 1) := by decide +kernel
theorem dX9_isBidding_6 : decode cX9_isBidding 6 = .ok (.iconst 1, 1) := by decide +kernel
theorem dX9_isBidding_7 : decode cX9_isBidding 7 = .ok (.if_icmp .eq 14, 3) := by decide +kernel
theorem dX9_isBidding_10 : decode cX9_isBidding 10 = .ok (.aload_n 0, 1) := by decide +kernel
theorem dX9_isBidding_11 : decode cX9_isBidding 11 = .ok (.getfield 7, 3) := by decide +kernel
theorem dX9_isBidding_14 : decode cX9_isBidding 14 = .ok (.iconst 0, 1) := by decide +kernel
theorem dX9_isBidding_15 : decode cX9_isBidding 15 = .ok (.iaload, 1) := by decide +kernel
theorem dX9_isBidding_16 : decode cX9_isBidding 16 = .ok (.bipush 6, 2) := by decide +kernel
theorem dX9_isBidding_18 : decode cX9_isBidding 18 = .ok (.if_icmp .ne 7, 3) := by decide +kernel
theorem dX9_isBidding_21 : decode cX9_isBidding 21 = .ok (.iconst 1, 1) := by decide +kernel
theorem dX9_isBidding_22 : decode cX9_isBidding 22 = .ok (.goto 4, 3) := by decide +kernel
theorem dX9_isBidding_25 : decode cX9_isBidding 25 = .ok (.iconst 0, 1) := by decide +kernel
theorem dX9_isBidding_26 : decode cX9_isBidding 26 = .ok (.ireturn, 1) := by decide +kernel
theorem dX9_ofBid_0 : decode cX9_ofBid 0 = .ok (.aload_n 0, 1) := by decide +kernel
theorem dX9_ofBid_1 : decode cX9_ofBid 1 = .ok (.getfield 7, 3) := by decide +kernel
theorem dX9_ofBid_4 : decode cX9_ofBid 4 = .ok (.sipush 224, 3) := by decide +kernel
theorem dX9_ofBid_7 : decode cX9_ofBid 7 = .ok (.bipush 8, 2) := by decide +kernel
theorem dX9_ofBid_9 : decode cX9_ofBid 9 = .ok (.iload_n 1, 1) := by decide +kernel
theorem dX9_ofBid_10 : decode cX9_ofBid 10 = .ok (.imul, 1) := by decide +kernel
theorem dX9_ofBid_11 : decode cX9_ofBid 11 = .ok (.iadd, 1) := by decide +kernel
theorem dX9_ofBid_12 : decode cX9_ofBid 12 = .ok (.iload_n 2, 1) := by decide +kernel
theorem dX9_ofBid_13 : decode cX9_ofBid 13 = .ok (.iadd, 1) := by decide +kernel
theorem dX9_ofBid_14 : decode cX9_ofBid 14 = .ok (.iaload, 1) := by decide +kernel
theorem dX9_ofBid_15 : decode cX9_ofBid 15 = .ok (.ireturn, 1) := by decide +kernel
theorem dX9_isSealed_0 : decode cX9_isSealed 0 = .ok (.aload_n 0, 1) := by decide +kernel
theorem dX9_isSealed_1 : decode cX9_isSealed 1 = .ok (.iload_n 1, 1) := by decide +kernel
theorem dX9_isSealed_2 : decode cX9_isSealed 2 = .ok (.bipush 7, 2) := by decide +kernel
theorem dX9_isSealed_4 : decode cX9_isSealed 4 = .ok (.invokevirtual 182, 3) := by decide +kernel
theorem dX9_isSealed_7 : decode cX9_isSealed 7 = .ok (.ifCond .le 7, 3) := by decide +kernel
theorem dX9_isSealed_10 : decode cX9_isSealed 10 = .ok (.iconst 1, 1) := by decide +kernel
theorem dX9_isSealed_11 : decode cX9_isSealed 11 = .ok (.goto 4, 3) := by decide +kernel
theorem dX9_isSealed_14 : decode cX9_isSealed 14 = .ok (.iconst 0, 1) := by decide +kernel
theorem dX9_isSealed_15 : decode cX9_isSealed 15 = .ok (.ireturn, 1) := by decide +kernel
theorem dX9_setsBid_0 : decode cX9_setsBid 0 = .ok (.aload_n 0, 1) := by decide +kernel
theorem dX9_setsBid_1 : decode cX9_setsBid 1 = .ok (.invokevirtual 128, 3) := by decide +kernel
theorem dX9_setsBid_4 : decode cX9_setsBid 4 = .ok (.aload_n 0, 1) := by decide +kernel
theorem dX9_setsBid_5 : decode cX9_setsBid 5 = .ok (.iload_n 1, 1) := by decide +kernel
theorem dX9_setsBid_6 : decode cX9_setsBid 6 = .ok (.iload_n 2, 1) := by decide +kernel
theorem dX9_setsBid_7 : decode cX9_setsBid 7 = .ok (.invokevirtual 182, 3) := by decide +kernel
theorem dX9_setsBid_10 : decode cX9_setsBid 10 = .ok (.istore 4, 2) := by decide +kernel
theorem dX9_setsBid_12 : decode cX9_setsBid 12 = .ok (.aload_n 0, 1) := by decide +kernel
theorem dX9_setsBid_13 : decode cX9_setsBid 13 = .ok (.getfield 7, 3) := by decide +kernel
theorem dX9_setsBid_16 : decode cX9_setsBid 16 = .ok (.sipush 224, 3) := by decide +kernel
theorem dX9_setsBid_19 : decode cX9_setsBid 19 = .ok (.bipush 8, 2) := by decide +kernel
theorem dX9_setsBid_21 : decode cX9_setsBid 21 = .ok (.iload_n 1, 1) := by decide +kernel
theorem dX9_setsBid_22 : decode cX9_setsBid 22 = .ok (.imul, 1) := by decide +kernel
theorem dX9_setsBid_23 : decode cX9_setsBid 23 = .ok (.iadd, 1) := by decide +kernel
theorem dX9_setsBid_24 : decode cX9_setsBid 24 = .ok (.iload_n 2, 1) := by decide +kernel
theorem dX9_setsBid_25 : decode cX9_setsBid 25 = .ok (.iadd, 1) := by decide +kernel
theorem dX9_setsBid_26 : decode cX9_setsBid 26 = .ok (.iload_n 3, 1) := by decide +kernel
theorem dX9_setsBid_27 : decode cX9_setsBid 27 = .ok (.iastore, 1) := by decide +kernel
theorem dX9_setsBid_28 : decode cX9_setsBid 28 = .ok (.iload 4, 2) := by decide +kernel
theorem dX9_setsBid_30 : decode cX9_setsBid 30 = .ok (.ireturn, 1) := by decide +kernel
theorem dX9_offer_0 : decode cX9_offer 0 = .ok (.aload_n 0, 1) := by decide +kernel
theorem dX9_offer_1 : decode cX9_offer 1 = .ok (.iload_n 1, 1) := by decide +kernel
theorem dX9_offer_2 : decode cX9_offer 2 = .ok (.invokestatic 185, 3) := by decide +kernel
theorem dX9_offer_5 : decode cX9_offer 5 = .ok (.ifCond .eq 11, 3) := by decide +kernel
theorem dX9_offer_8 : decode cX9_offer 8 = .ok (.aload_n 0, 1) := by decide +kernel
theorem dX9_offer_9 : decode cX9_offer 9 = .ok (.iload_n 2, 1) := by decide +kernel
theorem dX9_offer_10 : decode cX9_offer 10 = .ok (.invokevirtual 137, 3) := by decide +kernel
theorem dX9_offer_13 : decode cX9_offer 13 = .ok (.ifCond .ne 7, 3) := by decide +kernel
theorem dX9_offer_16 : decode cX9_offer 16 = .ok (.iconst 1, 1) := by decide +kernel
theorem dX9_offer_17 : decode cX9_offer 17 = .ok (.goto 39, 3) := by decide +kernel
theorem dX9_offer_20 : decode cX9_offer 20 = .ok (.iload_n 3, 1) := by decide +kernel
theorem dX9_offer_21 : decode cX9_offer 21 = .ok (.i2l, 1) := by decide +kernel
theorem dX9_offer_22 : decode cX9_offer 22 = .ok (.lconst 0, 1) := by decide +kernel
theorem dX9_offer_23 : decode cX9_offer 23 = .ok (.ldc2_w 188, 3) := by decide +kernel
theorem dX9_offer_26 : decode cX9_offer 26 = .ok (.invokestatic 74, 3) := by decide +kernel
theorem dX9_offer_29 : decode cX9_offer 29 = .ok (.ifCond .ne 7, 3) := by decide +kernel
theorem dX9_offer_32 : decode cX9_offer 32 = .ok (.iconst 2, 1) := by decide +kernel
theorem dX9_offer_33 : decode cX9_offer 33 = .ok (.goto 23, 3) := by decide +kernel
theorem dX9_offer_36 : decode cX9_offer 36 = .ok (.aload_n 0, 1) := by decide +kernel
theorem dX9_offer_37 : decode cX9_offer 37 = .ok (.invokevirtual 190, 3) := by decide +kernel
theorem dX9_offer_40 : decode cX9_offer 40 = .ok (.ifCond .eq 11, 3) := by decide +kernel
theorem dX9_offer_43 : decode cX9_offer 43 = .ok (.aload_n 0, 1) := by decide +kernel
theorem dX9_offer_44 : decode cX9_offer 44 = .ok (.iload_n 1, 1) := by decide +kernel
theorem dX9_offer_45 : decode cX9_offer 45 = .ok (.invokevirtual 193, 3) := by decide +kernel
theorem dX9_offer_48 : decode cX9_offer 48 = .ok (.ifCond .eq 7, 3) := by decide +kernel
theorem dX9_offer_51 : decode cX9_offer 51 = .ok (.iconst 3, 1) := by decide +kernel
theorem dX9_offer_52 : decode cX9_offer 52 = .ok (.goto 4, 3) := by decide +kernel
theorem dX9_offer_55 : decode cX9_offer 55 = .ok (.iconst 0, 1) := by decide +kernel
theorem dX9_offer_56 : decode cX9_offer 56 = .ok (.putfield 33, 3) := by decide +kernel
theorem dX9_offer_59 : decode cX9_offer 59 = .ok (.aload_n 0, 1) := by decide +kernel
theorem dX9_offer_60 : decode cX9_offer 60 = .ok (.getfield 33, 3) := by decide +kernel
theorem dX9_offer_63 : decode cX9_offer 63 = .ok (.ifCond .le 7, 3) := by decide +kernel
theorem dX9_offer_66 : decode cX9_offer 66 = .ok (.iconst 0, 1) := by decide +kernel
theorem dX9_offer_67 : decode cX9_offer 67 = .ok (.goto 10, 3) := by decide +kernel
theorem dX9_offer_70 : decode cX9_offer 70 = .ok (.aload_n 0, 1) := by decide +kernel
theorem dX9_offer_71 : decode cX9_offer 71 = .ok (.iload_n 1, 1) := by decide +kernel
theorem dX9_offer_72 : decode cX9_offer 72 = .ok (.iload_n 2, 1) := by decide +kernel
theorem dX9_offer_73 : decode cX9_offer 73 = .ok (.iload_n 3, 1) := by decide +kernel
theorem dX9_offer_74 : decode cX9_offer 74 = .ok (.invokevirtual 196, 3) := by decide +kernel
theorem dX9_offer_77 : decode cX9_offer 77 = .ok (.ireturn, 1) := by decide +kernel
theorem dX9_setDeposit_0 : decode cX9_setDeposit 0 = .ok (.aload_n 0, 1) := by decide +kernel
theorem dX9_setDeposit_1 : decode cX9_setDeposit 1 = .ok (.iload_n 1, 1) := by decide +kernel
theorem dX9_setDeposit_2 : decode cX9_setDeposit 2 = .ok (.invokestatic 185, 3) := by decide +kernel
theorem dX9_setDeposit_5 : decode cX9_setDeposit 5 = .ok (.ifCond .ne 7, 3) := by decide +kernel
theorem dX9_setDeposit_8 : decode cX9_setDeposit 8 = .ok (.iconst 1, 1) := by decide +kernel
theorem dX9_setDeposit_9 : decode cX9_setDeposit 9 = .ok (.goto 39, 3) := by decide +kernel
theorem dX9_setDeposit_12 : decode cX9_setDeposit 12 = .ok (.iload_n 2, 1) := by decide +kernel
theorem dX9_setDeposit_13 : decode cX9_setDeposit 13 = .ok (.i2l, 1) := by decide +kernel
theorem dX9_setDeposit_14 : decode cX9_setDeposit 14 = .ok (.lconst 0, 1) := by decide +kernel
theorem dX9_setDeposit_15 : decode cX9_setDeposit 15 = .ok (.ldc2_w 200, 3) := by decide +kernel
theorem dX9_setDeposit_18 : decode cX9_setDeposit 18 = .ok (.invokestatic 74, 3) := by decide +kernel
theorem dX9_setDeposit_21 : decode cX9_setDeposit 21 = .ok (.ifCond .ne 7, 3) := by decide +kernel
theorem dX9_setDeposit_24 : decode cX9_setDeposit 24 = .ok (.iconst 2, 1) := by decide +kernel
theorem dX9_setDeposit_25 : decode cX9_setDeposit 25 = .ok (.goto 23, 3) := by decide +kernel
theorem dX9_setDeposit_28 : decode cX9_setDeposit 28 = .ok (.aload_n 0, 1) := by decide +kernel
theorem dX9_setDeposit_29 : decode cX9_setDeposit 29 = .ok (.invokevirtual 190, 3) := by decide +kernel
theorem dX9_setDeposit_32 : decode cX9_setDeposit 32 = .ok (.ifCond .eq 11, 3) := by decide +kernel
theorem dX9_setDeposit_35 : decode cX9_setDeposit 35 = .ok (.aload_n 0, 1) := by decide +kernel
theorem dX9_setDeposit_36 : decode cX9_setDeposit 36 = .ok (.iload_n 1, 1) := by decide +kernel
theorem dX9_setDeposit_37 : decode cX9_setDeposit 37 = .ok (.invokevirtual 193, 3) := by decide +kernel
theorem dX9_setDeposit_40 : decode cX9_setDeposit 40 = .ok (.ifCond .eq 7, 3) := by decide +kernel
theorem dX9_setDeposit_43 : decode cX9_setDeposit 43 = .ok (.iconst 3, 1) := by decide +kernel
theorem dX9_setDeposit_44 : decode cX9_setDeposit 44 = .ok (.goto 4, 3) := by decide +kernel
theorem dX9_setDeposit_47 : decode cX9_setDeposit 47 = .ok (.iconst 0, 1) := by decide +kernel
theorem dX9_setDeposit_48 : decode cX9_setDeposit 48 = .ok (.putfield 33, 3) := by decide +kernel
theorem dX9_setDeposit_51 : decode cX9_setDeposit 51 = .ok (.aload_n 0, 1) := by decide +kernel
theorem dX9_setDeposit_52 : decode cX9_setDeposit 52 = .ok (.getfield 33, 3) := by decide +kernel
theorem dX9_setDeposit_55 : decode cX9_setDeposit 55 = .ok (.ifCond .le 7, 3) := by decide +kernel
theorem dX9_setDeposit_58 : decode cX9_setDeposit 58 = .ok (.iconst 0, 1) := by decide +kernel
theorem dX9_setDeposit_59 : decode cX9_setDeposit 59 = .ok (.goto 11, 3) := by decide +kernel
theorem dX9_setDeposit_62 : decode cX9_setDeposit 62 = .ok (.aload_n 0, 1) := by decide +kernel
theorem dX9_setDeposit_63 : decode cX9_setDeposit 63 = .ok (.iload_n 1, 1) := by decide +kernel
theorem dX9_setDeposit_64 : decode cX9_setDeposit 64 = .ok (.bipush 6, 2) := by decide +kernel
theorem dX9_setDeposit_66 : decode cX9_setDeposit 66 = .ok (.iload_n 2, 1) := by decide +kernel
theorem dX9_setDeposit_67 : decode cX9_setDeposit 67 = .ok (.invokevirtual 196, 3) := by decide +kernel
theorem dX9_setDeposit_70 : decode cX9_setDeposit 70 = .ok (.ireturn, 1) := by decide +kernel
theorem dX9_seal_0 : decode cX9_seal 0 = .ok (.aload_n 0, 1) := by decide +kernel
theorem dX9_seal_1 : decode cX9_seal 1 = .ok (.iload_n 1, 1) := by decide +kernel
theorem dX9_seal_2 : decode cX9_seal 2 = .ok (.invokestatic 185, 3) := by decide +kernel
theorem dX9_seal_5 : decode cX9_seal 5 = .ok (.ifCond .ne 7, 3) := by decide +kernel
theorem dX9_seal_8 : decode cX9_seal 8 = .ok (.iconst 1, 1) := by decide +kernel
theorem dX9_seal_9 : decode cX9_seal 9 = .ok (.goto 23, 3) := by decide +kernel
theorem dX9_seal_12 : decode cX9_seal 12 = .ok (.aload_n 0, 1) := by decide +kernel
theorem dX9_seal_13 : decode cX9_seal 13 = .ok (.invokevirtual 190, 3) := by decide +kernel
theorem dX9_seal_16 : decode cX9_seal 16 = .ok (.ifCond .eq 11, 3) := by decide +kernel
theorem dX9_seal_19 : decode cX9_seal 19 = .ok (.aload_n 0, 1) := by decide +kernel
theorem dX9_seal_20 : decode cX9_seal 20 = .ok (.iload_n 1, 1) := by decide +kernel
theorem dX9_seal_21 : decode cX9_seal 21 = .ok (.invokevirtual 193, 3) := by decide +kernel
theorem dX9_seal_24 : decode cX9_seal 24 = .ok (.ifCond .eq 7, 3) := by decide +kernel
theorem dX9_seal_27 : decode cX9_seal 27 = .ok (.iconst 2, 1) := by decide +kernel
theorem dX9_seal_28 : decode cX9_seal 28 = .ok (.goto 4, 3) := by decide +kernel
theorem dX9_seal_31 : decode cX9_seal 31 = .ok (.iconst 0, 1) := by decide +kernel
theorem dX9_seal_32 : decode cX9_seal 32 = .ok (.putfield 33, 3) := by decide +kernel
theorem dX9_seal_35 : decode cX9_seal 35 = .ok (.aload_n 0, 1) := by decide +kernel
theorem dX9_seal_36 : decode cX9_seal 36 = .ok (.getfield 33, 3) := by decide +kernel
theorem dX9_seal_39 : decode cX9_seal 39 = .ok (.ifCond .le 5, 3) := by decide +kernel
theorem dX9_seal_42 : decode cX9_seal 42 = .ok (.iconst 0, 1) := by decide +kernel
theorem dX9_seal_43 : decode cX9_seal 43 = .ok (.ireturn, 1) := by decide +kernel
theorem dX9_seal_44 : decode cX9_seal 44 = .ok (.aload_n 0, 1) := by decide +kernel
theorem dX9_seal_45 : decode cX9_seal 45 = .ok (.iload_n 1, 1) := by decide +kernel
theorem dX9_seal_46 : decode cX9_seal 46 = .ok (.bipush 7, 2) := by decide +kernel
theorem dX9_seal_48 : decode cX9_seal 48 = .ok (.aload_n 0, 1) := by decide +kernel
theorem dX9_seal_49 : decode cX9_seal 49 = .ok (.getfield 7, 3) := by decide +kernel
theorem dX9_seal_52 : decode cX9_seal 52 = .ok (.bipush 10, 2) := by decide +kernel
theorem dX9_seal_54 : decode cX9_seal 54 = .ok (.iaload, 1) := by decide +kernel
theorem dX9_seal_55 : decode cX9_seal 55 = .ok (.iconst 1, 1) := by decide +kernel
theorem dX9_seal_56 : decode cX9_seal 56 = .ok (.iadd, 1) := by decide +kernel
theorem dX9_seal_57 : decode cX9_seal 57 = .ok (.invokevirtual 196, 3) := by decide +kernel
theorem dX9_seal_60 : decode cX9_seal 60 = .ok (.pop, 1) := by decide +kernel
theorem dX9_seal_61 : decode cX9_seal 61 = .ok (.aload_n 0, 1) := by decide +kernel
theorem dX9_seal_62 : decode cX9_seal 62 = .ok (.getfield 7, 3) := by decide +kernel
theorem dX9_seal_65 : decode cX9_seal 65 = .ok (.bipush 10, 2) := by decide +kernel
theorem dX9_seal_67 : decode cX9_seal 67 = .ok (.dup2, 1) := by decide +kernel
theorem dX9_seal_68 : decode cX9_seal 68 = .ok (.iaload, 1) := by decide +kernel
theorem dX9_seal_69 : decode cX9_seal 69 = .ok (.iconst 1, 1) := by decide +kernel
theorem dX9_seal_70 : decode cX9_seal 70 = .ok (.iadd, 1) := by decide +kernel
theorem dX9_seal_71 : decode cX9_seal 71 = .ok (.iastore, 1) := by decide +kernel
theorem dX9_seal_72 : decode cX9_seal 72 = .ok (.aload_n 0, 1) := by decide +kernel
theorem dX9_seal_73 : decode cX9_seal 73 = .ok (.getfield 7, 3) := by decide +kernel
theorem dX9_seal_76 : decode cX9_seal 76 = .ok (.bipush 10, 2) := by decide +kernel
theorem dX9_seal_78 : decode cX9_seal 78 = .ok (.iaload, 1) := by decide +kernel
theorem dX9_seal_79 : decode cX9_seal 79 = .ok (.ireturn, 1) := by decide +kernel
theorem dX9_withdraw_0 : decode cX9_withdraw 0 = .ok (.aload_n 0, 1) := by decide +kernel
theorem dX9_withdraw_1 : decode cX9_withdraw 1 = .ok (.iload_n 1, 1) := by decide +kernel
theorem dX9_withdraw_2 : decode cX9_withdraw 2 = .ok (.invokestatic 185, 3) := by decide +kernel
theorem dX9_withdraw_5 : decode cX9_withdraw 5 = .ok (.ifCond .ne 7, 3) := by decide +kernel
theorem dX9_withdraw_8 : decode cX9_withdraw 8 = .ok (.iconst 1, 1) := by decide +kernel
theorem dX9_withdraw_9 : decode cX9_withdraw 9 = .ok (.goto 23, 3) := by decide +kernel
theorem dX9_withdraw_12 : decode cX9_withdraw 12 = .ok (.aload_n 0, 1) := by decide +kernel
theorem dX9_withdraw_13 : decode cX9_withdraw 13 = .ok (.invokevirtual 190, 3) := by decide +kernel
theorem dX9_withdraw_16 : decode cX9_withdraw 16 = .ok (.ifCond .eq 11, 3) := by decide +kernel
theorem dX9_withdraw_19 : decode cX9_withdraw 19 = .ok (.aload_n 0, 1) := by decide +kernel
theorem dX9_withdraw_20 : decode cX9_withdraw 20 = .ok (.iload_n 1, 1) := by decide +kernel
theorem dX9_withdraw_21 : decode cX9_withdraw 21 = .ok (.invokevirtual 193, 3) := by decide +kernel
theorem dX9_withdraw_24 : decode cX9_withdraw 24 = .ok (.ifCond .ne 7, 3) := by decide +kernel
theorem dX9_withdraw_27 : decode cX9_withdraw 27 = .ok (.iconst 2, 1) := by decide +kernel
theorem dX9_withdraw_28 : decode cX9_withdraw 28 = .ok (.goto 4, 3) := by decide +kernel
theorem dX9_withdraw_31 : decode cX9_withdraw 31 = .ok (.iconst 0, 1) := by decide +kernel
theorem dX9_withdraw_32 : decode cX9_withdraw 32 = .ok (.putfield 33, 3) := by decide +kernel
theorem dX9_withdraw_35 : decode cX9_withdraw 35 = .ok (.aload_n 0, 1) := by decide +kernel
theorem dX9_withdraw_36 : decode cX9_withdraw 36 = .ok (.getfield 33, 3) := by decide +kernel
theorem dX9_withdraw_39 : decode cX9_withdraw 39 = .ok (.ifCond .le 4, 3) := by decide +kernel
theorem dX9_withdraw_42 : decode cX9_withdraw 42 = .ok (.return_, 1) := by decide +kernel
theorem dX9_withdraw_43 : decode cX9_withdraw 43 = .ok (.aload_n 0, 1) := by decide +kernel
theorem dX9_withdraw_44 : decode cX9_withdraw 44 = .ok (.invokevirtual 128, 3) := by decide +kernel
theorem dX9_withdraw_47 : decode cX9_withdraw 47 = .ok (.iconst 0, 1) := by decide +kernel
theorem dX9_withdraw_48 : decode cX9_withdraw 48 = .ok (.istore_n 2, 1) := by decide +kernel
theorem dX9_withdraw_49 : decode cX9_withdraw 49 = .ok (.iload_n 2, 1) := by decide +kernel
theorem dX9_withdraw_50 : decode cX9_withdraw 50 = .ok (.bipush 8, 2) := by decide +kernel
theorem dX9_withdraw_52 : decode cX9_withdraw 52 = .ok (.if_icmp .ge 25, 3) := by decide +kernel
theorem dX9_withdraw_55 : decode cX9_withdraw 55 = .ok (.aload_n 0, 1) := by decide +kernel
theorem dX9_withdraw_56 : decode cX9_withdraw 56 = .ok (.getfield 7, 3) := by decide +kernel
theorem dX9_withdraw_59 : decode cX9_withdraw 59 = .ok (.sipush 224, 3) := by decide +kernel
theorem dX9_withdraw_62 : decode cX9_withdraw 62 = .ok (.bipush 8, 2) := by decide +kernel
theorem dX9_withdraw_64 : decode cX9_withdraw 64 = .ok (.iload_n 1, 1) := by decide +kernel
theorem dX9_withdraw_65 : decode cX9_withdraw 65 = .ok (.imul, 1) := by decide +kernel
theorem dX9_withdraw_66 : decode cX9_withdraw 66 = .ok (.iadd, 1) := by decide +kernel
theorem dX9_withdraw_67 : decode cX9_withdraw 67 = .ok (.iload_n 2, 1) := by decide +kernel
theorem dX9_withdraw_68 : decode cX9_withdraw 68 = .ok (.iadd, 1) := by decide +kernel
theorem dX9_withdraw_69 : decode cX9_withdraw 69 = .ok (.iconst 0, 1) := by decide +kernel
theorem dX9_withdraw_70 : decode cX9_withdraw 70 = .ok (.iastore, 1) := by decide +kernel
theorem dX9_withdraw_71 : decode cX9_withdraw 71 = .ok (.iinc 2 1, 3) := by decide +kernel
theorem dX9_withdraw_74 : decode cX9_withdraw 74 = .ok (.goto (-25), 3) := by decide +kernel
theorem dX9_withdraw_77 : decode cX9_withdraw 77 = .ok (.return_, 1) := by decide +kernel
theorem dX9_open_0 : decode cX9_open 0 = .ok (.aload_n 0, 1) := by decide +kernel
theorem dX9_open_1 : decode cX9_open 1 = .ok (.aload_n 0, 1) := by decide +kernel
theorem dX9_open_2 : decode cX9_open 2 = .ok (.invokevirtual 190, 3) := by decide +kernel
theorem dX9_open_5 : decode cX9_open 5 = .ok (.ifCond .eq 7, 3) := by decide +kernel
theorem dX9_open_8 : decode cX9_open 8 = .ok (.iconst 0, 1) := by decide +kernel
theorem dX9_open_9 : decode cX9_open 9 = .ok (.goto 4, 3) := by decide +kernel
theorem dX9_open_12 : decode cX9_open 12 = .ok (.iconst 1, 1) := by decide +kernel
theorem dX9_open_13 : decode cX9_open 13 = .ok (.putfield 33, 3) := by decide +kernel
theorem dX9_open_16 : decode cX9_open 16 = .ok (.aload_n 0, 1) := by decide +kernel
theorem dX9_open_17 : decode cX9_open 17 = .ok (.getfield 33, 3) := by decide +kernel
theorem dX9_open_20 : decode cX9_open 20 = .ok (.ifCond .le 5, 3) := by decide +kernel
theorem dX9_open_23 : decode cX9_open 23 = .ok (.iconst 0, 1) := by decide +kernel
theorem dX9_open_24 : decode cX9_open 24 = .ok (.ireturn, 1) := by decide +kernel
theorem dX9_open_25 : decode cX9_open 25 = .ok (.aload_n 0, 1) := by decide +kernel
theorem dX9_open_26 : decode cX9_open 26 = .ok (.invokevirtual 128, 3) := by decide +kernel
theorem dX9_open_29 : decode cX9_open 29 = .ok (.aload_n 0, 1) := by decide +kernel
theorem dX9_open_30 : decode cX9_open 30 = .ok (.getfield 7, 3) := by decide +kernel
theorem dX9_open_33 : decode cX9_open 33 = .ok (.iconst 0, 1) := by decide +kernel
theorem dX9_open_34 : decode cX9_open 34 = .ok (.dup2, 1) := by decide +kernel
theorem dX9_open_35 : decode cX9_open 35 = .ok (.iaload, 1) := by decide +kernel
theorem dX9_open_36 : decode cX9_open 36 = .ok (.iconst 1, 1) := by decide +kernel
theorem dX9_open_37 : decode cX9_open 37 = .ok (.iadd, 1) := by decide +kernel
theorem dX9_open_38 : decode cX9_open 38 = .ok (.iastore, 1) := by decide +kernel
theorem dX9_open_39 : decode cX9_open 39 = .ok (.iconst 0, 1) := by decide +kernel
theorem dX9_open_40 : decode cX9_open 40 = .ok (.istore_n 1, 1) := by decide +kernel
theorem dX9_open_41 : decode cX9_open 41 = .ok (.iconst 0, 1) := by decide +kernel
theorem dX9_open_42 : decode cX9_open 42 = .ok (.istore_n 2, 1) := by decide +kernel
theorem dX9_open_43 : decode cX9_open 43 = .ok (.iload_n 2, 1) := by decide +kernel
theorem dX9_open_44 : decode cX9_open 44 = .ok (.bipush 8, 2) := by decide +kernel
theorem dX9_open_46 : decode cX9_open 46 = .ok (.if_icmp .ge 25, 3) := by decide +kernel
theorem dX9_open_49 : decode cX9_open 49 = .ok (.iload_n 1, 1) := by decide +kernel
theorem dX9_open_50 : decode cX9_open 50 = .ok (.aload_n 0, 1) := by decide +kernel
theorem dX9_open_51 : decode cX9_open 51 = .ok (.iload_n 2, 1) := by decide +kernel
theorem dX9_open_52 : decode cX9_open 52 = .ok (.invokevirtual 202, 3) := by decide +kernel
theorem dX9_open_55 : decode cX9_open 55 = .ok (.ifCond .ne 7, 3) := by decide +kernel
theorem dX9_open_58 : decode cX9_open 58 = .ok (.iconst 1, 1) := by decide +kernel
theorem dX9_open_59 : decode cX9_open 59 = .ok (.goto 4, 3) := by decide +kernel
theorem dX9_open_62 : decode cX9_open 62 = .ok (.iconst 0, 1) := by decide +kernel
theorem dX9_open_63 : decode cX9_open 63 = .ok (.iadd, 1) := by decide +kernel
theorem dX9_open_64 : decode cX9_open 64 = .ok (.istore_n 1, 1) := by decide +kernel
theorem dX9_open_65 : decode cX9_open 65 = .ok (.iinc 2 1, 3) := by decide +kernel
theorem dX9_open_68 : decode cX9_open 68 = .ok (.goto (-25), 3) := by decide +kernel
theorem dX9_open_71 : decode cX9_open 71 = .ok (.iload_n 1, 1) := by decide +kernel
theorem dX9_open_72 : decode cX9_open 72 = .ok (.ireturn, 1) := by decide +kernel
theorem dX9_valueOf_0 : decode cX9_valueOf 0 = .ok (.lconst 0, 1) := by decide +kernel
theorem dX9_valueOf_1 : decode cX9_valueOf 1 = .ok (.lstore 4, 2) := by decide +kernel
theorem dX9_valueOf_3 : decode cX9_valueOf 3 = .ok (.iconst 0, 1) := by decide +kernel
theorem dX9_valueOf_4 : decode cX9_valueOf 4 = .ok (.istore 6, 2) := by decide +kernel
theorem dX9_valueOf_6 : decode cX9_valueOf 6 = .ok (.iload 6, 2) := by decide +kernel
theorem dX9_valueOf_8 : decode cX9_valueOf 8 = .ok (.aload_n 0, 1) := by decide +kernel
theorem dX9_valueOf_9 : decode cX9_valueOf 9 = .ok (.getfield 7, 3) := by decide +kernel
theorem dX9_valueOf_12 : decode cX9_valueOf 12 = .ok (.bipush 8, 2) := by decide +kernel
theorem dX9_valueOf_14 : decode cX9_valueOf 14 = .ok (.iaload, 1) := by decide +kernel
theorem dX9_valueOf_15 : decode cX9_valueOf 15 = .ok (.if_icmp .ge 57, 3) := by decide +kernel
theorem dX9_valueOf_18 : decode cX9_valueOf 18 = .ok (.iload 6, 2) := by decide +kernel
theorem dX9_valueOf_20 : decode cX9_valueOf 20 = .ok (.iload_n 2, 1) := by decide +kernel
theorem dX9_valueOf_21 : decode cX9_valueOf 21 = .ok (.if_icmp .ne 20, 3) := by decide +kernel
theorem dX9_valueOf_24 : decode cX9_valueOf 24 = .ok (.aload_n 0, 1) := by decide +kernel
theorem dX9_valueOf_25 : decode cX9_valueOf 25 = .ok (.iload 6, 2) := by decide +kernel
theorem dX9_valueOf_27 : decode cX9_valueOf 27 = .ok (.invokevirtual 177, 3) := by decide +kernel
theorem dX9_valueOf_30 : decode cX9_valueOf 30 = .ok (.i2l, 1) := by decide +kernel
theorem dX9_valueOf_31 : decode cX9_valueOf 31 = .ok (.iload_n 3, 1) := by decide +kernel
theorem dX9_valueOf_32 : decode cX9_valueOf 32 = .ok (.i2l, 1) := by decide +kernel
theorem dX9_valueOf_33 : decode cX9_valueOf 33 = .ok (.lmul, 1) := by decide +kernel
theorem dX9_valueOf_34 : decode cX9_valueOf 34 = .ok (.ldc2_w 205, 3) := by decide +kernel
theorem dX9_valueOf_37 : decode cX9_valueOf 37 = .ok (.ldiv, 1) := by decide +kernel
theorem dX9_valueOf_38 : decode cX9_valueOf 38 = .ok (.goto 10, 3) := by decide +kernel
theorem dX9_valueOf_41 : decode cX9_valueOf 41 = .ok (.aload_n 0, 1) := by decide +kernel
theorem dX9_valueOf_42 : decode cX9_valueOf 42 = .ok (.iload 6, 2) := by decide +kernel
theorem dX9_valueOf_44 : decode cX9_valueOf 44 = .ok (.invokevirtual 177, 3) := by decide +kernel
theorem dX9_valueOf_47 : decode cX9_valueOf 47 = .ok (.i2l, 1) := by decide +kernel
theorem dX9_valueOf_48 : decode cX9_valueOf 48 = .ok (.lstore 7, 2) := by decide +kernel
theorem dX9_valueOf_50 : decode cX9_valueOf 50 = .ok (.lload 4, 2) := by decide +kernel
theorem dX9_valueOf_52 : decode cX9_valueOf 52 = .ok (.lload 7, 2) := by decide +kernel
theorem dX9_valueOf_54 : decode cX9_valueOf 54 = .ok (.aload_n 0, 1) := by decide +kernel
theorem dX9_valueOf_55 : decode cX9_valueOf 55 = .ok (.iload_n 1, 1) := by decide +kernel
theorem dX9_valueOf_56 : decode cX9_valueOf 56 = .ok (.iload 6, 2) := by decide +kernel
theorem dX9_valueOf_58 : decode cX9_valueOf 58 = .ok (.invokevirtual 182, 3) := by decide +kernel
theorem dX9_valueOf_61 : decode cX9_valueOf 61 = .ok (.i2l, 1) := by decide +kernel
theorem dX9_valueOf_62 : decode cX9_valueOf 62 = .ok (.lmul, 1) := by decide +kernel
theorem dX9_valueOf_63 : decode cX9_valueOf 63 = .ok (.ladd, 1) := by decide +kernel
theorem dX9_valueOf_64 : decode cX9_valueOf 64 = .ok (.lstore 4, 2) := by decide +kernel
theorem dX9_valueOf_66 : decode cX9_valueOf 66 = .ok (.iinc 6 1, 3) := by decide +kernel
theorem dX9_valueOf_69 : decode cX9_valueOf 69 = .ok (.goto (-63), 3) := by decide +kernel
theorem dX9_valueOf_72 : decode cX9_valueOf 72 = .ok (.lload 4, 2) := by decide +kernel
theorem dX9_valueOf_74 : decode cX9_valueOf 74 = .ok (.lreturn, 1) := by decide +kernel
theorem dX9_problemOf_0 : decode cX9_problemOf 0 = .ok (.aload_n 0, 1) := by decide +kernel
theorem dX9_problemOf_1 : decode cX9_problemOf 1 = .ok (.iload_n 1, 1) := by decide +kernel
theorem dX9_problemOf_2 : decode cX9_problemOf 2 = .ok (.invokevirtual 193, 3) := by decide +kernel
theorem dX9_problemOf_5 : decode cX9_problemOf 5 = .ok (.ifCond .ne 5, 3) := by decide +kernel
theorem dX9_problemOf_8 : decode cX9_problemOf 8 = .ok (.iconst 1, 1) := by decide +kernel
theorem dX9_problemOf_9 : decode cX9_problemOf 9 = .ok (.ireturn, 1) := by decide +kernel
theorem dX9_problemOf_10 : decode cX9_problemOf 10 = .ok (.iconst 0, 1) := by decide +kernel
theorem dX9_problemOf_11 : decode cX9_problemOf 11 = .ok (.istore_n 2, 1) := by decide +kernel
theorem dX9_problemOf_12 : decode cX9_problemOf 12 = .ok (.iload_n 2, 1) := by decide +kernel
theorem dX9_problemOf_13 : decode cX9_problemOf 13 = .ok (.aload_n 0, 1) := by decide +kernel
theorem dX9_problemOf_14 : decode cX9_problemOf 14 = .ok (.getfield 7, 3) := by decide +kernel
theorem dX9_problemOf_17 : decode cX9_problemOf 17 = .ok (.bipush 8, 2) := by decide +kernel
theorem dX9_problemOf_19 : decode cX9_problemOf 19 = .ok (.iaload, 1) := by decide +kernel
theorem dX9_problemOf_20 : decode cX9_problemOf 20 = .ok (.if_icmp .ge 29, 3) := by decide +kernel
theorem dX9_problemOf_23 : decode cX9_problemOf 23 = .ok (.aload_n 0, 1) := by decide +kernel
theorem dX9_problemOf_24 : decode cX9_problemOf 24 = .ok (.iload_n 1, 1) := by decide +kernel
theorem dX9_problemOf_25 : decode cX9_problemOf 25 = .ok (.iload_n 2, 1) := by decide +kernel
theorem dX9_problemOf_26 : decode cX9_problemOf 26 = .ok (.invokevirtual 182, 3) := by decide +kernel
theorem dX9_problemOf_29 : decode cX9_problemOf 29 = .ok (.aload_n 0, 1) := by decide +kernel
theorem dX9_problemOf_30 : decode cX9_problemOf 30 = .ok (.getfield 7, 3) := by decide +kernel
theorem dX9_problemOf_33 : decode cX9_problemOf 33 = .ok (.bipush 20, 2) := by decide +kernel
theorem dX9_problemOf_35 : decode cX9_problemOf 35 = .ok (.iload_n 2, 1) := by decide +kernel
theorem dX9_problemOf_36 : decode cX9_problemOf 36 = .ok (.iadd, 1) := by decide +kernel
theorem dX9_problemOf_37 : decode cX9_problemOf 37 = .ok (.iaload, 1) := by decide +kernel
theorem dX9_problemOf_38 : decode cX9_problemOf 38 = .ok (.if_icmp .ge 5, 3) := by decide +kernel
theorem dX9_problemOf_41 : decode cX9_problemOf 41 = .ok (.iconst 2, 1) := by decide +kernel
theorem dX9_problemOf_42 : decode cX9_problemOf 42 = .ok (.ireturn, 1) := by decide +kernel
theorem dX9_problemOf_43 : decode cX9_problemOf 43 = .ok (.iinc 2 1, 3) := by decide +kernel
theorem dX9_problemOf_46 : decode cX9_problemOf 46 = .ok (.goto (-34), 3) := by decide +kernel
theorem dX9_problemOf_49 : decode cX9_problemOf 49 = .ok (.aload_n 0, 1) := by decide +kernel
theorem dX9_problemOf_50 : decode cX9_problemOf 50 = .ok (.iload_n 1, 1) := by decide +kernel
theorem dX9_problemOf_51 : decode cX9_problemOf 51 = .ok (.bipush 6, 2) := by decide +kernel
theorem dX9_problemOf_53 : decode cX9_problemOf 53 = .ok (.invokevirtual 182, 3) := by decide +kernel
theorem dX9_problemOf_56 : decode cX9_problemOf 56 = .ok (.i2l, 1) := by decide +kernel
theorem dX9_problemOf_57 : decode cX9_problemOf 57 = .ok (.ldc2_w 205, 3) := by decide +kernel
theorem dX9_problemOf_60 : decode cX9_problemOf 60 = .ok (.lmul, 1) := by decide +kernel
theorem dX9_problemOf_61 : decode cX9_problemOf 61 = .ok (.aload_n 0, 1) := by decide +kernel
theorem dX9_problemOf_62 : decode cX9_problemOf 62 = .ok (.iload_n 1, 1) := by decide +kernel
theorem dX9_problemOf_63 : decode cX9_problemOf 63 = .ok (.iconst (-1), 1) := by decide +kernel
theorem dX9_problemOf_64 : decode cX9_problemOf 64 = .ok (.bipush 100, 2) := by decide +kernel
theorem dX9_problemOf_66 : decode cX9_problemOf 66 = .ok (.invokevirtual 207, 3) := by decide +kernel
theorem dX9_problemOf_69 : decode cX9_problemOf 69 = .ok (.aload_n 0, 1) := by decide +kernel
theorem dX9_problemOf_70 : decode cX9_problemOf 70 = .ok (.getfield 7, 3) := by decide +kernel
theorem dX9_problemOf_73 : decode cX9_problemOf 73 = .ok (.iconst 3, 1) := by decide +kernel
