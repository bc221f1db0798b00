theorem d_Md_head_0 : decode b_Md_head 0 = .ok (.iconst (-1), 1) := by decide +kernel
theorem d_Md_head_1 : decode b_Md_head 1 = .ok (.istore_n 2, 1) := by decide +kernel
theorem d_Md_head_2 : decode b_Md_head 2 = .ok (.iconst 0, 1) := by decide +kernel
theorem d_Md_head_3 : decode b_Md_head 3 = .ok (.istore_n 3, 1) := by decide +kernel
theorem d_Md_head_4 : decode b_Md_head 4 = .ok (.iload_n 3, 1) := by decide +kernel
theorem d_Md_head_5 : decode b_Md_head 5 = .ok (.iconst 4, 1) := by decide +kernel
theorem d_Md_head_6 : decode b_Md_head 6 = .ok (.if_icmp .ge 43, 3) := by decide +kernel
theorem d_Md_head_9 : decode b_Md_head 9 = .ok (.aload_n 0, 1) := by decide +kernel
theorem d_Md_head_10 : decode b_Md_head 10 = .ok (.iload_n 3, 1) := by decide +kernel
theorem d_Md_head_11 : decode b_Md_head 11 = .ok (.iload_n 1, 1) := by decide +kernel
theorem d_Md_head_12 : decode b_Md_head 12 = .ok (.invokevirtual 85, 3) := by decide +kernel
theorem d_Md_head_15 : decode b_Md_head 15 = .ok (.ifCond .eq 26, 3) := by decide +kernel
theorem d_Md_head_18 : decode b_Md_head 18 = .ok (.iload_n 2, 1) := by decide +kernel
theorem d_Md_head_19 : decode b_Md_head 19 = .ok (.ifCond .lt 18, 3) := by decide +kernel
theorem d_Md_head_22 : decode b_Md_head 22 = .ok (.aload_n 0, 1) := by decide +kernel
theorem d_Md_head_23 : decode b_Md_head 23 = .ok (.getfield 19, 3) := by decide +kernel
theorem d_Md_head_26 : decode b_Md_head 26 = .ok (.iload_n 3, 1) := by decide +kernel
theorem d_Md_head_27 : decode b_Md_head 27 = .ok (.iaload, 1) := by decide +kernel
theorem d_Md_head_28 : decode b_Md_head 28 = .ok (.aload_n 0, 1) := by decide +kernel
theorem d_Md_head_29 : decode b_Md_head 29 = .ok (.getfield 19, 3) := by decide +kernel
theorem d_Md_head_32 : decode b_Md_head 32 = .ok (.iload_n 2, 1) := by decide +kernel
theorem d_Md_head_33 : decode b_Md_head 33 = .ok (.iaload, 1) := by decide +kernel
theorem d_Md_head_34 : decode b_Md_head 34 = .ok (.if_icmp .ge 7, 3) := by decide +kernel
theorem d_Md_head_37 : decode b_Md_head 37 = .ok (.iload_n 3, 1) := by decide +kernel
theorem d_Md_head_38 : decode b_Md_head 38 = .ok (.goto 4, 3) := by decide +kernel
theorem d_Md_head_41 : decode b_Md_head 41 = .ok (.iload_n 2, 1) := by decide +kernel
theorem d_Md_head_42 : decode b_Md_head 42 = .ok (.istore_n 2, 1) := by decide +kernel
theorem d_Md_head_43 : decode b_Md_head 43 = .ok (.iinc 3 1, 3) := by decide +kernel
theorem d_Md_head_46 : decode b_Md_head 46 = .ok (.goto (-42), 3) := by decide +kernel
theorem d_Md_head_49 : decode b_Md_head 49 = .ok (.iload_n 2, 1) := by decide +kernel
theorem d_Md_head_50 : decode b_Md_head 50 = .ok (.ireturn, 1) := by decide +kernel
theorem d_Md_stands_0 : decode b_Md_stands 0 = .ok (.aload_n 0, 1) := by decide +kernel
theorem d_Md_stands_1 : decode b_Md_stands 1 = .ok (.getfield 22, 3) := by decide +kernel
theorem d_Md_stands_4 : decode b_Md_stands 4 = .ok (.iload_n 1, 1) := by decide +kernel
theorem d_Md_stands_5 : decode b_Md_stands 5 = .ok (.iaload, 1) := by decide +kernel
theorem d_Md_stands_6 : decode b_Md_stands 6 = .ok (.iconst 1, 1) := by decide +kernel
theorem d_Md_stands_7 : decode b_Md_stands 7 = .ok (.if_icmp .ne 26, 3) := by decide +kernel
theorem d_Md_stands_10 : decode b_Md_stands 10 = .ok (.aload_n 0, 1) := by decide +kernel
theorem d_Md_stands_11 : decode b_Md_stands 11 = .ok (.getfield 7, 3) := by decide +kernel
theorem d_Md_stands_14 : decode b_Md_stands 14 = .ok (.iload_n 1, 1) := by decide +kernel
theorem d_Md_stands_15 : decode b_Md_stands 15 = .ok (.iaload, 1) := by decide +kernel
theorem d_Md_stands_16 : decode b_Md_stands 16 = .ok (.iconst 4, 1) := by decide +kernel
theorem d_Md_stands_17 : decode b_Md_stands 17 = .ok (.if_icmp .ne 7, 3) := by decide +kernel
theorem d_Md_stands_20 : decode b_Md_stands 20 = .ok (.iconst 1, 1) := by decide +kernel
theorem d_Md_stands_21 : decode b_Md_stands 21 = .ok (.goto 4, 3) := by decide +kernel
theorem d_Md_stands_24 : decode b_Md_stands 24 = .ok (.iconst 0, 1) := by decide +kernel
theorem d_Md_stands_25 : decode b_Md_stands 25 = .ok (.iload_n 2, 1) := by decide +kernel
theorem d_Md_stands_26 : decode b_Md_stands 26 = .ok (.if_icmp .ne 7, 3) := by decide +kernel
theorem d_Md_stands_29 : decode b_Md_stands 29 = .ok (.iconst 1, 1) := by decide +kernel
theorem d_Md_stands_30 : decode b_Md_stands 30 = .ok (.goto 4, 3) := by decide +kernel
theorem d_Md_stands_33 : decode b_Md_stands 33 = .ok (.iconst 0, 1) := by decide +kernel
theorem d_Md_stands_34 : decode b_Md_stands 34 = .ok (.ireturn, 1) := by decide +kernel
theorem d_Md_serveFiles_0 : decode b_Md_serveFiles 0 = .ok (.aload_n 0, 1) := by decide +kernel
theorem d_Md_serveFiles_1 : decode b_Md_serveFiles 1 = .ok (.getfield 56, 3) := by decide +kernel
theorem d_Md_serveFiles_4 : decode b_Md_serveFiles 4 = .ok (.iconst 0, 1) := by decide +kernel
theorem d_Md_serveFiles_5 : decode b_Md_serveFiles 5 = .ok (.iaload, 1) := by decide +kernel
theorem d_Md_serveFiles_6 : decode b_Md_serveFiles 6 = .ok (.iconst 1, 1) := by decide +kernel
theorem d_Md_serveFiles_7 : decode b_Md_serveFiles 7 = .ok (.if_icmp .eq 13, 3) := by decide +kernel
theorem d_Md_serveFiles_10 : decode b_Md_serveFiles 10 = .ok (.aload_n 0, 1) := by decide +kernel
theorem d_Md_serveFiles_11 : decode b_Md_serveFiles 11 = .ok (.getfield 56, 3) := by decide +kernel
theorem d_Md_serveFiles_14 : decode b_Md_serveFiles 14 = .ok (.iconst 0, 1) := by decide +kernel
theorem d_Md_serveFiles_15 : decode b_Md_serveFiles 15 = .ok (.iaload, 1) := by decide +kernel
theorem d_Md_serveFiles_16 : decode b_Md_serveFiles 16 = .ok (.iconst 2, 1) := by decide +kernel
theorem d_Md_serveFiles_17 : decode b_Md_serveFiles 17 = .ok (.if_icmp .ne 34, 3) := by decide +kernel
theorem d_Md_serveFiles_20 : decode b_Md_serveFiles 20 = .ok (.aload_n 0, 1) := by decide +kernel
theorem d_Md_serveFiles_21 : decode b_Md_serveFiles 21 = .ok (.getfield 56, 3) := by decide +kernel
theorem d_Md_serveFiles_24 : decode b_Md_serveFiles 24 = .ok (.iconst 0, 1) := by decide +kernel
theorem d_Md_serveFiles_25 : decode b_Md_serveFiles 25 = .ok (.iaload, 1) := by decide +kernel
theorem d_Md_serveFiles_26 : decode b_Md_serveFiles 26 = .ok (.iconst 1, 1) := by decide +kernel
theorem d_Md_serveFiles_27 : decode b_Md_serveFiles 27 = .ok (.if_icmp .eq 18, 3) := by decide +kernel
theorem d_Md_serveFiles_30 : decode b_Md_serveFiles 30 = .ok (.aload_n 0, 1) := by decide +kernel
theorem d_Md_serveFiles_31 : decode b_Md_serveFiles 31 = .ok (.getfield 59, 3) := by decide +kernel
theorem d_Md_serveFiles_34 : decode b_Md_serveFiles 34 = .ok (.iconst 0, 1) := by decide +kernel
theorem d_Md_serveFiles_35 : decode b_Md_serveFiles 35 = .ok (.iaload, 1) := by decide +kernel
theorem d_Md_serveFiles_36 : decode b_Md_serveFiles 36 = .ok (.aload_n 0, 1) := by decide +kernel
theorem d_Md_serveFiles_37 : decode b_Md_serveFiles 37 = .ok (.getfield 37, 3) := by decide +kernel
theorem d_Md_serveFiles_40 : decode b_Md_serveFiles 40 = .ok (.iconst 0, 1) := by decide +kernel
theorem d_Md_serveFiles_41 : decode b_Md_serveFiles 41 = .ok (.iaload, 1) := by decide +kernel
theorem d_Md_serveFiles_42 : decode b_Md_serveFiles 42 = .ok (.if_icmp .eq 8, 3) := by decide +kernel
theorem d_Md_serveFiles_45 : decode b_Md_serveFiles 45 = .ok (.aload_n 0, 1) := by decide +kernel
theorem d_Md_serveFiles_46 : decode b_Md_serveFiles 46 = .ok (.iconst 0, 1) := by decide +kernel
theorem d_Md_serveFiles_47 : decode b_Md_serveFiles 47 = .ok (.invokevirtual 118, 3) := by decide +kernel
theorem d_Md_serveFiles_50 : decode b_Md_serveFiles 50 = .ok (.return_, 1) := by decide +kernel
theorem d_Md_serveFiles_51 : decode b_Md_serveFiles 51 = .ok (.aload_n 0, 1) := by decide +kernel
theorem d_Md_serveFiles_52 : decode b_Md_serveFiles 52 = .ok (.getfield 56, 3) := by decide +kernel
theorem d_Md_serveFiles_55 : decode b_Md_serveFiles 55 = .ok (.iconst 0, 1) := by decide +kernel
theorem d_Md_serveFiles_56 : decode b_Md_serveFiles 56 = .ok (.iaload, 1) := by decide +kernel
theorem d_Md_serveFiles_57 : decode b_Md_serveFiles 57 = .ok (.iconst 3, 1) := by decide +kernel
theorem d_Md_serveFiles_58 : decode b_Md_serveFiles 58 = .ok (.if_icmp .ne 84, 3) := by decide +kernel
theorem d_Md_serveFiles_61 : decode b_Md_serveFiles 61 = .ok (.aload_n 0, 1) := by decide +kernel
theorem d_Md_serveFiles_62 : decode b_Md_serveFiles 62 = .ok (.getfield 56, 3) := by decide +kernel
theorem d_Md_serveFiles_65 : decode b_Md_serveFiles 65 = .ok (.iconst 0, 1) := by decide +kernel
theorem d_Md_serveFiles_66 : decode b_Md_serveFiles 66 = .ok (.iconst 0, 1) := by decide +kernel
theorem d_Md_serveFiles_67 : decode b_Md_serveFiles 67 = .ok (.iastore, 1) := by decide +kernel
theorem d_Md_serveFiles_68 : decode b_Md_serveFiles 68 = .ok (.aload_n 0, 1) := by decide +kernel
theorem d_Md_serveFiles_69 : decode b_Md_serveFiles 69 = .ok (.getfield 68, 3) := by decide +kernel
theorem d_Md_serveFiles_72 : decode b_Md_serveFiles 72 = .ok (.aload_n 0, 1) := by decide +kernel
theorem d_Md_serveFiles_73 : decode b_Md_serveFiles 73 = .ok (.getfield 108, 3) := by decide +kernel
theorem d_Md_serveFiles_76 : decode b_Md_serveFiles 76 = .ok (.iconst 0, 1) := by decide +kernel
theorem d_Md_serveFiles_77 : decode b_Md_serveFiles 77 = .ok (.bastore, 1) := by decide +kernel
theorem d_Md_serveFiles_78 : decode b_Md_serveFiles 78 = .ok (.aload_n 0, 1) := by decide +kernel
theorem d_Md_serveFiles_79 : decode b_Md_serveFiles 79 = .ok (.getfield 62, 3) := by decide +kernel
theorem d_Md_serveFiles_82 : decode b_Md_serveFiles 82 = .ok (.aload_n 0, 1) := by decide +kernel
theorem d_Md_serveFiles_83 : decode b_Md_serveFiles 83 = .ok (.getfield 108, 3) := by decide +kernel
theorem d_Md_serveFiles_86 : decode b_Md_serveFiles 86 = .ok (.aload_n 0, 1) := by decide +kernel
theorem d_Md_serveFiles_87 : decode b_Md_serveFiles 87 = .ok (.getfield 98, 3) := by decide +kernel
theorem d_Md_serveFiles_90 : decode b_Md_serveFiles 90 = .ok (.ifCond .eq 10, 3) := by decide +kernel
theorem d_Md_serveFiles_93 : decode b_Md_serveFiles 93 = .ok (.aload_n 0, 1) := by decide +kernel
theorem d_Md_serveFiles_94 : decode b_Md_serveFiles 94 = .ok (.getfield 102, 3) := by decide +kernel
theorem d_Md_serveFiles_97 : decode b_Md_serveFiles 97 = .ok (.goto 12, 3) := by decide +kernel
theorem d_Md_serveFiles_100 : decode b_Md_serveFiles 100 = .ok (.aload_n 0, 1) := by decide +kernel
theorem d_Md_serveFiles_101 : decode b_Md_serveFiles 101 = .ok (.getfield 62, 3) := by decide +kernel
theorem d_Md_serveFiles_104 : decode b_Md_serveFiles 104 = .ok (.aload_n 0, 1) := by decide +kernel
theorem d_Md_serveFiles_105 : decode b_Md_serveFiles 105 = .ok (.getfield 108, 3) := by decide +kernel
theorem d_Md_serveFiles_108 : decode b_Md_serveFiles 108 = .ok (.iaload, 1) := by decide +kernel
theorem d_Md_serveFiles_109 : decode b_Md_serveFiles 109 = .ok (.iastore, 1) := by decide +kernel
theorem d_Md_serveFiles_110 : decode b_Md_serveFiles 110 = .ok (.aload_n 0, 1) := by decide +kernel
theorem d_Md_serveFiles_111 : decode b_Md_serveFiles 111 = .ok (.getfield 65, 3) := by decide +kernel
theorem d_Md_serveFiles_114 : decode b_Md_serveFiles 114 = .ok (.aload_n 0, 1) := by decide +kernel
theorem d_Md_serveFiles_115 : decode b_Md_serveFiles 115 = .ok (.getfield 108, 3) := by decide +kernel
theorem d_Md_serveFiles_118 : decode b_Md_serveFiles 118 = .ok (.aload_n 0, 1) := by decide +kernel
theorem d_Md_serveFiles_119 : decode b_Md_serveFiles 119 = .ok (.getfield 98, 3) := by decide +kernel
theorem d_Md_serveFiles_122 : decode b_Md_serveFiles 122 = .ok (.ifCond .eq 10, 3) := by decide +kernel
theorem d_Md_serveFiles_125 : decode b_Md_serveFiles 125 = .ok (.aload_n 0, 1) := by decide +kernel
theorem d_Md_serveFiles_126 : decode b_Md_serveFiles 126 = .ok (.getfield 105, 3) := by decide +kernel
theorem d_Md_serveFiles_129 : decode b_Md_serveFiles 129 = .ok (.goto 12, 3) := by decide +kernel
theorem d_Md_serveFiles_132 : decode b_Md_serveFiles 132 = .ok (.aload_n 0, 1) := by decide +kernel
theorem d_Md_serveFiles_133 : decode b_Md_serveFiles 133 = .ok (.getfield 65, 3) := by decide +kernel
theorem d_Md_serveFiles_136 : decode b_Md_serveFiles 136 = .ok (.aload_n 0, 1) := by decide +kernel
theorem d_Md_serveFiles_137 : decode b_Md_serveFiles 137 = .ok (.getfield 108, 3) := by decide +kernel
theorem d_Md_serveFiles_140 : decode b_Md_serveFiles 140 = .ok (.iaload, 1) := by decide +kernel
theorem d_Md_serveFiles_141 : decode b_Md_serveFiles 141 = .ok (.iastore, 1) := by decide +kernel
theorem d_Md_serveFiles_142 : decode b_Md_serveFiles 142 = .ok (.aload_n 0, 1) := by decide +kernel
theorem d_Md_serveFiles_143 : decode b_Md_serveFiles 143 = .ok (.iconst 0, 1) := by decide +kernel
theorem d_Md_serveFiles_144 : decode b_Md_serveFiles 144 = .ok (.invokevirtual 114, 3) := by decide +kernel
theorem d_Md_serveFiles_147 : decode b_Md_serveFiles 147 = .ok (.istore_n 1, 1) := by decide +kernel
theorem d_Md_serveFiles_148 : decode b_Md_serveFiles 148 = .ok (.iload_n 1, 1) := by decide +kernel
theorem d_Md_serveFiles_149 : decode b_Md_serveFiles 149 = .ok (.ifCond .lt 21, 3) := by decide +kernel
theorem d_Md_serveFiles_152 : decode b_Md_serveFiles 152 = .ok (.aload_n 0, 1) := by decide +kernel
theorem d_Md_serveFiles_153 : decode b_Md_serveFiles 153 = .ok (.getfield 7, 3) := by decide +kernel
theorem d_Md_serveFiles_156 : decode b_Md_serveFiles 156 = .ok (.iload_n 1, 1) := by decide +kernel
theorem d_Md_serveFiles_157 : decode b_Md_serveFiles 157 = .ok (.iaload, 1) := by decide +kernel
theorem d_Md_serveFiles_158 : decode b_Md_serveFiles 158 = .ok (.iconst 3, 1) := by decide +kernel
theorem d_Md_serveFiles_159 : decode b_Md_serveFiles 159 = .ok (.if_icmp .ne 11, 3) := by decide +kernel
theorem d_Md_serveFiles_162 : decode b_Md_serveFiles 162 = .ok (.aload_n 0, 1) := by decide +kernel
theorem d_Md_serveFiles_163 : decode b_Md_serveFiles 163 = .ok (.iload_n 1, 1) := by decide +kernel
theorem d_Md_serveFiles_164 : decode b_Md_serveFiles 164 = .ok (.invokevirtual 147, 3) := by decide +kernel
theorem d_Md_serveFiles_167 : decode b_Md_serveFiles 167 = .ok (.goto 12, 3) := by decide +kernel
theorem d_Md_serveFiles_170 : decode b_Md_serveFiles 170 = .ok (.iload_n 1, 1) := by decide +kernel
theorem d_Md_serveFiles_171 : decode b_Md_serveFiles 171 = .ok (.ifCond .lt 8, 3) := by decide +kernel
theorem d_Md_serveFiles_174 : decode b_Md_serveFiles 174 = .ok (.aload_n 0, 1) := by decide +kernel
theorem d_Md_serveFiles_175 : decode b_Md_serveFiles 175 = .ok (.iload_n 1, 1) := by decide +kernel
theorem d_Md_serveFiles_176 : decode b_Md_serveFiles 176 = .ok (.invokevirtual 150, 3) := by decide +kernel
theorem d_Md_serveFiles_179 : decode b_Md_serveFiles 179 = .ok (.return_, 1) := by decide +kernel
theorem d_Md_give_0 : decode b_Md_give 0 = .ok (.aload_n 0, 1) := by decide +kernel
theorem d_Md_give_1 : decode b_Md_give 1 = .ok (.getfield 56, 3) := by decide +kernel
theorem d_Md_give_4 : decode b_Md_give 4 = .ok (.iload_n 1, 1) := by decide +kernel
theorem d_Md_give_5 : decode b_Md_give 5 = .ok (.aload_n 0, 1) := by decide +kernel
theorem d_Md_give_6 : decode b_Md_give 6 = .ok (.getfield 40, 3) := by decide +kernel
theorem d_Md_give_9 : decode b_Md_give 9 = .ok (.iload_n 1, 1) := by decide +kernel
theorem d_Md_give_10 : decode b_Md_give 10 = .ok (.iaload, 1) := by decide +kernel
theorem d_Md_give_11 : decode b_Md_give 11 = .ok (.iconst 2, 1) := by decide +kernel
theorem d_Md_give_12 : decode b_Md_give 12 = .ok (.if_icmp .ne 7, 3) := by decide +kernel
theorem d_Md_give_15 : decode b_Md_give 15 = .ok (.iconst 1, 1) := by decide +kernel
theorem d_Md_give_16 : decode b_Md_give 16 = .ok (.goto 4, 3) := by decide +kernel
theorem d_Md_give_19 : decode b_Md_give 19 = .ok (.iconst 2, 1) := by decide +kernel
theorem d_Md_give_20 : decode b_Md_give 20 = .ok (.iastore, 1) := by decide +kernel
theorem d_Md_give_21 : decode b_Md_give 21 = .ok (.aload_n 0, 1) := by decide +kernel
theorem d_Md_give_22 : decode b_Md_give 22 = .ok (.getfield 40, 3) := by decide +kernel
theorem d_Md_give_25 : decode b_Md_give 25 = .ok (.iload_n 1, 1) := by decide +kernel
theorem d_Md_give_26 : decode b_Md_give 26 = .ok (.iaload, 1) := by decide +kernel
theorem d_Md_give_27 : decode b_Md_give 27 = .ok (.iconst 2, 1) := by decide +kernel
theorem d_Md_give_28 : decode b_Md_give 28 = .ok (.if_icmp .eq 22, 3) := by decide +kernel
theorem d_Md_give_31 : decode b_Md_give 31 = .ok (.aload_n 0, 1) := by decide +kernel
theorem d_Md_give_32 : decode b_Md_give 32 = .ok (.getfield 59, 3) := by decide +kernel
theorem d_Md_give_35 : decode b_Md_give 35 = .ok (.iload_n 1, 1) := by decide +kernel
theorem d_Md_give_36 : decode b_Md_give 36 = .ok (.aload_n 0, 1) := by decide +kernel
theorem d_Md_give_37 : decode b_Md_give 37 = .ok (.getfield 37, 3) := by decide +kernel
theorem d_Md_give_40 : decode b_Md_give 40 = .ok (.iload_n 1, 1) := by decide +kernel
theorem d_Md_give_41 : decode b_Md_give 41 = .ok (.iaload, 1) := by decide +kernel
theorem d_Md_give_42 : decode b_Md_give 42 = .ok (.iastore, 1) := by decide +kernel
theorem d_Md_give_43 : decode b_Md_give 43 = .ok (.aload_n 0, 1) := by decide +kernel
theorem d_Md_give_44 : decode b_Md_give 44 = .ok (.getfield 46, 3) := by decide +kernel
theorem d_Md_give_47 : decode b_Md_give 47 = .ok (.iload_n 1, 1) := by decide +kernel
theorem d_Md_give_48 : decode b_Md_give 48 = .ok (.iconst 0, 1) := by decide +kernel
theorem d_Md_give_49 : decode b_Md_give 49 = .ok (.iastore, 1) := by decide +kernel
theorem d_Md_give_50 : decode b_Md_give 50 = .ok (.return_, 1) := by decide +kernel
theorem d_Md_flush_0 : decode b_Md_flush 0 = .ok (.iconst (-1), 1) := by decide +kernel
theorem d_Md_flush_1 : decode b_Md_flush 1 = .ok (.istore_n 2, 1) := by decide +kernel
theorem d_Md_flush_2 : decode b_Md_flush 2 = .ok (.iconst 0, 1) := by decide +kernel
theorem d_Md_flush_3 : decode b_Md_flush 3 = .ok (.istore_n 3, 1) := by decide +kernel
theorem d_Md_flush_4 : decode b_Md_flush 4 = .ok (.iload_n 3, 1) := by decide +kernel
theorem d_Md_flush_5 : decode b_Md_flush 5 = .ok (.iconst 3, 1) := by decide +kernel
theorem d_Md_flush_6 : decode b_Md_flush 6 = .ok (.if_icmp .ge 52, 3) := by decide +kernel
theorem d_Md_flush_9 : decode b_Md_flush 9 = .ok (.aload_n 0, 1) := by decide +kernel
theorem d_Md_flush_10 : decode b_Md_flush 10 = .ok (.getfield 62, 3) := by decide +kernel
theorem d_Md_flush_13 : decode b_Md_flush 13 = .ok (.iload_n 3, 1) := by decide +kernel
theorem d_Md_flush_14 : decode b_Md_flush 14 = .ok (.iaload, 1) := by decide +kernel
theorem d_Md_flush_15 : decode b_Md_flush 15 = .ok (.ifCond .lt 35, 3) := by decide +kernel
theorem d_Md_flush_18 : decode b_Md_flush 18 = .ok (.aload_n 0, 1) := by decide +kernel
theorem d_Md_flush_19 : decode b_Md_flush 19 = .ok (.getfield 68, 3) := by decide +kernel
theorem d_Md_flush_22 : decode b_Md_flush 22 = .ok (.iload_n 3, 1) := by decide +kernel
theorem d_Md_flush_23 : decode b_Md_flush 23 = .ok (.baload, 1) := by decide +kernel
theorem d_Md_flush_24 : decode b_Md_flush 24 = .ok (.ifCond .eq 26, 3) := by decide +kernel
theorem d_Md_flush_27 : decode b_Md_flush 27 = .ok (.iload_n 2, 1) := by decide +kernel
theorem d_Md_flush_28 : decode b_Md_flush 28 = .ok (.ifCond .lt 18, 3) := by decide +kernel
theorem d_Md_flush_31 : decode b_Md_flush 31 = .ok (.aload_n 0, 1) := by decide +kernel
theorem d_Md_flush_32 : decode b_Md_flush 32 = .ok (.getfield 62, 3) := by decide +kernel
theorem d_Md_flush_35 : decode b_Md_flush 35 = .ok (.iload_n 3, 1) := by decide +kernel
theorem d_Md_flush_36 : decode b_Md_flush 36 = .ok (.iaload, 1) := by decide +kernel
theorem d_Md_flush_37 : decode b_Md_flush 37 = .ok (.aload_n 0, 1) := by decide +kernel
theorem d_Md_flush_38 : decode b_Md_flush 38 = .ok (.getfield 62, 3) := by decide +kernel
theorem d_Md_flush_41 : decode b_Md_flush 41 = .ok (.iload_n 2, 1) := by decide +kernel
theorem d_Md_flush_42 : decode b_Md_flush 42 = .ok (.iaload, 1) := by decide +kernel
theorem d_Md_flush_43 : decode b_Md_flush 43 = .ok (.if_icmp .ge 7, 3) := by decide +kernel
theorem d_Md_flush_46 : decode b_Md_flush 46 = .ok (.iload_n 3, 1) := by decide +kernel
theorem d_Md_flush_47 : decode b_Md_flush 47 = .ok (.goto 4, 3) := by decide +kernel
theorem d_Md_flush_50 : decode b_Md_flush 50 = .ok (.iload_n 2, 1) := by decide +kernel
theorem d_Md_flush_51 : decode b_Md_flush 51 = .ok (.istore_n 2, 1) := by decide +kernel
theorem d_Md_flush_52 : decode b_Md_flush 52 = .ok (.iinc 3 1, 3) := by decide +kernel
theorem d_Md_flush_55 : decode b_Md_flush 55 = .ok (.goto (-51), 3) := by decide +kernel
theorem d_Md_flush_58 : decode b_Md_flush 58 = .ok (.iload_n 2, 1) := by decide +kernel
theorem d_Md_flush_59 : decode b_Md_flush 59 = .ok (.ifCond .ge 18, 3) := by decide +kernel
theorem d_Md_flush_62 : decode b_Md_flush 62 = .ok (.aload_n 0, 1) := by decide +kernel
theorem d_Md_flush_63 : decode b_Md_flush 63 = .ok (.iload_n 1, 1) := by decide +kernel
theorem d_Md_flush_64 : decode b_Md_flush 64 = .ok (.iconst 2, 1) := by decide +kernel
theorem d_Md_flush_65 : decode b_Md_flush 65 = .ok (.aload_n 0, 1) := by decide +kernel
theorem d_Md_flush_66 : decode b_Md_flush 66 = .ok (.getfield 28, 3) := by decide +kernel
theorem d_Md_flush_69 : decode b_Md_flush 69 = .ok (.iload_n 1, 1) := by decide +kernel
theorem d_Md_flush_70 : decode b_Md_flush 70 = .ok (.iaload, 1) := by decide +kernel
theorem d_Md_flush_71 : decode b_Md_flush 71 = .ok (.invokevirtual 128, 3) := by decide +kernel
theorem d_Md_flush_74 : decode b_Md_flush 74 = .ok (.goto 20, 3) := by decide +kernel
theorem d_Md_flush_77 : decode b_Md_flush 77 = .ok (.aload_n 0, 1) := by decide +kernel
theorem d_Md_flush_78 : decode b_Md_flush 78 = .ok (.getfield 28, 3) := by decide +kernel
theorem d_Md_flush_81 : decode b_Md_flush 81 = .ok (.iload_n 1, 1) := by decide +kernel
theorem d_Md_flush_82 : decode b_Md_flush 82 = .ok (.dup2, 1) := by decide +kernel
theorem d_Md_flush_83 : decode b_Md_flush 83 = .ok (.iaload, 1) := by decide +kernel
theorem d_Md_flush_84 : decode b_Md_flush 84 = .ok (.iconst 1, 1) := by decide +kernel
theorem d_Md_flush_85 : decode b_Md_flush 85 = .ok (.iadd, 1) := by decide +kernel
theorem d_Md_flush_86 : decode b_Md_flush 86 = .ok (.iastore, 1) := by decide +kernel
theorem d_Md_flush_87 : decode b_Md_flush 87 = .ok (.aload_n 0, 1) := by decide +kernel
theorem d_Md_flush_88 : decode b_Md_flush 88 = .ok (.iload_n 2, 1) := by decide +kernel
theorem d_Md_flush_89 : decode b_Md_flush 89 = .ok (.iconst 0, 1) := by decide +kernel
theorem d_Md_flush_90 : decode b_Md_flush 90 = .ok (.iconst 0, 1) := by decide +kernel
theorem d_Md_flush_91 : decode b_Md_flush 91 = .ok (.invokevirtual 143, 3) := by decide +kernel
theorem d_Md_flush_94 : decode b_Md_flush 94 = .ok (.return_, 1) := by decide +kernel
theorem d_Md_end_0 : decode b_Md_end 0 = .ok (.aload_n 0, 1) := by decide +kernel
theorem d_Md_end_1 : decode b_Md_end 1 = .ok (.getfield 22, 3) := by decide +kernel
theorem d_Md_end_4 : decode b_Md_end 4 = .ok (.iload_n 1, 1) := by decide +kernel
theorem d_Md_end_5 : decode b_Md_end 5 = .ok (.iload_n 2, 1) := by decide +kernel
theorem d_Md_end_6 : decode b_Md_end 6 = .ok (.iastore, 1) := by decide +kernel
theorem d_Md_end_7 : decode b_Md_end 7 = .ok (.aload_n 0, 1) := by decide +kernel
theorem d_Md_end_8 : decode b_Md_end 8 = .ok (.getfield 25, 3) := by decide +kernel
theorem d_Md_end_11 : decode b_Md_end 11 = .ok (.iload_n 1, 1) := by decide +kernel
theorem d_Md_end_12 : decode b_Md_end 12 = .ok (.iload_n 3, 1) := by decide +kernel
theorem d_Md_end_13 : decode b_Md_end 13 = .ok (.iastore, 1) := by decide +kernel
theorem d_Md_end_14 : decode b_Md_end 14 = .ok (.return_, 1) := by decide +kernel
theorem d_Md_demand_0 : decode b_Md_demand 0 = .ok (.aload_n 0, 1) := by decide +kernel
theorem d_Md_demand_1 : decode b_Md_demand 1 = .ok (.iload_n 1, 1) := by decide +kernel
theorem d_Md_demand_2 : decode b_Md_demand 2 = .ok (.putfield 108, 3) := by decide +kernel
theorem d_Md_demand_5 : decode b_Md_demand 5 = .ok (.aload_n 0, 1) := by decide +kernel
theorem d_Md_demand_6 : decode b_Md_demand 6 = .ok (.iload_n 2, 1) := by decide +kernel
theorem d_Md_demand_7 : decode b_Md_demand 7 = .ok (.putfield 98, 3) := by decide +kernel
theorem d_Md_demand_10 : decode b_Md_demand 10 = .ok (.aload_n 0, 1) := by decide +kernel
theorem d_Md_demand_11 : decode b_Md_demand 11 = .ok (.iload_n 3, 1) := by decide +kernel
theorem d_Md_demand_12 : decode b_Md_demand 12 = .ok (.putfield 102, 3) := by decide +kernel
theorem d_Md_demand_15 : decode b_Md_demand 15 = .ok (.aload_n 0, 1) := by decide +kernel
theorem d_Md_demand_16 : decode b_Md_demand 16 = .ok (.iconst 0, 1) := by decide +kernel
theorem d_Md_demand_17 : decode b_Md_demand 17 = .ok (.invokevirtual 118, 3) := by decide +kernel
theorem d_Md_demand_20 : decode b_Md_demand 20 = .ok (.return_, 1) := by decide +kernel
theorem d_Md_access_0 : decode b_Md_access 0 = .ok (.aload_n 0, 1) := by decide +kernel
theorem d_Md_access_1 : decode b_Md_access 1 = .ok (.aload_n 0, 1) := by decide +kernel
theorem d_Md_access_2 : decode b_Md_access 2 = .ok (.getfield 13, 3) := by decide +kernel
theorem d_Md_access_5 : decode b_Md_access 5 = .ok (.iload_n 1, 1) := by decide +kernel
theorem d_Md_access_6 : decode b_Md_access 6 = .ok (.iaload, 1) := by decide +kernel
theorem d_Md_access_7 : decode b_Md_access 7 = .ok (.invokevirtual 132, 3) := by decide +kernel
theorem d_Md_access_10 : decode b_Md_access 10 = .ok (.istore_n 2, 1) := by decide +kernel
theorem d_Md_access_11 : decode b_Md_access 11 = .ok (.iload_n 2, 1) := by decide +kernel
theorem d_Md_access_12 : decode b_Md_access 12 = .ok (.ifCond .lt 31, 3) := by decide +kernel
theorem d_Md_access_15 : decode b_Md_access 15 = .ok (.aload_n 0, 1) := by decide +kernel
theorem d_Md_access_16 : decode b_Md_access 16 = .ok (.getfield 7, 3) := by decide +kernel
theorem d_Md_access_19 : decode b_Md_access 19 = .ok (.iload_n 1, 1) := by decide +kernel
theorem d_Md_access_20 : decode b_Md_access 20 = .ok (.iaload, 1) := by decide +kernel
theorem d_Md_access_21 : decode b_Md_access 21 = .ok (.iconst 1, 1) := by decide +kernel
theorem d_Md_access_22 : decode b_Md_access 22 = .ok (.if_icmp .ne 21, 3) := by decide +kernel
theorem d_Md_access_25 : decode b_Md_access 25 = .ok (.aload_n 0, 1) := by decide +kernel
theorem d_Md_access_26 : decode b_Md_access 26 = .ok (.iload_n 2, 1) := by decide +kernel
theorem d_Md_access_27 : decode b_Md_access 27 = .ok (.invokevirtual 125, 3) := by decide +kernel
theorem d_Md_access_30 : decode b_Md_access 30 = .ok (.aload_n 0, 1) := by decide +kernel
theorem d_Md_access_31 : decode b_Md_access 31 = .ok (.iload_n 1, 1) := by decide +kernel
theorem d_Md_access_32 : decode b_Md_access 32 = .ok (.iconst 2, 1) := by decide +kernel
theorem d_Md_access_33 : decode b_Md_access 33 = .ok (.aload_n 0, 1) := by decide +kernel
theorem d_Md_access_34 : decode b_Md_access 34 = .ok (.getfield 65, 3) := by decide +kernel
theorem d_Md_access_37 : decode b_Md_access 37 = .ok (.iload_n 2, 1) := by decide +kernel
theorem d_Md_access_38 : decode b_Md_access 38 = .ok (.iaload, 1) := by decide +kernel
theorem d_Md_access_39 : decode b_Md_access 39 = .ok (.invokevirtual 128, 3) := by decide +kernel
theorem d_Md_access_42 : decode b_Md_access 42 = .ok (.return_, 1) := by decide +kernel
theorem d_Md_access_43 : decode b_Md_access 43 = .ok (.iload_n 2, 1) := by decide +kernel
theorem d_Md_access_44 : decode b_Md_access 44 = .ok (.ifCond .lt 10, 3) := by decide +kernel
theorem d_Md_access_47 : decode b_Md_access 47 = .ok (.aload_n 0, 1) := by decide +kernel
theorem d_Md_access_48 : decode b_Md_access 48 = .ok (.iload_n 2, 1) := by decide +kernel
theorem d_Md_access_49 : decode b_Md_access 49 = .ok (.iload_n 1, 1) := by decide +kernel
theorem d_Md_access_50 : decode b_Md_access 50 = .ok (.invokevirtual 135, 3) := by decide +kernel
theorem d_Md_access_53 : decode b_Md_access 53 = .ok (.return_, 1) := by decide +kernel
theorem d_Md_access_54 : decode b_Md_access 54 = .ok (.aload_n 0, 1) := by decide +kernel
theorem d_Md_access_55 : decode b_Md_access 55 = .ok (.invokevirtual 139, 3) := by decide +kernel
theorem d_Md_access_58 : decode b_Md_access 58 = .ok (.istore_n 2, 1) := by decide +kernel
theorem d_Md_access_59 : decode b_Md_access 59 = .ok (.aload_n 0, 1) := by decide +kernel
theorem d_Md_access_60 : decode b_Md_access 60 = .ok (.getfield 62, 3) := by decide +kernel
theorem d_Md_access_63 : decode b_Md_access 63 = .ok (.iload_n 2, 1) := by decide +kernel
theorem d_Md_access_64 : decode b_Md_access 64 = .ok (.iaload, 1) := by decide +kernel
theorem d_Md_access_65 : decode b_Md_access 65 = .ok (.ifCond .lt 22, 3) := by decide +kernel
theorem d_Md_access_68 : decode b_Md_access 68 = .ok (.aload_n 0, 1) := by decide +kernel
theorem d_Md_access_69 : decode b_Md_access 69 = .ok (.getfield 68, 3) := by decide +kernel
theorem d_Md_access_72 : decode b_Md_access 72 = .ok (.iload_n 2, 1) := by decide +kernel
theorem d_Md_access_73 : decode b_Md_access 73 = .ok (.baload, 1) := by decide +kernel
theorem d_Md_access_74 : decode b_Md_access 74 = .ok (.ifCond .eq 13, 3) := by decide +kernel
theorem d_Md_access_77 : decode b_Md_access 77 = .ok (.aload_n 0, 1) := by decide +kernel
theorem d_Md_access_78 : decode b_Md_access 78 = .ok (.iload_n 2, 1) := by decide +kernel
theorem d_Md_access_79 : decode b_Md_access 79 = .ok (.iconst 0, 1) := by decide +kernel
theorem d_Md_access_80 : decode b_Md_access 80 = .ok (.iconst 0, 1) := by decide +kernel
theorem d_Md_access_81 : decode b_Md_access 81 = .ok (.invokevirtual 143, 3) := by decide +kernel
theorem d_Md_access_84 : decode b_Md_access 84 = .ok (.goto 48, 3) := by decide +kernel
theorem d_Md_access_87 : decode b_Md_access 87 = .ok (.aload_n 0, 1) := by decide +kernel
theorem d_Md_access_88 : decode b_Md_access 88 = .ok (.getfield 7, 3) := by decide +kernel
theorem d_Md_access_91 : decode b_Md_access 91 = .ok (.iload_n 1, 1) := by decide +kernel
theorem d_Md_access_92 : decode b_Md_access 92 = .ok (.iaload, 1) := by decide +kernel
theorem d_Md_access_93 : decode b_Md_access 93 = .ok (.iconst 1, 1) := by decide +kernel
theorem d_Md_access_94 : decode b_Md_access 94 = .ok (.if_icmp .ne 32, 3) := by decide +kernel
theorem d_Md_access_97 : decode b_Md_access 97 = .ok (.aload_n 0, 1) := by decide +kernel
theorem d_Md_access_98 : decode b_Md_access 98 = .ok (.getfield 62, 3) := by decide +kernel
theorem d_Md_access_101 : decode b_Md_access 101 = .ok (.iload_n 2, 1) := by decide +kernel
theorem d_Md_access_102 : decode b_Md_access 102 = .ok (.iconst (-1), 1) := by decide +kernel
theorem d_Md_access_103 : decode b_Md_access 103 = .ok (.iastore, 1) := by decide +kernel
theorem d_Md_access_104 : decode b_Md_access 104 = .ok (.aload_n 0, 1) := by decide +kernel
theorem d_Md_access_105 : decode b_Md_access 105 = .ok (.getfield 68, 3) := by decide +kernel
theorem d_Md_access_108 : decode b_Md_access 108 = .ok (.iload_n 2, 1) := by decide +kernel
theorem d_Md_access_109 : decode b_Md_access 109 = .ok (.iconst 0, 1) := by decide +kernel
theorem d_Md_access_110 : decode b_Md_access 110 = .ok (.bastore, 1) := by decide +kernel
theorem d_Md_access_111 : decode b_Md_access 111 = .ok (.aload_n 0, 1) := by decide +kernel
theorem d_Md_access_112 : decode b_Md_access 112 = .ok (.iload_n 2, 1) := by decide +kernel
theorem d_Md_access_113 : decode b_Md_access 113 = .ok (.iconst 1, 1) := by decide +kernel
theorem d_Md_access_114 : decode b_Md_access 114 = .ok (.aload_n 0, 1) := by decide +kernel
theorem d_Md_access_115 : decode b_Md_access 115 = .ok (.getfield 13, 3) := by decide +kernel
theorem d_Md_access_118 : decode b_Md_access 118 = .ok (.iload_n 1, 1) := by decide +kernel
theorem d_Md_access_119 : decode b_Md_access 119 = .ok (.iaload, 1) := by decide +kernel
theorem d_Md_access_120 : decode b_Md_access 120 = .ok (.invokevirtual 143, 3) := by decide +kernel
theorem d_Md_access_123 : decode b_Md_access 123 = .ok (.goto 9, 3) := by decide +kernel
theorem d_Md_access_126 : decode b_Md_access 126 = .ok (.aload_n 0, 1) := by decide +kernel
theorem d_Md_access_127 : decode b_Md_access 127 = .ok (.iload_n 2, 1) := by decide +kernel
theorem d_Md_access_128 : decode b_Md_access 128 = .ok (.iload_n 1, 1) := by decide +kernel
theorem d_Md_access_129 : decode b_Md_access 129 = .ok (.invokevirtual 135, 3) := by decide +kernel
theorem d_Md_access_132 : decode b_Md_access 132 = .ok (.return_, 1) := by decide +kernel
theorem d_Md_slotWith_0 : decode b_Md_slotWith 0 = .ok (.iconst (-1), 1) := by decide +kernel
theorem d_Md_slotWith_1 : decode b_Md_slotWith 1 = .ok (.istore_n 2, 1) := by decide +kernel
theorem d_Md_slotWith_2 : decode b_Md_slotWith 2 = .ok (.iconst 0, 1) := by decide +kernel
theorem d_Md_slotWith_3 : decode b_Md_slotWith 3 = .ok (.istore_n 3, 1) := by decide +kernel
theorem d_Md_slotWith_4 : decode b_Md_slotWith 4 = .ok (.iload_n 3, 1) := by decide +kernel
theorem d_Md_slotWith_5 : decode b_Md_slotWith 5 = .ok (.iconst 3, 1) := by decide +kernel
theorem d_Md_slotWith_6 : decode b_Md_slotWith 6 = .ok (.if_icmp .ge 25, 3) := by decide +kernel
theorem d_Md_slotWith_9 : decode b_Md_slotWith 9 = .ok (.aload_n 0, 1) := by decide +kernel
theorem d_Md_slotWith_10 : decode b_Md_slotWith 10 = .ok (.getfield 62, 3) := by decide +kernel
theorem d_Md_slotWith_13 : decode b_Md_slotWith 13 = .ok (.iload_n 3, 1) := by decide +kernel
theorem d_Md_slotWith_14 : decode b_Md_slotWith 14 = .ok (.iaload, 1) := by decide +kernel
theorem d_Md_slotWith_15 : decode b_Md_slotWith 15 = .ok (.iload_n 1, 1) := by decide +kernel
theorem d_Md_slotWith_16 : decode b_Md_slotWith 16 = .ok (.if_icmp .ne 7, 3) := by decide +kernel
theorem d_Md_slotWith_19 : decode b_Md_slotWith 19 = .ok (.iload_n 3, 1) := by decide +kernel
theorem d_Md_slotWith_20 : decode b_Md_slotWith 20 = .ok (.goto 4, 3) := by decide +kernel
theorem d_Md_slotWith_23 : decode b_Md_slotWith 23 = .ok (.iload_n 2, 1) := by decide +kernel
theorem d_Md_slotWith_24 : decode b_Md_slotWith 24 = .ok (.istore_n 2, 1) := by decide +kernel
theorem d_Md_slotWith_25 : decode b_Md_slotWith 25 = .ok (.iinc 3 1, 3) := by decide +kernel
theorem d_Md_slotWith_28 : decode b_Md_slotWith 28 = .ok (.goto (-24), 3) := by decide +kernel
theorem d_Md_slotWith_31 : decode b_Md_slotWith 31 = .ok (.iload_n 2, 1) := by decide +kernel
theorem d_Md_slotWith_32 : decode b_Md_slotWith 32 = .ok (.ireturn, 1) := by decide +kernel
theorem d_Md_use_0 : decode b_Md_use 0 = .ok (.aload_n 0, 1) := by decide +kernel
theorem d_Md_use_1 : decode b_Md_use 1 = .ok (.dup, 1) := by decide +kernel
theorem d_Md_use_2 : decode b_Md_use 2 = .ok (.getfield 122, 3) := by decide +kernel
theorem d_Md_use_5 : decode b_Md_use 5 = .ok (.iconst 1, 1) := by decide +kernel
theorem d_Md_use_6 : decode b_Md_use 6 = .ok (.iadd, 1) := by decide +kernel
theorem d_Md_use_7 : decode b_Md_use 7 = .ok (.putfield 122, 3) := by decide +kernel
theorem d_Md_use_10 : decode b_Md_use 10 = .ok (.aload_n 0, 1) := by decide +kernel
theorem d_Md_use_11 : decode b_Md_use 11 = .ok (.getfield 71, 3) := by decide +kernel
theorem d_Md_use_14 : decode b_Md_use 14 = .ok (.iload_n 1, 1) := by decide +kernel
theorem d_Md_use_15 : decode b_Md_use 15 = .ok (.aload_n 0, 1) := by decide +kernel
theorem d_Md_use_16 : decode b_Md_use 16 = .ok (.getfield 122, 3) := by decide +kernel
theorem d_Md_use_19 : decode b_Md_use 19 = .ok (.iastore, 1) := by decide +kernel
theorem d_Md_use_20 : decode b_Md_use 20 = .ok (.return_, 1) := by decide +kernel
theorem d_Md_fill_0 : decode b_Md_fill 0 = .ok (.aload_n 0, 1) := by decide +kernel
theorem d_Md_fill_1 : decode b_Md_fill 1 = .ok (.getfield 62, 3) := by decide +kernel
theorem d_Md_fill_4 : decode b_Md_fill 4 = .ok (.iload_n 1, 1) := by decide +kernel
theorem d_Md_fill_5 : decode b_Md_fill 5 = .ok (.aload_n 0, 1) := by decide +kernel
theorem d_Md_fill_6 : decode b_Md_fill 6 = .ok (.getfield 13, 3) := by decide +kernel
theorem d_Md_fill_9 : decode b_Md_fill 9 = .ok (.iload_n 2, 1) := by decide +kernel
theorem d_Md_fill_10 : decode b_Md_fill 10 = .ok (.iaload, 1) := by decide +kernel
theorem d_Md_fill_11 : decode b_Md_fill 11 = .ok (.iastore, 1) := by decide +kernel
theorem d_Md_fill_12 : decode b_Md_fill 12 = .ok (.aload_n 0, 1) := by decide +kernel
theorem d_Md_fill_13 : decode b_Md_fill 13 = .ok (.getfield 65, 3) := by decide +kernel
theorem d_Md_fill_16 : decode b_Md_fill 16 = .ok (.iload_n 1, 1) := by decide +kernel
theorem d_Md_fill_17 : decode b_Md_fill 17 = .ok (.aload_n 0, 1) := by decide +kernel
theorem d_Md_fill_18 : decode b_Md_fill 18 = .ok (.getfield 16, 3) := by decide +kernel
theorem d_Md_fill_21 : decode b_Md_fill 21 = .ok (.iload_n 2, 1) := by decide +kernel
theorem d_Md_fill_22 : decode b_Md_fill 22 = .ok (.iaload, 1) := by decide +kernel
theorem d_Md_fill_23 : decode b_Md_fill 23 = .ok (.iastore, 1) := by decide +kernel
theorem d_Md_fill_24 : decode b_Md_fill 24 = .ok (.aload_n 0, 1) := by decide +kernel
theorem d_Md_fill_25 : decode b_Md_fill 25 = .ok (.getfield 68, 3) := by decide +kernel
theorem d_Md_fill_28 : decode b_Md_fill 28 = .ok (.iload_n 1, 1) := by decide +kernel
theorem d_Md_fill_29 : decode b_Md_fill 29 = .ok (.iconst 1, 1) := by decide +kernel
theorem d_Md_fill_30 : decode b_Md_fill 30 = .ok (.bastore, 1) := by decide +kernel
theorem d_Md_fill_31 : decode b_Md_fill 31 = .ok (.aload_n 0, 1) := by decide +kernel
theorem d_Md_fill_32 : decode b_Md_fill 32 = .ok (.iload_n 1, 1) := by decide +kernel
theorem d_Md_fill_33 : decode b_Md_fill 33 = .ok (.invokevirtual 125, 3) := by decide +kernel
theorem d_Md_fill_36 : decode b_Md_fill 36 = .ok (.aload_n 0, 1) := by decide +kernel
theorem d_Md_fill_37 : decode b_Md_fill 37 = .ok (.iload_n 2, 1) := by decide +kernel
theorem d_Md_fill_38 : decode b_Md_fill 38 = .ok (.iconst 2, 1) := by decide +kernel
theorem d_Md_fill_39 : decode b_Md_fill 39 = .ok (.iconst 0, 1) := by decide +kernel
theorem d_Md_fill_40 : decode b_Md_fill 40 = .ok (.invokevirtual 128, 3) := by decide +kernel
theorem d_Md_fill_43 : decode b_Md_fill 43 = .ok (.return_, 1) := by decide +kernel
theorem d_Md_slotToTake_0 : decode b_Md_slotToTake 0 = .ok (.iconst 0, 1) := by decide +kernel
theorem d_Md_slotToTake_1 : decode b_Md_slotToTake 1 = .ok (.istore_n 1, 1) := by decide +kernel
theorem d_Md_slotToTake_2 : decode b_Md_slotToTake 2 = .ok (.iconst 1, 1) := by decide +kernel
theorem d_Md_slotToTake_3 : decode b_Md_slotToTake 3 = .ok (.istore_n 2, 1) := by decide +kernel
theorem d_Md_slotToTake_4 : decode b_Md_slotToTake 4 = .ok (.iload_n 2, 1) := by decide +kernel
theorem d_Md_slotToTake_5 : decode b_Md_slotToTake 5 = .ok (.iconst 3, 1) := by decide +kernel
theorem d_Md_slotToTake_6 : decode b_Md_slotToTake 6 = .ok (.if_icmp .ge 58, 3) := by decide +kernel
theorem d_Md_slotToTake_9 : decode b_Md_slotToTake 9 = .ok (.aload_n 0, 1) := by decide +kernel
theorem d_Md_slotToTake_10 : decode b_Md_slotToTake 10 = .ok (.getfield 62, 3) := by decide +kernel
theorem d_Md_slotToTake_13 : decode b_Md_slotToTake 13 = .ok (.iload_n 1, 1) := by decide +kernel
theorem d_Md_slotToTake_14 : decode b_Md_slotToTake 14 = .ok (.iaload, 1) := by decide +kernel
theorem d_Md_slotToTake_15 : decode b_Md_slotToTake 15 = .ok (.ifCond .lt 31, 3) := by decide +kernel
theorem d_Md_slotToTake_18 : decode b_Md_slotToTake 18 = .ok (.aload_n 0, 1) := by decide +kernel
theorem d_Md_slotToTake_19 : decode b_Md_slotToTake 19 = .ok (.getfield 62, 3) := by decide +kernel
theorem d_Md_slotToTake_22 : decode b_Md_slotToTake 22 = .ok (.iload_n 2, 1) := by decide +kernel
theorem d_Md_slotToTake_23 : decode b_Md_slotToTake 23 = .ok (.iaload, 1) := by decide +kernel
theorem d_Md_slotToTake_24 : decode b_Md_slotToTake 24 = .ok (.ifCond .lt 18, 3) := by decide +kernel
theorem d_Md_slotToTake_27 : decode b_Md_slotToTake 27 = .ok (.aload_n 0, 1) := by decide +kernel
theorem d_Md_slotToTake_28 : decode b_Md_slotToTake 28 = .ok (.getfield 71, 3) := by decide +kernel
theorem d_Md_slotToTake_31 : decode b_Md_slotToTake 31 = .ok (.iload_n 2, 1) := by decide +kernel
theorem d_Md_slotToTake_32 : decode b_Md_slotToTake 32 = .ok (.iaload, 1) := by decide +kernel
theorem d_Md_slotToTake_33 : decode b_Md_slotToTake 33 = .ok (.aload_n 0, 1) := by decide +kernel
theorem d_Md_slotToTake_34 : decode b_Md_slotToTake 34 = .ok (.getfield 71, 3) := by decide +kernel
theorem d_Md_slotToTake_37 : decode b_Md_slotToTake 37 = .ok (.iload_n 1, 1) := by decide +kernel
theorem d_Md_slotToTake_38 : decode b_Md_slotToTake 38 = .ok (.iaload, 1) := by decide +kernel
theorem d_Md_slotToTake_39 : decode b_Md_slotToTake 39 = .ok (.if_icmp .ge 7, 3) := by decide +kernel
theorem d_Md_slotToTake_42 : decode b_Md_slotToTake 42 = .ok (.iconst 1, 1) := by decide +kernel
theorem d_Md_slotToTake_43 : decode b_Md_slotToTake 43 = .ok (.goto 4, 3) := by decide +kernel
theorem d_Md_slotToTake_46 : decode b_Md_slotToTake 46 = .ok (.iconst 0, 1) := by decide +kernel
theorem d_Md_slotToTake_47 : decode b_Md_slotToTake 47 = .ok (.istore_n 3, 1) := by decide +kernel
theorem d_Md_slotToTake_48 : decode b_Md_slotToTake 48 = .ok (.iload_n 3, 1) := by decide +kernel
theorem d_Md_slotToTake_49 : decode b_Md_slotToTake 49 = .ok (.ifCond .eq 7, 3) := by decide +kernel
theorem d_Md_slotToTake_52 : decode b_Md_slotToTake 52 = .ok (.iload_n 2, 1) := by decide +kernel
theorem d_Md_slotToTake_53 : decode b_Md_slotToTake 53 = .ok (.goto 4, 3) := by decide +kernel
theorem d_Md_slotToTake_56 : decode b_Md_slotToTake 56 = .ok (.iload_n 1, 1) := by decide +kernel
theorem d_Md_slotToTake_57 : decode b_Md_slotToTake 57 = .ok (.istore_n 1, 1) := by decide +kernel
theorem d_Md_slotToTake_58 : decode b_Md_slotToTake 58 = .ok (.iinc 2 1, 3) := by decide +kernel
theorem d_Md_slotToTake_61 : decode b_Md_slotToTake 61 = .ok (.goto (-57), 3) := by decide +kernel
theorem d_Md_slotToTake_64 : decode b_Md_slotToTake 64 = .ok (.iload_n 1, 1) := by decide +kernel
theorem d_Md_slotToTake_65 : decode b_Md_slotToTake 65 = .ok (.ireturn, 1) := by decide +kernel
