theorem d_Md_init_0 : decode b_Md_init 0 = .ok (.aload_n 0, 1) := by decide +kernel
theorem d_Md_init_1 : decode b_Md_init 1 = .ok (.invokespecial 1, 3) := by decide +kernel
theorem d_Md_init_4 : decode b_Md_init 4 = .ok (.aload_n 0, 1) := by decide +kernel
theorem d_Md_init_5 : decode b_Md_init 5 = .ok (.iconst 4, 1) := by decide +kernel
theorem d_Md_init_6 : decode b_Md_init 6 = .ok (.newarray .int, 2) := by decide +kernel
theorem d_Md_init_8 : decode b_Md_init 8 = .ok (.putfield 7, 3) := by decide +kernel
theorem d_Md_init_11 : decode b_Md_init 11 = .ok (.aload_n 0, 1) := by decide +kernel
theorem d_Md_init_12 : decode b_Md_init 12 = .ok (.iconst 4, 1) := by decide +kernel
theorem d_Md_init_13 : decode b_Md_init 13 = .ok (.newarray .int, 2) := by decide +kernel
theorem d_Md_init_15 : decode b_Md_init 15 = .ok (.putfield 13, 3) := by decide +kernel
theorem d_Md_init_18 : decode b_Md_init 18 = .ok (.aload_n 0, 1) := by decide +kernel
theorem d_Md_init_19 : decode b_Md_init 19 = .ok (.iconst 4, 1) := by decide +kernel
theorem d_Md_init_20 : decode b_Md_init 20 = .ok (.newarray .int, 2) := by decide +kernel
theorem d_Md_init_22 : decode b_Md_init 22 = .ok (.putfield 16, 3) := by decide +kernel
theorem d_Md_init_25 : decode b_Md_init 25 = .ok (.aload_n 0, 1) := by decide +kernel
theorem d_Md_init_26 : decode b_Md_init 26 = .ok (.iconst 4, 1) := by decide +kernel
theorem d_Md_init_27 : decode b_Md_init 27 = .ok (.newarray .int, 2) := by decide +kernel
theorem d_Md_init_29 : decode b_Md_init 29 = .ok (.putfield 19, 3) := by decide +kernel
theorem d_Md_init_32 : decode b_Md_init 32 = .ok (.aload_n 0, 1) := by decide +kernel
theorem d_Md_init_33 : decode b_Md_init 33 = .ok (.iconst 4, 1) := by decide +kernel
theorem d_Md_init_34 : decode b_Md_init 34 = .ok (.newarray .int, 2) := by decide +kernel
theorem d_Md_init_36 : decode b_Md_init 36 = .ok (.putfield 22, 3) := by decide +kernel
theorem d_Md_init_39 : decode b_Md_init 39 = .ok (.aload_n 0, 1) := by decide +kernel
theorem d_Md_init_40 : decode b_Md_init 40 = .ok (.iconst 4, 1) := by decide +kernel
theorem d_Md_init_41 : decode b_Md_init 41 = .ok (.newarray .int, 2) := by decide +kernel
theorem d_Md_init_43 : decode b_Md_init 43 = .ok (.putfield 25, 3) := by decide +kernel
theorem d_Md_init_46 : decode b_Md_init 46 = .ok (.aload_n 0, 1) := by decide +kernel
theorem d_Md_init_47 : decode b_Md_init 47 = .ok (.iconst 4, 1) := by decide +kernel
theorem d_Md_init_48 : decode b_Md_init 48 = .ok (.newarray .int, 2) := by decide +kernel
theorem d_Md_init_50 : decode b_Md_init 50 = .ok (.putfield 28, 3) := by decide +kernel
theorem d_Md_init_53 : decode b_Md_init 53 = .ok (.aload_n 0, 1) := by decide +kernel
theorem d_Md_init_54 : decode b_Md_init 54 = .ok (.bipush 16, 2) := by decide +kernel
theorem d_Md_init_56 : decode b_Md_init 56 = .ok (.newarray .int, 2) := by decide +kernel
theorem d_Md_init_58 : decode b_Md_init 58 = .ok (.putfield 31, 3) := by decide +kernel
theorem d_Md_init_61 : decode b_Md_init 61 = .ok (.aload_n 0, 1) := by decide +kernel
theorem d_Md_init_62 : decode b_Md_init 62 = .ok (.sipush 200, 3) := by decide +kernel
theorem d_Md_init_65 : decode b_Md_init 65 = .ok (.newarray .int, 2) := by decide +kernel
theorem d_Md_init_67 : decode b_Md_init 67 = .ok (.putfield 34, 3) := by decide +kernel
theorem d_Md_init_70 : decode b_Md_init 70 = .ok (.aload_n 0, 1) := by decide +kernel
theorem d_Md_init_71 : decode b_Md_init 71 = .ok (.iconst 2, 1) := by decide +kernel
theorem d_Md_init_72 : decode b_Md_init 72 = .ok (.newarray .int, 2) := by decide +kernel
theorem d_Md_init_74 : decode b_Md_init 74 = .ok (.putfield 37, 3) := by decide +kernel
theorem d_Md_init_77 : decode b_Md_init 77 = .ok (.aload_n 0, 1) := by decide +kernel
theorem d_Md_init_78 : decode b_Md_init 78 = .ok (.iconst 2, 1) := by decide +kernel
theorem d_Md_init_79 : decode b_Md_init 79 = .ok (.newarray .int, 2) := by decide +kernel
theorem d_Md_init_81 : decode b_Md_init 81 = .ok (.putfield 40, 3) := by decide +kernel
theorem d_Md_init_84 : decode b_Md_init 84 = .ok (.aload_n 0, 1) := by decide +kernel
theorem d_Md_init_85 : decode b_Md_init 85 = .ok (.iconst 2, 1) := by decide +kernel
theorem d_Md_init_86 : decode b_Md_init 86 = .ok (.newarray .int, 2) := by decide +kernel
theorem d_Md_init_88 : decode b_Md_init 88 = .ok (.putfield 43, 3) := by decide +kernel
theorem d_Md_init_91 : decode b_Md_init 91 = .ok (.aload_n 0, 1) := by decide +kernel
theorem d_Md_init_92 : decode b_Md_init 92 = .ok (.iconst 2, 1) := by decide +kernel
theorem d_Md_init_93 : decode b_Md_init 93 = .ok (.newarray .int, 2) := by decide +kernel
theorem d_Md_init_95 : decode b_Md_init 95 = .ok (.dup, 1) := by decide +kernel
theorem d_Md_init_96 : decode b_Md_init 96 = .ok (.iconst 0, 1) := by decide +kernel
theorem d_Md_init_97 : decode b_Md_init 97 = .ok (.iconst (-1), 1) := by decide +kernel
theorem d_Md_init_98 : decode b_Md_init 98 = .ok (.iastore, 1) := by decide +kernel
theorem d_Md_init_99 : decode b_Md_init 99 = .ok (.dup, 1) := by decide +kernel
theorem d_Md_init_100 : decode b_Md_init 100 = .ok (.iconst 1, 1) := by decide +kernel
theorem d_Md_init_101 : decode b_Md_init 101 = .ok (.iconst (-1), 1) := by decide +kernel
theorem d_Md_init_102 : decode b_Md_init 102 = .ok (.iastore, 1) := by decide +kernel
theorem d_Md_init_103 : decode b_Md_init 103 = .ok (.putfield 46, 3) := by decide +kernel
theorem d_Md_init_106 : decode b_Md_init 106 = .ok (.aload_n 0, 1) := by decide +kernel
theorem d_Md_init_107 : decode b_Md_init 107 = .ok (.iconst 2, 1) := by decide +kernel
theorem d_Md_init_108 : decode b_Md_init 108 = .ok (.newarray .int, 2) := by decide +kernel
theorem d_Md_init_110 : decode b_Md_init 110 = .ok (.putfield 49, 3) := by decide +kernel
theorem d_Md_init_113 : decode b_Md_init 113 = .ok (.aload_n 0, 1) := by decide +kernel
theorem d_Md_init_114 : decode b_Md_init 114 = .ok (.iconst 2, 1) := by decide +kernel
theorem d_Md_init_115 : decode b_Md_init 115 = .ok (.newarray .boolean, 2) := by decide +kernel
theorem d_Md_init_117 : decode b_Md_init 117 = .ok (.putfield 52, 3) := by decide +kernel
theorem d_Md_init_120 : decode b_Md_init 120 = .ok (.aload_n 0, 1) := by decide +kernel
theorem d_Md_init_121 : decode b_Md_init 121 = .ok (.iconst 2, 1) := by decide +kernel
theorem d_Md_init_122 : decode b_Md_init 122 = .ok (.newarray .int, 2) := by decide +kernel
theorem d_Md_init_124 : decode b_Md_init 124 = .ok (.putfield 56, 3) := by decide +kernel
theorem d_Md_init_127 : decode b_Md_init 127 = .ok (.aload_n 0, 1) := by decide +kernel
theorem d_Md_init_128 : decode b_Md_init 128 = .ok (.iconst 2, 1) := by decide +kernel
theorem d_Md_init_129 : decode b_Md_init 129 = .ok (.newarray .int, 2) := by decide +kernel
theorem d_Md_init_131 : decode b_Md_init 131 = .ok (.putfield 59, 3) := by decide +kernel
theorem d_Md_init_134 : decode b_Md_init 134 = .ok (.aload_n 0, 1) := by decide +kernel
theorem d_Md_init_135 : decode b_Md_init 135 = .ok (.iconst 3, 1) := by decide +kernel
theorem d_Md_init_136 : decode b_Md_init 136 = .ok (.newarray .int, 2) := by decide +kernel
theorem d_Md_init_138 : decode b_Md_init 138 = .ok (.dup, 1) := by decide +kernel
theorem d_Md_init_139 : decode b_Md_init 139 = .ok (.iconst 0, 1) := by decide +kernel
theorem d_Md_init_140 : decode b_Md_init 140 = .ok (.iconst (-1), 1) := by decide +kernel
theorem d_Md_init_141 : decode b_Md_init 141 = .ok (.iastore, 1) := by decide +kernel
theorem d_Md_init_142 : decode b_Md_init 142 = .ok (.dup, 1) := by decide +kernel
theorem d_Md_init_143 : decode b_Md_init 143 = .ok (.iconst 1, 1) := by decide +kernel
theorem d_Md_init_144 : decode b_Md_init 144 = .ok (.iconst (-1), 1) := by decide +kernel
theorem d_Md_init_145 : decode b_Md_init 145 = .ok (.iastore, 1) := by decide +kernel
theorem d_Md_init_146 : decode b_Md_init 146 = .ok (.dup, 1) := by decide +kernel
theorem d_Md_init_147 : decode b_Md_init 147 = .ok (.iconst 2, 1) := by decide +kernel
theorem d_Md_init_148 : decode b_Md_init 148 = .ok (.iconst (-1), 1) := by decide +kernel
theorem d_Md_init_149 : decode b_Md_init 149 = .ok (.iastore, 1) := by decide +kernel
theorem d_Md_init_150 : decode b_Md_init 150 = .ok (.putfield 62, 3) := by decide +kernel
theorem d_Md_init_153 : decode b_Md_init 153 = .ok (.aload_n 0, 1) := by decide +kernel
theorem d_Md_init_154 : decode b_Md_init 154 = .ok (.iconst 3, 1) := by decide +kernel
theorem d_Md_init_155 : decode b_Md_init 155 = .ok (.newarray .int, 2) := by decide +kernel
theorem d_Md_init_157 : decode b_Md_init 157 = .ok (.putfield 65, 3) := by decide +kernel
theorem d_Md_init_160 : decode b_Md_init 160 = .ok (.aload_n 0, 1) := by decide +kernel
theorem d_Md_init_161 : decode b_Md_init 161 = .ok (.iconst 3, 1) := by decide +kernel
theorem d_Md_init_162 : decode b_Md_init 162 = .ok (.newarray .boolean, 2) := by decide +kernel
theorem d_Md_init_164 : decode b_Md_init 164 = .ok (.putfield 68, 3) := by decide +kernel
theorem d_Md_init_167 : decode b_Md_init 167 = .ok (.aload_n 0, 1) := by decide +kernel
theorem d_Md_init_168 : decode b_Md_init 168 = .ok (.iconst 3, 1) := by decide +kernel
theorem d_Md_init_169 : decode b_Md_init 169 = .ok (.newarray .int, 2) := by decide +kernel
theorem d_Md_init_171 : decode b_Md_init 171 = .ok (.putfield 71, 3) := by decide +kernel
theorem d_Md_init_174 : decode b_Md_init 174 = .ok (.aload_n 0, 1) := by decide +kernel
theorem d_Md_init_175 : decode b_Md_init 175 = .ok (.iload_n 1, 1) := by decide +kernel
theorem d_Md_init_176 : decode b_Md_init 176 = .ok (.iconst 2, 1) := by decide +kernel
theorem d_Md_init_177 : decode b_Md_init 177 = .ok (.if_icmp .lt 13, 3) := by decide +kernel
theorem d_Md_init_180 : decode b_Md_init 180 = .ok (.iload_n 1, 1) := by decide +kernel
theorem d_Md_init_181 : decode b_Md_init 181 = .ok (.bipush 20, 2) := by decide +kernel
theorem d_Md_init_183 : decode b_Md_init 183 = .ok (.if_icmp .gt 7, 3) := by decide +kernel
theorem d_Md_init_186 : decode b_Md_init 186 = .ok (.iload_n 1, 1) := by decide +kernel
theorem d_Md_init_187 : decode b_Md_init 187 = .ok (.goto 4, 3) := by decide +kernel
theorem d_Md_init_190 : decode b_Md_init 190 = .ok (.iconst 5, 1) := by decide +kernel
theorem d_Md_init_191 : decode b_Md_init 191 = .ok (.putfield 74, 3) := by decide +kernel
theorem d_Md_init_194 : decode b_Md_init 194 = .ok (.return_, 1) := by decide +kernel
theorem d_Md_read_0 : decode b_Md_read 0 = .ok (.iload_n 2, 1) := by decide +kernel
theorem d_Md_read_1 : decode b_Md_read 1 = .ok (.ifCond .lt 24, 3) := by decide +kernel
theorem d_Md_read_4 : decode b_Md_read 4 = .ok (.iload_n 2, 1) := by decide +kernel
theorem d_Md_read_5 : decode b_Md_read 5 = .ok (.bipush 15, 2) := by decide +kernel
theorem d_Md_read_7 : decode b_Md_read 7 = .ok (.if_icmp .gt 18, 3) := by decide +kernel
theorem d_Md_read_10 : decode b_Md_read 10 = .ok (.aload_n 0, 1) := by decide +kernel
theorem d_Md_read_11 : decode b_Md_read 11 = .ok (.iload_n 1, 1) := by decide +kernel
theorem d_Md_read_12 : decode b_Md_read 12 = .ok (.iconst 1, 1) := by decide +kernel
theorem d_Md_read_13 : decode b_Md_read 13 = .ok (.iload_n 2, 1) := by decide +kernel
theorem d_Md_read_14 : decode b_Md_read 14 = .ok (.iconst 0, 1) := by decide +kernel
theorem d_Md_read_15 : decode b_Md_read 15 = .ok (.invokevirtual 81, 3) := by decide +kernel
theorem d_Md_read_18 : decode b_Md_read 18 = .ok (.ifCond .eq 7, 3) := by decide +kernel
theorem d_Md_read_21 : decode b_Md_read 21 = .ok (.iconst 1, 1) := by decide +kernel
theorem d_Md_read_22 : decode b_Md_read 22 = .ok (.goto 4, 3) := by decide +kernel
theorem d_Md_read_25 : decode b_Md_read 25 = .ok (.iconst 0, 1) := by decide +kernel
theorem d_Md_read_26 : decode b_Md_read 26 = .ok (.ireturn, 1) := by decide +kernel
theorem d_Md_begin_0 : decode b_Md_begin 0 = .ok (.iload_n 1, 1) := by decide +kernel
theorem d_Md_begin_1 : decode b_Md_begin 1 = .ok (.ifCond .lt 18, 3) := by decide +kernel
theorem d_Md_begin_4 : decode b_Md_begin 4 = .ok (.iload_n 1, 1) := by decide +kernel
theorem d_Md_begin_5 : decode b_Md_begin 5 = .ok (.iconst 3, 1) := by decide +kernel
theorem d_Md_begin_6 : decode b_Md_begin 6 = .ok (.if_icmp .gt 13, 3) := by decide +kernel
theorem d_Md_begin_9 : decode b_Md_begin 9 = .ok (.aload_n 0, 1) := by decide +kernel
theorem d_Md_begin_10 : decode b_Md_begin 10 = .ok (.getfield 22, 3) := by decide +kernel
theorem d_Md_begin_13 : decode b_Md_begin 13 = .ok (.iload_n 1, 1) := by decide +kernel
theorem d_Md_begin_14 : decode b_Md_begin 14 = .ok (.iaload, 1) := by decide +kernel
theorem d_Md_begin_15 : decode b_Md_begin 15 = .ok (.iconst 1, 1) := by decide +kernel
theorem d_Md_begin_16 : decode b_Md_begin 16 = .ok (.if_icmp .ne 5, 3) := by decide +kernel
theorem d_Md_begin_19 : decode b_Md_begin 19 = .ok (.iconst 0, 1) := by decide +kernel
theorem d_Md_begin_20 : decode b_Md_begin 20 = .ok (.ireturn, 1) := by decide +kernel
theorem d_Md_begin_21 : decode b_Md_begin 21 = .ok (.aload_n 0, 1) := by decide +kernel
theorem d_Md_begin_22 : decode b_Md_begin 22 = .ok (.dup, 1) := by decide +kernel
theorem d_Md_begin_23 : decode b_Md_begin 23 = .ok (.getfield 78, 3) := by decide +kernel
theorem d_Md_begin_26 : decode b_Md_begin 26 = .ok (.iconst 1, 1) := by decide +kernel
theorem d_Md_begin_27 : decode b_Md_begin 27 = .ok (.iadd, 1) := by decide +kernel
theorem d_Md_begin_28 : decode b_Md_begin 28 = .ok (.putfield 78, 3) := by decide +kernel
theorem d_Md_begin_31 : decode b_Md_begin 31 = .ok (.aload_n 0, 1) := by decide +kernel
theorem d_Md_begin_32 : decode b_Md_begin 32 = .ok (.getfield 7, 3) := by decide +kernel
theorem d_Md_begin_35 : decode b_Md_begin 35 = .ok (.iload_n 1, 1) := by decide +kernel
theorem d_Md_begin_36 : decode b_Md_begin 36 = .ok (.iload_n 2, 1) := by decide +kernel
theorem d_Md_begin_37 : decode b_Md_begin 37 = .ok (.iastore, 1) := by decide +kernel
theorem d_Md_begin_38 : decode b_Md_begin 38 = .ok (.aload_n 0, 1) := by decide +kernel
theorem d_Md_begin_39 : decode b_Md_begin 39 = .ok (.getfield 13, 3) := by decide +kernel
theorem d_Md_begin_42 : decode b_Md_begin 42 = .ok (.iload_n 1, 1) := by decide +kernel
theorem d_Md_begin_43 : decode b_Md_begin 43 = .ok (.iload_n 3, 1) := by decide +kernel
theorem d_Md_begin_44 : decode b_Md_begin 44 = .ok (.iastore, 1) := by decide +kernel
theorem d_Md_begin_45 : decode b_Md_begin 45 = .ok (.aload_n 0, 1) := by decide +kernel
theorem d_Md_begin_46 : decode b_Md_begin 46 = .ok (.getfield 16, 3) := by decide +kernel
theorem d_Md_begin_49 : decode b_Md_begin 49 = .ok (.iload_n 1, 1) := by decide +kernel
theorem d_Md_begin_50 : decode b_Md_begin 50 = .ok (.iload 4, 2) := by decide +kernel
theorem d_Md_begin_52 : decode b_Md_begin 52 = .ok (.iastore, 1) := by decide +kernel
theorem d_Md_begin_53 : decode b_Md_begin 53 = .ok (.aload_n 0, 1) := by decide +kernel
theorem d_Md_begin_54 : decode b_Md_begin 54 = .ok (.getfield 19, 3) := by decide +kernel
theorem d_Md_begin_57 : decode b_Md_begin 57 = .ok (.iload_n 1, 1) := by decide +kernel
theorem d_Md_begin_58 : decode b_Md_begin 58 = .ok (.aload_n 0, 1) := by decide +kernel
theorem d_Md_begin_59 : decode b_Md_begin 59 = .ok (.getfield 78, 3) := by decide +kernel
theorem d_Md_begin_62 : decode b_Md_begin 62 = .ok (.iastore, 1) := by decide +kernel
theorem d_Md_begin_63 : decode b_Md_begin 63 = .ok (.aload_n 0, 1) := by decide +kernel
theorem d_Md_begin_64 : decode b_Md_begin 64 = .ok (.getfield 22, 3) := by decide +kernel
theorem d_Md_begin_67 : decode b_Md_begin 67 = .ok (.iload_n 1, 1) := by decide +kernel
theorem d_Md_begin_68 : decode b_Md_begin 68 = .ok (.iconst 1, 1) := by decide +kernel
theorem d_Md_begin_69 : decode b_Md_begin 69 = .ok (.iastore, 1) := by decide +kernel
theorem d_Md_begin_70 : decode b_Md_begin 70 = .ok (.aload_n 0, 1) := by decide +kernel
theorem d_Md_begin_71 : decode b_Md_begin 71 = .ok (.getfield 25, 3) := by decide +kernel
theorem d_Md_begin_74 : decode b_Md_begin 74 = .ok (.iload_n 1, 1) := by decide +kernel
theorem d_Md_begin_75 : decode b_Md_begin 75 = .ok (.iconst 0, 1) := by decide +kernel
theorem d_Md_begin_76 : decode b_Md_begin 76 = .ok (.iastore, 1) := by decide +kernel
theorem d_Md_begin_77 : decode b_Md_begin 77 = .ok (.aload_n 0, 1) := by decide +kernel
theorem d_Md_begin_78 : decode b_Md_begin 78 = .ok (.getfield 28, 3) := by decide +kernel
theorem d_Md_begin_81 : decode b_Md_begin 81 = .ok (.iload_n 1, 1) := by decide +kernel
theorem d_Md_begin_82 : decode b_Md_begin 82 = .ok (.iconst 0, 1) := by decide +kernel
theorem d_Md_begin_83 : decode b_Md_begin 83 = .ok (.iastore, 1) := by decide +kernel
theorem d_Md_begin_84 : decode b_Md_begin 84 = .ok (.iconst 1, 1) := by decide +kernel
theorem d_Md_begin_85 : decode b_Md_begin 85 = .ok (.ireturn, 1) := by decide +kernel
theorem d_Md_write_0 : decode b_Md_write 0 = .ok (.iload_n 2, 1) := by decide +kernel
theorem d_Md_write_1 : decode b_Md_write 1 = .ok (.ifCond .lt 24, 3) := by decide +kernel
theorem d_Md_write_4 : decode b_Md_write 4 = .ok (.iload_n 2, 1) := by decide +kernel
theorem d_Md_write_5 : decode b_Md_write 5 = .ok (.bipush 15, 2) := by decide +kernel
theorem d_Md_write_7 : decode b_Md_write 7 = .ok (.if_icmp .gt 18, 3) := by decide +kernel
theorem d_Md_write_10 : decode b_Md_write 10 = .ok (.aload_n 0, 1) := by decide +kernel
theorem d_Md_write_11 : decode b_Md_write 11 = .ok (.iload_n 1, 1) := by decide +kernel
theorem d_Md_write_12 : decode b_Md_write 12 = .ok (.iconst 2, 1) := by decide +kernel
theorem d_Md_write_13 : decode b_Md_write 13 = .ok (.iload_n 2, 1) := by decide +kernel
theorem d_Md_write_14 : decode b_Md_write 14 = .ok (.iload_n 3, 1) := by decide +kernel
theorem d_Md_write_15 : decode b_Md_write 15 = .ok (.invokevirtual 81, 3) := by decide +kernel
theorem d_Md_write_18 : decode b_Md_write 18 = .ok (.ifCond .eq 7, 3) := by decide +kernel
theorem d_Md_write_21 : decode b_Md_write 21 = .ok (.iconst 1, 1) := by decide +kernel
theorem d_Md_write_22 : decode b_Md_write 22 = .ok (.goto 4, 3) := by decide +kernel
theorem d_Md_write_25 : decode b_Md_write 25 = .ok (.iconst 0, 1) := by decide +kernel
theorem d_Md_write_26 : decode b_Md_write 26 = .ok (.ireturn, 1) := by decide +kernel
theorem d_Md_sync_0 : decode b_Md_sync 0 = .ok (.aload_n 0, 1) := by decide +kernel
theorem d_Md_sync_1 : decode b_Md_sync 1 = .ok (.iload_n 1, 1) := by decide +kernel
theorem d_Md_sync_2 : decode b_Md_sync 2 = .ok (.iconst 3, 1) := by decide +kernel
theorem d_Md_sync_3 : decode b_Md_sync 3 = .ok (.iconst 0, 1) := by decide +kernel
theorem d_Md_sync_4 : decode b_Md_sync 4 = .ok (.iconst 0, 1) := by decide +kernel
theorem d_Md_sync_5 : decode b_Md_sync 5 = .ok (.invokevirtual 81, 3) := by decide +kernel
theorem d_Md_sync_8 : decode b_Md_sync 8 = .ok (.ireturn, 1) := by decide +kernel
theorem d_Md_print_0 : decode b_Md_print 0 = .ok (.iload_n 2, 1) := by decide +kernel
theorem d_Md_print_1 : decode b_Md_print 1 = .ok (.bipush 32, 2) := by decide +kernel
theorem d_Md_print_3 : decode b_Md_print 3 = .ok (.if_icmp .lt 24, 3) := by decide +kernel
theorem d_Md_print_6 : decode b_Md_print 6 = .ok (.iload_n 2, 1) := by decide +kernel
theorem d_Md_print_7 : decode b_Md_print 7 = .ok (.bipush 126, 2) := by decide +kernel
theorem d_Md_print_9 : decode b_Md_print 9 = .ok (.if_icmp .gt 18, 3) := by decide +kernel
theorem d_Md_print_12 : decode b_Md_print 12 = .ok (.aload_n 0, 1) := by decide +kernel
theorem d_Md_print_13 : decode b_Md_print 13 = .ok (.iload_n 1, 1) := by decide +kernel
theorem d_Md_print_14 : decode b_Md_print 14 = .ok (.iconst 4, 1) := by decide +kernel
theorem d_Md_print_15 : decode b_Md_print 15 = .ok (.iconst 0, 1) := by decide +kernel
theorem d_Md_print_16 : decode b_Md_print 16 = .ok (.iload_n 2, 1) := by decide +kernel
theorem d_Md_print_17 : decode b_Md_print 17 = .ok (.invokevirtual 81, 3) := by decide +kernel
theorem d_Md_print_20 : decode b_Md_print 20 = .ok (.ifCond .eq 7, 3) := by decide +kernel
theorem d_Md_print_23 : decode b_Md_print 23 = .ok (.iconst 1, 1) := by decide +kernel
theorem d_Md_print_24 : decode b_Md_print 24 = .ok (.goto 4, 3) := by decide +kernel
theorem d_Md_print_27 : decode b_Md_print 27 = .ok (.iconst 0, 1) := by decide +kernel
theorem d_Md_print_28 : decode b_Md_print 28 = .ok (.ireturn, 1) := by decide +kernel
theorem d_Md_tick_0 : decode b_Md_tick 0 = .ok (.aload_n 0, 1) := by decide +kernel
theorem d_Md_tick_1 : decode b_Md_tick 1 = .ok (.invokevirtual 153, 3) := by decide +kernel
theorem d_Md_tick_4 : decode b_Md_tick 4 = .ok (.istore_n 1, 1) := by decide +kernel
theorem d_Md_tick_5 : decode b_Md_tick 5 = .ok (.aload_n 0, 1) := by decide +kernel
theorem d_Md_tick_6 : decode b_Md_tick 6 = .ok (.dup, 1) := by decide +kernel
theorem d_Md_tick_7 : decode b_Md_tick 7 = .ok (.getfield 89, 3) := by decide +kernel
theorem d_Md_tick_10 : decode b_Md_tick 10 = .ok (.iconst 1, 1) := by decide +kernel
theorem d_Md_tick_11 : decode b_Md_tick 11 = .ok (.iadd, 1) := by decide +kernel
theorem d_Md_tick_12 : decode b_Md_tick 12 = .ok (.putfield 89, 3) := by decide +kernel
theorem d_Md_tick_15 : decode b_Md_tick 15 = .ok (.aload_n 0, 1) := by decide +kernel
theorem d_Md_tick_16 : decode b_Md_tick 16 = .ok (.iconst 0, 1) := by decide +kernel
theorem d_Md_tick_17 : decode b_Md_tick 17 = .ok (.invokevirtual 156, 3) := by decide +kernel
theorem d_Md_tick_20 : decode b_Md_tick 20 = .ok (.aload_n 0, 1) := by decide +kernel
theorem d_Md_tick_21 : decode b_Md_tick 21 = .ok (.iconst 1, 1) := by decide +kernel
theorem d_Md_tick_22 : decode b_Md_tick 22 = .ok (.invokevirtual 156, 3) := by decide +kernel
theorem d_Md_tick_25 : decode b_Md_tick 25 = .ok (.aload_n 0, 1) := by decide +kernel
theorem d_Md_tick_26 : decode b_Md_tick 26 = .ok (.iconst 0, 1) := by decide +kernel
theorem d_Md_tick_27 : decode b_Md_tick 27 = .ok (.invokevirtual 159, 3) := by decide +kernel
theorem d_Md_tick_30 : decode b_Md_tick 30 = .ok (.aload_n 0, 1) := by decide +kernel
theorem d_Md_tick_31 : decode b_Md_tick 31 = .ok (.iconst 1, 1) := by decide +kernel
theorem d_Md_tick_32 : decode b_Md_tick 32 = .ok (.invokevirtual 159, 3) := by decide +kernel
theorem d_Md_tick_35 : decode b_Md_tick 35 = .ok (.aload_n 0, 1) := by decide +kernel
theorem d_Md_tick_36 : decode b_Md_tick 36 = .ok (.invokevirtual 162, 3) := by decide +kernel
theorem d_Md_tick_39 : decode b_Md_tick 39 = .ok (.aload_n 0, 1) := by decide +kernel
theorem d_Md_tick_40 : decode b_Md_tick 40 = .ok (.invokevirtual 165, 3) := by decide +kernel
theorem d_Md_tick_43 : decode b_Md_tick 43 = .ok (.iload_n 1, 1) := by decide +kernel
theorem d_Md_tick_44 : decode b_Md_tick 44 = .ok (.aload_n 0, 1) := by decide +kernel
theorem d_Md_tick_45 : decode b_Md_tick 45 = .ok (.invokevirtual 153, 3) := by decide +kernel
theorem d_Md_tick_48 : decode b_Md_tick 48 = .ok (.isub, 1) := by decide +kernel
theorem d_Md_tick_49 : decode b_Md_tick 49 = .ok (.ireturn, 1) := by decide +kernel
theorem d_Md_pending_0 : decode b_Md_pending 0 = .ok (.iconst 0, 1) := by decide +kernel
theorem d_Md_pending_1 : decode b_Md_pending 1 = .ok (.istore_n 1, 1) := by decide +kernel
theorem d_Md_pending_2 : decode b_Md_pending 2 = .ok (.iconst 0, 1) := by decide +kernel
theorem d_Md_pending_3 : decode b_Md_pending 3 = .ok (.istore_n 2, 1) := by decide +kernel
theorem d_Md_pending_4 : decode b_Md_pending 4 = .ok (.iload_n 2, 1) := by decide +kernel
theorem d_Md_pending_5 : decode b_Md_pending 5 = .ok (.iconst 4, 1) := by decide +kernel
theorem d_Md_pending_6 : decode b_Md_pending 6 = .ok (.if_icmp .ge 27, 3) := by decide +kernel
theorem d_Md_pending_9 : decode b_Md_pending 9 = .ok (.iload_n 1, 1) := by decide +kernel
theorem d_Md_pending_10 : decode b_Md_pending 10 = .ok (.aload_n 0, 1) := by decide +kernel
theorem d_Md_pending_11 : decode b_Md_pending 11 = .ok (.getfield 22, 3) := by decide +kernel
theorem d_Md_pending_14 : decode b_Md_pending 14 = .ok (.iload_n 2, 1) := by decide +kernel
theorem d_Md_pending_15 : decode b_Md_pending 15 = .ok (.iaload, 1) := by decide +kernel
theorem d_Md_pending_16 : decode b_Md_pending 16 = .ok (.iconst 1, 1) := by decide +kernel
theorem d_Md_pending_17 : decode b_Md_pending 17 = .ok (.if_icmp .ne 7, 3) := by decide +kernel
theorem d_Md_pending_20 : decode b_Md_pending 20 = .ok (.iconst 1, 1) := by decide +kernel
theorem d_Md_pending_21 : decode b_Md_pending 21 = .ok (.goto 4, 3) := by decide +kernel
theorem d_Md_pending_24 : decode b_Md_pending 24 = .ok (.iconst 0, 1) := by decide +kernel
theorem d_Md_pending_25 : decode b_Md_pending 25 = .ok (.iadd, 1) := by decide +kernel
theorem d_Md_pending_26 : decode b_Md_pending 26 = .ok (.istore_n 1, 1) := by decide +kernel
theorem d_Md_pending_27 : decode b_Md_pending 27 = .ok (.iinc 2 1, 3) := by decide +kernel
theorem d_Md_pending_30 : decode b_Md_pending 30 = .ok (.goto (-26), 3) := by decide +kernel
theorem d_Md_pending_33 : decode b_Md_pending 33 = .ok (.iload_n 1, 1) := by decide +kernel
theorem d_Md_pending_34 : decode b_Md_pending 34 = .ok (.ireturn, 1) := by decide +kernel
theorem d_Md_reincarnate_0 : decode b_Md_reincarnate 0 = .ok (.aload_n 0, 1) := by decide +kernel
theorem d_Md_reincarnate_1 : decode b_Md_reincarnate 1 = .ok (.getfield 89, 3) := by decide +kernel
theorem d_Md_reincarnate_4 : decode b_Md_reincarnate 4 = .ok (.aload_n 0, 1) := by decide +kernel
theorem d_Md_reincarnate_5 : decode b_Md_reincarnate 5 = .ok (.getfield 74, 3) := by decide +kernel
theorem d_Md_reincarnate_8 : decode b_Md_reincarnate 8 = .ok (.irem, 1) := by decide +kernel
theorem d_Md_reincarnate_9 : decode b_Md_reincarnate 9 = .ok (.ifCond .ne 7, 3) := by decide +kernel
theorem d_Md_reincarnate_12 : decode b_Md_reincarnate 12 = .ok (.iconst 1, 1) := by decide +kernel
theorem d_Md_reincarnate_13 : decode b_Md_reincarnate 13 = .ok (.goto 4, 3) := by decide +kernel
theorem d_Md_reincarnate_16 : decode b_Md_reincarnate 16 = .ok (.iconst 0, 1) := by decide +kernel
theorem d_Md_reincarnate_17 : decode b_Md_reincarnate 17 = .ok (.istore_n 2, 1) := by decide +kernel
theorem d_Md_reincarnate_18 : decode b_Md_reincarnate 18 = .ok (.aload_n 0, 1) := by decide +kernel
theorem d_Md_reincarnate_19 : decode b_Md_reincarnate 19 = .ok (.getfield 40, 3) := by decide +kernel
theorem d_Md_reincarnate_22 : decode b_Md_reincarnate 22 = .ok (.iload_n 1, 1) := by decide +kernel
theorem d_Md_reincarnate_23 : decode b_Md_reincarnate 23 = .ok (.iaload, 1) := by decide +kernel
theorem d_Md_reincarnate_24 : decode b_Md_reincarnate 24 = .ok (.iconst 2, 1) := by decide +kernel
theorem d_Md_reincarnate_25 : decode b_Md_reincarnate 25 = .ok (.if_icmp .eq 16, 3) := by decide +kernel
theorem d_Md_reincarnate_28 : decode b_Md_reincarnate 28 = .ok (.iload_n 2, 1) := by decide +kernel
theorem d_Md_reincarnate_29 : decode b_Md_reincarnate 29 = .ok (.ifCond .eq 53, 3) := by decide +kernel
theorem d_Md_reincarnate_32 : decode b_Md_reincarnate 32 = .ok (.aload_n 0, 1) := by decide +kernel
theorem d_Md_reincarnate_33 : decode b_Md_reincarnate 33 = .ok (.getfield 52, 3) := by decide +kernel
theorem d_Md_reincarnate_36 : decode b_Md_reincarnate 36 = .ok (.iload_n 1, 1) := by decide +kernel
theorem d_Md_reincarnate_37 : decode b_Md_reincarnate 37 = .ok (.baload, 1) := by decide +kernel
theorem d_Md_reincarnate_38 : decode b_Md_reincarnate 38 = .ok (.ifCond .eq 44, 3) := by decide +kernel
theorem d_Md_reincarnate_41 : decode b_Md_reincarnate 41 = .ok (.aload_n 0, 1) := by decide +kernel
theorem d_Md_reincarnate_42 : decode b_Md_reincarnate 42 = .ok (.getfield 37, 3) := by decide +kernel
theorem d_Md_reincarnate_45 : decode b_Md_reincarnate 45 = .ok (.iload_n 1, 1) := by decide +kernel
theorem d_Md_reincarnate_46 : decode b_Md_reincarnate 46 = .ok (.dup2, 1) := by decide +kernel
theorem d_Md_reincarnate_47 : decode b_Md_reincarnate 47 = .ok (.iaload, 1) := by decide +kernel
theorem d_Md_reincarnate_48 : decode b_Md_reincarnate 48 = .ok (.iconst 1, 1) := by decide +kernel
theorem d_Md_reincarnate_49 : decode b_Md_reincarnate 49 = .ok (.iadd, 1) := by decide +kernel
theorem d_Md_reincarnate_50 : decode b_Md_reincarnate 50 = .ok (.iastore, 1) := by decide +kernel
theorem d_Md_reincarnate_51 : decode b_Md_reincarnate 51 = .ok (.aload_n 0, 1) := by decide +kernel
theorem d_Md_reincarnate_52 : decode b_Md_reincarnate 52 = .ok (.getfield 40, 3) := by decide +kernel
theorem d_Md_reincarnate_55 : decode b_Md_reincarnate 55 = .ok (.iload_n 1, 1) := by decide +kernel
theorem d_Md_reincarnate_56 : decode b_Md_reincarnate 56 = .ok (.iconst 0, 1) := by decide +kernel
theorem d_Md_reincarnate_57 : decode b_Md_reincarnate 57 = .ok (.iastore, 1) := by decide +kernel
theorem d_Md_reincarnate_58 : decode b_Md_reincarnate 58 = .ok (.aload_n 0, 1) := by decide +kernel
theorem d_Md_reincarnate_59 : decode b_Md_reincarnate 59 = .ok (.getfield 43, 3) := by decide +kernel
theorem d_Md_reincarnate_62 : decode b_Md_reincarnate 62 = .ok (.iload_n 1, 1) := by decide +kernel
theorem d_Md_reincarnate_63 : decode b_Md_reincarnate 63 = .ok (.iconst 0, 1) := by decide +kernel
theorem d_Md_reincarnate_64 : decode b_Md_reincarnate 64 = .ok (.iastore, 1) := by decide +kernel
theorem d_Md_reincarnate_65 : decode b_Md_reincarnate 65 = .ok (.aload_n 0, 1) := by decide +kernel
theorem d_Md_reincarnate_66 : decode b_Md_reincarnate 66 = .ok (.getfield 46, 3) := by decide +kernel
theorem d_Md_reincarnate_69 : decode b_Md_reincarnate 69 = .ok (.iload_n 1, 1) := by decide +kernel
theorem d_Md_reincarnate_70 : decode b_Md_reincarnate 70 = .ok (.iconst (-1), 1) := by decide +kernel
theorem d_Md_reincarnate_71 : decode b_Md_reincarnate 71 = .ok (.iastore, 1) := by decide +kernel
theorem d_Md_reincarnate_72 : decode b_Md_reincarnate 72 = .ok (.aload_n 0, 1) := by decide +kernel
theorem d_Md_reincarnate_73 : decode b_Md_reincarnate 73 = .ok (.getfield 52, 3) := by decide +kernel
theorem d_Md_reincarnate_76 : decode b_Md_reincarnate 76 = .ok (.iload_n 1, 1) := by decide +kernel
theorem d_Md_reincarnate_77 : decode b_Md_reincarnate 77 = .ok (.iconst 0, 1) := by decide +kernel
theorem d_Md_reincarnate_78 : decode b_Md_reincarnate 78 = .ok (.bastore, 1) := by decide +kernel
theorem d_Md_reincarnate_79 : decode b_Md_reincarnate 79 = .ok (.goto 14, 3) := by decide +kernel
theorem d_Md_reincarnate_82 : decode b_Md_reincarnate 82 = .ok (.iload_n 2, 1) := by decide +kernel
theorem d_Md_reincarnate_83 : decode b_Md_reincarnate 83 = .ok (.ifCond .eq 10, 3) := by decide +kernel
theorem d_Md_reincarnate_86 : decode b_Md_reincarnate 86 = .ok (.aload_n 0, 1) := by decide +kernel
theorem d_Md_reincarnate_87 : decode b_Md_reincarnate 87 = .ok (.getfield 52, 3) := by decide +kernel
theorem d_Md_reincarnate_90 : decode b_Md_reincarnate 90 = .ok (.iload_n 1, 1) := by decide +kernel
theorem d_Md_reincarnate_91 : decode b_Md_reincarnate 91 = .ok (.iconst 1, 1) := by decide +kernel
theorem d_Md_reincarnate_92 : decode b_Md_reincarnate 92 = .ok (.bastore, 1) := by decide +kernel
theorem d_Md_reincarnate_93 : decode b_Md_reincarnate 93 = .ok (.return_, 1) := by decide +kernel
theorem d_Md_step_0 : decode b_Md_step 0 = .ok (.aload_n 0, 1) := by decide +kernel
theorem d_Md_step_1 : decode b_Md_step 1 = .ok (.getfield 40, 3) := by decide +kernel
theorem d_Md_step_4 : decode b_Md_step 4 = .ok (.iload_n 1, 1) := by decide +kernel
theorem d_Md_step_5 : decode b_Md_step 5 = .ok (.iaload, 1) := by decide +kernel
theorem d_Md_step_6 : decode b_Md_step 6 = .ok (.ifCond .eq 4, 3) := by decide +kernel
theorem d_Md_step_9 : decode b_Md_step 9 = .ok (.return_, 1) := by decide +kernel
theorem d_Md_step_10 : decode b_Md_step 10 = .ok (.aload_n 0, 1) := by decide +kernel
theorem d_Md_step_11 : decode b_Md_step 11 = .ok (.getfield 52, 3) := by decide +kernel
theorem d_Md_step_14 : decode b_Md_step 14 = .ok (.iload_n 1, 1) := by decide +kernel
theorem d_Md_step_15 : decode b_Md_step 15 = .ok (.iconst 0, 1) := by decide +kernel
theorem d_Md_step_16 : decode b_Md_step 16 = .ok (.bastore, 1) := by decide +kernel
theorem d_Md_step_17 : decode b_Md_step 17 = .ok (.aload_n 0, 1) := by decide +kernel
theorem d_Md_step_18 : decode b_Md_step 18 = .ok (.getfield 43, 3) := by decide +kernel
theorem d_Md_step_21 : decode b_Md_step 21 = .ok (.iload_n 1, 1) := by decide +kernel
theorem d_Md_step_22 : decode b_Md_step 22 = .ok (.iaload, 1) := by decide +kernel
theorem d_Md_step_23 : decode b_Md_step 23 = .ok (.ifCond .eq 47, 3) := by decide +kernel
theorem d_Md_step_26 : decode b_Md_step 26 = .ok (.aload_n 0, 1) := by decide +kernel
theorem d_Md_step_27 : decode b_Md_step 27 = .ok (.getfield 49, 3) := by decide +kernel
theorem d_Md_step_30 : decode b_Md_step 30 = .ok (.iload_n 1, 1) := by decide +kernel
theorem d_Md_step_31 : decode b_Md_step 31 = .ok (.dup2, 1) := by decide +kernel
theorem d_Md_step_32 : decode b_Md_step 32 = .ok (.iaload, 1) := by decide +kernel
theorem d_Md_step_33 : decode b_Md_step 33 = .ok (.iconst 1, 1) := by decide +kernel
theorem d_Md_step_34 : decode b_Md_step 34 = .ok (.iadd, 1) := by decide +kernel
theorem d_Md_step_35 : decode b_Md_step 35 = .ok (.iastore, 1) := by decide +kernel
theorem d_Md_step_36 : decode b_Md_step 36 = .ok (.aload_n 0, 1) := by decide +kernel
theorem d_Md_step_37 : decode b_Md_step 37 = .ok (.getfield 43, 3) := by decide +kernel
theorem d_Md_step_40 : decode b_Md_step 40 = .ok (.iload_n 1, 1) := by decide +kernel
theorem d_Md_step_41 : decode b_Md_step 41 = .ok (.iaload, 1) := by decide +kernel
theorem d_Md_step_42 : decode b_Md_step 42 = .ok (.iconst 3, 1) := by decide +kernel
theorem d_Md_step_43 : decode b_Md_step 43 = .ok (.if_icmp .ne 17, 3) := by decide +kernel
theorem d_Md_step_46 : decode b_Md_step 46 = .ok (.aload_n 0, 1) := by decide +kernel
theorem d_Md_step_47 : decode b_Md_step 47 = .ok (.getfield 40, 3) := by decide +kernel
theorem d_Md_step_50 : decode b_Md_step 50 = .ok (.iload_n 1, 1) := by decide +kernel
theorem d_Md_step_51 : decode b_Md_step 51 = .ok (.iconst 2, 1) := by decide +kernel
theorem d_Md_step_52 : decode b_Md_step 52 = .ok (.iastore, 1) := by decide +kernel
theorem d_Md_step_53 : decode b_Md_step 53 = .ok (.aload_n 0, 1) := by decide +kernel
theorem d_Md_step_54 : decode b_Md_step 54 = .ok (.getfield 46, 3) := by decide +kernel
theorem d_Md_step_57 : decode b_Md_step 57 = .ok (.iload_n 1, 1) := by decide +kernel
theorem d_Md_step_58 : decode b_Md_step 58 = .ok (.iconst (-1), 1) := by decide +kernel
theorem d_Md_step_59 : decode b_Md_step 59 = .ok (.iastore, 1) := by decide +kernel
theorem d_Md_step_60 : decode b_Md_step 60 = .ok (.aload_n 0, 1) := by decide +kernel
theorem d_Md_step_61 : decode b_Md_step 61 = .ok (.getfield 43, 3) := by decide +kernel
theorem d_Md_step_64 : decode b_Md_step 64 = .ok (.iload_n 1, 1) := by decide +kernel
theorem d_Md_step_65 : decode b_Md_step 65 = .ok (.iconst 0, 1) := by decide +kernel
theorem d_Md_step_66 : decode b_Md_step 66 = .ok (.iastore, 1) := by decide +kernel
theorem d_Md_step_67 : decode b_Md_step 67 = .ok (.goto 81, 3) := by decide +kernel
theorem d_Md_step_70 : decode b_Md_step 70 = .ok (.aload_n 0, 1) := by decide +kernel
theorem d_Md_step_71 : decode b_Md_step 71 = .ok (.getfield 46, 3) := by decide +kernel
theorem d_Md_step_74 : decode b_Md_step 74 = .ok (.iload_n 1, 1) := by decide +kernel
theorem d_Md_step_75 : decode b_Md_step 75 = .ok (.iaload, 1) := by decide +kernel
theorem d_Md_step_76 : decode b_Md_step 76 = .ok (.ifCond .ne 13, 3) := by decide +kernel
theorem d_Md_step_79 : decode b_Md_step 79 = .ok (.aload_n 0, 1) := by decide +kernel
theorem d_Md_step_80 : decode b_Md_step 80 = .ok (.getfield 46, 3) := by decide +kernel
theorem d_Md_step_83 : decode b_Md_step 83 = .ok (.iload_n 1, 1) := by decide +kernel
theorem d_Md_step_84 : decode b_Md_step 84 = .ok (.iconst 1, 1) := by decide +kernel
theorem d_Md_step_85 : decode b_Md_step 85 = .ok (.iastore, 1) := by decide +kernel
theorem d_Md_step_86 : decode b_Md_step 86 = .ok (.goto 62, 3) := by decide +kernel
theorem d_Md_step_89 : decode b_Md_step 89 = .ok (.aload_n 0, 1) := by decide +kernel
theorem d_Md_step_90 : decode b_Md_step 90 = .ok (.getfield 46, 3) := by decide +kernel
theorem d_Md_step_93 : decode b_Md_step 93 = .ok (.iload_n 1, 1) := by decide +kernel
theorem d_Md_step_94 : decode b_Md_step 94 = .ok (.iaload, 1) := by decide +kernel
theorem d_Md_step_95 : decode b_Md_step 95 = .ok (.iconst 1, 1) := by decide +kernel
theorem d_Md_step_96 : decode b_Md_step 96 = .ok (.if_icmp .ne 28, 3) := by decide +kernel
theorem d_Md_step_99 : decode b_Md_step 99 = .ok (.iload_n 1, 1) := by decide +kernel
theorem d_Md_step_100 : decode b_Md_step 100 = .ok (.ifCond .ne 10, 3) := by decide +kernel
theorem d_Md_step_103 : decode b_Md_step 103 = .ok (.aload_n 0, 1) := by decide +kernel
theorem d_Md_step_104 : decode b_Md_step 104 = .ok (.invokevirtual 92, 3) := by decide +kernel
theorem d_Md_step_107 : decode b_Md_step 107 = .ok (.goto 7, 3) := by decide +kernel
theorem d_Md_step_110 : decode b_Md_step 110 = .ok (.aload_n 0, 1) := by decide +kernel
theorem d_Md_step_111 : decode b_Md_step 111 = .ok (.invokevirtual 95, 3) := by decide +kernel
theorem d_Md_step_114 : decode b_Md_step 114 = .ok (.aload_n 0, 1) := by decide +kernel
theorem d_Md_step_115 : decode b_Md_step 115 = .ok (.getfield 46, 3) := by decide +kernel
theorem d_Md_step_118 : decode b_Md_step 118 = .ok (.iload_n 1, 1) := by decide +kernel
theorem d_Md_step_119 : decode b_Md_step 119 = .ok (.iconst 2, 1) := by decide +kernel
theorem d_Md_step_120 : decode b_Md_step 120 = .ok (.iastore, 1) := by decide +kernel
theorem d_Md_step_121 : decode b_Md_step 121 = .ok (.goto 27, 3) := by decide +kernel
theorem d_Md_step_124 : decode b_Md_step 124 = .ok (.aload_n 0, 1) := by decide +kernel
theorem d_Md_step_125 : decode b_Md_step 125 = .ok (.getfield 46, 3) := by decide +kernel
theorem d_Md_step_128 : decode b_Md_step 128 = .ok (.iload_n 1, 1) := by decide +kernel
theorem d_Md_step_129 : decode b_Md_step 129 = .ok (.iaload, 1) := by decide +kernel
theorem d_Md_step_130 : decode b_Md_step 130 = .ok (.iconst 2, 1) := by decide +kernel
theorem d_Md_step_131 : decode b_Md_step 131 = .ok (.if_icmp .ne 17, 3) := by decide +kernel
theorem d_Md_step_134 : decode b_Md_step 134 = .ok (.aload_n 0, 1) := by decide +kernel
theorem d_Md_step_135 : decode b_Md_step 135 = .ok (.getfield 46, 3) := by decide +kernel
theorem d_Md_step_138 : decode b_Md_step 138 = .ok (.iload_n 1, 1) := by decide +kernel
theorem d_Md_step_139 : decode b_Md_step 139 = .ok (.iconst (-1), 1) := by decide +kernel
theorem d_Md_step_140 : decode b_Md_step 140 = .ok (.iastore, 1) := by decide +kernel
theorem d_Md_step_141 : decode b_Md_step 141 = .ok (.aload_n 0, 1) := by decide +kernel
theorem d_Md_step_142 : decode b_Md_step 142 = .ok (.getfield 56, 3) := by decide +kernel
theorem d_Md_step_145 : decode b_Md_step 145 = .ok (.iload_n 1, 1) := by decide +kernel
theorem d_Md_step_146 : decode b_Md_step 146 = .ok (.iconst 3, 1) := by decide +kernel
theorem d_Md_step_147 : decode b_Md_step 147 = .ok (.iastore, 1) := by decide +kernel
theorem d_Md_step_148 : decode b_Md_step 148 = .ok (.return_, 1) := by decide +kernel
theorem d_Md_move_0 : decode b_Md_move 0 = .ok (.aload_n 0, 1) := by decide +kernel
theorem d_Md_move_1 : decode b_Md_move 1 = .ok (.getfield 98, 3) := by decide +kernel
theorem d_Md_move_4 : decode b_Md_move 4 = .ok (.ifCond .eq 19, 3) := by decide +kernel
theorem d_Md_move_7 : decode b_Md_move 7 = .ok (.aload_n 0, 1) := by decide +kernel
theorem d_Md_move_8 : decode b_Md_move 8 = .ok (.aload_n 0, 1) := by decide +kernel
theorem d_Md_move_9 : decode b_Md_move 9 = .ok (.getfield 31, 3) := by decide +kernel
theorem d_Md_move_12 : decode b_Md_move 12 = .ok (.aload_n 0, 1) := by decide +kernel
theorem d_Md_move_13 : decode b_Md_move 13 = .ok (.getfield 102, 3) := by decide +kernel
theorem d_Md_move_16 : decode b_Md_move 16 = .ok (.iaload, 1) := by decide +kernel
theorem d_Md_move_17 : decode b_Md_move 17 = .ok (.putfield 105, 3) := by decide +kernel
theorem d_Md_move_20 : decode b_Md_move 20 = .ok (.goto 26, 3) := by decide +kernel
theorem d_Md_move_23 : decode b_Md_move 23 = .ok (.aload_n 0, 1) := by decide +kernel
theorem d_Md_move_24 : decode b_Md_move 24 = .ok (.getfield 31, 3) := by decide +kernel
theorem d_Md_move_27 : decode b_Md_move 27 = .ok (.aload_n 0, 1) := by decide +kernel
theorem d_Md_move_28 : decode b_Md_move 28 = .ok (.getfield 62, 3) := by decide +kernel
theorem d_Md_move_31 : decode b_Md_move 31 = .ok (.aload_n 0, 1) := by decide +kernel
theorem d_Md_move_32 : decode b_Md_move 32 = .ok (.getfield 108, 3) := by decide +kernel
theorem d_Md_move_35 : decode b_Md_move 35 = .ok (.iaload, 1) := by decide +kernel
theorem d_Md_move_36 : decode b_Md_move 36 = .ok (.aload_n 0, 1) := by decide +kernel
theorem d_Md_move_37 : decode b_Md_move 37 = .ok (.getfield 65, 3) := by decide +kernel
theorem d_Md_move_40 : decode b_Md_move 40 = .ok (.aload_n 0, 1) := by decide +kernel
theorem d_Md_move_41 : decode b_Md_move 41 = .ok (.getfield 108, 3) := by decide +kernel
theorem d_Md_move_44 : decode b_Md_move 44 = .ok (.iaload, 1) := by decide +kernel
theorem d_Md_move_45 : decode b_Md_move 45 = .ok (.iastore, 1) := by decide +kernel
theorem d_Md_move_46 : decode b_Md_move 46 = .ok (.return_, 1) := by decide +kernel
theorem d_Md_show_0 : decode b_Md_show 0 = .ok (.aload_n 0, 1) := by decide +kernel
theorem d_Md_show_1 : decode b_Md_show 1 = .ok (.getfield 111, 3) := by decide +kernel
theorem d_Md_show_4 : decode b_Md_show 4 = .ok (.sipush 200, 3) := by decide +kernel
theorem d_Md_show_7 : decode b_Md_show 7 = .ok (.if_icmp .ge 32, 3) := by decide +kernel
theorem d_Md_show_10 : decode b_Md_show 10 = .ok (.aload_n 0, 1) := by decide +kernel
theorem d_Md_show_11 : decode b_Md_show 11 = .ok (.getfield 34, 3) := by decide +kernel
theorem d_Md_show_14 : decode b_Md_show 14 = .ok (.aload_n 0, 1) := by decide +kernel
theorem d_Md_show_15 : decode b_Md_show 15 = .ok (.getfield 111, 3) := by decide +kernel
theorem d_Md_show_18 : decode b_Md_show 18 = .ok (.aload_n 0, 1) := by decide +kernel
theorem d_Md_show_19 : decode b_Md_show 19 = .ok (.getfield 16, 3) := by decide +kernel
theorem d_Md_show_22 : decode b_Md_show 22 = .ok (.aload_n 0, 1) := by decide +kernel
theorem d_Md_show_23 : decode b_Md_show 23 = .ok (.iconst 1, 1) := by decide +kernel
theorem d_Md_show_24 : decode b_Md_show 24 = .ok (.invokevirtual 114, 3) := by decide +kernel
theorem d_Md_show_27 : decode b_Md_show 27 = .ok (.iaload, 1) := by decide +kernel
theorem d_Md_show_28 : decode b_Md_show 28 = .ok (.iastore, 1) := by decide +kernel
theorem d_Md_show_29 : decode b_Md_show 29 = .ok (.aload_n 0, 1) := by decide +kernel
theorem d_Md_show_30 : decode b_Md_show 30 = .ok (.dup, 1) := by decide +kernel
theorem d_Md_show_31 : decode b_Md_show 31 = .ok (.getfield 111, 3) := by decide +kernel
theorem d_Md_show_34 : decode b_Md_show 34 = .ok (.iconst 1, 1) := by decide +kernel
theorem d_Md_show_35 : decode b_Md_show 35 = .ok (.iadd, 1) := by decide +kernel
theorem d_Md_show_36 : decode b_Md_show 36 = .ok (.putfield 111, 3) := by decide +kernel
theorem d_Md_show_39 : decode b_Md_show 39 = .ok (.return_, 1) := by decide +kernel
