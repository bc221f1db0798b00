theorem d_RD_init_0 : decode b_RD_init 0 = .ok (.aload_n 0, 1) := by decide +kernel
theorem d_RD_init_1 : decode b_RD_init 1 = .ok (.invokespecial 1, 3) := by decide +kernel
theorem d_RD_init_4 : decode b_RD_init 4 = .ok (.aload_n 0, 1) := by decide +kernel
theorem d_RD_init_5 : decode b_RD_init 5 = .ok (.iconst 4, 1) := by decide +kernel
theorem d_RD_init_6 : decode b_RD_init 6 = .ok (.anewarray 9, 3) := by decide +kernel
theorem d_RD_init_9 : decode b_RD_init 9 = .ok (.putfield 11, 3) := by decide +kernel
theorem d_RD_init_12 : decode b_RD_init 12 = .ok (.aload_n 0, 1) := by decide +kernel
theorem d_RD_init_13 : decode b_RD_init 13 = .ok (.new 15, 3) := by decide +kernel
theorem d_RD_init_16 : decode b_RD_init 16 = .ok (.dup, 1) := by decide +kernel
theorem d_RD_init_17 : decode b_RD_init 17 = .ok (.invokespecial 17, 3) := by decide +kernel
theorem d_RD_init_20 : decode b_RD_init 20 = .ok (.putfield 18, 3) := by decide +kernel
theorem d_RD_init_23 : decode b_RD_init 23 = .ok (.aload_n 0, 1) := by decide +kernel
theorem d_RD_init_24 : decode b_RD_init 24 = .ok (.new 15, 3) := by decide +kernel
theorem d_RD_init_27 : decode b_RD_init 27 = .ok (.dup, 1) := by decide +kernel
theorem d_RD_init_28 : decode b_RD_init 28 = .ok (.invokespecial 17, 3) := by decide +kernel
theorem d_RD_init_31 : decode b_RD_init 31 = .ok (.putfield 22, 3) := by decide +kernel
theorem d_RD_init_34 : decode b_RD_init 34 = .ok (.aload_n 0, 1) := by decide +kernel
theorem d_RD_init_35 : decode b_RD_init 35 = .ok (.new 25, 3) := by decide +kernel
theorem d_RD_init_38 : decode b_RD_init 38 = .ok (.dup, 1) := by decide +kernel
theorem d_RD_init_39 : decode b_RD_init 39 = .ok (.invokespecial 27, 3) := by decide +kernel
theorem d_RD_init_42 : decode b_RD_init 42 = .ok (.putfield 28, 3) := by decide +kernel
theorem d_RD_init_45 : decode b_RD_init 45 = .ok (.aload_n 0, 1) := by decide +kernel
theorem d_RD_init_46 : decode b_RD_init 46 = .ok (.new 25, 3) := by decide +kernel
theorem d_RD_init_49 : decode b_RD_init 49 = .ok (.dup, 1) := by decide +kernel
theorem d_RD_init_50 : decode b_RD_init 50 = .ok (.invokespecial 27, 3) := by decide +kernel
theorem d_RD_init_53 : decode b_RD_init 53 = .ok (.putfield 32, 3) := by decide +kernel
theorem d_RD_init_56 : decode b_RD_init 56 = .ok (.aload_n 0, 1) := by decide +kernel
theorem d_RD_init_57 : decode b_RD_init 57 = .ok (.new 35, 3) := by decide +kernel
theorem d_RD_init_60 : decode b_RD_init 60 = .ok (.dup, 1) := by decide +kernel
theorem d_RD_init_61 : decode b_RD_init 61 = .ok (.invokespecial 37, 3) := by decide +kernel
theorem d_RD_init_64 : decode b_RD_init 64 = .ok (.putfield 38, 3) := by decide +kernel
theorem d_RD_init_67 : decode b_RD_init 67 = .ok (.aload_n 0, 1) := by decide +kernel
theorem d_RD_init_68 : decode b_RD_init 68 = .ok (.new 35, 3) := by decide +kernel
theorem d_RD_init_71 : decode b_RD_init 71 = .ok (.dup, 1) := by decide +kernel
theorem d_RD_init_72 : decode b_RD_init 72 = .ok (.invokespecial 37, 3) := by decide +kernel
theorem d_RD_init_75 : decode b_RD_init 75 = .ok (.putfield 42, 3) := by decide +kernel
theorem d_RD_init_78 : decode b_RD_init 78 = .ok (.aload_n 0, 1) := by decide +kernel
theorem d_RD_init_79 : decode b_RD_init 79 = .ok (.new 45, 3) := by decide +kernel
theorem d_RD_init_82 : decode b_RD_init 82 = .ok (.dup, 1) := by decide +kernel
theorem d_RD_init_83 : decode b_RD_init 83 = .ok (.invokespecial 47, 3) := by decide +kernel
theorem d_RD_init_86 : decode b_RD_init 86 = .ok (.putfield 48, 3) := by decide +kernel
theorem d_RD_init_89 : decode b_RD_init 89 = .ok (.aload_n 0, 1) := by decide +kernel
theorem d_RD_init_90 : decode b_RD_init 90 = .ok (.bipush 16, 2) := by decide +kernel
theorem d_RD_init_92 : decode b_RD_init 92 = .ok (.newarray .int, 2) := by decide +kernel
theorem d_RD_init_94 : decode b_RD_init 94 = .ok (.putfield 52, 3) := by decide +kernel
theorem d_RD_init_97 : decode b_RD_init 97 = .ok (.aload_n 0, 1) := by decide +kernel
theorem d_RD_init_98 : decode b_RD_init 98 = .ok (.sipush 200, 3) := by decide +kernel
theorem d_RD_init_101 : decode b_RD_init 101 = .ok (.newarray .int, 2) := by decide +kernel
theorem d_RD_init_103 : decode b_RD_init 103 = .ok (.putfield 56, 3) := by decide +kernel
theorem d_RD_init_106 : decode b_RD_init 106 = .ok (.aload_n 0, 1) := by decide +kernel
theorem d_RD_init_107 : decode b_RD_init 107 = .ok (.iload_n 1, 1) := by decide +kernel
theorem d_RD_init_108 : decode b_RD_init 108 = .ok (.iconst 2, 1) := by decide +kernel
theorem d_RD_init_109 : decode b_RD_init 109 = .ok (.if_icmp .lt 13, 3) := by decide +kernel
theorem d_RD_init_112 : decode b_RD_init 112 = .ok (.iload_n 1, 1) := by decide +kernel
theorem d_RD_init_113 : decode b_RD_init 113 = .ok (.bipush 20, 2) := by decide +kernel
theorem d_RD_init_115 : decode b_RD_init 115 = .ok (.if_icmp .gt 7, 3) := by decide +kernel
theorem d_RD_init_118 : decode b_RD_init 118 = .ok (.iload_n 1, 1) := by decide +kernel
theorem d_RD_init_119 : decode b_RD_init 119 = .ok (.goto 4, 3) := by decide +kernel
theorem d_RD_init_122 : decode b_RD_init 122 = .ok (.iconst 5, 1) := by decide +kernel
theorem d_RD_init_123 : decode b_RD_init 123 = .ok (.putfield 59, 3) := by decide +kernel
theorem d_RD_init_126 : decode b_RD_init 126 = .ok (.iconst 0, 1) := by decide +kernel
theorem d_RD_init_127 : decode b_RD_init 127 = .ok (.istore_n 2, 1) := by decide +kernel
theorem d_RD_init_128 : decode b_RD_init 128 = .ok (.iload_n 2, 1) := by decide +kernel
theorem d_RD_init_129 : decode b_RD_init 129 = .ok (.iconst 4, 1) := by decide +kernel
theorem d_RD_init_130 : decode b_RD_init 130 = .ok (.if_icmp .ge 22, 3) := by decide +kernel
theorem d_RD_init_133 : decode b_RD_init 133 = .ok (.aload_n 0, 1) := by decide +kernel
theorem d_RD_init_134 : decode b_RD_init 134 = .ok (.getfield 11, 3) := by decide +kernel
theorem d_RD_init_137 : decode b_RD_init 137 = .ok (.iload_n 2, 1) := by decide +kernel
theorem d_RD_init_138 : decode b_RD_init 138 = .ok (.new 9, 3) := by decide +kernel
theorem d_RD_init_141 : decode b_RD_init 141 = .ok (.dup, 1) := by decide +kernel
theorem d_RD_init_142 : decode b_RD_init 142 = .ok (.invokespecial 63, 3) := by decide +kernel
theorem d_RD_init_145 : decode b_RD_init 145 = .ok (.aastore, 1) := by decide +kernel
theorem d_RD_init_146 : decode b_RD_init 146 = .ok (.iinc 2 1, 3) := by decide +kernel
theorem d_RD_init_149 : decode b_RD_init 149 = .ok (.goto (-21), 3) := by decide +kernel
theorem d_RD_init_152 : decode b_RD_init 152 = .ok (.return_, 1) := by decide +kernel
theorem d_RD_read_0 : decode b_RD_read 0 = .ok (.aload_n 0, 1) := by decide +kernel
theorem d_RD_read_1 : decode b_RD_read 1 = .ok (.iload_n 1, 1) := by decide +kernel
theorem d_RD_read_2 : decode b_RD_read 2 = .ok (.invokevirtual 64, 3) := by decide +kernel
theorem d_RD_read_5 : decode b_RD_read 5 = .ok (.ifCond .eq 10, 3) := by decide +kernel
theorem d_RD_read_8 : decode b_RD_read 8 = .ok (.iload_n 2, 1) := by decide +kernel
theorem d_RD_read_9 : decode b_RD_read 9 = .ok (.invokestatic 68, 3) := by decide +kernel
theorem d_RD_read_12 : decode b_RD_read 12 = .ok (.ifCond .ne 5, 3) := by decide +kernel
theorem d_RD_read_15 : decode b_RD_read 15 = .ok (.iconst 0, 1) := by decide +kernel
theorem d_RD_read_16 : decode b_RD_read 16 = .ok (.ireturn, 1) := by decide +kernel
theorem d_RD_read_17 : decode b_RD_read 17 = .ok (.aload_n 0, 1) := by decide +kernel
theorem d_RD_read_18 : decode b_RD_read 18 = .ok (.getfield 11, 3) := by decide +kernel
theorem d_RD_read_21 : decode b_RD_read 21 = .ok (.iload_n 1, 1) := by decide +kernel
theorem d_RD_read_22 : decode b_RD_read 22 = .ok (.aaload, 1) := by decide +kernel
theorem d_RD_read_23 : decode b_RD_read 23 = .ok (.iconst 0, 1) := by decide +kernel
theorem d_RD_read_24 : decode b_RD_read 24 = .ok (.iload_n 2, 1) := by decide +kernel
theorem d_RD_read_25 : decode b_RD_read 25 = .ok (.iconst 0, 1) := by decide +kernel
theorem d_RD_read_26 : decode b_RD_read 26 = .ok (.invokevirtual 71, 3) := by decide +kernel
theorem d_RD_read_29 : decode b_RD_read 29 = .ok (.aload_n 0, 1) := by decide +kernel
theorem d_RD_read_30 : decode b_RD_read 30 = .ok (.getfield 18, 3) := by decide +kernel
theorem d_RD_read_33 : decode b_RD_read 33 = .ok (.iload_n 1, 1) := by decide +kernel
theorem d_RD_read_34 : decode b_RD_read 34 = .ok (.invokevirtual 75, 3) := by decide +kernel
theorem d_RD_read_37 : decode b_RD_read 37 = .ok (.iconst 1, 1) := by decide +kernel
theorem d_RD_read_38 : decode b_RD_read 38 = .ok (.ireturn, 1) := by decide +kernel
theorem d_RD_isFree_0 : decode b_RD_isFree 0 = .ok (.iload_n 1, 1) := by decide +kernel
theorem d_RD_isFree_1 : decode b_RD_isFree 1 = .ok (.invokestatic 109, 3) := by decide +kernel
theorem d_RD_isFree_4 : decode b_RD_isFree 4 = .ok (.ifCond .eq 20, 3) := by decide +kernel
theorem d_RD_isFree_7 : decode b_RD_isFree 7 = .ok (.aload_n 0, 1) := by decide +kernel
theorem d_RD_isFree_8 : decode b_RD_isFree 8 = .ok (.getfield 11, 3) := by decide +kernel
theorem d_RD_isFree_11 : decode b_RD_isFree 11 = .ok (.iload_n 1, 1) := by decide +kernel
theorem d_RD_isFree_12 : decode b_RD_isFree 12 = .ok (.aaload, 1) := by decide +kernel
theorem d_RD_isFree_13 : decode b_RD_isFree 13 = .ok (.getfield 112, 3) := by decide +kernel
theorem d_RD_isFree_16 : decode b_RD_isFree 16 = .ok (.iconst 1, 1) := by decide +kernel
theorem d_RD_isFree_17 : decode b_RD_isFree 17 = .ok (.if_icmp .eq 7, 3) := by decide +kernel
theorem d_RD_isFree_20 : decode b_RD_isFree 20 = .ok (.iconst 1, 1) := by decide +kernel
theorem d_RD_isFree_21 : decode b_RD_isFree 21 = .ok (.goto 4, 3) := by decide +kernel
theorem d_RD_isFree_24 : decode b_RD_isFree 24 = .ok (.iconst 0, 1) := by decide +kernel
theorem d_RD_isFree_25 : decode b_RD_isFree 25 = .ok (.ireturn, 1) := by decide +kernel
theorem d_RD_isUser_0 : decode b_RD_isUser 0 = .ok (.iload_n 0, 1) := by decide +kernel
theorem d_RD_isUser_1 : decode b_RD_isUser 1 = .ok (.ifCond .lt 12, 3) := by decide +kernel
theorem d_RD_isUser_4 : decode b_RD_isUser 4 = .ok (.iload_n 0, 1) := by decide +kernel
theorem d_RD_isUser_5 : decode b_RD_isUser 5 = .ok (.iconst 4, 1) := by decide +kernel
theorem d_RD_isUser_6 : decode b_RD_isUser 6 = .ok (.if_icmp .ge 7, 3) := by decide +kernel
theorem d_RD_isUser_9 : decode b_RD_isUser 9 = .ok (.iconst 1, 1) := by decide +kernel
theorem d_RD_isUser_10 : decode b_RD_isUser 10 = .ok (.goto 4, 3) := by decide +kernel
theorem d_RD_isUser_13 : decode b_RD_isUser 13 = .ok (.iconst 0, 1) := by decide +kernel
theorem d_RD_isUser_14 : decode b_RD_isUser 14 = .ok (.ireturn, 1) := by decide +kernel
theorem d_RD_isBlock_0 : decode b_RD_isBlock 0 = .ok (.iload_n 0, 1) := by decide +kernel
theorem d_RD_isBlock_1 : decode b_RD_isBlock 1 = .ok (.ifCond .lt 13, 3) := by decide +kernel
theorem d_RD_isBlock_4 : decode b_RD_isBlock 4 = .ok (.iload_n 0, 1) := by decide +kernel
theorem d_RD_isBlock_5 : decode b_RD_isBlock 5 = .ok (.bipush 16, 2) := by decide +kernel
theorem d_RD_isBlock_7 : decode b_RD_isBlock 7 = .ok (.if_icmp .ge 7, 3) := by decide +kernel
theorem d_RD_isBlock_10 : decode b_RD_isBlock 10 = .ok (.iconst 1, 1) := by decide +kernel
theorem d_RD_isBlock_11 : decode b_RD_isBlock 11 = .ok (.goto 4, 3) := by decide +kernel
theorem d_RD_isBlock_14 : decode b_RD_isBlock 14 = .ok (.iconst 0, 1) := by decide +kernel
theorem d_RD_isBlock_15 : decode b_RD_isBlock 15 = .ok (.ireturn, 1) := by decide +kernel
theorem d_RD_write_0 : decode b_RD_write 0 = .ok (.aload_n 0, 1) := by decide +kernel
theorem d_RD_write_1 : decode b_RD_write 1 = .ok (.iload_n 1, 1) := by decide +kernel
theorem d_RD_write_2 : decode b_RD_write 2 = .ok (.invokevirtual 64, 3) := by decide +kernel
theorem d_RD_write_5 : decode b_RD_write 5 = .ok (.ifCond .eq 10, 3) := by decide +kernel
theorem d_RD_write_8 : decode b_RD_write 8 = .ok (.iload_n 2, 1) := by decide +kernel
theorem d_RD_write_9 : decode b_RD_write 9 = .ok (.invokestatic 68, 3) := by decide +kernel
theorem d_RD_write_12 : decode b_RD_write 12 = .ok (.ifCond .ne 5, 3) := by decide +kernel
theorem d_RD_write_15 : decode b_RD_write 15 = .ok (.iconst 0, 1) := by decide +kernel
theorem d_RD_write_16 : decode b_RD_write 16 = .ok (.ireturn, 1) := by decide +kernel
theorem d_RD_write_17 : decode b_RD_write 17 = .ok (.aload_n 0, 1) := by decide +kernel
theorem d_RD_write_18 : decode b_RD_write 18 = .ok (.getfield 11, 3) := by decide +kernel
theorem d_RD_write_21 : decode b_RD_write 21 = .ok (.iload_n 1, 1) := by decide +kernel
theorem d_RD_write_22 : decode b_RD_write 22 = .ok (.aaload, 1) := by decide +kernel
theorem d_RD_write_23 : decode b_RD_write 23 = .ok (.iconst 1, 1) := by decide +kernel
theorem d_RD_write_24 : decode b_RD_write 24 = .ok (.iload_n 2, 1) := by decide +kernel
theorem d_RD_write_25 : decode b_RD_write 25 = .ok (.iload_n 3, 1) := by decide +kernel
theorem d_RD_write_26 : decode b_RD_write 26 = .ok (.invokevirtual 71, 3) := by decide +kernel
theorem d_RD_write_29 : decode b_RD_write 29 = .ok (.aload_n 0, 1) := by decide +kernel
theorem d_RD_write_30 : decode b_RD_write 30 = .ok (.getfield 18, 3) := by decide +kernel
theorem d_RD_write_33 : decode b_RD_write 33 = .ok (.iload_n 1, 1) := by decide +kernel
theorem d_RD_write_34 : decode b_RD_write 34 = .ok (.invokevirtual 75, 3) := by decide +kernel
theorem d_RD_write_37 : decode b_RD_write 37 = .ok (.iconst 1, 1) := by decide +kernel
theorem d_RD_write_38 : decode b_RD_write 38 = .ok (.ireturn, 1) := by decide +kernel
theorem d_RD_sync_0 : decode b_RD_sync 0 = .ok (.aload_n 0, 1) := by decide +kernel
theorem d_RD_sync_1 : decode b_RD_sync 1 = .ok (.iload_n 1, 1) := by decide +kernel
theorem d_RD_sync_2 : decode b_RD_sync 2 = .ok (.invokevirtual 64, 3) := by decide +kernel
theorem d_RD_sync_5 : decode b_RD_sync 5 = .ok (.ifCond .ne 5, 3) := by decide +kernel
theorem d_RD_sync_8 : decode b_RD_sync 8 = .ok (.iconst 0, 1) := by decide +kernel
theorem d_RD_sync_9 : decode b_RD_sync 9 = .ok (.ireturn, 1) := by decide +kernel
theorem d_RD_sync_10 : decode b_RD_sync 10 = .ok (.aload_n 0, 1) := by decide +kernel
theorem d_RD_sync_11 : decode b_RD_sync 11 = .ok (.getfield 11, 3) := by decide +kernel
theorem d_RD_sync_14 : decode b_RD_sync 14 = .ok (.iload_n 1, 1) := by decide +kernel
theorem d_RD_sync_15 : decode b_RD_sync 15 = .ok (.aaload, 1) := by decide +kernel
theorem d_RD_sync_16 : decode b_RD_sync 16 = .ok (.iconst 2, 1) := by decide +kernel
theorem d_RD_sync_17 : decode b_RD_sync 17 = .ok (.iconst (-1), 1) := by decide +kernel
theorem d_RD_sync_18 : decode b_RD_sync 18 = .ok (.iconst 0, 1) := by decide +kernel
theorem d_RD_sync_19 : decode b_RD_sync 19 = .ok (.invokevirtual 71, 3) := by decide +kernel
theorem d_RD_sync_22 : decode b_RD_sync 22 = .ok (.aload_n 0, 1) := by decide +kernel
theorem d_RD_sync_23 : decode b_RD_sync 23 = .ok (.getfield 18, 3) := by decide +kernel
theorem d_RD_sync_26 : decode b_RD_sync 26 = .ok (.iload_n 1, 1) := by decide +kernel
theorem d_RD_sync_27 : decode b_RD_sync 27 = .ok (.invokevirtual 75, 3) := by decide +kernel
theorem d_RD_sync_30 : decode b_RD_sync 30 = .ok (.iconst 1, 1) := by decide +kernel
theorem d_RD_sync_31 : decode b_RD_sync 31 = .ok (.ireturn, 1) := by decide +kernel
theorem d_RD_print_0 : decode b_RD_print 0 = .ok (.aload_n 0, 1) := by decide +kernel
theorem d_RD_print_1 : decode b_RD_print 1 = .ok (.iload_n 1, 1) := by decide +kernel
theorem d_RD_print_2 : decode b_RD_print 2 = .ok (.invokevirtual 64, 3) := by decide +kernel
theorem d_RD_print_5 : decode b_RD_print 5 = .ok (.ifCond .eq 15, 3) := by decide +kernel
theorem d_RD_print_8 : decode b_RD_print 8 = .ok (.iload_n 2, 1) := by decide +kernel
theorem d_RD_print_9 : decode b_RD_print 9 = .ok (.bipush 32, 2) := by decide +kernel
theorem d_RD_print_11 : decode b_RD_print 11 = .ok (.if_icmp .lt 9, 3) := by decide +kernel
theorem d_RD_print_14 : decode b_RD_print 14 = .ok (.iload_n 2, 1) := by decide +kernel
theorem d_RD_print_15 : decode b_RD_print 15 = .ok (.bipush 126, 2) := by decide +kernel
theorem d_RD_print_17 : decode b_RD_print 17 = .ok (.if_icmp .le 5, 3) := by decide +kernel
theorem d_RD_print_20 : decode b_RD_print 20 = .ok (.iconst 0, 1) := by decide +kernel
theorem d_RD_print_21 : decode b_RD_print 21 = .ok (.ireturn, 1) := by decide +kernel
theorem d_RD_print_22 : decode b_RD_print 22 = .ok (.aload_n 0, 1) := by decide +kernel
theorem d_RD_print_23 : decode b_RD_print 23 = .ok (.getfield 11, 3) := by decide +kernel
theorem d_RD_print_26 : decode b_RD_print 26 = .ok (.iload_n 1, 1) := by decide +kernel
theorem d_RD_print_27 : decode b_RD_print 27 = .ok (.aaload, 1) := by decide +kernel
theorem d_RD_print_28 : decode b_RD_print 28 = .ok (.iconst 3, 1) := by decide +kernel
theorem d_RD_print_29 : decode b_RD_print 29 = .ok (.iconst (-1), 1) := by decide +kernel
theorem d_RD_print_30 : decode b_RD_print 30 = .ok (.iload_n 2, 1) := by decide +kernel
theorem d_RD_print_31 : decode b_RD_print 31 = .ok (.invokevirtual 71, 3) := by decide +kernel
theorem d_RD_print_34 : decode b_RD_print 34 = .ok (.aload_n 0, 1) := by decide +kernel
theorem d_RD_print_35 : decode b_RD_print 35 = .ok (.getfield 22, 3) := by decide +kernel
theorem d_RD_print_38 : decode b_RD_print 38 = .ok (.iload_n 1, 1) := by decide +kernel
theorem d_RD_print_39 : decode b_RD_print 39 = .ok (.invokevirtual 75, 3) := by decide +kernel
theorem d_RD_print_42 : decode b_RD_print 42 = .ok (.iconst 1, 1) := by decide +kernel
theorem d_RD_print_43 : decode b_RD_print 43 = .ok (.ireturn, 1) := by decide +kernel
theorem d_RD_tick_0 : decode b_RD_tick 0 = .ok (.aload_n 0, 1) := by decide +kernel
theorem d_RD_tick_1 : decode b_RD_tick 1 = .ok (.dup, 1) := by decide +kernel
theorem d_RD_tick_2 : decode b_RD_tick 2 = .ok (.getfield 79, 3) := by decide +kernel
theorem d_RD_tick_5 : decode b_RD_tick 5 = .ok (.iconst 1, 1) := by decide +kernel
theorem d_RD_tick_6 : decode b_RD_tick 6 = .ok (.iadd, 1) := by decide +kernel
theorem d_RD_tick_7 : decode b_RD_tick 7 = .ok (.putfield 79, 3) := by decide +kernel
theorem d_RD_tick_10 : decode b_RD_tick 10 = .ok (.aload_n 0, 1) := by decide +kernel
theorem d_RD_tick_11 : decode b_RD_tick 11 = .ok (.getfield 79, 3) := by decide +kernel
theorem d_RD_tick_14 : decode b_RD_tick 14 = .ok (.aload_n 0, 1) := by decide +kernel
theorem d_RD_tick_15 : decode b_RD_tick 15 = .ok (.getfield 59, 3) := by decide +kernel
theorem d_RD_tick_18 : decode b_RD_tick 18 = .ok (.irem, 1) := by decide +kernel
theorem d_RD_tick_19 : decode b_RD_tick 19 = .ok (.ifCond .ne 7, 3) := by decide +kernel
theorem d_RD_tick_22 : decode b_RD_tick 22 = .ok (.iconst 1, 1) := by decide +kernel
theorem d_RD_tick_23 : decode b_RD_tick 23 = .ok (.goto 4, 3) := by decide +kernel
theorem d_RD_tick_26 : decode b_RD_tick 26 = .ok (.iconst 0, 1) := by decide +kernel
theorem d_RD_tick_27 : decode b_RD_tick 27 = .ok (.istore_n 1, 1) := by decide +kernel
theorem d_RD_tick_28 : decode b_RD_tick 28 = .ok (.aload_n 0, 1) := by decide +kernel
theorem d_RD_tick_29 : decode b_RD_tick 29 = .ok (.getfield 28, 3) := by decide +kernel
theorem d_RD_tick_32 : decode b_RD_tick 32 = .ok (.iload_n 1, 1) := by decide +kernel
theorem d_RD_tick_33 : decode b_RD_tick 33 = .ok (.invokevirtual 82, 3) := by decide +kernel
theorem d_RD_tick_36 : decode b_RD_tick 36 = .ok (.aload_n 0, 1) := by decide +kernel
theorem d_RD_tick_37 : decode b_RD_tick 37 = .ok (.getfield 32, 3) := by decide +kernel
theorem d_RD_tick_40 : decode b_RD_tick 40 = .ok (.iload_n 1, 1) := by decide +kernel
theorem d_RD_tick_41 : decode b_RD_tick 41 = .ok (.invokevirtual 82, 3) := by decide +kernel
theorem d_RD_tick_44 : decode b_RD_tick 44 = .ok (.aload_n 0, 1) := by decide +kernel
theorem d_RD_tick_45 : decode b_RD_tick 45 = .ok (.invokevirtual 86, 3) := by decide +kernel
theorem d_RD_tick_48 : decode b_RD_tick 48 = .ok (.aload_n 0, 1) := by decide +kernel
theorem d_RD_tick_49 : decode b_RD_tick 49 = .ok (.invokevirtual 89, 3) := by decide +kernel
theorem d_RD_tick_52 : decode b_RD_tick 52 = .ok (.aload_n 0, 1) := by decide +kernel
theorem d_RD_tick_53 : decode b_RD_tick 53 = .ok (.invokevirtual 92, 3) := by decide +kernel
theorem d_RD_tick_56 : decode b_RD_tick 56 = .ok (.istore_n 2, 1) := by decide +kernel
theorem d_RD_tick_57 : decode b_RD_tick 57 = .ok (.iload_n 2, 1) := by decide +kernel
theorem d_RD_tick_58 : decode b_RD_tick 58 = .ok (.aload_n 0, 1) := by decide +kernel
theorem d_RD_tick_59 : decode b_RD_tick 59 = .ok (.invokevirtual 96, 3) := by decide +kernel
theorem d_RD_tick_62 : decode b_RD_tick 62 = .ok (.iadd, 1) := by decide +kernel
theorem d_RD_tick_63 : decode b_RD_tick 63 = .ok (.istore_n 2, 1) := by decide +kernel
theorem d_RD_tick_64 : decode b_RD_tick 64 = .ok (.iload_n 2, 1) := by decide +kernel
theorem d_RD_tick_65 : decode b_RD_tick 65 = .ok (.ireturn, 1) := by decide +kernel
theorem d_RD_stepDisk_0 : decode b_RD_stepDisk 0 = .ok (.aload_n 0, 1) := by decide +kernel
theorem d_RD_stepDisk_1 : decode b_RD_stepDisk 1 = .ok (.getfield 28, 3) := by decide +kernel
theorem d_RD_stepDisk_4 : decode b_RD_stepDisk 4 = .ok (.invokevirtual 153, 3) := by decide +kernel
theorem d_RD_stepDisk_7 : decode b_RD_stepDisk 7 = .ok (.istore_n 1, 1) := by decide +kernel
theorem d_RD_stepDisk_8 : decode b_RD_stepDisk 8 = .ok (.iload_n 1, 1) := by decide +kernel
theorem d_RD_stepDisk_9 : decode b_RD_stepDisk 9 = .ok (.iconst 1, 1) := by decide +kernel
theorem d_RD_stepDisk_10 : decode b_RD_stepDisk 10 = .ok (.if_icmp .ne 10, 3) := by decide +kernel
theorem d_RD_stepDisk_13 : decode b_RD_stepDisk 13 = .ok (.aload_n 0, 1) := by decide +kernel
theorem d_RD_stepDisk_14 : decode b_RD_stepDisk 14 = .ok (.invokevirtual 156, 3) := by decide +kernel
theorem d_RD_stepDisk_17 : decode b_RD_stepDisk 17 = .ok (.goto 16, 3) := by decide +kernel
theorem d_RD_stepDisk_20 : decode b_RD_stepDisk 20 = .ok (.iload_n 1, 1) := by decide +kernel
theorem d_RD_stepDisk_21 : decode b_RD_stepDisk 21 = .ok (.iconst 2, 1) := by decide +kernel
theorem d_RD_stepDisk_22 : decode b_RD_stepDisk 22 = .ok (.if_icmp .ne 11, 3) := by decide +kernel
theorem d_RD_stepDisk_25 : decode b_RD_stepDisk 25 = .ok (.aload_n 0, 1) := by decide +kernel
theorem d_RD_stepDisk_26 : decode b_RD_stepDisk 26 = .ok (.getfield 38, 3) := by decide +kernel
theorem d_RD_stepDisk_29 : decode b_RD_stepDisk 29 = .ok (.iconst 1, 1) := by decide +kernel
theorem d_RD_stepDisk_30 : decode b_RD_stepDisk 30 = .ok (.putfield 159, 3) := by decide +kernel
theorem d_RD_stepDisk_33 : decode b_RD_stepDisk 33 = .ok (.return_, 1) := by decide +kernel
theorem d_RD_moveBlock_0 : decode b_RD_moveBlock 0 = .ok (.aload_n 0, 1) := by decide +kernel
theorem d_RD_moveBlock_1 : decode b_RD_moveBlock 1 = .ok (.getfield 38, 3) := by decide +kernel
theorem d_RD_moveBlock_4 : decode b_RD_moveBlock 4 = .ok (.getfield 162, 3) := by decide +kernel
theorem d_RD_moveBlock_7 : decode b_RD_moveBlock 7 = .ok (.iconst 1, 1) := by decide +kernel
theorem d_RD_moveBlock_8 : decode b_RD_moveBlock 8 = .ok (.if_icmp .ne 22, 3) := by decide +kernel
theorem d_RD_moveBlock_11 : decode b_RD_moveBlock 11 = .ok (.aload_n 0, 1) := by decide +kernel
theorem d_RD_moveBlock_12 : decode b_RD_moveBlock 12 = .ok (.aload_n 0, 1) := by decide +kernel
theorem d_RD_moveBlock_13 : decode b_RD_moveBlock 13 = .ok (.getfield 52, 3) := by decide +kernel
theorem d_RD_moveBlock_16 : decode b_RD_moveBlock 16 = .ok (.aload_n 0, 1) := by decide +kernel
theorem d_RD_moveBlock_17 : decode b_RD_moveBlock 17 = .ok (.getfield 38, 3) := by decide +kernel
theorem d_RD_moveBlock_20 : decode b_RD_moveBlock 20 = .ok (.getfield 165, 3) := by decide +kernel
theorem d_RD_moveBlock_23 : decode b_RD_moveBlock 23 = .ok (.iaload, 1) := by decide +kernel
theorem d_RD_moveBlock_24 : decode b_RD_moveBlock 24 = .ok (.putfield 168, 3) := by decide +kernel
theorem d_RD_moveBlock_27 : decode b_RD_moveBlock 27 = .ok (.goto 30, 3) := by decide +kernel
theorem d_RD_moveBlock_30 : decode b_RD_moveBlock 30 = .ok (.aload_n 0, 1) := by decide +kernel
theorem d_RD_moveBlock_31 : decode b_RD_moveBlock 31 = .ok (.getfield 52, 3) := by decide +kernel
theorem d_RD_moveBlock_34 : decode b_RD_moveBlock 34 = .ok (.aload_n 0, 1) := by decide +kernel
theorem d_RD_moveBlock_35 : decode b_RD_moveBlock 35 = .ok (.getfield 38, 3) := by decide +kernel
theorem d_RD_moveBlock_38 : decode b_RD_moveBlock 38 = .ok (.getfield 165, 3) := by decide +kernel
theorem d_RD_moveBlock_41 : decode b_RD_moveBlock 41 = .ok (.aload_n 0, 1) := by decide +kernel
theorem d_RD_moveBlock_42 : decode b_RD_moveBlock 42 = .ok (.getfield 48, 3) := by decide +kernel
theorem d_RD_moveBlock_45 : decode b_RD_moveBlock 45 = .ok (.getfield 124, 3) := by decide +kernel
theorem d_RD_moveBlock_48 : decode b_RD_moveBlock 48 = .ok (.aload_n 0, 1) := by decide +kernel
theorem d_RD_moveBlock_49 : decode b_RD_moveBlock 49 = .ok (.getfield 38, 3) := by decide +kernel
theorem d_RD_moveBlock_52 : decode b_RD_moveBlock 52 = .ok (.getfield 171, 3) := by decide +kernel
theorem d_RD_moveBlock_55 : decode b_RD_moveBlock 55 = .ok (.iaload, 1) := by decide +kernel
theorem d_RD_moveBlock_56 : decode b_RD_moveBlock 56 = .ok (.iastore, 1) := by decide +kernel
theorem d_RD_moveBlock_57 : decode b_RD_moveBlock 57 = .ok (.return_, 1) := by decide +kernel
theorem d_RD_stepConsole_0 : decode b_RD_stepConsole 0 = .ok (.aload_n 0, 1) := by decide +kernel
theorem d_RD_stepConsole_1 : decode b_RD_stepConsole 1 = .ok (.getfield 32, 3) := by decide +kernel
theorem d_RD_stepConsole_4 : decode b_RD_stepConsole 4 = .ok (.invokevirtual 153, 3) := by decide +kernel
theorem d_RD_stepConsole_7 : decode b_RD_stepConsole 7 = .ok (.istore_n 1, 1) := by decide +kernel
theorem d_RD_stepConsole_8 : decode b_RD_stepConsole 8 = .ok (.iload_n 1, 1) := by decide +kernel
theorem d_RD_stepConsole_9 : decode b_RD_stepConsole 9 = .ok (.iconst 1, 1) := by decide +kernel
theorem d_RD_stepConsole_10 : decode b_RD_stepConsole 10 = .ok (.if_icmp .ne 17, 3) := by decide +kernel
theorem d_RD_stepConsole_13 : decode b_RD_stepConsole 13 = .ok (.aload_n 0, 1) := by decide +kernel
theorem d_RD_stepConsole_14 : decode b_RD_stepConsole 14 = .ok (.aload_n 0, 1) := by decide +kernel
theorem d_RD_stepConsole_15 : decode b_RD_stepConsole 15 = .ok (.getfield 42, 3) := by decide +kernel
theorem d_RD_stepConsole_18 : decode b_RD_stepConsole 18 = .ok (.getfield 174, 3) := by decide +kernel
theorem d_RD_stepConsole_21 : decode b_RD_stepConsole 21 = .ok (.invokevirtual 177, 3) := by decide +kernel
theorem d_RD_stepConsole_24 : decode b_RD_stepConsole 24 = .ok (.goto 16, 3) := by decide +kernel
theorem d_RD_stepConsole_27 : decode b_RD_stepConsole 27 = .ok (.iload_n 1, 1) := by decide +kernel
theorem d_RD_stepConsole_28 : decode b_RD_stepConsole 28 = .ok (.iconst 2, 1) := by decide +kernel
theorem d_RD_stepConsole_29 : decode b_RD_stepConsole 29 = .ok (.if_icmp .ne 11, 3) := by decide +kernel
theorem d_RD_stepConsole_32 : decode b_RD_stepConsole 32 = .ok (.aload_n 0, 1) := by decide +kernel
theorem d_RD_stepConsole_33 : decode b_RD_stepConsole 33 = .ok (.getfield 42, 3) := by decide +kernel
theorem d_RD_stepConsole_36 : decode b_RD_stepConsole 36 = .ok (.iconst 1, 1) := by decide +kernel
theorem d_RD_stepConsole_37 : decode b_RD_stepConsole 37 = .ok (.putfield 159, 3) := by decide +kernel
theorem d_RD_stepConsole_40 : decode b_RD_stepConsole 40 = .ok (.return_, 1) := by decide +kernel
theorem d_RD_putOutCharacter_0 : decode b_RD_putOutCharacter 0 = .ok (.aload_n 0, 1) := by decide +kernel
theorem d_RD_putOutCharacter_1 : decode b_RD_putOutCharacter 1 = .ok (.getfield 131, 3) := by decide +kernel
theorem d_RD_putOutCharacter_4 : decode b_RD_putOutCharacter 4 = .ok (.sipush 200, 3) := by decide +kernel
theorem d_RD_putOutCharacter_7 : decode b_RD_putOutCharacter 7 = .ok (.if_icmp .ge 23, 3) := by decide +kernel
theorem d_RD_putOutCharacter_10 : decode b_RD_putOutCharacter 10 = .ok (.aload_n 0, 1) := by decide +kernel
theorem d_RD_putOutCharacter_11 : decode b_RD_putOutCharacter 11 = .ok (.getfield 56, 3) := by decide +kernel
theorem d_RD_putOutCharacter_14 : decode b_RD_putOutCharacter 14 = .ok (.aload_n 0, 1) := by decide +kernel
theorem d_RD_putOutCharacter_15 : decode b_RD_putOutCharacter 15 = .ok (.getfield 131, 3) := by decide +kernel
theorem d_RD_putOutCharacter_18 : decode b_RD_putOutCharacter 18 = .ok (.iload_n 1, 1) := by decide +kernel
theorem d_RD_putOutCharacter_19 : decode b_RD_putOutCharacter 19 = .ok (.iastore, 1) := by decide +kernel
theorem d_RD_putOutCharacter_20 : decode b_RD_putOutCharacter 20 = .ok (.aload_n 0, 1) := by decide +kernel
theorem d_RD_putOutCharacter_21 : decode b_RD_putOutCharacter 21 = .ok (.dup, 1) := by decide +kernel
theorem d_RD_putOutCharacter_22 : decode b_RD_putOutCharacter 22 = .ok (.getfield 131, 3) := by decide +kernel
theorem d_RD_putOutCharacter_25 : decode b_RD_putOutCharacter 25 = .ok (.iconst 1, 1) := by decide +kernel
theorem d_RD_putOutCharacter_26 : decode b_RD_putOutCharacter 26 = .ok (.iadd, 1) := by decide +kernel
theorem d_RD_putOutCharacter_27 : decode b_RD_putOutCharacter 27 = .ok (.putfield 131, 3) := by decide +kernel
theorem d_RD_putOutCharacter_30 : decode b_RD_putOutCharacter 30 = .ok (.return_, 1) := by decide +kernel
theorem d_RD_serveFiles_0 : decode b_RD_serveFiles 0 = .ok (.aload_n 0, 1) := by decide +kernel
theorem d_RD_serveFiles_1 : decode b_RD_serveFiles 1 = .ok (.getfield 38, 3) := by decide +kernel
theorem d_RD_serveFiles_4 : decode b_RD_serveFiles 4 = .ok (.invokevirtual 180, 3) := by decide +kernel
theorem d_RD_serveFiles_7 : decode b_RD_serveFiles 7 = .ok (.ifCond .eq 54, 3) := by decide +kernel
theorem d_RD_serveFiles_10 : decode b_RD_serveFiles 10 = .ok (.aload_n 0, 1) := by decide +kernel
theorem d_RD_serveFiles_11 : decode b_RD_serveFiles 11 = .ok (.getfield 38, 3) := by decide +kernel
theorem d_RD_serveFiles_14 : decode b_RD_serveFiles 14 = .ok (.getfield 159, 3) := by decide +kernel
theorem d_RD_serveFiles_17 : decode b_RD_serveFiles 17 = .ok (.ifCond .ne 40, 3) := by decide +kernel
theorem d_RD_serveFiles_20 : decode b_RD_serveFiles 20 = .ok (.aload_n 0, 1) := by decide +kernel
theorem d_RD_serveFiles_21 : decode b_RD_serveFiles 21 = .ok (.getfield 38, 3) := by decide +kernel
theorem d_RD_serveFiles_24 : decode b_RD_serveFiles 24 = .ok (.getfield 184, 3) := by decide +kernel
theorem d_RD_serveFiles_27 : decode b_RD_serveFiles 27 = .ok (.ifCond .eq 17, 3) := by decide +kernel
theorem d_RD_serveFiles_30 : decode b_RD_serveFiles 30 = .ok (.aload_n 0, 1) := by decide +kernel
theorem d_RD_serveFiles_31 : decode b_RD_serveFiles 31 = .ok (.getfield 38, 3) := by decide +kernel
theorem d_RD_serveFiles_34 : decode b_RD_serveFiles 34 = .ok (.aload_n 0, 1) := by decide +kernel
theorem d_RD_serveFiles_35 : decode b_RD_serveFiles 35 = .ok (.getfield 28, 3) := by decide +kernel
theorem d_RD_serveFiles_38 : decode b_RD_serveFiles 38 = .ok (.invokevirtual 187, 3) := by decide +kernel
theorem d_RD_serveFiles_41 : decode b_RD_serveFiles 41 = .ok (.ifCond .eq 14, 3) := by decide +kernel
theorem d_RD_serveFiles_44 : decode b_RD_serveFiles 44 = .ok (.aload_n 0, 1) := by decide +kernel
theorem d_RD_serveFiles_45 : decode b_RD_serveFiles 45 = .ok (.getfield 38, 3) := by decide +kernel
theorem d_RD_serveFiles_48 : decode b_RD_serveFiles 48 = .ok (.aload_n 0, 1) := by decide +kernel
theorem d_RD_serveFiles_49 : decode b_RD_serveFiles 49 = .ok (.getfield 28, 3) := by decide +kernel
theorem d_RD_serveFiles_52 : decode b_RD_serveFiles 52 = .ok (.invokevirtual 191, 3) := by decide +kernel
theorem d_RD_serveFiles_55 : decode b_RD_serveFiles 55 = .ok (.iconst 0, 1) := by decide +kernel
theorem d_RD_serveFiles_56 : decode b_RD_serveFiles 56 = .ok (.ireturn, 1) := by decide +kernel
theorem d_RD_serveFiles_57 : decode b_RD_serveFiles 57 = .ok (.aload_n 0, 1) := by decide +kernel
theorem d_RD_serveFiles_58 : decode b_RD_serveFiles 58 = .ok (.invokevirtual 195, 3) := by decide +kernel
theorem d_RD_serveFiles_61 : decode b_RD_serveFiles 61 = .ok (.aload_n 0, 1) := by decide +kernel
theorem d_RD_serveFiles_62 : decode b_RD_serveFiles 62 = .ok (.getfield 18, 3) := by decide +kernel
theorem d_RD_serveFiles_65 : decode b_RD_serveFiles 65 = .ok (.invokevirtual 198, 3) := by decide +kernel
theorem d_RD_serveFiles_68 : decode b_RD_serveFiles 68 = .ok (.ifCond .eq 5, 3) := by decide +kernel
theorem d_RD_serveFiles_71 : decode b_RD_serveFiles 71 = .ok (.iconst 0, 1) := by decide +kernel
theorem d_RD_serveFiles_72 : decode b_RD_serveFiles 72 = .ok (.ireturn, 1) := by decide +kernel
theorem d_RD_serveFiles_73 : decode b_RD_serveFiles 73 = .ok (.aload_n 0, 1) := by decide +kernel
theorem d_RD_serveFiles_74 : decode b_RD_serveFiles 74 = .ok (.aload_n 0, 1) := by decide +kernel
theorem d_RD_serveFiles_75 : decode b_RD_serveFiles 75 = .ok (.getfield 11, 3) := by decide +kernel
theorem d_RD_serveFiles_78 : decode b_RD_serveFiles 78 = .ok (.aload_n 0, 1) := by decide +kernel
theorem d_RD_serveFiles_79 : decode b_RD_serveFiles 79 = .ok (.getfield 18, 3) := by decide +kernel
theorem d_RD_serveFiles_82 : decode b_RD_serveFiles 82 = .ok (.invokevirtual 201, 3) := by decide +kernel
theorem d_RD_serveFiles_85 : decode b_RD_serveFiles 85 = .ok (.aaload, 1) := by decide +kernel
theorem d_RD_serveFiles_86 : decode b_RD_serveFiles 86 = .ok (.invokevirtual 204, 3) := by decide +kernel
theorem d_RD_serveFiles_89 : decode b_RD_serveFiles 89 = .ok (.ifCond .ne 5, 3) := by decide +kernel
theorem d_RD_serveFiles_92 : decode b_RD_serveFiles 92 = .ok (.iconst 0, 1) := by decide +kernel
theorem d_RD_serveFiles_93 : decode b_RD_serveFiles 93 = .ok (.ireturn, 1) := by decide +kernel
theorem d_RD_serveFiles_94 : decode b_RD_serveFiles 94 = .ok (.aload_n 0, 1) := by decide +kernel
theorem d_RD_serveFiles_95 : decode b_RD_serveFiles 95 = .ok (.getfield 18, 3) := by decide +kernel
theorem d_RD_serveFiles_98 : decode b_RD_serveFiles 98 = .ok (.invokevirtual 208, 3) := by decide +kernel
theorem d_RD_serveFiles_101 : decode b_RD_serveFiles 101 = .ok (.iconst 1, 1) := by decide +kernel
theorem d_RD_serveFiles_102 : decode b_RD_serveFiles 102 = .ok (.ireturn, 1) := by decide +kernel
theorem d_RD_takeDiskAnswer_0 : decode b_RD_takeDiskAnswer 0 = .ok (.aload_n 0, 1) := by decide +kernel
theorem d_RD_takeDiskAnswer_1 : decode b_RD_takeDiskAnswer 1 = .ok (.getfield 38, 3) := by decide +kernel
theorem d_RD_takeDiskAnswer_4 : decode b_RD_takeDiskAnswer 4 = .ok (.getfield 162, 3) := by decide +kernel
theorem d_RD_takeDiskAnswer_7 : decode b_RD_takeDiskAnswer 7 = .ok (.iconst 1, 1) := by decide +kernel
theorem d_RD_takeDiskAnswer_8 : decode b_RD_takeDiskAnswer 8 = .ok (.if_icmp .ne 32, 3) := by decide +kernel
theorem d_RD_takeDiskAnswer_11 : decode b_RD_takeDiskAnswer 11 = .ok (.aload_n 0, 1) := by decide +kernel
theorem d_RD_takeDiskAnswer_12 : decode b_RD_takeDiskAnswer 12 = .ok (.getfield 48, 3) := by decide +kernel
theorem d_RD_takeDiskAnswer_15 : decode b_RD_takeDiskAnswer 15 = .ok (.aload_n 0, 1) := by decide +kernel
theorem d_RD_takeDiskAnswer_16 : decode b_RD_takeDiskAnswer 16 = .ok (.getfield 38, 3) := by decide +kernel
theorem d_RD_takeDiskAnswer_19 : decode b_RD_takeDiskAnswer 19 = .ok (.getfield 171, 3) := by decide +kernel
theorem d_RD_takeDiskAnswer_22 : decode b_RD_takeDiskAnswer 22 = .ok (.aload_n 0, 1) := by decide +kernel
theorem d_RD_takeDiskAnswer_23 : decode b_RD_takeDiskAnswer 23 = .ok (.getfield 38, 3) := by decide +kernel
theorem d_RD_takeDiskAnswer_26 : decode b_RD_takeDiskAnswer 26 = .ok (.getfield 165, 3) := by decide +kernel
theorem d_RD_takeDiskAnswer_29 : decode b_RD_takeDiskAnswer 29 = .ok (.aload_n 0, 1) := by decide +kernel
theorem d_RD_takeDiskAnswer_30 : decode b_RD_takeDiskAnswer 30 = .ok (.getfield 168, 3) := by decide +kernel
theorem d_RD_takeDiskAnswer_33 : decode b_RD_takeDiskAnswer 33 = .ok (.iconst 0, 1) := by decide +kernel
theorem d_RD_takeDiskAnswer_34 : decode b_RD_takeDiskAnswer 34 = .ok (.invokevirtual 211, 3) := by decide +kernel
theorem d_RD_takeDiskAnswer_37 : decode b_RD_takeDiskAnswer 37 = .ok (.goto 19, 3) := by decide +kernel
theorem d_RD_takeDiskAnswer_40 : decode b_RD_takeDiskAnswer 40 = .ok (.aload_n 0, 1) := by decide +kernel
theorem d_RD_takeDiskAnswer_41 : decode b_RD_takeDiskAnswer 41 = .ok (.getfield 48, 3) := by decide +kernel
theorem d_RD_takeDiskAnswer_44 : decode b_RD_takeDiskAnswer 44 = .ok (.getfield 127, 3) := by decide +kernel
theorem d_RD_takeDiskAnswer_47 : decode b_RD_takeDiskAnswer 47 = .ok (.aload_n 0, 1) := by decide +kernel
theorem d_RD_takeDiskAnswer_48 : decode b_RD_takeDiskAnswer 48 = .ok (.getfield 38, 3) := by decide +kernel
theorem d_RD_takeDiskAnswer_51 : decode b_RD_takeDiskAnswer 51 = .ok (.getfield 171, 3) := by decide +kernel
theorem d_RD_takeDiskAnswer_54 : decode b_RD_takeDiskAnswer 54 = .ok (.iconst 0, 1) := by decide +kernel
theorem d_RD_takeDiskAnswer_55 : decode b_RD_takeDiskAnswer 55 = .ok (.bastore, 1) := by decide +kernel
theorem d_RD_takeDiskAnswer_56 : decode b_RD_takeDiskAnswer 56 = .ok (.aload_n 0, 1) := by decide +kernel
theorem d_RD_takeDiskAnswer_57 : decode b_RD_takeDiskAnswer 57 = .ok (.getfield 38, 3) := by decide +kernel
theorem d_RD_takeDiskAnswer_60 : decode b_RD_takeDiskAnswer 60 = .ok (.invokevirtual 215, 3) := by decide +kernel
theorem d_RD_takeDiskAnswer_63 : decode b_RD_takeDiskAnswer 63 = .ok (.return_, 1) := by decide +kernel
theorem d_RD_goOnWith_0 : decode b_RD_goOnWith 0 = .ok (.aload_n 1, 1) := by decide +kernel
theorem d_RD_goOnWith_1 : decode b_RD_goOnWith 1 = .ok (.getfield 218, 3) := by decide +kernel
theorem d_RD_goOnWith_4 : decode b_RD_goOnWith 4 = .ok (.iconst 2, 1) := by decide +kernel
theorem d_RD_goOnWith_5 : decode b_RD_goOnWith 5 = .ok (.if_icmp .ne 9, 3) := by decide +kernel
theorem d_RD_goOnWith_8 : decode b_RD_goOnWith 8 = .ok (.aload_n 0, 1) := by decide +kernel
theorem d_RD_goOnWith_9 : decode b_RD_goOnWith 9 = .ok (.aload_n 1, 1) := by decide +kernel
theorem d_RD_goOnWith_10 : decode b_RD_goOnWith 10 = .ok (.invokevirtual 219, 3) := by decide +kernel
theorem d_RD_goOnWith_13 : decode b_RD_goOnWith 13 = .ok (.ireturn, 1) := by decide +kernel
theorem d_RD_goOnWith_14 : decode b_RD_goOnWith 14 = .ok (.aload_n 0, 1) := by decide +kernel
theorem d_RD_goOnWith_15 : decode b_RD_goOnWith 15 = .ok (.getfield 48, 3) := by decide +kernel
theorem d_RD_goOnWith_18 : decode b_RD_goOnWith 18 = .ok (.aload_n 1, 1) := by decide +kernel
theorem d_RD_goOnWith_19 : decode b_RD_goOnWith 19 = .ok (.getfield 222, 3) := by decide +kernel
theorem d_RD_goOnWith_22 : decode b_RD_goOnWith 22 = .ok (.invokevirtual 223, 3) := by decide +kernel
theorem d_RD_goOnWith_25 : decode b_RD_goOnWith 25 = .ok (.istore_n 2, 1) := by decide +kernel
theorem d_RD_goOnWith_26 : decode b_RD_goOnWith 26 = .ok (.iload_n 2, 1) := by decide +kernel
theorem d_RD_goOnWith_27 : decode b_RD_goOnWith 27 = .ok (.iconst (-1), 1) := by decide +kernel
theorem d_RD_goOnWith_28 : decode b_RD_goOnWith 28 = .ok (.if_icmp .ne 9, 3) := by decide +kernel
theorem d_RD_goOnWith_31 : decode b_RD_goOnWith 31 = .ok (.aload_n 0, 1) := by decide +kernel
theorem d_RD_goOnWith_32 : decode b_RD_goOnWith 32 = .ok (.aload_n 1, 1) := by decide +kernel
theorem d_RD_goOnWith_33 : decode b_RD_goOnWith 33 = .ok (.invokevirtual 227, 3) := by decide +kernel
theorem d_RD_goOnWith_36 : decode b_RD_goOnWith 36 = .ok (.ireturn, 1) := by decide +kernel
theorem d_RD_goOnWith_37 : decode b_RD_goOnWith 37 = .ok (.aload_n 0, 1) := by decide +kernel
theorem d_RD_goOnWith_38 : decode b_RD_goOnWith 38 = .ok (.getfield 48, 3) := by decide +kernel
theorem d_RD_goOnWith_41 : decode b_RD_goOnWith 41 = .ok (.getfield 230, 3) := by decide +kernel
theorem d_RD_goOnWith_44 : decode b_RD_goOnWith 44 = .ok (.iload_n 2, 1) := by decide +kernel
theorem d_RD_goOnWith_45 : decode b_RD_goOnWith 45 = .ok (.aload_n 0, 1) := by decide +kernel
theorem d_RD_goOnWith_46 : decode b_RD_goOnWith 46 = .ok (.getfield 79, 3) := by decide +kernel
theorem d_RD_goOnWith_49 : decode b_RD_goOnWith 49 = .ok (.iastore, 1) := by decide +kernel
theorem d_RD_goOnWith_50 : decode b_RD_goOnWith 50 = .ok (.aload_n 1, 1) := by decide +kernel
theorem d_RD_goOnWith_51 : decode b_RD_goOnWith 51 = .ok (.getfield 218, 3) := by decide +kernel
theorem d_RD_goOnWith_54 : decode b_RD_goOnWith 54 = .ok (.ifCond .ne 19, 3) := by decide +kernel
theorem d_RD_goOnWith_57 : decode b_RD_goOnWith 57 = .ok (.aload_n 1, 1) := by decide +kernel
theorem d_RD_goOnWith_58 : decode b_RD_goOnWith 58 = .ok (.aload_n 0, 1) := by decide +kernel
theorem d_RD_goOnWith_59 : decode b_RD_goOnWith 59 = .ok (.getfield 48, 3) := by decide +kernel
theorem d_RD_goOnWith_62 : decode b_RD_goOnWith 62 = .ok (.getfield 124, 3) := by decide +kernel
theorem d_RD_goOnWith_65 : decode b_RD_goOnWith 65 = .ok (.iload_n 2, 1) := by decide +kernel
theorem d_RD_goOnWith_66 : decode b_RD_goOnWith 66 = .ok (.iaload, 1) := by decide +kernel
theorem d_RD_goOnWith_67 : decode b_RD_goOnWith 67 = .ok (.invokevirtual 233, 3) := by decide +kernel
theorem d_RD_goOnWith_70 : decode b_RD_goOnWith 70 = .ok (.goto 25, 3) := by decide +kernel
theorem d_RD_goOnWith_73 : decode b_RD_goOnWith 73 = .ok (.aload_n 0, 1) := by decide +kernel
theorem d_RD_goOnWith_74 : decode b_RD_goOnWith 74 = .ok (.getfield 48, 3) := by decide +kernel
theorem d_RD_goOnWith_77 : decode b_RD_goOnWith 77 = .ok (.iload_n 2, 1) := by decide +kernel
theorem d_RD_goOnWith_78 : decode b_RD_goOnWith 78 = .ok (.aload_n 1, 1) := by decide +kernel
theorem d_RD_goOnWith_79 : decode b_RD_goOnWith 79 = .ok (.getfield 222, 3) := by decide +kernel
theorem d_RD_goOnWith_82 : decode b_RD_goOnWith 82 = .ok (.aload_n 1, 1) := by decide +kernel
theorem d_RD_goOnWith_83 : decode b_RD_goOnWith 83 = .ok (.getfield 236, 3) := by decide +kernel
theorem d_RD_goOnWith_86 : decode b_RD_goOnWith 86 = .ok (.iconst 1, 1) := by decide +kernel
theorem d_RD_goOnWith_87 : decode b_RD_goOnWith 87 = .ok (.invokevirtual 211, 3) := by decide +kernel
theorem d_RD_goOnWith_90 : decode b_RD_goOnWith 90 = .ok (.aload_n 1, 1) := by decide +kernel
theorem d_RD_goOnWith_91 : decode b_RD_goOnWith 91 = .ok (.iconst 0, 1) := by decide +kernel
theorem d_RD_goOnWith_92 : decode b_RD_goOnWith 92 = .ok (.invokevirtual 233, 3) := by decide +kernel
theorem d_RD_goOnWith_95 : decode b_RD_goOnWith 95 = .ok (.iconst 1, 1) := by decide +kernel
theorem d_RD_goOnWith_96 : decode b_RD_goOnWith 96 = .ok (.ireturn, 1) := by decide +kernel
theorem d_RD_goOnWithSync_0 : decode b_RD_goOnWithSync 0 = .ok (.aload_n 0, 1) := by decide +kernel
theorem d_RD_goOnWithSync_1 : decode b_RD_goOnWithSync 1 = .ok (.getfield 48, 3) := by decide +kernel
theorem d_RD_goOnWithSync_4 : decode b_RD_goOnWithSync 4 = .ok (.invokevirtual 252, 3) := by decide +kernel
theorem d_RD_goOnWithSync_7 : decode b_RD_goOnWithSync 7 = .ok (.istore_n 2, 1) := by decide +kernel
theorem d_RD_goOnWithSync_8 : decode b_RD_goOnWithSync 8 = .ok (.iload_n 2, 1) := by decide +kernel
theorem d_RD_goOnWithSync_9 : decode b_RD_goOnWithSync 9 = .ok (.iconst (-1), 1) := by decide +kernel
theorem d_RD_goOnWithSync_10 : decode b_RD_goOnWithSync 10 = .ok (.if_icmp .ne 13, 3) := by decide +kernel
theorem d_RD_goOnWithSync_13 : decode b_RD_goOnWithSync 13 = .ok (.aload_n 1, 1) := by decide +kernel
theorem d_RD_goOnWithSync_14 : decode b_RD_goOnWithSync 14 = .ok (.aload_n 1, 1) := by decide +kernel
theorem d_RD_goOnWithSync_15 : decode b_RD_goOnWithSync 15 = .ok (.getfield 255, 3) := by decide +kernel
theorem d_RD_goOnWithSync_18 : decode b_RD_goOnWithSync 18 = .ok (.invokevirtual 233, 3) := by decide +kernel
theorem d_RD_goOnWithSync_21 : decode b_RD_goOnWithSync 21 = .ok (.iconst 1, 1) := by decide +kernel
theorem d_RD_goOnWithSync_22 : decode b_RD_goOnWithSync 22 = .ok (.ireturn, 1) := by decide +kernel
theorem d_RD_goOnWithSync_23 : decode b_RD_goOnWithSync 23 = .ok (.aload_n 1, 1) := by decide +kernel
theorem d_RD_goOnWithSync_24 : decode b_RD_goOnWithSync 24 = .ok (.dup, 1) := by decide +kernel
theorem d_RD_goOnWithSync_25 : decode b_RD_goOnWithSync 25 = .ok (.getfield 255, 3) := by decide +kernel
theorem d_RD_goOnWithSync_28 : decode b_RD_goOnWithSync 28 = .ok (.iconst 1, 1) := by decide +kernel
theorem d_RD_goOnWithSync_29 : decode b_RD_goOnWithSync 29 = .ok (.iadd, 1) := by decide +kernel
theorem d_RD_goOnWithSync_30 : decode b_RD_goOnWithSync 30 = .ok (.putfield 255, 3) := by decide +kernel
theorem d_RD_goOnWithSync_33 : decode b_RD_goOnWithSync 33 = .ok (.aload_n 0, 1) := by decide +kernel
theorem d_RD_goOnWithSync_34 : decode b_RD_goOnWithSync 34 = .ok (.iload_n 2, 1) := by decide +kernel
theorem d_RD_goOnWithSync_35 : decode b_RD_goOnWithSync 35 = .ok (.invokevirtual 242, 3) := by decide +kernel
theorem d_RD_goOnWithSync_38 : decode b_RD_goOnWithSync 38 = .ok (.iconst 0, 1) := by decide +kernel
theorem d_RD_goOnWithSync_39 : decode b_RD_goOnWithSync 39 = .ok (.ireturn, 1) := by decide +kernel
