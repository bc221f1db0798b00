theorem d_Md_serveTerminal_0 : decode b_Md_serveTerminal 0 = .ok (.aload_n 0, 1) := by decide +kernel
theorem d_Md_serveTerminal_1 : decode b_Md_serveTerminal 1 = .ok (.iconst 1, 1) := by decide +kernel
theorem d_Md_serveTerminal_2 : decode b_Md_serveTerminal 2 = .ok (.invokevirtual 114, 3) := by decide +kernel
theorem d_Md_serveTerminal_5 : decode b_Md_serveTerminal 5 = .ok (.istore_n 1, 1) := by decide +kernel
theorem d_Md_serveTerminal_6 : decode b_Md_serveTerminal 6 = .ok (.aload_n 0, 1) := by decide +kernel
theorem d_Md_serveTerminal_7 : decode b_Md_serveTerminal 7 = .ok (.getfield 56, 3) := by decide +kernel
theorem d_Md_serveTerminal_10 : decode b_Md_serveTerminal 10 = .ok (.iconst 1, 1) := by decide +kernel
theorem d_Md_serveTerminal_11 : decode b_Md_serveTerminal 11 = .ok (.iaload, 1) := by decide +kernel
theorem d_Md_serveTerminal_12 : decode b_Md_serveTerminal 12 = .ok (.iconst 1, 1) := by decide +kernel
theorem d_Md_serveTerminal_13 : decode b_Md_serveTerminal 13 = .ok (.if_icmp .ne 9, 3) := by decide +kernel
theorem d_Md_serveTerminal_16 : decode b_Md_serveTerminal 16 = .ok (.aload_n 0, 1) := by decide +kernel
theorem d_Md_serveTerminal_17 : decode b_Md_serveTerminal 17 = .ok (.iconst 1, 1) := by decide +kernel
theorem d_Md_serveTerminal_18 : decode b_Md_serveTerminal 18 = .ok (.invokevirtual 118, 3) := by decide +kernel
theorem d_Md_serveTerminal_21 : decode b_Md_serveTerminal 21 = .ok (.return_, 1) := by decide +kernel
theorem d_Md_serveTerminal_22 : decode b_Md_serveTerminal 22 = .ok (.aload_n 0, 1) := by decide +kernel
theorem d_Md_serveTerminal_23 : decode b_Md_serveTerminal 23 = .ok (.getfield 56, 3) := by decide +kernel
theorem d_Md_serveTerminal_26 : decode b_Md_serveTerminal 26 = .ok (.iconst 1, 1) := by decide +kernel
theorem d_Md_serveTerminal_27 : decode b_Md_serveTerminal 27 = .ok (.iaload, 1) := by decide +kernel
theorem d_Md_serveTerminal_28 : decode b_Md_serveTerminal 28 = .ok (.iconst 2, 1) := by decide +kernel
theorem d_Md_serveTerminal_29 : decode b_Md_serveTerminal 29 = .ok (.if_icmp .ne 19, 3) := by decide +kernel
theorem d_Md_serveTerminal_32 : decode b_Md_serveTerminal 32 = .ok (.aload_n 0, 1) := by decide +kernel
theorem d_Md_serveTerminal_33 : decode b_Md_serveTerminal 33 = .ok (.getfield 59, 3) := by decide +kernel
theorem d_Md_serveTerminal_36 : decode b_Md_serveTerminal 36 = .ok (.iconst 1, 1) := by decide +kernel
theorem d_Md_serveTerminal_37 : decode b_Md_serveTerminal 37 = .ok (.iaload, 1) := by decide +kernel
theorem d_Md_serveTerminal_38 : decode b_Md_serveTerminal 38 = .ok (.aload_n 0, 1) := by decide +kernel
theorem d_Md_serveTerminal_39 : decode b_Md_serveTerminal 39 = .ok (.getfield 37, 3) := by decide +kernel
theorem d_Md_serveTerminal_42 : decode b_Md_serveTerminal 42 = .ok (.iconst 1, 1) := by decide +kernel
theorem d_Md_serveTerminal_43 : decode b_Md_serveTerminal 43 = .ok (.iaload, 1) := by decide +kernel
theorem d_Md_serveTerminal_44 : decode b_Md_serveTerminal 44 = .ok (.if_icmp .ne 4, 3) := by decide +kernel
theorem d_Md_serveTerminal_47 : decode b_Md_serveTerminal 47 = .ok (.return_, 1) := by decide +kernel
theorem d_Md_serveTerminal_48 : decode b_Md_serveTerminal 48 = .ok (.aload_n 0, 1) := by decide +kernel
theorem d_Md_serveTerminal_49 : decode b_Md_serveTerminal 49 = .ok (.getfield 56, 3) := by decide +kernel
theorem d_Md_serveTerminal_52 : decode b_Md_serveTerminal 52 = .ok (.iconst 1, 1) := by decide +kernel
theorem d_Md_serveTerminal_53 : decode b_Md_serveTerminal 53 = .ok (.iaload, 1) := by decide +kernel
theorem d_Md_serveTerminal_54 : decode b_Md_serveTerminal 54 = .ok (.ifCond .eq 46, 3) := by decide +kernel
theorem d_Md_serveTerminal_57 : decode b_Md_serveTerminal 57 = .ok (.aload_n 0, 1) := by decide +kernel
theorem d_Md_serveTerminal_58 : decode b_Md_serveTerminal 58 = .ok (.iload_n 1, 1) := by decide +kernel
theorem d_Md_serveTerminal_59 : decode b_Md_serveTerminal 59 = .ok (.aload_n 0, 1) := by decide +kernel
theorem d_Md_serveTerminal_60 : decode b_Md_serveTerminal 60 = .ok (.getfield 56, 3) := by decide +kernel
theorem d_Md_serveTerminal_63 : decode b_Md_serveTerminal 63 = .ok (.iconst 1, 1) := by decide +kernel
theorem d_Md_serveTerminal_64 : decode b_Md_serveTerminal 64 = .ok (.iaload, 1) := by decide +kernel
theorem d_Md_serveTerminal_65 : decode b_Md_serveTerminal 65 = .ok (.iconst 3, 1) := by decide +kernel
theorem d_Md_serveTerminal_66 : decode b_Md_serveTerminal 66 = .ok (.if_icmp .ne 7, 3) := by decide +kernel
theorem d_Md_serveTerminal_69 : decode b_Md_serveTerminal 69 = .ok (.iconst 2, 1) := by decide +kernel
theorem d_Md_serveTerminal_70 : decode b_Md_serveTerminal 70 = .ok (.goto 4, 3) := by decide +kernel
theorem d_Md_serveTerminal_73 : decode b_Md_serveTerminal 73 = .ok (.iconst 3, 1) := by decide +kernel
theorem d_Md_serveTerminal_74 : decode b_Md_serveTerminal 74 = .ok (.aload_n 0, 1) := by decide +kernel
theorem d_Md_serveTerminal_75 : decode b_Md_serveTerminal 75 = .ok (.getfield 56, 3) := by decide +kernel
theorem d_Md_serveTerminal_78 : decode b_Md_serveTerminal 78 = .ok (.iconst 1, 1) := by decide +kernel
theorem d_Md_serveTerminal_79 : decode b_Md_serveTerminal 79 = .ok (.iaload, 1) := by decide +kernel
theorem d_Md_serveTerminal_80 : decode b_Md_serveTerminal 80 = .ok (.iconst 3, 1) := by decide +kernel
theorem d_Md_serveTerminal_81 : decode b_Md_serveTerminal 81 = .ok (.if_icmp .ne 7, 3) := by decide +kernel
theorem d_Md_serveTerminal_84 : decode b_Md_serveTerminal 84 = .ok (.iconst 0, 1) := by decide +kernel
theorem d_Md_serveTerminal_85 : decode b_Md_serveTerminal 85 = .ok (.goto 5, 3) := by decide +kernel
theorem d_Md_serveTerminal_88 : decode b_Md_serveTerminal 88 = .ok (.bipush (-5), 2) := by decide +kernel
theorem d_Md_serveTerminal_90 : decode b_Md_serveTerminal 90 = .ok (.invokevirtual 128, 3) := by decide +kernel
theorem d_Md_serveTerminal_93 : decode b_Md_serveTerminal 93 = .ok (.aload_n 0, 1) := by decide +kernel
theorem d_Md_serveTerminal_94 : decode b_Md_serveTerminal 94 = .ok (.getfield 56, 3) := by decide +kernel
theorem d_Md_serveTerminal_97 : decode b_Md_serveTerminal 97 = .ok (.iconst 1, 1) := by decide +kernel
theorem d_Md_serveTerminal_98 : decode b_Md_serveTerminal 98 = .ok (.iconst 0, 1) := by decide +kernel
theorem d_Md_serveTerminal_99 : decode b_Md_serveTerminal 99 = .ok (.iastore, 1) := by decide +kernel
theorem d_Md_serveTerminal_100 : decode b_Md_serveTerminal 100 = .ok (.aload_n 0, 1) := by decide +kernel
theorem d_Md_serveTerminal_101 : decode b_Md_serveTerminal 101 = .ok (.iconst 1, 1) := by decide +kernel
theorem d_Md_serveTerminal_102 : decode b_Md_serveTerminal 102 = .ok (.invokevirtual 114, 3) := by decide +kernel
theorem d_Md_serveTerminal_105 : decode b_Md_serveTerminal 105 = .ok (.ifCond .lt 8, 3) := by decide +kernel
theorem d_Md_serveTerminal_108 : decode b_Md_serveTerminal 108 = .ok (.aload_n 0, 1) := by decide +kernel
theorem d_Md_serveTerminal_109 : decode b_Md_serveTerminal 109 = .ok (.iconst 1, 1) := by decide +kernel
theorem d_Md_serveTerminal_110 : decode b_Md_serveTerminal 110 = .ok (.invokevirtual 118, 3) := by decide +kernel
theorem d_Md_serveTerminal_113 : decode b_Md_serveTerminal 113 = .ok (.return_, 1) := by decide +kernel
theorem d_Md_fault_0 : decode b_Md_fault 0 = .ok (.iload_n 1, 1) := by decide +kernel
theorem d_Md_fault_1 : decode b_Md_fault 1 = .ok (.ifCond .lt 41, 3) := by decide +kernel
theorem d_Md_fault_4 : decode b_Md_fault 4 = .ok (.iload_n 1, 1) := by decide +kernel
theorem d_Md_fault_5 : decode b_Md_fault 5 = .ok (.iconst 1, 1) := by decide +kernel
theorem d_Md_fault_6 : decode b_Md_fault 6 = .ok (.if_icmp .gt 36, 3) := by decide +kernel
theorem d_Md_fault_9 : decode b_Md_fault 9 = .ok (.iload_n 2, 1) := by decide +kernel
theorem d_Md_fault_10 : decode b_Md_fault 10 = .ok (.ifCond .lt 32, 3) := by decide +kernel
theorem d_Md_fault_13 : decode b_Md_fault 13 = .ok (.iload_n 2, 1) := by decide +kernel
theorem d_Md_fault_14 : decode b_Md_fault 14 = .ok (.iconst 3, 1) := by decide +kernel
theorem d_Md_fault_15 : decode b_Md_fault 15 = .ok (.if_icmp .gt 27, 3) := by decide +kernel
theorem d_Md_fault_18 : decode b_Md_fault 18 = .ok (.aload_n 0, 1) := by decide +kernel
theorem d_Md_fault_19 : decode b_Md_fault 19 = .ok (.getfield 40, 3) := by decide +kernel
theorem d_Md_fault_22 : decode b_Md_fault 22 = .ok (.iload_n 1, 1) := by decide +kernel
theorem d_Md_fault_23 : decode b_Md_fault 23 = .ok (.iaload, 1) := by decide +kernel
theorem d_Md_fault_24 : decode b_Md_fault 24 = .ok (.iconst 2, 1) := by decide +kernel
theorem d_Md_fault_25 : decode b_Md_fault 25 = .ok (.if_icmp .eq 17, 3) := by decide +kernel
theorem d_Md_fault_28 : decode b_Md_fault 28 = .ok (.aload_n 0, 1) := by decide +kernel
theorem d_Md_fault_29 : decode b_Md_fault 29 = .ok (.getfield 40, 3) := by decide +kernel
theorem d_Md_fault_32 : decode b_Md_fault 32 = .ok (.iload_n 1, 1) := by decide +kernel
theorem d_Md_fault_33 : decode b_Md_fault 33 = .ok (.iaload, 1) := by decide +kernel
theorem d_Md_fault_34 : decode b_Md_fault 34 = .ok (.iconst 1, 1) := by decide +kernel
theorem d_Md_fault_35 : decode b_Md_fault 35 = .ok (.if_icmp .ne 9, 3) := by decide +kernel
theorem d_Md_fault_38 : decode b_Md_fault 38 = .ok (.iload_n 2, 1) := by decide +kernel
theorem d_Md_fault_39 : decode b_Md_fault 39 = .ok (.ifCond .eq 5, 3) := by decide +kernel
theorem d_Md_fault_42 : decode b_Md_fault 42 = .ok (.iconst 0, 1) := by decide +kernel
theorem d_Md_fault_43 : decode b_Md_fault 43 = .ok (.ireturn, 1) := by decide +kernel
theorem d_Md_fault_44 : decode b_Md_fault 44 = .ok (.iload_n 2, 1) := by decide +kernel
theorem d_Md_fault_45 : decode b_Md_fault 45 = .ok (.ifCond .ne 17, 3) := by decide +kernel
theorem d_Md_fault_48 : decode b_Md_fault 48 = .ok (.aload_n 0, 1) := by decide +kernel
theorem d_Md_fault_49 : decode b_Md_fault 49 = .ok (.getfield 40, 3) := by decide +kernel
theorem d_Md_fault_52 : decode b_Md_fault 52 = .ok (.iload_n 1, 1) := by decide +kernel
theorem d_Md_fault_53 : decode b_Md_fault 53 = .ok (.iconst 2, 1) := by decide +kernel
theorem d_Md_fault_54 : decode b_Md_fault 54 = .ok (.iastore, 1) := by decide +kernel
theorem d_Md_fault_55 : decode b_Md_fault 55 = .ok (.aload_n 0, 1) := by decide +kernel
theorem d_Md_fault_56 : decode b_Md_fault 56 = .ok (.getfield 46, 3) := by decide +kernel
theorem d_Md_fault_59 : decode b_Md_fault 59 = .ok (.iload_n 1, 1) := by decide +kernel
theorem d_Md_fault_60 : decode b_Md_fault 60 = .ok (.iconst (-1), 1) := by decide +kernel
theorem d_Md_fault_61 : decode b_Md_fault 61 = .ok (.iastore, 1) := by decide +kernel
theorem d_Md_fault_62 : decode b_Md_fault 62 = .ok (.iload_n 2, 1) := by decide +kernel
theorem d_Md_fault_63 : decode b_Md_fault 63 = .ok (.iconst 1, 1) := by decide +kernel
theorem d_Md_fault_64 : decode b_Md_fault 64 = .ok (.if_icmp .ne 10, 3) := by decide +kernel
theorem d_Md_fault_67 : decode b_Md_fault 67 = .ok (.aload_n 0, 1) := by decide +kernel
theorem d_Md_fault_68 : decode b_Md_fault 68 = .ok (.getfield 40, 3) := by decide +kernel
theorem d_Md_fault_71 : decode b_Md_fault 71 = .ok (.iload_n 1, 1) := by decide +kernel
theorem d_Md_fault_72 : decode b_Md_fault 72 = .ok (.iconst 1, 1) := by decide +kernel
theorem d_Md_fault_73 : decode b_Md_fault 73 = .ok (.iastore, 1) := by decide +kernel
theorem d_Md_fault_74 : decode b_Md_fault 74 = .ok (.iload_n 2, 1) := by decide +kernel
theorem d_Md_fault_75 : decode b_Md_fault 75 = .ok (.iconst 1, 1) := by decide +kernel
theorem d_Md_fault_76 : decode b_Md_fault 76 = .ok (.if_icmp .le 10, 3) := by decide +kernel
theorem d_Md_fault_79 : decode b_Md_fault 79 = .ok (.aload_n 0, 1) := by decide +kernel
theorem d_Md_fault_80 : decode b_Md_fault 80 = .ok (.getfield 43, 3) := by decide +kernel
theorem d_Md_fault_83 : decode b_Md_fault 83 = .ok (.iload_n 1, 1) := by decide +kernel
theorem d_Md_fault_84 : decode b_Md_fault 84 = .ok (.iload_n 2, 1) := by decide +kernel
theorem d_Md_fault_85 : decode b_Md_fault 85 = .ok (.iastore, 1) := by decide +kernel
theorem d_Md_fault_86 : decode b_Md_fault 86 = .ok (.iconst 1, 1) := by decide +kernel
theorem d_Md_fault_87 : decode b_Md_fault 87 = .ok (.ireturn, 1) := by decide +kernel
theorem d_Md_state_0 : decode b_Md_state 0 = .ok (.iload_n 1, 1) := by decide +kernel
theorem d_Md_state_1 : decode b_Md_state 1 = .ok (.ifCond .lt 8, 3) := by decide +kernel
theorem d_Md_state_4 : decode b_Md_state 4 = .ok (.iload_n 1, 1) := by decide +kernel
theorem d_Md_state_5 : decode b_Md_state 5 = .ok (.iconst 3, 1) := by decide +kernel
theorem d_Md_state_6 : decode b_Md_state 6 = .ok (.if_icmp .le 7, 3) := by decide +kernel
theorem d_Md_state_9 : decode b_Md_state 9 = .ok (.iconst (-1), 1) := by decide +kernel
theorem d_Md_state_10 : decode b_Md_state 10 = .ok (.goto 9, 3) := by decide +kernel
theorem d_Md_state_13 : decode b_Md_state 13 = .ok (.aload_n 0, 1) := by decide +kernel
theorem d_Md_state_14 : decode b_Md_state 14 = .ok (.getfield 22, 3) := by decide +kernel
theorem d_Md_state_17 : decode b_Md_state 17 = .ok (.iload_n 1, 1) := by decide +kernel
theorem d_Md_state_18 : decode b_Md_state 18 = .ok (.iaload, 1) := by decide +kernel
theorem d_Md_state_19 : decode b_Md_state 19 = .ok (.ireturn, 1) := by decide +kernel
theorem d_Md_result_0 : decode b_Md_result 0 = .ok (.iload_n 1, 1) := by decide +kernel
theorem d_Md_result_1 : decode b_Md_result 1 = .ok (.ifCond .lt 8, 3) := by decide +kernel
theorem d_Md_result_4 : decode b_Md_result 4 = .ok (.iload_n 1, 1) := by decide +kernel
theorem d_Md_result_5 : decode b_Md_result 5 = .ok (.iconst 3, 1) := by decide +kernel
theorem d_Md_result_6 : decode b_Md_result 6 = .ok (.if_icmp .le 7, 3) := by decide +kernel
theorem d_Md_result_9 : decode b_Md_result 9 = .ok (.iconst 0, 1) := by decide +kernel
theorem d_Md_result_10 : decode b_Md_result 10 = .ok (.goto 9, 3) := by decide +kernel
theorem d_Md_result_13 : decode b_Md_result 13 = .ok (.aload_n 0, 1) := by decide +kernel
theorem d_Md_result_14 : decode b_Md_result 14 = .ok (.getfield 25, 3) := by decide +kernel
theorem d_Md_result_17 : decode b_Md_result 17 = .ok (.iload_n 1, 1) := by decide +kernel
theorem d_Md_result_18 : decode b_Md_result 18 = .ok (.iaload, 1) := by decide +kernel
theorem d_Md_result_19 : decode b_Md_result 19 = .ok (.ireturn, 1) := by decide +kernel
theorem d_Md_line_0 : decode b_Md_line 0 = .ok (.iload_n 1, 1) := by decide +kernel
theorem d_Md_line_1 : decode b_Md_line 1 = .ok (.ifCond .lt 8, 3) := by decide +kernel
theorem d_Md_line_4 : decode b_Md_line 4 = .ok (.iload_n 1, 1) := by decide +kernel
theorem d_Md_line_5 : decode b_Md_line 5 = .ok (.iconst 1, 1) := by decide +kernel
theorem d_Md_line_6 : decode b_Md_line 6 = .ok (.if_icmp .le 5, 3) := by decide +kernel
theorem d_Md_line_9 : decode b_Md_line 9 = .ok (.iconst (-1), 1) := by decide +kernel
theorem d_Md_line_10 : decode b_Md_line 10 = .ok (.ireturn, 1) := by decide +kernel
theorem d_Md_line_11 : decode b_Md_line 11 = .ok (.iconst 0, 1) := by decide +kernel
theorem d_Md_line_12 : decode b_Md_line 12 = .ok (.istore_n 2, 1) := by decide +kernel
theorem d_Md_line_13 : decode b_Md_line 13 = .ok (.iconst 0, 1) := by decide +kernel
theorem d_Md_line_14 : decode b_Md_line 14 = .ok (.istore_n 3, 1) := by decide +kernel
theorem d_Md_line_15 : decode b_Md_line 15 = .ok (.iload_n 3, 1) := by decide +kernel
theorem d_Md_line_16 : decode b_Md_line 16 = .ok (.iconst 4, 1) := by decide +kernel
theorem d_Md_line_17 : decode b_Md_line 17 = .ok (.if_icmp .ge 26, 3) := by decide +kernel
theorem d_Md_line_20 : decode b_Md_line 20 = .ok (.iload_n 2, 1) := by decide +kernel
theorem d_Md_line_21 : decode b_Md_line 21 = .ok (.aload_n 0, 1) := by decide +kernel
theorem d_Md_line_22 : decode b_Md_line 22 = .ok (.iload_n 3, 1) := by decide +kernel
theorem d_Md_line_23 : decode b_Md_line 23 = .ok (.iload_n 1, 1) := by decide +kernel
theorem d_Md_line_24 : decode b_Md_line 24 = .ok (.invokevirtual 85, 3) := by decide +kernel
theorem d_Md_line_27 : decode b_Md_line 27 = .ok (.ifCond .eq 7, 3) := by decide +kernel
theorem d_Md_line_30 : decode b_Md_line 30 = .ok (.iconst 1, 1) := by decide +kernel
theorem d_Md_line_31 : decode b_Md_line 31 = .ok (.goto 4, 3) := by decide +kernel
theorem d_Md_line_34 : decode b_Md_line 34 = .ok (.iconst 0, 1) := by decide +kernel
theorem d_Md_line_35 : decode b_Md_line 35 = .ok (.iadd, 1) := by decide +kernel
theorem d_Md_line_36 : decode b_Md_line 36 = .ok (.istore_n 2, 1) := by decide +kernel
theorem d_Md_line_37 : decode b_Md_line 37 = .ok (.iinc 3 1, 3) := by decide +kernel
theorem d_Md_line_40 : decode b_Md_line 40 = .ok (.goto (-25), 3) := by decide +kernel
theorem d_Md_line_43 : decode b_Md_line 43 = .ok (.iload_n 2, 1) := by decide +kernel
theorem d_Md_line_44 : decode b_Md_line 44 = .ok (.ireturn, 1) := by decide +kernel
theorem d_Md_device_0 : decode b_Md_device 0 = .ok (.iload_n 1, 1) := by decide +kernel
theorem d_Md_device_1 : decode b_Md_device 1 = .ok (.ifCond .lt 9, 3) := by decide +kernel
theorem d_Md_device_4 : decode b_Md_device 4 = .ok (.iload_n 1, 1) := by decide +kernel
theorem d_Md_device_5 : decode b_Md_device 5 = .ok (.bipush 15, 2) := by decide +kernel
theorem d_Md_device_7 : decode b_Md_device 7 = .ok (.if_icmp .le 7, 3) := by decide +kernel
theorem d_Md_device_10 : decode b_Md_device 10 = .ok (.iconst 0, 1) := by decide +kernel
theorem d_Md_device_11 : decode b_Md_device 11 = .ok (.goto 9, 3) := by decide +kernel
theorem d_Md_device_14 : decode b_Md_device 14 = .ok (.aload_n 0, 1) := by decide +kernel
theorem d_Md_device_15 : decode b_Md_device 15 = .ok (.getfield 31, 3) := by decide +kernel
theorem d_Md_device_18 : decode b_Md_device 18 = .ok (.iload_n 1, 1) := by decide +kernel
theorem d_Md_device_19 : decode b_Md_device 19 = .ok (.iaload, 1) := by decide +kernel
theorem d_Md_device_20 : decode b_Md_device 20 = .ok (.ireturn, 1) := by decide +kernel
theorem d_Md_slot_0 : decode b_Md_slot 0 = .ok (.iload_n 1, 1) := by decide +kernel
theorem d_Md_slot_1 : decode b_Md_slot 1 = .ok (.ifCond .lt 8, 3) := by decide +kernel
theorem d_Md_slot_4 : decode b_Md_slot 4 = .ok (.iload_n 1, 1) := by decide +kernel
theorem d_Md_slot_5 : decode b_Md_slot 5 = .ok (.iconst 2, 1) := by decide +kernel
theorem d_Md_slot_6 : decode b_Md_slot 6 = .ok (.if_icmp .le 5, 3) := by decide +kernel
theorem d_Md_slot_9 : decode b_Md_slot 9 = .ok (.iconst (-1), 1) := by decide +kernel
theorem d_Md_slot_10 : decode b_Md_slot 10 = .ok (.ireturn, 1) := by decide +kernel
theorem d_Md_slot_11 : decode b_Md_slot 11 = .ok (.aload_n 0, 1) := by decide +kernel
theorem d_Md_slot_12 : decode b_Md_slot 12 = .ok (.getfield 62, 3) := by decide +kernel
theorem d_Md_slot_15 : decode b_Md_slot 15 = .ok (.iload_n 1, 1) := by decide +kernel
theorem d_Md_slot_16 : decode b_Md_slot 16 = .ok (.iaload, 1) := by decide +kernel
theorem d_Md_slot_17 : decode b_Md_slot 17 = .ok (.ifCond .lt 7, 3) := by decide +kernel
theorem d_Md_slot_20 : decode b_Md_slot 20 = .ok (.iconst 1, 1) := by decide +kernel
theorem d_Md_slot_21 : decode b_Md_slot 21 = .ok (.goto 4, 3) := by decide +kernel
theorem d_Md_slot_24 : decode b_Md_slot 24 = .ok (.iconst 0, 1) := by decide +kernel
theorem d_Md_slot_25 : decode b_Md_slot 25 = .ok (.istore_n 3, 1) := by decide +kernel
theorem d_Md_slot_26 : decode b_Md_slot 26 = .ok (.iload_n 2, 1) := by decide +kernel
theorem d_Md_slot_27 : decode b_Md_slot 27 = .ok (.ifCond .ne 12, 3) := by decide +kernel
theorem d_Md_slot_30 : decode b_Md_slot 30 = .ok (.aload_n 0, 1) := by decide +kernel
theorem d_Md_slot_31 : decode b_Md_slot 31 = .ok (.getfield 62, 3) := by decide +kernel
theorem d_Md_slot_34 : decode b_Md_slot 34 = .ok (.iload_n 1, 1) := by decide +kernel
theorem d_Md_slot_35 : decode b_Md_slot 35 = .ok (.iaload, 1) := by decide +kernel
theorem d_Md_slot_36 : decode b_Md_slot 36 = .ok (.goto 52, 3) := by decide +kernel
theorem d_Md_slot_39 : decode b_Md_slot 39 = .ok (.iload_n 2, 1) := by decide +kernel
theorem d_Md_slot_40 : decode b_Md_slot 40 = .ok (.iconst 1, 1) := by decide +kernel
theorem d_Md_slot_41 : decode b_Md_slot 41 = .ok (.if_icmp .ne 20, 3) := by decide +kernel
theorem d_Md_slot_44 : decode b_Md_slot 44 = .ok (.iload_n 3, 1) := by decide +kernel
theorem d_Md_slot_45 : decode b_Md_slot 45 = .ok (.ifCond .eq 12, 3) := by decide +kernel
theorem d_Md_slot_48 : decode b_Md_slot 48 = .ok (.aload_n 0, 1) := by decide +kernel
theorem d_Md_slot_49 : decode b_Md_slot 49 = .ok (.getfield 65, 3) := by decide +kernel
theorem d_Md_slot_52 : decode b_Md_slot 52 = .ok (.iload_n 1, 1) := by decide +kernel
theorem d_Md_slot_53 : decode b_Md_slot 53 = .ok (.iaload, 1) := by decide +kernel
theorem d_Md_slot_54 : decode b_Md_slot 54 = .ok (.goto 34, 3) := by decide +kernel
theorem d_Md_slot_57 : decode b_Md_slot 57 = .ok (.iconst 0, 1) := by decide +kernel
theorem d_Md_slot_58 : decode b_Md_slot 58 = .ok (.goto 30, 3) := by decide +kernel
theorem d_Md_slot_61 : decode b_Md_slot 61 = .ok (.iload_n 2, 1) := by decide +kernel
theorem d_Md_slot_62 : decode b_Md_slot 62 = .ok (.iconst 2, 1) := by decide +kernel
theorem d_Md_slot_63 : decode b_Md_slot 63 = .ok (.if_icmp .ne 24, 3) := by decide +kernel
theorem d_Md_slot_66 : decode b_Md_slot 66 = .ok (.iload_n 3, 1) := by decide +kernel
theorem d_Md_slot_67 : decode b_Md_slot 67 = .ok (.ifCond .eq 16, 3) := by decide +kernel
theorem d_Md_slot_70 : decode b_Md_slot 70 = .ok (.aload_n 0, 1) := by decide +kernel
theorem d_Md_slot_71 : decode b_Md_slot 71 = .ok (.getfield 68, 3) := by decide +kernel
theorem d_Md_slot_74 : decode b_Md_slot 74 = .ok (.iload_n 1, 1) := by decide +kernel
theorem d_Md_slot_75 : decode b_Md_slot 75 = .ok (.baload, 1) := by decide +kernel
theorem d_Md_slot_76 : decode b_Md_slot 76 = .ok (.ifCond .eq 7, 3) := by decide +kernel
theorem d_Md_slot_79 : decode b_Md_slot 79 = .ok (.iconst 1, 1) := by decide +kernel
theorem d_Md_slot_80 : decode b_Md_slot 80 = .ok (.goto 8, 3) := by decide +kernel
theorem d_Md_slot_83 : decode b_Md_slot 83 = .ok (.iconst 0, 1) := by decide +kernel
theorem d_Md_slot_84 : decode b_Md_slot 84 = .ok (.goto 4, 3) := by decide +kernel
theorem d_Md_slot_87 : decode b_Md_slot 87 = .ok (.iconst (-1), 1) := by decide +kernel
theorem d_Md_slot_88 : decode b_Md_slot 88 = .ok (.ireturn, 1) := by decide +kernel
theorem d_Md_output_0 : decode b_Md_output 0 = .ok (.iload_n 1, 1) := by decide +kernel
theorem d_Md_output_1 : decode b_Md_output 1 = .ok (.iconst (-1), 1) := by decide +kernel
theorem d_Md_output_2 : decode b_Md_output 2 = .ok (.if_icmp .ne 10, 3) := by decide +kernel
theorem d_Md_output_5 : decode b_Md_output 5 = .ok (.aload_n 0, 1) := by decide +kernel
theorem d_Md_output_6 : decode b_Md_output 6 = .ok (.getfield 111, 3) := by decide +kernel
theorem d_Md_output_9 : decode b_Md_output 9 = .ok (.goto 26, 3) := by decide +kernel
theorem d_Md_output_12 : decode b_Md_output 12 = .ok (.iload_n 1, 1) := by decide +kernel
theorem d_Md_output_13 : decode b_Md_output 13 = .ok (.ifCond .lt 11, 3) := by decide +kernel
theorem d_Md_output_16 : decode b_Md_output 16 = .ok (.iload_n 1, 1) := by decide +kernel
theorem d_Md_output_17 : decode b_Md_output 17 = .ok (.aload_n 0, 1) := by decide +kernel
theorem d_Md_output_18 : decode b_Md_output 18 = .ok (.getfield 111, 3) := by decide +kernel
theorem d_Md_output_21 : decode b_Md_output 21 = .ok (.if_icmp .lt 8, 3) := by decide +kernel
theorem d_Md_output_24 : decode b_Md_output 24 = .ok (.bipush (-2), 2) := by decide +kernel
theorem d_Md_output_26 : decode b_Md_output 26 = .ok (.goto 9, 3) := by decide +kernel
theorem d_Md_output_29 : decode b_Md_output 29 = .ok (.aload_n 0, 1) := by decide +kernel
theorem d_Md_output_30 : decode b_Md_output 30 = .ok (.getfield 34, 3) := by decide +kernel
theorem d_Md_output_33 : decode b_Md_output 33 = .ok (.iload_n 1, 1) := by decide +kernel
theorem d_Md_output_34 : decode b_Md_output 34 = .ok (.iaload, 1) := by decide +kernel
theorem d_Md_output_35 : decode b_Md_output 35 = .ok (.ireturn, 1) := by decide +kernel
theorem d_Md_driver_0 : decode b_Md_driver 0 = .ok (.iload_n 1, 1) := by decide +kernel
theorem d_Md_driver_1 : decode b_Md_driver 1 = .ok (.ifCond .lt 8, 3) := by decide +kernel
theorem d_Md_driver_4 : decode b_Md_driver 4 = .ok (.iload_n 1, 1) := by decide +kernel
theorem d_Md_driver_5 : decode b_Md_driver 5 = .ok (.iconst 1, 1) := by decide +kernel
theorem d_Md_driver_6 : decode b_Md_driver 6 = .ok (.if_icmp .le 6, 3) := by decide +kernel
theorem d_Md_driver_9 : decode b_Md_driver 9 = .ok (.bipush (-2), 2) := by decide +kernel
theorem d_Md_driver_11 : decode b_Md_driver 11 = .ok (.ireturn, 1) := by decide +kernel
theorem d_Md_driver_12 : decode b_Md_driver 12 = .ok (.iload_n 2, 1) := by decide +kernel
theorem d_Md_driver_13 : decode b_Md_driver 13 = .ok (.tableswitch 78 0 4 #[35, 42, 49, 56, 63], 35) := by decide +kernel
theorem d_Md_driver_48 : decode b_Md_driver 48 = .ok (.aload_n 0, 1) := by decide +kernel
theorem d_Md_driver_49 : decode b_Md_driver 49 = .ok (.getfield 37, 3) := by decide +kernel
theorem d_Md_driver_52 : decode b_Md_driver 52 = .ok (.iload_n 1, 1) := by decide +kernel
theorem d_Md_driver_53 : decode b_Md_driver 53 = .ok (.iaload, 1) := by decide +kernel
theorem d_Md_driver_54 : decode b_Md_driver 54 = .ok (.ireturn, 1) := by decide +kernel
theorem d_Md_driver_55 : decode b_Md_driver 55 = .ok (.aload_n 0, 1) := by decide +kernel
theorem d_Md_driver_56 : decode b_Md_driver 56 = .ok (.getfield 40, 3) := by decide +kernel
theorem d_Md_driver_59 : decode b_Md_driver 59 = .ok (.iload_n 1, 1) := by decide +kernel
theorem d_Md_driver_60 : decode b_Md_driver 60 = .ok (.iaload, 1) := by decide +kernel
theorem d_Md_driver_61 : decode b_Md_driver 61 = .ok (.ireturn, 1) := by decide +kernel
theorem d_Md_driver_62 : decode b_Md_driver 62 = .ok (.aload_n 0, 1) := by decide +kernel
theorem d_Md_driver_63 : decode b_Md_driver 63 = .ok (.getfield 46, 3) := by decide +kernel
theorem d_Md_driver_66 : decode b_Md_driver 66 = .ok (.iload_n 1, 1) := by decide +kernel
theorem d_Md_driver_67 : decode b_Md_driver 67 = .ok (.iaload, 1) := by decide +kernel
theorem d_Md_driver_68 : decode b_Md_driver 68 = .ok (.ireturn, 1) := by decide +kernel
theorem d_Md_driver_69 : decode b_Md_driver 69 = .ok (.aload_n 0, 1) := by decide +kernel
theorem d_Md_driver_70 : decode b_Md_driver 70 = .ok (.getfield 49, 3) := by decide +kernel
theorem d_Md_driver_73 : decode b_Md_driver 73 = .ok (.iload_n 1, 1) := by decide +kernel
theorem d_Md_driver_74 : decode b_Md_driver 74 = .ok (.iaload, 1) := by decide +kernel
theorem d_Md_driver_75 : decode b_Md_driver 75 = .ok (.ireturn, 1) := by decide +kernel
theorem d_Md_driver_76 : decode b_Md_driver 76 = .ok (.aload_n 0, 1) := by decide +kernel
theorem d_Md_driver_77 : decode b_Md_driver 77 = .ok (.getfield 52, 3) := by decide +kernel
theorem d_Md_driver_80 : decode b_Md_driver 80 = .ok (.iload_n 1, 1) := by decide +kernel
theorem d_Md_driver_81 : decode b_Md_driver 81 = .ok (.baload, 1) := by decide +kernel
theorem d_Md_driver_82 : decode b_Md_driver 82 = .ok (.ifCond .eq 7, 3) := by decide +kernel
theorem d_Md_driver_85 : decode b_Md_driver 85 = .ok (.iconst 0, 1) := by decide +kernel
theorem d_Md_driver_86 : decode b_Md_driver 86 = .ok (.goto 4, 3) := by decide +kernel
theorem d_Md_driver_89 : decode b_Md_driver 89 = .ok (.iconst 1, 1) := by decide +kernel
theorem d_Md_driver_90 : decode b_Md_driver 90 = .ok (.ireturn, 1) := by decide +kernel
theorem d_Md_driver_91 : decode b_Md_driver 91 = .ok (.bipush (-2), 2) := by decide +kernel
theorem d_Md_driver_93 : decode b_Md_driver 93 = .ok (.ireturn, 1) := by decide +kernel
theorem d_Md_request_0 : decode b_Md_request 0 = .ok (.iload_n 1, 1) := by decide +kernel
theorem d_Md_request_1 : decode b_Md_request 1 = .ok (.ifCond .lt 8, 3) := by decide +kernel
theorem d_Md_request_4 : decode b_Md_request 4 = .ok (.iload_n 1, 1) := by decide +kernel
theorem d_Md_request_5 : decode b_Md_request 5 = .ok (.iconst 1, 1) := by decide +kernel
theorem d_Md_request_6 : decode b_Md_request 6 = .ok (.if_icmp .le 7, 3) := by decide +kernel
theorem d_Md_request_9 : decode b_Md_request 9 = .ok (.iconst (-1), 1) := by decide +kernel
theorem d_Md_request_10 : decode b_Md_request 10 = .ok (.goto 9, 3) := by decide +kernel
theorem d_Md_request_13 : decode b_Md_request 13 = .ok (.aload_n 0, 1) := by decide +kernel
theorem d_Md_request_14 : decode b_Md_request 14 = .ok (.getfield 56, 3) := by decide +kernel
theorem d_Md_request_17 : decode b_Md_request 17 = .ok (.iload_n 1, 1) := by decide +kernel
theorem d_Md_request_18 : decode b_Md_request 18 = .ok (.iaload, 1) := by decide +kernel
theorem d_Md_request_19 : decode b_Md_request 19 = .ok (.ireturn, 1) := by decide +kernel
theorem d_Md_now_0 : decode b_Md_now 0 = .ok (.aload_n 0, 1) := by decide +kernel
theorem d_Md_now_1 : decode b_Md_now 1 = .ok (.getfield 89, 3) := by decide +kernel
theorem d_Md_now_4 : decode b_Md_now 4 = .ok (.ireturn, 1) := by decide +kernel
