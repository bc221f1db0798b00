theorem d_RD_askToWriteOut_0 : decode b_RD_askToWriteOut 0 = .ok (.aload_n 0, 1) := by decide +kernel
theorem d_RD_askToWriteOut_1 : decode b_RD_askToWriteOut 1 = .ok (.getfield 38, 3) := by decide +kernel
theorem d_RD_askToWriteOut_4 : decode b_RD_askToWriteOut 4 = .ok (.iconst 2, 1) := by decide +kernel
theorem d_RD_askToWriteOut_5 : decode b_RD_askToWriteOut 5 = .ok (.invokevirtual 258, 3) := by decide +kernel
theorem d_RD_askToWriteOut_8 : decode b_RD_askToWriteOut 8 = .ok (.aload_n 0, 1) := by decide +kernel
theorem d_RD_askToWriteOut_9 : decode b_RD_askToWriteOut 9 = .ok (.getfield 38, 3) := by decide +kernel
theorem d_RD_askToWriteOut_12 : decode b_RD_askToWriteOut 12 = .ok (.aload_n 0, 1) := by decide +kernel
theorem d_RD_askToWriteOut_13 : decode b_RD_askToWriteOut 13 = .ok (.getfield 48, 3) := by decide +kernel
theorem d_RD_askToWriteOut_16 : decode b_RD_askToWriteOut 16 = .ok (.getfield 121, 3) := by decide +kernel
theorem d_RD_askToWriteOut_19 : decode b_RD_askToWriteOut 19 = .ok (.iload_n 1, 1) := by decide +kernel
theorem d_RD_askToWriteOut_20 : decode b_RD_askToWriteOut 20 = .ok (.iaload, 1) := by decide +kernel
theorem d_RD_askToWriteOut_21 : decode b_RD_askToWriteOut 21 = .ok (.putfield 165, 3) := by decide +kernel
theorem d_RD_askToWriteOut_24 : decode b_RD_askToWriteOut 24 = .ok (.aload_n 0, 1) := by decide +kernel
theorem d_RD_askToWriteOut_25 : decode b_RD_askToWriteOut 25 = .ok (.getfield 38, 3) := by decide +kernel
theorem d_RD_askToWriteOut_28 : decode b_RD_askToWriteOut 28 = .ok (.iload_n 1, 1) := by decide +kernel
theorem d_RD_askToWriteOut_29 : decode b_RD_askToWriteOut 29 = .ok (.putfield 171, 3) := by decide +kernel
theorem d_RD_askToWriteOut_32 : decode b_RD_askToWriteOut 32 = .ok (.aload_n 0, 1) := by decide +kernel
theorem d_RD_askToWriteOut_33 : decode b_RD_askToWriteOut 33 = .ok (.getfield 38, 3) := by decide +kernel
theorem d_RD_askToWriteOut_36 : decode b_RD_askToWriteOut 36 = .ok (.aload_n 0, 1) := by decide +kernel
theorem d_RD_askToWriteOut_37 : decode b_RD_askToWriteOut 37 = .ok (.getfield 28, 3) := by decide +kernel
theorem d_RD_askToWriteOut_40 : decode b_RD_askToWriteOut 40 = .ok (.invokevirtual 191, 3) := by decide +kernel
theorem d_RD_askToWriteOut_43 : decode b_RD_askToWriteOut 43 = .ok (.return_, 1) := by decide +kernel
theorem d_RD_makeRoomFor_0 : decode b_RD_makeRoomFor 0 = .ok (.aload_n 0, 1) := by decide +kernel
theorem d_RD_makeRoomFor_1 : decode b_RD_makeRoomFor 1 = .ok (.getfield 48, 3) := by decide +kernel
theorem d_RD_makeRoomFor_4 : decode b_RD_makeRoomFor 4 = .ok (.invokevirtual 239, 3) := by decide +kernel
theorem d_RD_makeRoomFor_7 : decode b_RD_makeRoomFor 7 = .ok (.istore_n 2, 1) := by decide +kernel
theorem d_RD_makeRoomFor_8 : decode b_RD_makeRoomFor 8 = .ok (.aload_n 0, 1) := by decide +kernel
theorem d_RD_makeRoomFor_9 : decode b_RD_makeRoomFor 9 = .ok (.getfield 48, 3) := by decide +kernel
theorem d_RD_makeRoomFor_12 : decode b_RD_makeRoomFor 12 = .ok (.getfield 127, 3) := by decide +kernel
theorem d_RD_makeRoomFor_15 : decode b_RD_makeRoomFor 15 = .ok (.iload_n 2, 1) := by decide +kernel
theorem d_RD_makeRoomFor_16 : decode b_RD_makeRoomFor 16 = .ok (.baload, 1) := by decide +kernel
theorem d_RD_makeRoomFor_17 : decode b_RD_makeRoomFor 17 = .ok (.ifCond .eq 10, 3) := by decide +kernel
theorem d_RD_makeRoomFor_20 : decode b_RD_makeRoomFor 20 = .ok (.aload_n 0, 1) := by decide +kernel
theorem d_RD_makeRoomFor_21 : decode b_RD_makeRoomFor 21 = .ok (.iload_n 2, 1) := by decide +kernel
theorem d_RD_makeRoomFor_22 : decode b_RD_makeRoomFor 22 = .ok (.invokevirtual 242, 3) := by decide +kernel
theorem d_RD_makeRoomFor_25 : decode b_RD_makeRoomFor 25 = .ok (.iconst 0, 1) := by decide +kernel
theorem d_RD_makeRoomFor_26 : decode b_RD_makeRoomFor 26 = .ok (.ireturn, 1) := by decide +kernel
theorem d_RD_makeRoomFor_27 : decode b_RD_makeRoomFor 27 = .ok (.aload_n 1, 1) := by decide +kernel
theorem d_RD_makeRoomFor_28 : decode b_RD_makeRoomFor 28 = .ok (.getfield 218, 3) := by decide +kernel
theorem d_RD_makeRoomFor_31 : decode b_RD_makeRoomFor 31 = .ok (.ifCond .ne 22, 3) := by decide +kernel
theorem d_RD_makeRoomFor_34 : decode b_RD_makeRoomFor 34 = .ok (.aload_n 0, 1) := by decide +kernel
theorem d_RD_makeRoomFor_35 : decode b_RD_makeRoomFor 35 = .ok (.getfield 48, 3) := by decide +kernel
theorem d_RD_makeRoomFor_38 : decode b_RD_makeRoomFor 38 = .ok (.iload_n 2, 1) := by decide +kernel
theorem d_RD_makeRoomFor_39 : decode b_RD_makeRoomFor 39 = .ok (.invokevirtual 245, 3) := by decide +kernel
theorem d_RD_makeRoomFor_42 : decode b_RD_makeRoomFor 42 = .ok (.aload_n 0, 1) := by decide +kernel
theorem d_RD_makeRoomFor_43 : decode b_RD_makeRoomFor 43 = .ok (.aload_n 1, 1) := by decide +kernel
theorem d_RD_makeRoomFor_44 : decode b_RD_makeRoomFor 44 = .ok (.getfield 222, 3) := by decide +kernel
theorem d_RD_makeRoomFor_47 : decode b_RD_makeRoomFor 47 = .ok (.iload_n 2, 1) := by decide +kernel
theorem d_RD_makeRoomFor_48 : decode b_RD_makeRoomFor 48 = .ok (.invokevirtual 248, 3) := by decide +kernel
theorem d_RD_makeRoomFor_51 : decode b_RD_makeRoomFor 51 = .ok (.iconst 0, 1) := by decide +kernel
theorem d_RD_makeRoomFor_52 : decode b_RD_makeRoomFor 52 = .ok (.ireturn, 1) := by decide +kernel
theorem d_RD_makeRoomFor_53 : decode b_RD_makeRoomFor 53 = .ok (.aload_n 0, 1) := by decide +kernel
theorem d_RD_makeRoomFor_54 : decode b_RD_makeRoomFor 54 = .ok (.getfield 48, 3) := by decide +kernel
theorem d_RD_makeRoomFor_57 : decode b_RD_makeRoomFor 57 = .ok (.iload_n 2, 1) := by decide +kernel
theorem d_RD_makeRoomFor_58 : decode b_RD_makeRoomFor 58 = .ok (.aload_n 1, 1) := by decide +kernel
theorem d_RD_makeRoomFor_59 : decode b_RD_makeRoomFor 59 = .ok (.getfield 222, 3) := by decide +kernel
theorem d_RD_makeRoomFor_62 : decode b_RD_makeRoomFor 62 = .ok (.aload_n 1, 1) := by decide +kernel
theorem d_RD_makeRoomFor_63 : decode b_RD_makeRoomFor 63 = .ok (.getfield 236, 3) := by decide +kernel
theorem d_RD_makeRoomFor_66 : decode b_RD_makeRoomFor 66 = .ok (.iconst 1, 1) := by decide +kernel
theorem d_RD_makeRoomFor_67 : decode b_RD_makeRoomFor 67 = .ok (.invokevirtual 211, 3) := by decide +kernel
theorem d_RD_makeRoomFor_70 : decode b_RD_makeRoomFor 70 = .ok (.aload_n 0, 1) := by decide +kernel
theorem d_RD_makeRoomFor_71 : decode b_RD_makeRoomFor 71 = .ok (.getfield 48, 3) := by decide +kernel
theorem d_RD_makeRoomFor_74 : decode b_RD_makeRoomFor 74 = .ok (.getfield 230, 3) := by decide +kernel
theorem d_RD_makeRoomFor_77 : decode b_RD_makeRoomFor 77 = .ok (.iload_n 2, 1) := by decide +kernel
theorem d_RD_makeRoomFor_78 : decode b_RD_makeRoomFor 78 = .ok (.aload_n 0, 1) := by decide +kernel
theorem d_RD_makeRoomFor_79 : decode b_RD_makeRoomFor 79 = .ok (.getfield 79, 3) := by decide +kernel
theorem d_RD_makeRoomFor_82 : decode b_RD_makeRoomFor 82 = .ok (.iastore, 1) := by decide +kernel
theorem d_RD_makeRoomFor_83 : decode b_RD_makeRoomFor 83 = .ok (.aload_n 1, 1) := by decide +kernel
theorem d_RD_makeRoomFor_84 : decode b_RD_makeRoomFor 84 = .ok (.iconst 0, 1) := by decide +kernel
theorem d_RD_makeRoomFor_85 : decode b_RD_makeRoomFor 85 = .ok (.invokevirtual 233, 3) := by decide +kernel
theorem d_RD_makeRoomFor_88 : decode b_RD_makeRoomFor 88 = .ok (.iconst 1, 1) := by decide +kernel
theorem d_RD_makeRoomFor_89 : decode b_RD_makeRoomFor 89 = .ok (.ireturn, 1) := by decide +kernel
theorem d_RD_askToReadIn_0 : decode b_RD_askToReadIn 0 = .ok (.aload_n 0, 1) := by decide +kernel
theorem d_RD_askToReadIn_1 : decode b_RD_askToReadIn 1 = .ok (.getfield 38, 3) := by decide +kernel
theorem d_RD_askToReadIn_4 : decode b_RD_askToReadIn 4 = .ok (.iconst 1, 1) := by decide +kernel
theorem d_RD_askToReadIn_5 : decode b_RD_askToReadIn 5 = .ok (.invokevirtual 258, 3) := by decide +kernel
theorem d_RD_askToReadIn_8 : decode b_RD_askToReadIn 8 = .ok (.aload_n 0, 1) := by decide +kernel
theorem d_RD_askToReadIn_9 : decode b_RD_askToReadIn 9 = .ok (.getfield 38, 3) := by decide +kernel
theorem d_RD_askToReadIn_12 : decode b_RD_askToReadIn 12 = .ok (.iload_n 1, 1) := by decide +kernel
theorem d_RD_askToReadIn_13 : decode b_RD_askToReadIn 13 = .ok (.putfield 165, 3) := by decide +kernel
theorem d_RD_askToReadIn_16 : decode b_RD_askToReadIn 16 = .ok (.aload_n 0, 1) := by decide +kernel
theorem d_RD_askToReadIn_17 : decode b_RD_askToReadIn 17 = .ok (.getfield 38, 3) := by decide +kernel
theorem d_RD_askToReadIn_20 : decode b_RD_askToReadIn 20 = .ok (.iload_n 2, 1) := by decide +kernel
theorem d_RD_askToReadIn_21 : decode b_RD_askToReadIn 21 = .ok (.putfield 171, 3) := by decide +kernel
theorem d_RD_askToReadIn_24 : decode b_RD_askToReadIn 24 = .ok (.aload_n 0, 1) := by decide +kernel
theorem d_RD_askToReadIn_25 : decode b_RD_askToReadIn 25 = .ok (.getfield 38, 3) := by decide +kernel
theorem d_RD_askToReadIn_28 : decode b_RD_askToReadIn 28 = .ok (.aload_n 0, 1) := by decide +kernel
theorem d_RD_askToReadIn_29 : decode b_RD_askToReadIn 29 = .ok (.getfield 28, 3) := by decide +kernel
theorem d_RD_askToReadIn_32 : decode b_RD_askToReadIn 32 = .ok (.invokevirtual 191, 3) := by decide +kernel
theorem d_RD_askToReadIn_35 : decode b_RD_askToReadIn 35 = .ok (.return_, 1) := by decide +kernel
theorem d_RD_serveTerminal_0 : decode b_RD_serveTerminal 0 = .ok (.iconst 0, 1) := by decide +kernel
theorem d_RD_serveTerminal_1 : decode b_RD_serveTerminal 1 = .ok (.istore_n 1, 1) := by decide +kernel
theorem d_RD_serveTerminal_2 : decode b_RD_serveTerminal 2 = .ok (.aload_n 0, 1) := by decide +kernel
theorem d_RD_serveTerminal_3 : decode b_RD_serveTerminal 3 = .ok (.getfield 42, 3) := by decide +kernel
theorem d_RD_serveTerminal_6 : decode b_RD_serveTerminal 6 = .ok (.invokevirtual 180, 3) := by decide +kernel
theorem d_RD_serveTerminal_9 : decode b_RD_serveTerminal 9 = .ok (.ifCond .eq 103, 3) := by decide +kernel
theorem d_RD_serveTerminal_12 : decode b_RD_serveTerminal 12 = .ok (.aload_n 0, 1) := by decide +kernel
theorem d_RD_serveTerminal_13 : decode b_RD_serveTerminal 13 = .ok (.getfield 42, 3) := by decide +kernel
theorem d_RD_serveTerminal_16 : decode b_RD_serveTerminal 16 = .ok (.getfield 159, 3) := by decide +kernel
theorem d_RD_serveTerminal_19 : decode b_RD_serveTerminal 19 = .ok (.ifCond .eq 22, 3) := by decide +kernel
theorem d_RD_serveTerminal_22 : decode b_RD_serveTerminal 22 = .ok (.aload_n 0, 1) := by decide +kernel
theorem d_RD_serveTerminal_23 : decode b_RD_serveTerminal 23 = .ok (.getfield 11, 3) := by decide +kernel
theorem d_RD_serveTerminal_26 : decode b_RD_serveTerminal 26 = .ok (.aload_n 0, 1) := by decide +kernel
theorem d_RD_serveTerminal_27 : decode b_RD_serveTerminal 27 = .ok (.getfield 22, 3) := by decide +kernel
theorem d_RD_serveTerminal_30 : decode b_RD_serveTerminal 30 = .ok (.invokevirtual 201, 3) := by decide +kernel
theorem d_RD_serveTerminal_33 : decode b_RD_serveTerminal 33 = .ok (.aaload, 1) := by decide +kernel
theorem d_RD_serveTerminal_34 : decode b_RD_serveTerminal 34 = .ok (.iconst 0, 1) := by decide +kernel
theorem d_RD_serveTerminal_35 : decode b_RD_serveTerminal 35 = .ok (.invokevirtual 233, 3) := by decide +kernel
theorem d_RD_serveTerminal_38 : decode b_RD_serveTerminal 38 = .ok (.goto 58, 3) := by decide +kernel
theorem d_RD_serveTerminal_41 : decode b_RD_serveTerminal 41 = .ok (.aload_n 0, 1) := by decide +kernel
theorem d_RD_serveTerminal_42 : decode b_RD_serveTerminal 42 = .ok (.getfield 42, 3) := by decide +kernel
theorem d_RD_serveTerminal_45 : decode b_RD_serveTerminal 45 = .ok (.aload_n 0, 1) := by decide +kernel
theorem d_RD_serveTerminal_46 : decode b_RD_serveTerminal 46 = .ok (.getfield 32, 3) := by decide +kernel
theorem d_RD_serveTerminal_49 : decode b_RD_serveTerminal 49 = .ok (.invokevirtual 187, 3) := by decide +kernel
theorem d_RD_serveTerminal_52 : decode b_RD_serveTerminal 52 = .ok (.ifCond .eq 21, 3) := by decide +kernel
theorem d_RD_serveTerminal_55 : decode b_RD_serveTerminal 55 = .ok (.aload_n 0, 1) := by decide +kernel
theorem d_RD_serveTerminal_56 : decode b_RD_serveTerminal 56 = .ok (.getfield 11, 3) := by decide +kernel
theorem d_RD_serveTerminal_59 : decode b_RD_serveTerminal 59 = .ok (.aload_n 0, 1) := by decide +kernel
theorem d_RD_serveTerminal_60 : decode b_RD_serveTerminal 60 = .ok (.getfield 22, 3) := by decide +kernel
theorem d_RD_serveTerminal_63 : decode b_RD_serveTerminal 63 = .ok (.invokevirtual 201, 3) := by decide +kernel
theorem d_RD_serveTerminal_66 : decode b_RD_serveTerminal 66 = .ok (.aaload, 1) := by decide +kernel
theorem d_RD_serveTerminal_67 : decode b_RD_serveTerminal 67 = .ok (.invokevirtual 261, 3) := by decide +kernel
theorem d_RD_serveTerminal_70 : decode b_RD_serveTerminal 70 = .ok (.goto 26, 3) := by decide +kernel
theorem d_RD_serveTerminal_73 : decode b_RD_serveTerminal 73 = .ok (.aload_n 0, 1) := by decide +kernel
theorem d_RD_serveTerminal_74 : decode b_RD_serveTerminal 74 = .ok (.getfield 42, 3) := by decide +kernel
theorem d_RD_serveTerminal_77 : decode b_RD_serveTerminal 77 = .ok (.getfield 184, 3) := by decide +kernel
theorem d_RD_serveTerminal_80 : decode b_RD_serveTerminal 80 = .ok (.ifCond .ne 14, 3) := by decide +kernel
theorem d_RD_serveTerminal_83 : decode b_RD_serveTerminal 83 = .ok (.aload_n 0, 1) := by decide +kernel
theorem d_RD_serveTerminal_84 : decode b_RD_serveTerminal 84 = .ok (.getfield 42, 3) := by decide +kernel
theorem d_RD_serveTerminal_87 : decode b_RD_serveTerminal 87 = .ok (.aload_n 0, 1) := by decide +kernel
theorem d_RD_serveTerminal_88 : decode b_RD_serveTerminal 88 = .ok (.getfield 32, 3) := by decide +kernel
theorem d_RD_serveTerminal_91 : decode b_RD_serveTerminal 91 = .ok (.invokevirtual 191, 3) := by decide +kernel
theorem d_RD_serveTerminal_94 : decode b_RD_serveTerminal 94 = .ok (.iconst 0, 1) := by decide +kernel
theorem d_RD_serveTerminal_95 : decode b_RD_serveTerminal 95 = .ok (.ireturn, 1) := by decide +kernel
theorem d_RD_serveTerminal_96 : decode b_RD_serveTerminal 96 = .ok (.aload_n 0, 1) := by decide +kernel
theorem d_RD_serveTerminal_97 : decode b_RD_serveTerminal 97 = .ok (.getfield 42, 3) := by decide +kernel
theorem d_RD_serveTerminal_100 : decode b_RD_serveTerminal 100 = .ok (.invokevirtual 215, 3) := by decide +kernel
theorem d_RD_serveTerminal_103 : decode b_RD_serveTerminal 103 = .ok (.aload_n 0, 1) := by decide +kernel
theorem d_RD_serveTerminal_104 : decode b_RD_serveTerminal 104 = .ok (.getfield 22, 3) := by decide +kernel
theorem d_RD_serveTerminal_107 : decode b_RD_serveTerminal 107 = .ok (.invokevirtual 208, 3) := by decide +kernel
theorem d_RD_serveTerminal_110 : decode b_RD_serveTerminal 110 = .ok (.iconst 1, 1) := by decide +kernel
theorem d_RD_serveTerminal_111 : decode b_RD_serveTerminal 111 = .ok (.istore_n 1, 1) := by decide +kernel
theorem d_RD_serveTerminal_112 : decode b_RD_serveTerminal 112 = .ok (.aload_n 0, 1) := by decide +kernel
theorem d_RD_serveTerminal_113 : decode b_RD_serveTerminal 113 = .ok (.getfield 22, 3) := by decide +kernel
theorem d_RD_serveTerminal_116 : decode b_RD_serveTerminal 116 = .ok (.invokevirtual 198, 3) := by decide +kernel
theorem d_RD_serveTerminal_119 : decode b_RD_serveTerminal 119 = .ok (.ifCond .ne 22, 3) := by decide +kernel
theorem d_RD_serveTerminal_122 : decode b_RD_serveTerminal 122 = .ok (.aload_n 0, 1) := by decide +kernel
theorem d_RD_serveTerminal_123 : decode b_RD_serveTerminal 123 = .ok (.aload_n 0, 1) := by decide +kernel
theorem d_RD_serveTerminal_124 : decode b_RD_serveTerminal 124 = .ok (.getfield 11, 3) := by decide +kernel
theorem d_RD_serveTerminal_127 : decode b_RD_serveTerminal 127 = .ok (.aload_n 0, 1) := by decide +kernel
theorem d_RD_serveTerminal_128 : decode b_RD_serveTerminal 128 = .ok (.getfield 22, 3) := by decide +kernel
theorem d_RD_serveTerminal_131 : decode b_RD_serveTerminal 131 = .ok (.invokevirtual 201, 3) := by decide +kernel
theorem d_RD_serveTerminal_134 : decode b_RD_serveTerminal 134 = .ok (.aaload, 1) := by decide +kernel
theorem d_RD_serveTerminal_135 : decode b_RD_serveTerminal 135 = .ok (.getfield 236, 3) := by decide +kernel
theorem d_RD_serveTerminal_138 : decode b_RD_serveTerminal 138 = .ok (.invokevirtual 264, 3) := by decide +kernel
theorem d_RD_serveTerminal_141 : decode b_RD_serveTerminal 141 = .ok (.iload_n 1, 1) := by decide +kernel
theorem d_RD_serveTerminal_142 : decode b_RD_serveTerminal 142 = .ok (.ireturn, 1) := by decide +kernel
theorem d_RD_askToPutOut_0 : decode b_RD_askToPutOut 0 = .ok (.aload_n 0, 1) := by decide +kernel
theorem d_RD_askToPutOut_1 : decode b_RD_askToPutOut 1 = .ok (.getfield 42, 3) := by decide +kernel
theorem d_RD_askToPutOut_4 : decode b_RD_askToPutOut 4 = .ok (.iconst 3, 1) := by decide +kernel
theorem d_RD_askToPutOut_5 : decode b_RD_askToPutOut 5 = .ok (.invokevirtual 258, 3) := by decide +kernel
theorem d_RD_askToPutOut_8 : decode b_RD_askToPutOut 8 = .ok (.aload_n 0, 1) := by decide +kernel
theorem d_RD_askToPutOut_9 : decode b_RD_askToPutOut 9 = .ok (.getfield 42, 3) := by decide +kernel
theorem d_RD_askToPutOut_12 : decode b_RD_askToPutOut 12 = .ok (.iload_n 1, 1) := by decide +kernel
theorem d_RD_askToPutOut_13 : decode b_RD_askToPutOut 13 = .ok (.putfield 174, 3) := by decide +kernel
theorem d_RD_askToPutOut_16 : decode b_RD_askToPutOut 16 = .ok (.aload_n 0, 1) := by decide +kernel
theorem d_RD_askToPutOut_17 : decode b_RD_askToPutOut 17 = .ok (.getfield 42, 3) := by decide +kernel
theorem d_RD_askToPutOut_20 : decode b_RD_askToPutOut 20 = .ok (.aload_n 0, 1) := by decide +kernel
theorem d_RD_askToPutOut_21 : decode b_RD_askToPutOut 21 = .ok (.getfield 32, 3) := by decide +kernel
theorem d_RD_askToPutOut_24 : decode b_RD_askToPutOut 24 = .ok (.invokevirtual 191, 3) := by decide +kernel
theorem d_RD_askToPutOut_27 : decode b_RD_askToPutOut 27 = .ok (.return_, 1) := by decide +kernel
theorem d_RD_fault_0 : decode b_RD_fault 0 = .ok (.iload_n 1, 1) := by decide +kernel
theorem d_RD_fault_1 : decode b_RD_fault 1 = .ok (.invokestatic 99, 3) := by decide +kernel
theorem d_RD_fault_4 : decode b_RD_fault 4 = .ok (.ifCond .eq 12, 3) := by decide +kernel
theorem d_RD_fault_7 : decode b_RD_fault 7 = .ok (.iload_n 2, 1) := by decide +kernel
theorem d_RD_fault_8 : decode b_RD_fault 8 = .ok (.ifCond .lt 8, 3) := by decide +kernel
theorem d_RD_fault_11 : decode b_RD_fault 11 = .ok (.iload_n 2, 1) := by decide +kernel
theorem d_RD_fault_12 : decode b_RD_fault 12 = .ok (.iconst 3, 1) := by decide +kernel
theorem d_RD_fault_13 : decode b_RD_fault 13 = .ok (.if_icmp .le 5, 3) := by decide +kernel
theorem d_RD_fault_16 : decode b_RD_fault 16 = .ok (.iconst 0, 1) := by decide +kernel
theorem d_RD_fault_17 : decode b_RD_fault 17 = .ok (.ireturn, 1) := by decide +kernel
theorem d_RD_fault_18 : decode b_RD_fault 18 = .ok (.aload_n 0, 1) := by decide +kernel
theorem d_RD_fault_19 : decode b_RD_fault 19 = .ok (.iload_n 1, 1) := by decide +kernel
theorem d_RD_fault_20 : decode b_RD_fault 20 = .ok (.invokevirtual 102, 3) := by decide +kernel
theorem d_RD_fault_23 : decode b_RD_fault 23 = .ok (.iload_n 2, 1) := by decide +kernel
theorem d_RD_fault_24 : decode b_RD_fault 24 = .ok (.invokevirtual 106, 3) := by decide +kernel
theorem d_RD_fault_27 : decode b_RD_fault 27 = .ok (.ireturn, 1) := by decide +kernel
theorem d_RD_isDriver_0 : decode b_RD_isDriver 0 = .ok (.iload_n 0, 1) := by decide +kernel
theorem d_RD_isDriver_1 : decode b_RD_isDriver 1 = .ok (.ifCond .eq 8, 3) := by decide +kernel
theorem d_RD_isDriver_4 : decode b_RD_isDriver 4 = .ok (.iload_n 0, 1) := by decide +kernel
theorem d_RD_isDriver_5 : decode b_RD_isDriver 5 = .ok (.iconst 1, 1) := by decide +kernel
theorem d_RD_isDriver_6 : decode b_RD_isDriver 6 = .ok (.if_icmp .ne 7, 3) := by decide +kernel
theorem d_RD_isDriver_9 : decode b_RD_isDriver 9 = .ok (.iconst 1, 1) := by decide +kernel
theorem d_RD_isDriver_10 : decode b_RD_isDriver 10 = .ok (.goto 4, 3) := by decide +kernel
theorem d_RD_isDriver_13 : decode b_RD_isDriver 13 = .ok (.iconst 0, 1) := by decide +kernel
theorem d_RD_isDriver_14 : decode b_RD_isDriver 14 = .ok (.ireturn, 1) := by decide +kernel
theorem d_RD_driverOf_0 : decode b_RD_driverOf 0 = .ok (.iload_n 1, 1) := by decide +kernel
theorem d_RD_driverOf_1 : decode b_RD_driverOf 1 = .ok (.ifCond .ne 10, 3) := by decide +kernel
theorem d_RD_driverOf_4 : decode b_RD_driverOf 4 = .ok (.aload_n 0, 1) := by decide +kernel
theorem d_RD_driverOf_5 : decode b_RD_driverOf 5 = .ok (.getfield 28, 3) := by decide +kernel
theorem d_RD_driverOf_8 : decode b_RD_driverOf 8 = .ok (.goto 7, 3) := by decide +kernel
theorem d_RD_driverOf_11 : decode b_RD_driverOf 11 = .ok (.aload_n 0, 1) := by decide +kernel
theorem d_RD_driverOf_12 : decode b_RD_driverOf 12 = .ok (.getfield 32, 3) := by decide +kernel
theorem d_RD_driverOf_15 : decode b_RD_driverOf 15 = .ok (.areturn, 1) := by decide +kernel
theorem d_RD_state_0 : decode b_RD_state 0 = .ok (.iload_n 1, 1) := by decide +kernel
theorem d_RD_state_1 : decode b_RD_state 1 = .ok (.invokestatic 109, 3) := by decide +kernel
theorem d_RD_state_4 : decode b_RD_state 4 = .ok (.ifCond .eq 15, 3) := by decide +kernel
theorem d_RD_state_7 : decode b_RD_state 7 = .ok (.aload_n 0, 1) := by decide +kernel
theorem d_RD_state_8 : decode b_RD_state 8 = .ok (.getfield 11, 3) := by decide +kernel
theorem d_RD_state_11 : decode b_RD_state 11 = .ok (.iload_n 1, 1) := by decide +kernel
theorem d_RD_state_12 : decode b_RD_state 12 = .ok (.aaload, 1) := by decide +kernel
theorem d_RD_state_13 : decode b_RD_state 13 = .ok (.getfield 112, 3) := by decide +kernel
theorem d_RD_state_16 : decode b_RD_state 16 = .ok (.goto 4, 3) := by decide +kernel
theorem d_RD_state_19 : decode b_RD_state 19 = .ok (.iconst (-1), 1) := by decide +kernel
theorem d_RD_state_20 : decode b_RD_state 20 = .ok (.ireturn, 1) := by decide +kernel
theorem d_RD_result_0 : decode b_RD_result 0 = .ok (.iload_n 1, 1) := by decide +kernel
theorem d_RD_result_1 : decode b_RD_result 1 = .ok (.invokestatic 109, 3) := by decide +kernel
theorem d_RD_result_4 : decode b_RD_result 4 = .ok (.ifCond .eq 15, 3) := by decide +kernel
theorem d_RD_result_7 : decode b_RD_result 7 = .ok (.aload_n 0, 1) := by decide +kernel
theorem d_RD_result_8 : decode b_RD_result 8 = .ok (.getfield 11, 3) := by decide +kernel
theorem d_RD_result_11 : decode b_RD_result 11 = .ok (.iload_n 1, 1) := by decide +kernel
theorem d_RD_result_12 : decode b_RD_result 12 = .ok (.aaload, 1) := by decide +kernel
theorem d_RD_result_13 : decode b_RD_result 13 = .ok (.getfield 115, 3) := by decide +kernel
theorem d_RD_result_16 : decode b_RD_result 16 = .ok (.goto 4, 3) := by decide +kernel
theorem d_RD_result_19 : decode b_RD_result 19 = .ok (.iconst 0, 1) := by decide +kernel
theorem d_RD_result_20 : decode b_RD_result 20 = .ok (.ireturn, 1) := by decide +kernel
theorem d_RD_line_0 : decode b_RD_line 0 = .ok (.iload_n 1, 1) := by decide +kernel
theorem d_RD_line_1 : decode b_RD_line 1 = .ok (.ifCond .ne 11, 3) := by decide +kernel
theorem d_RD_line_4 : decode b_RD_line 4 = .ok (.aload_n 0, 1) := by decide +kernel
theorem d_RD_line_5 : decode b_RD_line 5 = .ok (.getfield 18, 3) := by decide +kernel
theorem d_RD_line_8 : decode b_RD_line 8 = .ok (.getfield 118, 3) := by decide +kernel
theorem d_RD_line_11 : decode b_RD_line 11 = .ok (.ireturn, 1) := by decide +kernel
theorem d_RD_line_12 : decode b_RD_line 12 = .ok (.iload_n 1, 1) := by decide +kernel
theorem d_RD_line_13 : decode b_RD_line 13 = .ok (.iconst 1, 1) := by decide +kernel
theorem d_RD_line_14 : decode b_RD_line 14 = .ok (.if_icmp .ne 13, 3) := by decide +kernel
theorem d_RD_line_17 : decode b_RD_line 17 = .ok (.aload_n 0, 1) := by decide +kernel
theorem d_RD_line_18 : decode b_RD_line 18 = .ok (.getfield 22, 3) := by decide +kernel
theorem d_RD_line_21 : decode b_RD_line 21 = .ok (.getfield 118, 3) := by decide +kernel
theorem d_RD_line_24 : decode b_RD_line 24 = .ok (.goto 4, 3) := by decide +kernel
theorem d_RD_line_27 : decode b_RD_line 27 = .ok (.iconst (-1), 1) := by decide +kernel
theorem d_RD_line_28 : decode b_RD_line 28 = .ok (.ireturn, 1) := by decide +kernel
theorem d_RD_device_0 : decode b_RD_device 0 = .ok (.iload_n 1, 1) := by decide +kernel
theorem d_RD_device_1 : decode b_RD_device 1 = .ok (.invokestatic 68, 3) := by decide +kernel
theorem d_RD_device_4 : decode b_RD_device 4 = .ok (.ifCond .eq 12, 3) := by decide +kernel
theorem d_RD_device_7 : decode b_RD_device 7 = .ok (.aload_n 0, 1) := by decide +kernel
theorem d_RD_device_8 : decode b_RD_device 8 = .ok (.getfield 52, 3) := by decide +kernel
theorem d_RD_device_11 : decode b_RD_device 11 = .ok (.iload_n 1, 1) := by decide +kernel
theorem d_RD_device_12 : decode b_RD_device 12 = .ok (.iaload, 1) := by decide +kernel
theorem d_RD_device_13 : decode b_RD_device 13 = .ok (.goto 4, 3) := by decide +kernel
theorem d_RD_device_16 : decode b_RD_device 16 = .ok (.iconst 0, 1) := by decide +kernel
theorem d_RD_device_17 : decode b_RD_device 17 = .ok (.ireturn, 1) := by decide +kernel
theorem d_RD_slot_0 : decode b_RD_slot 0 = .ok (.iload_n 1, 1) := by decide +kernel
theorem d_RD_slot_1 : decode b_RD_slot 1 = .ok (.ifCond .lt 8, 3) := by decide +kernel
theorem d_RD_slot_4 : decode b_RD_slot 4 = .ok (.iload_n 1, 1) := by decide +kernel
theorem d_RD_slot_5 : decode b_RD_slot 5 = .ok (.iconst 3, 1) := by decide +kernel
theorem d_RD_slot_6 : decode b_RD_slot 6 = .ok (.if_icmp .lt 5, 3) := by decide +kernel
theorem d_RD_slot_9 : decode b_RD_slot 9 = .ok (.iconst (-1), 1) := by decide +kernel
theorem d_RD_slot_10 : decode b_RD_slot 10 = .ok (.ireturn, 1) := by decide +kernel
theorem d_RD_slot_11 : decode b_RD_slot 11 = .ok (.iload_n 2, 1) := by decide +kernel
theorem d_RD_slot_12 : decode b_RD_slot 12 = .ok (.tableswitch 83 0 2 #[28, 38, 65], 28) := by decide +kernel
theorem d_RD_slot_40 : decode b_RD_slot 40 = .ok (.aload_n 0, 1) := by decide +kernel
theorem d_RD_slot_41 : decode b_RD_slot 41 = .ok (.getfield 48, 3) := by decide +kernel
theorem d_RD_slot_44 : decode b_RD_slot 44 = .ok (.getfield 121, 3) := by decide +kernel
theorem d_RD_slot_47 : decode b_RD_slot 47 = .ok (.iload_n 1, 1) := by decide +kernel
theorem d_RD_slot_48 : decode b_RD_slot 48 = .ok (.iaload, 1) := by decide +kernel
theorem d_RD_slot_49 : decode b_RD_slot 49 = .ok (.ireturn, 1) := by decide +kernel
theorem d_RD_slot_50 : decode b_RD_slot 50 = .ok (.aload_n 0, 1) := by decide +kernel
theorem d_RD_slot_51 : decode b_RD_slot 51 = .ok (.getfield 48, 3) := by decide +kernel
theorem d_RD_slot_54 : decode b_RD_slot 54 = .ok (.getfield 121, 3) := by decide +kernel
theorem d_RD_slot_57 : decode b_RD_slot 57 = .ok (.iload_n 1, 1) := by decide +kernel
theorem d_RD_slot_58 : decode b_RD_slot 58 = .ok (.iaload, 1) := by decide +kernel
theorem d_RD_slot_59 : decode b_RD_slot 59 = .ok (.iconst (-1), 1) := by decide +kernel
theorem d_RD_slot_60 : decode b_RD_slot 60 = .ok (.if_icmp .ne 7, 3) := by decide +kernel
theorem d_RD_slot_63 : decode b_RD_slot 63 = .ok (.iconst 0, 1) := by decide +kernel
theorem d_RD_slot_64 : decode b_RD_slot 64 = .ok (.goto 12, 3) := by decide +kernel
theorem d_RD_slot_67 : decode b_RD_slot 67 = .ok (.aload_n 0, 1) := by decide +kernel
theorem d_RD_slot_68 : decode b_RD_slot 68 = .ok (.getfield 48, 3) := by decide +kernel
theorem d_RD_slot_71 : decode b_RD_slot 71 = .ok (.getfield 124, 3) := by decide +kernel
theorem d_RD_slot_74 : decode b_RD_slot 74 = .ok (.iload_n 1, 1) := by decide +kernel
theorem d_RD_slot_75 : decode b_RD_slot 75 = .ok (.iaload, 1) := by decide +kernel
theorem d_RD_slot_76 : decode b_RD_slot 76 = .ok (.ireturn, 1) := by decide +kernel
theorem d_RD_slot_77 : decode b_RD_slot 77 = .ok (.aload_n 0, 1) := by decide +kernel
theorem d_RD_slot_78 : decode b_RD_slot 78 = .ok (.getfield 48, 3) := by decide +kernel
theorem d_RD_slot_81 : decode b_RD_slot 81 = .ok (.getfield 127, 3) := by decide +kernel
theorem d_RD_slot_84 : decode b_RD_slot 84 = .ok (.iload_n 1, 1) := by decide +kernel
theorem d_RD_slot_85 : decode b_RD_slot 85 = .ok (.baload, 1) := by decide +kernel
theorem d_RD_slot_86 : decode b_RD_slot 86 = .ok (.ifCond .eq 7, 3) := by decide +kernel
theorem d_RD_slot_89 : decode b_RD_slot 89 = .ok (.iconst 1, 1) := by decide +kernel
theorem d_RD_slot_90 : decode b_RD_slot 90 = .ok (.goto 4, 3) := by decide +kernel
theorem d_RD_slot_93 : decode b_RD_slot 93 = .ok (.iconst 0, 1) := by decide +kernel
theorem d_RD_slot_94 : decode b_RD_slot 94 = .ok (.ireturn, 1) := by decide +kernel
theorem d_RD_slot_95 : decode b_RD_slot 95 = .ok (.iconst (-1), 1) := by decide +kernel
theorem d_RD_slot_96 : decode b_RD_slot 96 = .ok (.ireturn, 1) := by decide +kernel
theorem d_RD_output_0 : decode b_RD_output 0 = .ok (.iload_n 1, 1) := by decide +kernel
theorem d_RD_output_1 : decode b_RD_output 1 = .ok (.iconst (-1), 1) := by decide +kernel
theorem d_RD_output_2 : decode b_RD_output 2 = .ok (.if_icmp .ne 8, 3) := by decide +kernel
theorem d_RD_output_5 : decode b_RD_output 5 = .ok (.aload_n 0, 1) := by decide +kernel
theorem d_RD_output_6 : decode b_RD_output 6 = .ok (.getfield 131, 3) := by decide +kernel
theorem d_RD_output_9 : decode b_RD_output 9 = .ok (.ireturn, 1) := by decide +kernel
theorem d_RD_output_10 : decode b_RD_output 10 = .ok (.iload_n 1, 1) := by decide +kernel
theorem d_RD_output_11 : decode b_RD_output 11 = .ok (.ifCond .lt 20, 3) := by decide +kernel
theorem d_RD_output_14 : decode b_RD_output 14 = .ok (.iload_n 1, 1) := by decide +kernel
theorem d_RD_output_15 : decode b_RD_output 15 = .ok (.aload_n 0, 1) := by decide +kernel
theorem d_RD_output_16 : decode b_RD_output 16 = .ok (.getfield 131, 3) := by decide +kernel
theorem d_RD_output_19 : decode b_RD_output 19 = .ok (.if_icmp .ge 12, 3) := by decide +kernel
theorem d_RD_output_22 : decode b_RD_output 22 = .ok (.aload_n 0, 1) := by decide +kernel
theorem d_RD_output_23 : decode b_RD_output 23 = .ok (.getfield 56, 3) := by decide +kernel
theorem d_RD_output_26 : decode b_RD_output 26 = .ok (.iload_n 1, 1) := by decide +kernel
theorem d_RD_output_27 : decode b_RD_output 27 = .ok (.iaload, 1) := by decide +kernel
theorem d_RD_output_28 : decode b_RD_output 28 = .ok (.goto 5, 3) := by decide +kernel
theorem d_RD_output_31 : decode b_RD_output 31 = .ok (.bipush (-2), 2) := by decide +kernel
theorem d_RD_output_33 : decode b_RD_output 33 = .ok (.ireturn, 1) := by decide +kernel
theorem d_RD_driver_0 : decode b_RD_driver 0 = .ok (.iload_n 1, 1) := by decide +kernel
theorem d_RD_driver_1 : decode b_RD_driver 1 = .ok (.invokestatic 99, 3) := by decide +kernel
theorem d_RD_driver_4 : decode b_RD_driver 4 = .ok (.ifCond .ne 6, 3) := by decide +kernel
theorem d_RD_driver_7 : decode b_RD_driver 7 = .ok (.bipush (-2), 2) := by decide +kernel
theorem d_RD_driver_9 : decode b_RD_driver 9 = .ok (.ireturn, 1) := by decide +kernel
theorem d_RD_driver_10 : decode b_RD_driver 10 = .ok (.aload_n 0, 1) := by decide +kernel
theorem d_RD_driver_11 : decode b_RD_driver 11 = .ok (.iload_n 1, 1) := by decide +kernel
theorem d_RD_driver_12 : decode b_RD_driver 12 = .ok (.invokevirtual 102, 3) := by decide +kernel
theorem d_RD_driver_15 : decode b_RD_driver 15 = .ok (.astore_n 3, 1) := by decide +kernel
theorem d_RD_driver_16 : decode b_RD_driver 16 = .ok (.iload_n 2, 1) := by decide +kernel
theorem d_RD_driver_17 : decode b_RD_driver 17 = .ok (.tableswitch 68 0 4 #[35, 40, 45, 50, 55], 35) := by decide +kernel
theorem d_RD_driver_52 : decode b_RD_driver 52 = .ok (.aload_n 3, 1) := by decide +kernel
theorem d_RD_driver_53 : decode b_RD_driver 53 = .ok (.getfield 134, 3) := by decide +kernel
theorem d_RD_driver_56 : decode b_RD_driver 56 = .ok (.ireturn, 1) := by decide +kernel
theorem d_RD_driver_57 : decode b_RD_driver 57 = .ok (.aload_n 3, 1) := by decide +kernel
theorem d_RD_driver_58 : decode b_RD_driver 58 = .ok (.getfield 137, 3) := by decide +kernel
theorem d_RD_driver_61 : decode b_RD_driver 61 = .ok (.ireturn, 1) := by decide +kernel
theorem d_RD_driver_62 : decode b_RD_driver 62 = .ok (.aload_n 3, 1) := by decide +kernel
theorem d_RD_driver_63 : decode b_RD_driver 63 = .ok (.getfield 140, 3) := by decide +kernel
theorem d_RD_driver_66 : decode b_RD_driver 66 = .ok (.ireturn, 1) := by decide +kernel
theorem d_RD_driver_67 : decode b_RD_driver 67 = .ok (.aload_n 3, 1) := by decide +kernel
theorem d_RD_driver_68 : decode b_RD_driver 68 = .ok (.getfield 143, 3) := by decide +kernel
theorem d_RD_driver_71 : decode b_RD_driver 71 = .ok (.ireturn, 1) := by decide +kernel
theorem d_RD_driver_72 : decode b_RD_driver 72 = .ok (.aload_n 3, 1) := by decide +kernel
theorem d_RD_driver_73 : decode b_RD_driver 73 = .ok (.getfield 146, 3) := by decide +kernel
theorem d_RD_driver_76 : decode b_RD_driver 76 = .ok (.ifCond .eq 7, 3) := by decide +kernel
theorem d_RD_driver_79 : decode b_RD_driver 79 = .ok (.iconst 1, 1) := by decide +kernel
theorem d_RD_driver_80 : decode b_RD_driver 80 = .ok (.goto 4, 3) := by decide +kernel
theorem d_RD_driver_83 : decode b_RD_driver 83 = .ok (.iconst 0, 1) := by decide +kernel
theorem d_RD_driver_84 : decode b_RD_driver 84 = .ok (.ireturn, 1) := by decide +kernel
theorem d_RD_driver_85 : decode b_RD_driver 85 = .ok (.bipush (-2), 2) := by decide +kernel
theorem d_RD_driver_87 : decode b_RD_driver 87 = .ok (.ireturn, 1) := by decide +kernel
theorem d_RD_request_0 : decode b_RD_request 0 = .ok (.iload_n 1, 1) := by decide +kernel
theorem d_RD_request_1 : decode b_RD_request 1 = .ok (.ifCond .ne 11, 3) := by decide +kernel
theorem d_RD_request_4 : decode b_RD_request 4 = .ok (.aload_n 0, 1) := by decide +kernel
theorem d_RD_request_5 : decode b_RD_request 5 = .ok (.getfield 38, 3) := by decide +kernel
theorem d_RD_request_8 : decode b_RD_request 8 = .ok (.invokevirtual 150, 3) := by decide +kernel
theorem d_RD_request_11 : decode b_RD_request 11 = .ok (.ireturn, 1) := by decide +kernel
theorem d_RD_request_12 : decode b_RD_request 12 = .ok (.iload_n 1, 1) := by decide +kernel
theorem d_RD_request_13 : decode b_RD_request 13 = .ok (.iconst 1, 1) := by decide +kernel
theorem d_RD_request_14 : decode b_RD_request 14 = .ok (.if_icmp .ne 13, 3) := by decide +kernel
theorem d_RD_request_17 : decode b_RD_request 17 = .ok (.aload_n 0, 1) := by decide +kernel
theorem d_RD_request_18 : decode b_RD_request 18 = .ok (.getfield 42, 3) := by decide +kernel
theorem d_RD_request_21 : decode b_RD_request 21 = .ok (.invokevirtual 150, 3) := by decide +kernel
theorem d_RD_request_24 : decode b_RD_request 24 = .ok (.goto 4, 3) := by decide +kernel
theorem d_RD_request_27 : decode b_RD_request 27 = .ok (.iconst (-1), 1) := by decide +kernel
theorem d_RD_request_28 : decode b_RD_request 28 = .ok (.ireturn, 1) := by decide +kernel
theorem d_RD_now_0 : decode b_RD_now 0 = .ok (.aload_n 0, 1) := by decide +kernel
theorem d_RD_now_1 : decode b_RD_now 1 = .ok (.getfield 79, 3) := by decide +kernel
theorem d_RD_now_4 : decode b_RD_now 4 = .ok (.ireturn, 1) := by decide +kernel
