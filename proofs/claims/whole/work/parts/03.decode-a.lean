theorem d_Ln_init_0 : decode b_Ln_init 0 = .ok (.aload_n 0, 1) := by decide +kernel
theorem d_Ln_init_1 : decode b_Ln_init 1 = .ok (.invokespecial 3, 3) := by decide +kernel
theorem d_Ln_init_4 : decode b_Ln_init 4 = .ok (.aload_n 0, 1) := by decide +kernel
theorem d_Ln_init_5 : decode b_Ln_init 5 = .ok (.iconst 4, 1) := by decide +kernel
theorem d_Ln_init_6 : decode b_Ln_init 6 = .ok (.newarray .int, 2) := by decide +kernel
theorem d_Ln_init_8 : decode b_Ln_init 8 = .ok (.putfield 9, 3) := by decide +kernel
theorem d_Ln_init_11 : decode b_Ln_init 11 = .ok (.return_, 1) := by decide +kernel
theorem d_Dr_init_0 : decode b_Dr_init 0 = .ok (.aload_n 0, 1) := by decide +kernel
theorem d_Dr_init_1 : decode b_Dr_init 1 = .ok (.invokespecial 3, 3) := by decide +kernel
theorem d_Dr_init_4 : decode b_Dr_init 4 = .ok (.aload_n 0, 1) := by decide +kernel
theorem d_Dr_init_5 : decode b_Dr_init 5 = .ok (.iconst 0, 1) := by decide +kernel
theorem d_Dr_init_6 : decode b_Dr_init 6 = .ok (.putfield 11, 3) := by decide +kernel
theorem d_Dr_init_9 : decode b_Dr_init 9 = .ok (.aload_n 0, 1) := by decide +kernel
theorem d_Dr_init_10 : decode b_Dr_init 10 = .ok (.iconst (-1), 1) := by decide +kernel
theorem d_Dr_init_11 : decode b_Dr_init 11 = .ok (.putfield 15, 3) := by decide +kernel
theorem d_Dr_init_14 : decode b_Dr_init 14 = .ok (.aload_n 0, 1) := by decide +kernel
theorem d_Dr_init_15 : decode b_Dr_init 15 = .ok (.iconst 1, 1) := by decide +kernel
theorem d_Dr_init_16 : decode b_Dr_init 16 = .ok (.putfield 18, 3) := by decide +kernel
theorem d_Dr_init_19 : decode b_Dr_init 19 = .ok (.aload_n 0, 1) := by decide +kernel
theorem d_Dr_init_20 : decode b_Dr_init 20 = .ok (.iconst 0, 1) := by decide +kernel
theorem d_Dr_init_21 : decode b_Dr_init 21 = .ok (.putfield 22, 3) := by decide +kernel
theorem d_Dr_init_24 : decode b_Dr_init 24 = .ok (.return_, 1) := by decide +kernel
theorem d_Rq_init_0 : decode b_Rq_init 0 = .ok (.aload_n 0, 1) := by decide +kernel
theorem d_Rq_init_1 : decode b_Rq_init 1 = .ok (.invokespecial 1, 3) := by decide +kernel
theorem d_Rq_init_4 : decode b_Rq_init 4 = .ok (.aload_n 0, 1) := by decide +kernel
theorem d_Rq_init_5 : decode b_Rq_init 5 = .ok (.iconst 0, 1) := by decide +kernel
theorem d_Rq_init_6 : decode b_Rq_init 6 = .ok (.putfield 9, 3) := by decide +kernel
theorem d_Rq_init_9 : decode b_Rq_init 9 = .ok (.return_, 1) := by decide +kernel
theorem d_Ca_init_0 : decode b_Ca_init 0 = .ok (.aload_n 0, 1) := by decide +kernel
theorem d_Ca_init_1 : decode b_Ca_init 1 = .ok (.invokespecial 3, 3) := by decide +kernel
theorem d_Ca_init_4 : decode b_Ca_init 4 = .ok (.aload_n 0, 1) := by decide +kernel
theorem d_Ca_init_5 : decode b_Ca_init 5 = .ok (.iconst 3, 1) := by decide +kernel
theorem d_Ca_init_6 : decode b_Ca_init 6 = .ok (.newarray .int, 2) := by decide +kernel
theorem d_Ca_init_8 : decode b_Ca_init 8 = .ok (.putfield 9, 3) := by decide +kernel
theorem d_Ca_init_11 : decode b_Ca_init 11 = .ok (.aload_n 0, 1) := by decide +kernel
theorem d_Ca_init_12 : decode b_Ca_init 12 = .ok (.iconst 3, 1) := by decide +kernel
theorem d_Ca_init_13 : decode b_Ca_init 13 = .ok (.newarray .int, 2) := by decide +kernel
theorem d_Ca_init_15 : decode b_Ca_init 15 = .ok (.putfield 15, 3) := by decide +kernel
theorem d_Ca_init_18 : decode b_Ca_init 18 = .ok (.aload_n 0, 1) := by decide +kernel
theorem d_Ca_init_19 : decode b_Ca_init 19 = .ok (.iconst 3, 1) := by decide +kernel
theorem d_Ca_init_20 : decode b_Ca_init 20 = .ok (.newarray .boolean, 2) := by decide +kernel
theorem d_Ca_init_22 : decode b_Ca_init 22 = .ok (.putfield 18, 3) := by decide +kernel
theorem d_Ca_init_25 : decode b_Ca_init 25 = .ok (.aload_n 0, 1) := by decide +kernel
theorem d_Ca_init_26 : decode b_Ca_init 26 = .ok (.iconst 3, 1) := by decide +kernel
theorem d_Ca_init_27 : decode b_Ca_init 27 = .ok (.newarray .int, 2) := by decide +kernel
theorem d_Ca_init_29 : decode b_Ca_init 29 = .ok (.putfield 22, 3) := by decide +kernel
theorem d_Ca_init_32 : decode b_Ca_init 32 = .ok (.aload_n 0, 1) := by decide +kernel
theorem d_Ca_init_33 : decode b_Ca_init 33 = .ok (.getfield 9, 3) := by decide +kernel
theorem d_Ca_init_36 : decode b_Ca_init 36 = .ok (.iconst (-1), 1) := by decide +kernel
theorem d_Ca_init_37 : decode b_Ca_init 37 = .ok (.invokestatic 25, 3) := by decide +kernel
theorem d_Ca_init_40 : decode b_Ca_init 40 = .ok (.return_, 1) := by decide +kernel
theorem d_Ar_fill_0 : decode b_Ar_fill 0 = .ok (.iconst 0, 1) := by decide +kernel
theorem d_Ar_fill_1 : decode b_Ar_fill 1 = .ok (.istore_n 2, 1) := by decide +kernel
theorem d_Ar_fill_2 : decode b_Ar_fill 2 = .ok (.aload_n 0, 1) := by decide +kernel
theorem d_Ar_fill_3 : decode b_Ar_fill 3 = .ok (.arraylength, 1) := by decide +kernel
theorem d_Ar_fill_4 : decode b_Ar_fill 4 = .ok (.istore_n 3, 1) := by decide +kernel
theorem d_Ar_fill_5 : decode b_Ar_fill 5 = .ok (.iload_n 2, 1) := by decide +kernel
theorem d_Ar_fill_6 : decode b_Ar_fill 6 = .ok (.iload_n 3, 1) := by decide +kernel
theorem d_Ar_fill_7 : decode b_Ar_fill 7 = .ok (.if_icmp .ge 13, 3) := by decide +kernel
theorem d_Ar_fill_10 : decode b_Ar_fill 10 = .ok (.aload_n 0, 1) := by decide +kernel
theorem d_Ar_fill_11 : decode b_Ar_fill 11 = .ok (.iload_n 2, 1) := by decide +kernel
theorem d_Ar_fill_12 : decode b_Ar_fill 12 = .ok (.iload_n 1, 1) := by decide +kernel
theorem d_Ar_fill_13 : decode b_Ar_fill 13 = .ok (.iastore, 1) := by decide +kernel
theorem d_Ar_fill_14 : decode b_Ar_fill 14 = .ok (.iinc 2 1, 3) := by decide +kernel
theorem d_Ar_fill_17 : decode b_Ar_fill 17 = .ok (.goto (-12), 3) := by decide +kernel
theorem d_Ar_fill_20 : decode b_Ar_fill 20 = .ok (.return_, 1) := by decide +kernel
theorem d_Op_init_0 : decode b_Op_init 0 = .ok (.aload_n 0, 1) := by decide +kernel
theorem d_Op_init_1 : decode b_Op_init 1 = .ok (.invokespecial 1, 3) := by decide +kernel
theorem d_Op_init_4 : decode b_Op_init 4 = .ok (.return_, 1) := by decide +kernel
theorem d_Op_begin_0 : decode b_Op_begin 0 = .ok (.aload_n 0, 1) := by decide +kernel
theorem d_Op_begin_1 : decode b_Op_begin 1 = .ok (.iload_n 1, 1) := by decide +kernel
theorem d_Op_begin_2 : decode b_Op_begin 2 = .ok (.putfield 7, 3) := by decide +kernel
theorem d_Op_begin_5 : decode b_Op_begin 5 = .ok (.aload_n 0, 1) := by decide +kernel
theorem d_Op_begin_6 : decode b_Op_begin 6 = .ok (.iload_n 2, 1) := by decide +kernel
theorem d_Op_begin_7 : decode b_Op_begin 7 = .ok (.putfield 13, 3) := by decide +kernel
theorem d_Op_begin_10 : decode b_Op_begin 10 = .ok (.aload_n 0, 1) := by decide +kernel
theorem d_Op_begin_11 : decode b_Op_begin 11 = .ok (.iload_n 3, 1) := by decide +kernel
theorem d_Op_begin_12 : decode b_Op_begin 12 = .ok (.putfield 16, 3) := by decide +kernel
theorem d_Op_begin_15 : decode b_Op_begin 15 = .ok (.aload_n 0, 1) := by decide +kernel
theorem d_Op_begin_16 : decode b_Op_begin 16 = .ok (.iconst 0, 1) := by decide +kernel
theorem d_Op_begin_17 : decode b_Op_begin 17 = .ok (.putfield 19, 3) := by decide +kernel
theorem d_Op_begin_20 : decode b_Op_begin 20 = .ok (.aload_n 0, 1) := by decide +kernel
theorem d_Op_begin_21 : decode b_Op_begin 21 = .ok (.iconst 1, 1) := by decide +kernel
theorem d_Op_begin_22 : decode b_Op_begin 22 = .ok (.putfield 22, 3) := by decide +kernel
theorem d_Op_begin_25 : decode b_Op_begin 25 = .ok (.aload_n 0, 1) := by decide +kernel
theorem d_Op_begin_26 : decode b_Op_begin 26 = .ok (.iconst 0, 1) := by decide +kernel
theorem d_Op_begin_27 : decode b_Op_begin 27 = .ok (.putfield 25, 3) := by decide +kernel
theorem d_Op_begin_30 : decode b_Op_begin 30 = .ok (.return_, 1) := by decide +kernel
theorem d_Ln_join_0 : decode b_Ln_join 0 = .ok (.aload_n 0, 1) := by decide +kernel
theorem d_Ln_join_1 : decode b_Ln_join 1 = .ok (.getfield 15, 3) := by decide +kernel
theorem d_Ln_join_4 : decode b_Ln_join 4 = .ok (.iconst 4, 1) := by decide +kernel
theorem d_Ln_join_5 : decode b_Ln_join 5 = .ok (.if_icmp .ge 23, 3) := by decide +kernel
theorem d_Ln_join_8 : decode b_Ln_join 8 = .ok (.aload_n 0, 1) := by decide +kernel
theorem d_Ln_join_9 : decode b_Ln_join 9 = .ok (.getfield 9, 3) := by decide +kernel
theorem d_Ln_join_12 : decode b_Ln_join 12 = .ok (.aload_n 0, 1) := by decide +kernel
theorem d_Ln_join_13 : decode b_Ln_join 13 = .ok (.getfield 15, 3) := by decide +kernel
theorem d_Ln_join_16 : decode b_Ln_join 16 = .ok (.iload_n 1, 1) := by decide +kernel
theorem d_Ln_join_17 : decode b_Ln_join 17 = .ok (.iastore, 1) := by decide +kernel
theorem d_Ln_join_18 : decode b_Ln_join 18 = .ok (.aload_n 0, 1) := by decide +kernel
theorem d_Ln_join_19 : decode b_Ln_join 19 = .ok (.dup, 1) := by decide +kernel
theorem d_Ln_join_20 : decode b_Ln_join 20 = .ok (.getfield 15, 3) := by decide +kernel
theorem d_Ln_join_23 : decode b_Ln_join 23 = .ok (.iconst 1, 1) := by decide +kernel
theorem d_Ln_join_24 : decode b_Ln_join 24 = .ok (.iadd, 1) := by decide +kernel
theorem d_Ln_join_25 : decode b_Ln_join 25 = .ok (.putfield 15, 3) := by decide +kernel
theorem d_Ln_join_28 : decode b_Ln_join 28 = .ok (.return_, 1) := by decide +kernel
theorem d_Dr_beWatched_0 : decode b_Dr_beWatched 0 = .ok (.aload_n 0, 1) := by decide +kernel
theorem d_Dr_beWatched_1 : decode b_Dr_beWatched 1 = .ok (.getfield 11, 3) := by decide +kernel
theorem d_Dr_beWatched_4 : decode b_Dr_beWatched 4 = .ok (.iconst 2, 1) := by decide +kernel
theorem d_Dr_beWatched_5 : decode b_Dr_beWatched 5 = .ok (.if_icmp .eq 14, 3) := by decide +kernel
theorem d_Dr_beWatched_8 : decode b_Dr_beWatched 8 = .ok (.iload_n 1, 1) := by decide +kernel
theorem d_Dr_beWatched_9 : decode b_Dr_beWatched 9 = .ok (.ifCond .eq 17, 3) := by decide +kernel
theorem d_Dr_beWatched_12 : decode b_Dr_beWatched 12 = .ok (.aload_n 0, 1) := by decide +kernel
theorem d_Dr_beWatched_13 : decode b_Dr_beWatched 13 = .ok (.getfield 18, 3) := by decide +kernel
theorem d_Dr_beWatched_16 : decode b_Dr_beWatched 16 = .ok (.ifCond .ne 10, 3) := by decide +kernel
theorem d_Dr_beWatched_19 : decode b_Dr_beWatched 19 = .ok (.aload_n 0, 1) := by decide +kernel
theorem d_Dr_beWatched_20 : decode b_Dr_beWatched 20 = .ok (.invokevirtual 28, 3) := by decide +kernel
theorem d_Dr_beWatched_23 : decode b_Dr_beWatched 23 = .ok (.goto 12, 3) := by decide +kernel
theorem d_Dr_beWatched_26 : decode b_Dr_beWatched 26 = .ok (.iload_n 1, 1) := by decide +kernel
theorem d_Dr_beWatched_27 : decode b_Dr_beWatched 27 = .ok (.ifCond .eq 8, 3) := by decide +kernel
theorem d_Dr_beWatched_30 : decode b_Dr_beWatched 30 = .ok (.aload_n 0, 1) := by decide +kernel
theorem d_Dr_beWatched_31 : decode b_Dr_beWatched 31 = .ok (.iconst 0, 1) := by decide +kernel
theorem d_Dr_beWatched_32 : decode b_Dr_beWatched 32 = .ok (.putfield 18, 3) := by decide +kernel
theorem d_Dr_beWatched_35 : decode b_Dr_beWatched 35 = .ok (.return_, 1) := by decide +kernel
theorem d_Dr_restart_0 : decode b_Dr_restart 0 = .ok (.aload_n 0, 1) := by decide +kernel
theorem d_Dr_restart_1 : decode b_Dr_restart 1 = .ok (.dup, 1) := by decide +kernel
theorem d_Dr_restart_2 : decode b_Dr_restart 2 = .ok (.getfield 31, 3) := by decide +kernel
theorem d_Dr_restart_5 : decode b_Dr_restart 5 = .ok (.iconst 1, 1) := by decide +kernel
theorem d_Dr_restart_6 : decode b_Dr_restart 6 = .ok (.iadd, 1) := by decide +kernel
theorem d_Dr_restart_7 : decode b_Dr_restart 7 = .ok (.putfield 31, 3) := by decide +kernel
theorem d_Dr_restart_10 : decode b_Dr_restart 10 = .ok (.aload_n 0, 1) := by decide +kernel
theorem d_Dr_restart_11 : decode b_Dr_restart 11 = .ok (.iconst 0, 1) := by decide +kernel
theorem d_Dr_restart_12 : decode b_Dr_restart 12 = .ok (.putfield 11, 3) := by decide +kernel
theorem d_Dr_restart_15 : decode b_Dr_restart 15 = .ok (.aload_n 0, 1) := by decide +kernel
theorem d_Dr_restart_16 : decode b_Dr_restart 16 = .ok (.iconst (-1), 1) := by decide +kernel
theorem d_Dr_restart_17 : decode b_Dr_restart 17 = .ok (.putfield 15, 3) := by decide +kernel
theorem d_Dr_restart_20 : decode b_Dr_restart 20 = .ok (.aload_n 0, 1) := by decide +kernel
theorem d_Dr_restart_21 : decode b_Dr_restart 21 = .ok (.iconst 1, 1) := by decide +kernel
theorem d_Dr_restart_22 : decode b_Dr_restart 22 = .ok (.putfield 18, 3) := by decide +kernel
theorem d_Dr_restart_25 : decode b_Dr_restart 25 = .ok (.aload_n 0, 1) := by decide +kernel
theorem d_Dr_restart_26 : decode b_Dr_restart 26 = .ok (.iconst 0, 1) := by decide +kernel
theorem d_Dr_restart_27 : decode b_Dr_restart 27 = .ok (.putfield 22, 3) := by decide +kernel
theorem d_Dr_restart_30 : decode b_Dr_restart 30 = .ok (.return_, 1) := by decide +kernel
theorem d_Dr_takeStep_0 : decode b_Dr_takeStep 0 = .ok (.aload_n 0, 1) := by decide +kernel
theorem d_Dr_takeStep_1 : decode b_Dr_takeStep 1 = .ok (.getfield 11, 3) := by decide +kernel
theorem d_Dr_takeStep_4 : decode b_Dr_takeStep 4 = .ok (.ifCond .eq 5, 3) := by decide +kernel
theorem d_Dr_takeStep_7 : decode b_Dr_takeStep 7 = .ok (.iconst (-1), 1) := by decide +kernel
theorem d_Dr_takeStep_8 : decode b_Dr_takeStep 8 = .ok (.ireturn, 1) := by decide +kernel
theorem d_Dr_takeStep_9 : decode b_Dr_takeStep 9 = .ok (.aload_n 0, 1) := by decide +kernel
theorem d_Dr_takeStep_10 : decode b_Dr_takeStep 10 = .ok (.iconst 1, 1) := by decide +kernel
theorem d_Dr_takeStep_11 : decode b_Dr_takeStep 11 = .ok (.putfield 18, 3) := by decide +kernel
theorem d_Dr_takeStep_14 : decode b_Dr_takeStep 14 = .ok (.aload_n 0, 1) := by decide +kernel
theorem d_Dr_takeStep_15 : decode b_Dr_takeStep 15 = .ok (.getfield 22, 3) := by decide +kernel
theorem d_Dr_takeStep_18 : decode b_Dr_takeStep 18 = .ok (.ifCond .eq 9, 3) := by decide +kernel
theorem d_Dr_takeStep_21 : decode b_Dr_takeStep 21 = .ok (.aload_n 0, 1) := by decide +kernel
theorem d_Dr_takeStep_22 : decode b_Dr_takeStep 22 = .ok (.invokevirtual 34, 3) := by decide +kernel
theorem d_Dr_takeStep_25 : decode b_Dr_takeStep 25 = .ok (.iconst (-1), 1) := by decide +kernel
theorem d_Dr_takeStep_26 : decode b_Dr_takeStep 26 = .ok (.ireturn, 1) := by decide +kernel
theorem d_Dr_takeStep_27 : decode b_Dr_takeStep 27 = .ok (.aload_n 0, 1) := by decide +kernel
theorem d_Dr_takeStep_28 : decode b_Dr_takeStep 28 = .ok (.getfield 15, 3) := by decide +kernel
theorem d_Dr_takeStep_31 : decode b_Dr_takeStep 31 = .ok (.istore_n 1, 1) := by decide +kernel
theorem d_Dr_takeStep_32 : decode b_Dr_takeStep 32 = .ok (.iload_n 1, 1) := by decide +kernel
theorem d_Dr_takeStep_33 : decode b_Dr_takeStep 33 = .ok (.iconst 2, 1) := by decide +kernel
theorem d_Dr_takeStep_34 : decode b_Dr_takeStep 34 = .ok (.if_icmp .ne 11, 3) := by decide +kernel
theorem d_Dr_takeStep_37 : decode b_Dr_takeStep 37 = .ok (.aload_n 0, 1) := by decide +kernel
theorem d_Dr_takeStep_38 : decode b_Dr_takeStep 38 = .ok (.iconst (-1), 1) := by decide +kernel
theorem d_Dr_takeStep_39 : decode b_Dr_takeStep 39 = .ok (.putfield 15, 3) := by decide +kernel
theorem d_Dr_takeStep_42 : decode b_Dr_takeStep 42 = .ok (.goto 18, 3) := by decide +kernel
theorem d_Dr_takeStep_45 : decode b_Dr_takeStep 45 = .ok (.iload_n 1, 1) := by decide +kernel
theorem d_Dr_takeStep_46 : decode b_Dr_takeStep 46 = .ok (.iconst (-1), 1) := by decide +kernel
theorem d_Dr_takeStep_47 : decode b_Dr_takeStep 47 = .ok (.if_icmp .eq 13, 3) := by decide +kernel
theorem d_Dr_takeStep_50 : decode b_Dr_takeStep 50 = .ok (.aload_n 0, 1) := by decide +kernel
theorem d_Dr_takeStep_51 : decode b_Dr_takeStep 51 = .ok (.dup, 1) := by decide +kernel
theorem d_Dr_takeStep_52 : decode b_Dr_takeStep 52 = .ok (.getfield 15, 3) := by decide +kernel
theorem d_Dr_takeStep_55 : decode b_Dr_takeStep 55 = .ok (.iconst 1, 1) := by decide +kernel
theorem d_Dr_takeStep_56 : decode b_Dr_takeStep 56 = .ok (.iadd, 1) := by decide +kernel
theorem d_Dr_takeStep_57 : decode b_Dr_takeStep 57 = .ok (.putfield 15, 3) := by decide +kernel
theorem d_Dr_takeStep_60 : decode b_Dr_takeStep 60 = .ok (.iload_n 1, 1) := by decide +kernel
theorem d_Dr_takeStep_61 : decode b_Dr_takeStep 61 = .ok (.ireturn, 1) := by decide +kernel
theorem d_Dr_beRefused_0 : decode b_Dr_beRefused 0 = .ok (.aload_n 0, 1) := by decide +kernel
theorem d_Dr_beRefused_1 : decode b_Dr_beRefused 1 = .ok (.dup, 1) := by decide +kernel
theorem d_Dr_beRefused_2 : decode b_Dr_beRefused 2 = .ok (.getfield 37, 3) := by decide +kernel
theorem d_Dr_beRefused_5 : decode b_Dr_beRefused 5 = .ok (.iconst 1, 1) := by decide +kernel
theorem d_Dr_beRefused_6 : decode b_Dr_beRefused 6 = .ok (.iadd, 1) := by decide +kernel
theorem d_Dr_beRefused_7 : decode b_Dr_beRefused 7 = .ok (.putfield 37, 3) := by decide +kernel
theorem d_Dr_beRefused_10 : decode b_Dr_beRefused 10 = .ok (.aload_n 0, 1) := by decide +kernel
theorem d_Dr_beRefused_11 : decode b_Dr_beRefused 11 = .ok (.getfield 22, 3) := by decide +kernel
theorem d_Dr_beRefused_14 : decode b_Dr_beRefused 14 = .ok (.iconst 3, 1) := by decide +kernel
theorem d_Dr_beRefused_15 : decode b_Dr_beRefused 15 = .ok (.if_icmp .ne 7, 3) := by decide +kernel
theorem d_Dr_beRefused_18 : decode b_Dr_beRefused 18 = .ok (.aload_n 0, 1) := by decide +kernel
theorem d_Dr_beRefused_19 : decode b_Dr_beRefused 19 = .ok (.invokevirtual 25, 3) := by decide +kernel
theorem d_Dr_beRefused_22 : decode b_Dr_beRefused 22 = .ok (.aload_n 0, 1) := by decide +kernel
theorem d_Dr_beRefused_23 : decode b_Dr_beRefused 23 = .ok (.iconst 0, 1) := by decide +kernel
theorem d_Dr_beRefused_24 : decode b_Dr_beRefused 24 = .ok (.putfield 22, 3) := by decide +kernel
theorem d_Dr_beRefused_27 : decode b_Dr_beRefused 27 = .ok (.return_, 1) := by decide +kernel
theorem d_Dr_die_0 : decode b_Dr_die 0 = .ok (.aload_n 0, 1) := by decide +kernel
theorem d_Dr_die_1 : decode b_Dr_die 1 = .ok (.iconst 2, 1) := by decide +kernel
theorem d_Dr_die_2 : decode b_Dr_die 2 = .ok (.putfield 11, 3) := by decide +kernel
theorem d_Dr_die_5 : decode b_Dr_die 5 = .ok (.aload_n 0, 1) := by decide +kernel
theorem d_Dr_die_6 : decode b_Dr_die 6 = .ok (.iconst (-1), 1) := by decide +kernel
theorem d_Dr_die_7 : decode b_Dr_die 7 = .ok (.putfield 15, 3) := by decide +kernel
theorem d_Dr_die_10 : decode b_Dr_die 10 = .ok (.aload_n 0, 1) := by decide +kernel
theorem d_Dr_die_11 : decode b_Dr_die 11 = .ok (.iconst 0, 1) := by decide +kernel
theorem d_Dr_die_12 : decode b_Dr_die 12 = .ok (.putfield 22, 3) := by decide +kernel
theorem d_Dr_die_15 : decode b_Dr_die 15 = .ok (.return_, 1) := by decide +kernel
theorem d_Rq_isOpen_0 : decode b_Rq_isOpen 0 = .ok (.aload_n 0, 1) := by decide +kernel
theorem d_Rq_isOpen_1 : decode b_Rq_isOpen 1 = .ok (.getfield 9, 3) := by decide +kernel
theorem d_Rq_isOpen_4 : decode b_Rq_isOpen 4 = .ok (.ifCond .eq 7, 3) := by decide +kernel
theorem d_Rq_isOpen_7 : decode b_Rq_isOpen 7 = .ok (.iconst 1, 1) := by decide +kernel
theorem d_Rq_isOpen_8 : decode b_Rq_isOpen 8 = .ok (.goto 4, 3) := by decide +kernel
theorem d_Rq_isOpen_11 : decode b_Rq_isOpen 11 = .ok (.iconst 0, 1) := by decide +kernel
theorem d_Rq_isOpen_12 : decode b_Rq_isOpen 12 = .ok (.ireturn, 1) := by decide +kernel
theorem d_Rq_wasGivenElsewhere_0 : decode b_Rq_wasGivenElsewhere 0 = .ok (.aload_n 0, 1) := by decide +kernel
theorem d_Rq_wasGivenElsewhere_1 : decode b_Rq_wasGivenElsewhere 1 = .ok (.getfield 13, 3) := by decide +kernel
theorem d_Rq_wasGivenElsewhere_4 : decode b_Rq_wasGivenElsewhere 4 = .ok (.ifCond .eq 18, 3) := by decide +kernel
theorem d_Rq_wasGivenElsewhere_7 : decode b_Rq_wasGivenElsewhere 7 = .ok (.aload_n 0, 1) := by decide +kernel
theorem d_Rq_wasGivenElsewhere_8 : decode b_Rq_wasGivenElsewhere 8 = .ok (.getfield 20, 3) := by decide +kernel
theorem d_Rq_wasGivenElsewhere_11 : decode b_Rq_wasGivenElsewhere 11 = .ok (.aload_n 1, 1) := by decide +kernel
theorem d_Rq_wasGivenElsewhere_12 : decode b_Rq_wasGivenElsewhere 12 = .ok (.getfield 23, 3) := by decide +kernel
theorem d_Rq_wasGivenElsewhere_15 : decode b_Rq_wasGivenElsewhere 15 = .ok (.if_icmp .eq 7, 3) := by decide +kernel
theorem d_Rq_wasGivenElsewhere_18 : decode b_Rq_wasGivenElsewhere 18 = .ok (.iconst 1, 1) := by decide +kernel
theorem d_Rq_wasGivenElsewhere_19 : decode b_Rq_wasGivenElsewhere 19 = .ok (.goto 4, 3) := by decide +kernel
theorem d_Rq_wasGivenElsewhere_22 : decode b_Rq_wasGivenElsewhere 22 = .ok (.iconst 0, 1) := by decide +kernel
theorem d_Rq_wasGivenElsewhere_23 : decode b_Rq_wasGivenElsewhere 23 = .ok (.ireturn, 1) := by decide +kernel
theorem d_Rq_giveTo_0 : decode b_Rq_giveTo 0 = .ok (.aload_n 1, 1) := by decide +kernel
theorem d_Rq_giveTo_1 : decode b_Rq_giveTo 1 = .ok (.getfield 28, 3) := by decide +kernel
theorem d_Rq_giveTo_4 : decode b_Rq_giveTo 4 = .ok (.iconst 2, 1) := by decide +kernel
theorem d_Rq_giveTo_5 : decode b_Rq_giveTo 5 = .ok (.if_icmp .ne 9, 3) := by decide +kernel
theorem d_Rq_giveTo_8 : decode b_Rq_giveTo 8 = .ok (.aload_n 0, 1) := by decide +kernel
theorem d_Rq_giveTo_9 : decode b_Rq_giveTo 9 = .ok (.iconst 0, 1) := by decide +kernel
theorem d_Rq_giveTo_10 : decode b_Rq_giveTo 10 = .ok (.putfield 13, 3) := by decide +kernel
theorem d_Rq_giveTo_13 : decode b_Rq_giveTo 13 = .ok (.return_, 1) := by decide +kernel
theorem d_Rq_giveTo_14 : decode b_Rq_giveTo 14 = .ok (.aload_n 1, 1) := by decide +kernel
theorem d_Rq_giveTo_15 : decode b_Rq_giveTo 15 = .ok (.iconst 0, 1) := by decide +kernel
theorem d_Rq_giveTo_16 : decode b_Rq_giveTo 16 = .ok (.putfield 31, 3) := by decide +kernel
theorem d_Rq_giveTo_19 : decode b_Rq_giveTo 19 = .ok (.aload_n 0, 1) := by decide +kernel
theorem d_Rq_giveTo_20 : decode b_Rq_giveTo 20 = .ok (.iconst 1, 1) := by decide +kernel
theorem d_Rq_giveTo_21 : decode b_Rq_giveTo 21 = .ok (.putfield 13, 3) := by decide +kernel
theorem d_Rq_giveTo_24 : decode b_Rq_giveTo 24 = .ok (.aload_n 0, 1) := by decide +kernel
theorem d_Rq_giveTo_25 : decode b_Rq_giveTo 25 = .ok (.iconst 0, 1) := by decide +kernel
theorem d_Rq_giveTo_26 : decode b_Rq_giveTo 26 = .ok (.putfield 17, 3) := by decide +kernel
theorem d_Rq_giveTo_29 : decode b_Rq_giveTo 29 = .ok (.aload_n 0, 1) := by decide +kernel
theorem d_Rq_giveTo_30 : decode b_Rq_giveTo 30 = .ok (.aload_n 1, 1) := by decide +kernel
theorem d_Rq_giveTo_31 : decode b_Rq_giveTo 31 = .ok (.getfield 23, 3) := by decide +kernel
theorem d_Rq_giveTo_34 : decode b_Rq_giveTo 34 = .ok (.putfield 20, 3) := by decide +kernel
theorem d_Rq_giveTo_37 : decode b_Rq_giveTo 37 = .ok (.return_, 1) := by decide +kernel
theorem d_Ca_hold_0 : decode b_Ca_hold 0 = .ok (.aload_n 0, 1) := by decide +kernel
theorem d_Ca_hold_1 : decode b_Ca_hold 1 = .ok (.getfield 9, 3) := by decide +kernel
theorem d_Ca_hold_4 : decode b_Ca_hold 4 = .ok (.iload_n 1, 1) := by decide +kernel
theorem d_Ca_hold_5 : decode b_Ca_hold 5 = .ok (.iload_n 2, 1) := by decide +kernel
theorem d_Ca_hold_6 : decode b_Ca_hold 6 = .ok (.iastore, 1) := by decide +kernel
theorem d_Ca_hold_7 : decode b_Ca_hold 7 = .ok (.aload_n 0, 1) := by decide +kernel
theorem d_Ca_hold_8 : decode b_Ca_hold 8 = .ok (.getfield 15, 3) := by decide +kernel
theorem d_Ca_hold_11 : decode b_Ca_hold 11 = .ok (.iload_n 1, 1) := by decide +kernel
theorem d_Ca_hold_12 : decode b_Ca_hold 12 = .ok (.iload_n 3, 1) := by decide +kernel
theorem d_Ca_hold_13 : decode b_Ca_hold 13 = .ok (.iastore, 1) := by decide +kernel
theorem d_Ca_hold_14 : decode b_Ca_hold 14 = .ok (.aload_n 0, 1) := by decide +kernel
theorem d_Ca_hold_15 : decode b_Ca_hold 15 = .ok (.getfield 18, 3) := by decide +kernel
theorem d_Ca_hold_18 : decode b_Ca_hold 18 = .ok (.iload_n 1, 1) := by decide +kernel
theorem d_Ca_hold_19 : decode b_Ca_hold 19 = .ok (.iload 4, 2) := by decide +kernel
theorem d_Ca_hold_21 : decode b_Ca_hold 21 = .ok (.bastore, 1) := by decide +kernel
theorem d_Ca_hold_22 : decode b_Ca_hold 22 = .ok (.return_, 1) := by decide +kernel
theorem d_Rq_close_0 : decode b_Rq_close 0 = .ok (.aload_n 0, 1) := by decide +kernel
theorem d_Rq_close_1 : decode b_Rq_close 1 = .ok (.iconst 0, 1) := by decide +kernel
theorem d_Rq_close_2 : decode b_Rq_close 2 = .ok (.putfield 9, 3) := by decide +kernel
theorem d_Rq_close_5 : decode b_Rq_close 5 = .ok (.return_, 1) := by decide +kernel
theorem d_Ln_isEmpty_0 : decode b_Ln_isEmpty 0 = .ok (.aload_n 0, 1) := by decide +kernel
theorem d_Ln_isEmpty_1 : decode b_Ln_isEmpty 1 = .ok (.getfield 15, 3) := by decide +kernel
theorem d_Ln_isEmpty_4 : decode b_Ln_isEmpty 4 = .ok (.ifCond .ne 7, 3) := by decide +kernel
theorem d_Ln_isEmpty_7 : decode b_Ln_isEmpty 7 = .ok (.iconst 1, 1) := by decide +kernel
theorem d_Ln_isEmpty_8 : decode b_Ln_isEmpty 8 = .ok (.goto 4, 3) := by decide +kernel
theorem d_Ln_isEmpty_11 : decode b_Ln_isEmpty 11 = .ok (.iconst 0, 1) := by decide +kernel
theorem d_Ln_isEmpty_12 : decode b_Ln_isEmpty 12 = .ok (.ireturn, 1) := by decide +kernel
theorem d_Ln_head_0 : decode b_Ln_head 0 = .ok (.aload_n 0, 1) := by decide +kernel
theorem d_Ln_head_1 : decode b_Ln_head 1 = .ok (.getfield 9, 3) := by decide +kernel
theorem d_Ln_head_4 : decode b_Ln_head 4 = .ok (.iconst 0, 1) := by decide +kernel
theorem d_Ln_head_5 : decode b_Ln_head 5 = .ok (.iaload, 1) := by decide +kernel
theorem d_Ln_head_6 : decode b_Ln_head 6 = .ok (.ireturn, 1) := by decide +kernel
theorem d_Ca_dirtySlotOfLowestBlock_0 : decode b_Ca_dirtySlotOfLowestBlock 0 = .ok (.iconst (-1), 1) := by decide +kernel
theorem d_Ca_dirtySlotOfLowestBlock_1 : decode b_Ca_dirtySlotOfLowestBlock 1 = .ok (.istore_n 1, 1) := by decide +kernel
theorem d_Ca_dirtySlotOfLowestBlock_2 : decode b_Ca_dirtySlotOfLowestBlock 2 = .ok (.iconst 0, 1) := by decide +kernel
theorem d_Ca_dirtySlotOfLowestBlock_3 : decode b_Ca_dirtySlotOfLowestBlock 3 = .ok (.istore_n 2, 1) := by decide +kernel
theorem d_Ca_dirtySlotOfLowestBlock_4 : decode b_Ca_dirtySlotOfLowestBlock 4 = .ok (.iload_n 2, 1) := by decide +kernel
theorem d_Ca_dirtySlotOfLowestBlock_5 : decode b_Ca_dirtySlotOfLowestBlock 5 = .ok (.iconst 3, 1) := by decide +kernel
theorem d_Ca_dirtySlotOfLowestBlock_6 : decode b_Ca_dirtySlotOfLowestBlock 6 = .ok (.if_icmp .ge 40, 3) := by decide +kernel
theorem d_Ca_dirtySlotOfLowestBlock_9 : decode b_Ca_dirtySlotOfLowestBlock 9 = .ok (.aload_n 0, 1) := by decide +kernel
theorem d_Ca_dirtySlotOfLowestBlock_10 : decode b_Ca_dirtySlotOfLowestBlock 10 = .ok (.getfield 18, 3) := by decide +kernel
theorem d_Ca_dirtySlotOfLowestBlock_13 : decode b_Ca_dirtySlotOfLowestBlock 13 = .ok (.iload_n 2, 1) := by decide +kernel
theorem d_Ca_dirtySlotOfLowestBlock_14 : decode b_Ca_dirtySlotOfLowestBlock 14 = .ok (.baload, 1) := by decide +kernel
theorem d_Ca_dirtySlotOfLowestBlock_15 : decode b_Ca_dirtySlotOfLowestBlock 15 = .ok (.ifCond .eq 25, 3) := by decide +kernel
theorem d_Ca_dirtySlotOfLowestBlock_18 : decode b_Ca_dirtySlotOfLowestBlock 18 = .ok (.iload_n 1, 1) := by decide +kernel
theorem d_Ca_dirtySlotOfLowestBlock_19 : decode b_Ca_dirtySlotOfLowestBlock 19 = .ok (.iconst (-1), 1) := by decide +kernel
theorem d_Ca_dirtySlotOfLowestBlock_20 : decode b_Ca_dirtySlotOfLowestBlock 20 = .ok (.if_icmp .eq 18, 3) := by decide +kernel
theorem d_Ca_dirtySlotOfLowestBlock_23 : decode b_Ca_dirtySlotOfLowestBlock 23 = .ok (.aload_n 0, 1) := by decide +kernel
theorem d_Ca_dirtySlotOfLowestBlock_24 : decode b_Ca_dirtySlotOfLowestBlock 24 = .ok (.getfield 9, 3) := by decide +kernel
theorem d_Ca_dirtySlotOfLowestBlock_27 : decode b_Ca_dirtySlotOfLowestBlock 27 = .ok (.iload_n 2, 1) := by decide +kernel
theorem d_Ca_dirtySlotOfLowestBlock_28 : decode b_Ca_dirtySlotOfLowestBlock 28 = .ok (.iaload, 1) := by decide +kernel
theorem d_Ca_dirtySlotOfLowestBlock_29 : decode b_Ca_dirtySlotOfLowestBlock 29 = .ok (.aload_n 0, 1) := by decide +kernel
theorem d_Ca_dirtySlotOfLowestBlock_30 : decode b_Ca_dirtySlotOfLowestBlock 30 = .ok (.getfield 9, 3) := by decide +kernel
theorem d_Ca_dirtySlotOfLowestBlock_33 : decode b_Ca_dirtySlotOfLowestBlock 33 = .ok (.iload_n 1, 1) := by decide +kernel
theorem d_Ca_dirtySlotOfLowestBlock_34 : decode b_Ca_dirtySlotOfLowestBlock 34 = .ok (.iaload, 1) := by decide +kernel
theorem d_Ca_dirtySlotOfLowestBlock_35 : decode b_Ca_dirtySlotOfLowestBlock 35 = .ok (.if_icmp .ge 5, 3) := by decide +kernel
theorem d_Ca_dirtySlotOfLowestBlock_38 : decode b_Ca_dirtySlotOfLowestBlock 38 = .ok (.iload_n 2, 1) := by decide +kernel
theorem d_Ca_dirtySlotOfLowestBlock_39 : decode b_Ca_dirtySlotOfLowestBlock 39 = .ok (.istore_n 1, 1) := by decide +kernel
theorem d_Ca_dirtySlotOfLowestBlock_40 : decode b_Ca_dirtySlotOfLowestBlock 40 = .ok (.iinc 2 1, 3) := by decide +kernel
theorem d_Ca_dirtySlotOfLowestBlock_43 : decode b_Ca_dirtySlotOfLowestBlock 43 = .ok (.goto (-39), 3) := by decide +kernel
theorem d_Ca_dirtySlotOfLowestBlock_46 : decode b_Ca_dirtySlotOfLowestBlock 46 = .ok (.iload_n 1, 1) := by decide +kernel
theorem d_Ca_dirtySlotOfLowestBlock_47 : decode b_Ca_dirtySlotOfLowestBlock 47 = .ok (.ireturn, 1) := by decide +kernel
theorem d_Op_finish_0 : decode b_Op_finish 0 = .ok (.aload_n 0, 1) := by decide +kernel
theorem d_Op_finish_1 : decode b_Op_finish 1 = .ok (.iconst 2, 1) := by decide +kernel
theorem d_Op_finish_2 : decode b_Op_finish 2 = .ok (.putfield 22, 3) := by decide +kernel
theorem d_Op_finish_5 : decode b_Op_finish 5 = .ok (.aload_n 0, 1) := by decide +kernel
theorem d_Op_finish_6 : decode b_Op_finish 6 = .ok (.iload_n 1, 1) := by decide +kernel
theorem d_Op_finish_7 : decode b_Op_finish 7 = .ok (.putfield 25, 3) := by decide +kernel
theorem d_Op_finish_10 : decode b_Op_finish 10 = .ok (.return_, 1) := by decide +kernel
theorem d_Rq_open_0 : decode b_Rq_open 0 = .ok (.aload_n 0, 1) := by decide +kernel
theorem d_Rq_open_1 : decode b_Rq_open 1 = .ok (.iload_n 1, 1) := by decide +kernel
theorem d_Rq_open_2 : decode b_Rq_open 2 = .ok (.putfield 9, 3) := by decide +kernel
theorem d_Rq_open_5 : decode b_Rq_open 5 = .ok (.aload_n 0, 1) := by decide +kernel
theorem d_Rq_open_6 : decode b_Rq_open 6 = .ok (.iconst 0, 1) := by decide +kernel
theorem d_Rq_open_7 : decode b_Rq_open 7 = .ok (.putfield 13, 3) := by decide +kernel
theorem d_Rq_open_10 : decode b_Rq_open 10 = .ok (.aload_n 0, 1) := by decide +kernel
theorem d_Rq_open_11 : decode b_Rq_open 11 = .ok (.iconst 0, 1) := by decide +kernel
theorem d_Rq_open_12 : decode b_Rq_open 12 = .ok (.putfield 17, 3) := by decide +kernel
theorem d_Rq_open_15 : decode b_Rq_open 15 = .ok (.return_, 1) := by decide +kernel
theorem d_Ca_find_0 : decode b_Ca_find 0 = .ok (.iconst 0, 1) := by decide +kernel
theorem d_Ca_find_1 : decode b_Ca_find 1 = .ok (.istore_n 2, 1) := by decide +kernel
theorem d_Ca_find_2 : decode b_Ca_find 2 = .ok (.iload_n 2, 1) := by decide +kernel
theorem d_Ca_find_3 : decode b_Ca_find 3 = .ok (.iconst 3, 1) := by decide +kernel
theorem d_Ca_find_4 : decode b_Ca_find 4 = .ok (.if_icmp .ge 21, 3) := by decide +kernel
theorem d_Ca_find_7 : decode b_Ca_find 7 = .ok (.aload_n 0, 1) := by decide +kernel
theorem d_Ca_find_8 : decode b_Ca_find 8 = .ok (.getfield 9, 3) := by decide +kernel
theorem d_Ca_find_11 : decode b_Ca_find 11 = .ok (.iload_n 2, 1) := by decide +kernel
theorem d_Ca_find_12 : decode b_Ca_find 12 = .ok (.iaload, 1) := by decide +kernel
theorem d_Ca_find_13 : decode b_Ca_find 13 = .ok (.iload_n 1, 1) := by decide +kernel
theorem d_Ca_find_14 : decode b_Ca_find 14 = .ok (.if_icmp .ne 5, 3) := by decide +kernel
theorem d_Ca_find_17 : decode b_Ca_find 17 = .ok (.iload_n 2, 1) := by decide +kernel
theorem d_Ca_find_18 : decode b_Ca_find 18 = .ok (.ireturn, 1) := by decide +kernel
theorem d_Ca_find_19 : decode b_Ca_find 19 = .ok (.iinc 2 1, 3) := by decide +kernel
theorem d_Ca_find_22 : decode b_Ca_find 22 = .ok (.goto (-20), 3) := by decide +kernel
theorem d_Ca_find_25 : decode b_Ca_find 25 = .ok (.iconst (-1), 1) := by decide +kernel
theorem d_Ca_find_26 : decode b_Ca_find 26 = .ok (.ireturn, 1) := by decide +kernel
theorem d_Ca_slotToFill_0 : decode b_Ca_slotToFill 0 = .ok (.aload_n 0, 1) := by decide +kernel
theorem d_Ca_slotToFill_1 : decode b_Ca_slotToFill 1 = .ok (.iconst (-1), 1) := by decide +kernel
theorem d_Ca_slotToFill_2 : decode b_Ca_slotToFill 2 = .ok (.invokevirtual 31, 3) := by decide +kernel
theorem d_Ca_slotToFill_5 : decode b_Ca_slotToFill 5 = .ok (.istore_n 1, 1) := by decide +kernel
theorem d_Ca_slotToFill_6 : decode b_Ca_slotToFill 6 = .ok (.iload_n 1, 1) := by decide +kernel
theorem d_Ca_slotToFill_7 : decode b_Ca_slotToFill 7 = .ok (.iconst (-1), 1) := by decide +kernel
theorem d_Ca_slotToFill_8 : decode b_Ca_slotToFill 8 = .ok (.if_icmp .eq 5, 3) := by decide +kernel
theorem d_Ca_slotToFill_11 : decode b_Ca_slotToFill 11 = .ok (.iload_n 1, 1) := by decide +kernel
theorem d_Ca_slotToFill_12 : decode b_Ca_slotToFill 12 = .ok (.ireturn, 1) := by decide +kernel
theorem d_Ca_slotToFill_13 : decode b_Ca_slotToFill 13 = .ok (.iconst 0, 1) := by decide +kernel
theorem d_Ca_slotToFill_14 : decode b_Ca_slotToFill 14 = .ok (.istore_n 2, 1) := by decide +kernel
theorem d_Ca_slotToFill_15 : decode b_Ca_slotToFill 15 = .ok (.iconst 1, 1) := by decide +kernel
theorem d_Ca_slotToFill_16 : decode b_Ca_slotToFill 16 = .ok (.istore_n 3, 1) := by decide +kernel
theorem d_Ca_slotToFill_17 : decode b_Ca_slotToFill 17 = .ok (.iload_n 3, 1) := by decide +kernel
theorem d_Ca_slotToFill_18 : decode b_Ca_slotToFill 18 = .ok (.iconst 3, 1) := by decide +kernel
theorem d_Ca_slotToFill_19 : decode b_Ca_slotToFill 19 = .ok (.if_icmp .ge 26, 3) := by decide +kernel
theorem d_Ca_slotToFill_22 : decode b_Ca_slotToFill 22 = .ok (.aload_n 0, 1) := by decide +kernel
theorem d_Ca_slotToFill_23 : decode b_Ca_slotToFill 23 = .ok (.getfield 22, 3) := by decide +kernel
theorem d_Ca_slotToFill_26 : decode b_Ca_slotToFill 26 = .ok (.iload_n 3, 1) := by decide +kernel
theorem d_Ca_slotToFill_27 : decode b_Ca_slotToFill 27 = .ok (.iaload, 1) := by decide +kernel
theorem d_Ca_slotToFill_28 : decode b_Ca_slotToFill 28 = .ok (.aload_n 0, 1) := by decide +kernel
theorem d_Ca_slotToFill_29 : decode b_Ca_slotToFill 29 = .ok (.getfield 22, 3) := by decide +kernel
theorem d_Ca_slotToFill_32 : decode b_Ca_slotToFill 32 = .ok (.iload_n 2, 1) := by decide +kernel
theorem d_Ca_slotToFill_33 : decode b_Ca_slotToFill 33 = .ok (.iaload, 1) := by decide +kernel
theorem d_Ca_slotToFill_34 : decode b_Ca_slotToFill 34 = .ok (.if_icmp .ge 5, 3) := by decide +kernel
theorem d_Ca_slotToFill_37 : decode b_Ca_slotToFill 37 = .ok (.iload_n 3, 1) := by decide +kernel
theorem d_Ca_slotToFill_38 : decode b_Ca_slotToFill 38 = .ok (.istore_n 2, 1) := by decide +kernel
theorem d_Ca_slotToFill_39 : decode b_Ca_slotToFill 39 = .ok (.iinc 3 1, 3) := by decide +kernel
theorem d_Ca_slotToFill_42 : decode b_Ca_slotToFill 42 = .ok (.goto (-25), 3) := by decide +kernel
theorem d_Ca_slotToFill_45 : decode b_Ca_slotToFill 45 = .ok (.iload_n 2, 1) := by decide +kernel
theorem d_Ca_slotToFill_46 : decode b_Ca_slotToFill 46 = .ok (.ireturn, 1) := by decide +kernel
theorem d_Ca_empty_0 : decode b_Ca_empty 0 = .ok (.aload_n 0, 1) := by decide +kernel
theorem d_Ca_empty_1 : decode b_Ca_empty 1 = .ok (.iload_n 1, 1) := by decide +kernel
theorem d_Ca_empty_2 : decode b_Ca_empty 2 = .ok (.iconst (-1), 1) := by decide +kernel
theorem d_Ca_empty_3 : decode b_Ca_empty 3 = .ok (.iconst 0, 1) := by decide +kernel
theorem d_Ca_empty_4 : decode b_Ca_empty 4 = .ok (.iconst 0, 1) := by decide +kernel
theorem d_Ca_empty_5 : decode b_Ca_empty 5 = .ok (.invokevirtual 35, 3) := by decide +kernel
theorem d_Ca_empty_8 : decode b_Ca_empty 8 = .ok (.return_, 1) := by decide +kernel
theorem d_Ln_dropHead_0 : decode b_Ln_dropHead 0 = .ok (.iconst 1, 1) := by decide +kernel
theorem d_Ln_dropHead_1 : decode b_Ln_dropHead 1 = .ok (.istore_n 1, 1) := by decide +kernel
theorem d_Ln_dropHead_2 : decode b_Ln_dropHead 2 = .ok (.iload_n 1, 1) := by decide +kernel
theorem d_Ln_dropHead_3 : decode b_Ln_dropHead 3 = .ok (.aload_n 0, 1) := by decide +kernel
theorem d_Ln_dropHead_4 : decode b_Ln_dropHead 4 = .ok (.getfield 15, 3) := by decide +kernel
theorem d_Ln_dropHead_7 : decode b_Ln_dropHead 7 = .ok (.if_icmp .ge 23, 3) := by decide +kernel
theorem d_Ln_dropHead_10 : decode b_Ln_dropHead 10 = .ok (.aload_n 0, 1) := by decide +kernel
theorem d_Ln_dropHead_11 : decode b_Ln_dropHead 11 = .ok (.getfield 9, 3) := by decide +kernel
theorem d_Ln_dropHead_14 : decode b_Ln_dropHead 14 = .ok (.iload_n 1, 1) := by decide +kernel
theorem d_Ln_dropHead_15 : decode b_Ln_dropHead 15 = .ok (.iconst 1, 1) := by decide +kernel
theorem d_Ln_dropHead_16 : decode b_Ln_dropHead 16 = .ok (.isub, 1) := by decide +kernel
theorem d_Ln_dropHead_17 : decode b_Ln_dropHead 17 = .ok (.aload_n 0, 1) := by decide +kernel
theorem d_Ln_dropHead_18 : decode b_Ln_dropHead 18 = .ok (.getfield 9, 3) := by decide +kernel
theorem d_Ln_dropHead_21 : decode b_Ln_dropHead 21 = .ok (.iload_n 1, 1) := by decide +kernel
theorem d_Ln_dropHead_22 : decode b_Ln_dropHead 22 = .ok (.iaload, 1) := by decide +kernel
theorem d_Ln_dropHead_23 : decode b_Ln_dropHead 23 = .ok (.iastore, 1) := by decide +kernel
theorem d_Ln_dropHead_24 : decode b_Ln_dropHead 24 = .ok (.iinc 1 1, 3) := by decide +kernel
theorem d_Ln_dropHead_27 : decode b_Ln_dropHead 27 = .ok (.goto (-25), 3) := by decide +kernel
theorem d_Ln_dropHead_30 : decode b_Ln_dropHead 30 = .ok (.aload_n 0, 1) := by decide +kernel
theorem d_Ln_dropHead_31 : decode b_Ln_dropHead 31 = .ok (.aload_n 0, 1) := by decide +kernel
theorem d_Ln_dropHead_32 : decode b_Ln_dropHead 32 = .ok (.getfield 15, 3) := by decide +kernel
theorem d_Ln_dropHead_35 : decode b_Ln_dropHead 35 = .ok (.iconst 1, 1) := by decide +kernel
theorem d_Ln_dropHead_36 : decode b_Ln_dropHead 36 = .ok (.isub, 1) := by decide +kernel
theorem d_Ln_dropHead_37 : decode b_Ln_dropHead 37 = .ok (.iconst 0, 1) := by decide +kernel
theorem d_Ln_dropHead_38 : decode b_Ln_dropHead 38 = .ok (.invokestatic 19, 3) := by decide +kernel
theorem d_Ln_dropHead_41 : decode b_Ln_dropHead 41 = .ok (.putfield 15, 3) := by decide +kernel
theorem d_Ln_dropHead_44 : decode b_Ln_dropHead 44 = .ok (.return_, 1) := by decide +kernel
theorem d_Op_fail_0 : decode b_Op_fail 0 = .ok (.aload_n 0, 1) := by decide +kernel
theorem d_Op_fail_1 : decode b_Op_fail 1 = .ok (.iconst 3, 1) := by decide +kernel
theorem d_Op_fail_2 : decode b_Op_fail 2 = .ok (.putfield 22, 3) := by decide +kernel
theorem d_Op_fail_5 : decode b_Op_fail 5 = .ok (.aload_n 0, 1) := by decide +kernel
theorem d_Op_fail_6 : decode b_Op_fail 6 = .ok (.bipush (-5), 2) := by decide +kernel
theorem d_Op_fail_8 : decode b_Op_fail 8 = .ok (.putfield 25, 3) := by decide +kernel
theorem d_Op_fail_11 : decode b_Op_fail 11 = .ok (.return_, 1) := by decide +kernel
theorem d_Dr_suffer_0 : decode b_Dr_suffer 0 = .ok (.aload_n 0, 1) := by decide +kernel
theorem d_Dr_suffer_1 : decode b_Dr_suffer 1 = .ok (.getfield 11, 3) := by decide +kernel
theorem d_Dr_suffer_4 : decode b_Dr_suffer 4 = .ok (.iconst 2, 1) := by decide +kernel
theorem d_Dr_suffer_5 : decode b_Dr_suffer 5 = .ok (.if_icmp .eq 15, 3) := by decide +kernel
theorem d_Dr_suffer_8 : decode b_Dr_suffer 8 = .ok (.aload_n 0, 1) := by decide +kernel
theorem d_Dr_suffer_9 : decode b_Dr_suffer 9 = .ok (.getfield 11, 3) := by decide +kernel
theorem d_Dr_suffer_12 : decode b_Dr_suffer 12 = .ok (.iconst 1, 1) := by decide +kernel
theorem d_Dr_suffer_13 : decode b_Dr_suffer 13 = .ok (.if_icmp .ne 9, 3) := by decide +kernel
theorem d_Dr_suffer_16 : decode b_Dr_suffer 16 = .ok (.iload_n 1, 1) := by decide +kernel
theorem d_Dr_suffer_17 : decode b_Dr_suffer 17 = .ok (.ifCond .eq 5, 3) := by decide +kernel
theorem d_Dr_suffer_20 : decode b_Dr_suffer 20 = .ok (.iconst 0, 1) := by decide +kernel
theorem d_Dr_suffer_21 : decode b_Dr_suffer 21 = .ok (.ireturn, 1) := by decide +kernel
theorem d_Dr_suffer_22 : decode b_Dr_suffer 22 = .ok (.iload_n 1, 1) := by decide +kernel
theorem d_Dr_suffer_23 : decode b_Dr_suffer 23 = .ok (.ifCond .ne 10, 3) := by decide +kernel
theorem d_Dr_suffer_26 : decode b_Dr_suffer 26 = .ok (.aload_n 0, 1) := by decide +kernel
theorem d_Dr_suffer_27 : decode b_Dr_suffer 27 = .ok (.invokevirtual 25, 3) := by decide +kernel
theorem d_Dr_suffer_30 : decode b_Dr_suffer 30 = .ok (.goto 21, 3) := by decide +kernel
theorem d_Dr_suffer_33 : decode b_Dr_suffer 33 = .ok (.iload_n 1, 1) := by decide +kernel
theorem d_Dr_suffer_34 : decode b_Dr_suffer 34 = .ok (.iconst 1, 1) := by decide +kernel
theorem d_Dr_suffer_35 : decode b_Dr_suffer 35 = .ok (.if_icmp .ne 11, 3) := by decide +kernel
theorem d_Dr_suffer_38 : decode b_Dr_suffer 38 = .ok (.aload_n 0, 1) := by decide +kernel
theorem d_Dr_suffer_39 : decode b_Dr_suffer 39 = .ok (.iconst 1, 1) := by decide +kernel
theorem d_Dr_suffer_40 : decode b_Dr_suffer 40 = .ok (.putfield 11, 3) := by decide +kernel
theorem d_Dr_suffer_43 : decode b_Dr_suffer 43 = .ok (.goto 8, 3) := by decide +kernel
theorem d_Dr_suffer_46 : decode b_Dr_suffer 46 = .ok (.aload_n 0, 1) := by decide +kernel
theorem d_Dr_suffer_47 : decode b_Dr_suffer 47 = .ok (.iload_n 1, 1) := by decide +kernel
theorem d_Dr_suffer_48 : decode b_Dr_suffer 48 = .ok (.putfield 22, 3) := by decide +kernel
theorem d_Dr_suffer_51 : decode b_Dr_suffer 51 = .ok (.iconst 1, 1) := by decide +kernel
theorem d_Dr_suffer_52 : decode b_Dr_suffer 52 = .ok (.ireturn, 1) := by decide +kernel
theorem d_Rq_progress_0 : decode b_Rq_progress 0 = .ok (.aload_n 0, 1) := by decide +kernel
theorem d_Rq_progress_1 : decode b_Rq_progress 1 = .ok (.invokevirtual 34, 3) := by decide +kernel
theorem d_Rq_progress_4 : decode b_Rq_progress 4 = .ok (.ifCond .ne 5, 3) := by decide +kernel
theorem d_Rq_progress_7 : decode b_Rq_progress 7 = .ok (.iconst 0, 1) := by decide +kernel
theorem d_Rq_progress_8 : decode b_Rq_progress 8 = .ok (.ireturn, 1) := by decide +kernel
theorem d_Rq_progress_9 : decode b_Rq_progress 9 = .ok (.aload_n 0, 1) := by decide +kernel
theorem d_Rq_progress_10 : decode b_Rq_progress 10 = .ok (.getfield 13, 3) := by decide +kernel
theorem d_Rq_progress_13 : decode b_Rq_progress 13 = .ok (.ifCond .eq 7, 3) := by decide +kernel
theorem d_Rq_progress_16 : decode b_Rq_progress 16 = .ok (.iconst 2, 1) := by decide +kernel
theorem d_Rq_progress_17 : decode b_Rq_progress 17 = .ok (.goto 4, 3) := by decide +kernel
theorem d_Rq_progress_20 : decode b_Rq_progress 20 = .ok (.iconst 1, 1) := by decide +kernel
theorem d_Rq_progress_21 : decode b_Rq_progress 21 = .ok (.ireturn, 1) := by decide +kernel
