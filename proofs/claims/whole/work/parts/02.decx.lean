theorem dX_init_0 : decode cX_init 0 = .ok (.aload_n 0, 1) := by decide +kernel
theorem dX_init_1 : decode cX_init 1 = .ok (.invokespecial 1, 3) := by decide +kernel
theorem dX_init_4 : decode cX_init 4 = .ok (.aload_n 0, 1) := by decide +kernel
theorem dX_init_5 : decode cX_init 5 = .ok (.sipush 4096, 3) := by decide +kernel
theorem dX_init_8 : decode cX_init 8 = .ok (.newarray .int, 2) := by decide +kernel
theorem dX_init_10 : decode cX_init 10 = .ok (.putfield 9, 3) := by decide +kernel
theorem dX_init_13 : decode cX_init 13 = .ok (.aload_n 0, 1) := by decide +kernel
theorem dX_init_14 : decode cX_init 14 = .ok (.new 13, 3) := by decide +kernel
theorem dX_init_17 : decode cX_init 17 = .ok (.dup, 1) := by decide +kernel
theorem dX_init_18 : decode cX_init 18 = .ok (.invokespecial 15, 3) := by decide +kernel
theorem dX_init_21 : decode cX_init 21 = .ok (.putfield 16, 3) := by decide +kernel
theorem dX_init_24 : decode cX_init 24 = .ok (.aload_n 0, 1) := by decide +kernel
theorem dX_init_25 : decode cX_init 25 = .ok (.new 20, 3) := by decide +kernel
theorem dX_init_28 : decode cX_init 28 = .ok (.dup, 1) := by decide +kernel
theorem dX_init_29 : decode cX_init 29 = .ok (.iconst 0, 1) := by decide +kernel
theorem dX_init_30 : decode cX_init 30 = .ok (.bipush 100, 2) := by decide +kernel
theorem dX_init_32 : decode cX_init 32 = .ok (.iload_n 1, 1) := by decide +kernel
theorem dX_init_33 : decode cX_init 33 = .ok (.invokestatic 22, 3) := by decide +kernel
theorem dX_init_36 : decode cX_init 36 = .ok (.invokestatic 28, 3) := by decide +kernel
theorem dX_init_39 : decode cX_init 39 = .ok (.invokespecial 31, 3) := by decide +kernel
theorem dX_init_42 : decode cX_init 42 = .ok (.putfield 34, 3) := by decide +kernel
theorem dX_init_45 : decode cX_init 45 = .ok (.return_, 1) := by decide +kernel
theorem dX_init__0 : decode cX_init_ 0 = .ok (.aload_n 0, 1) := by decide +kernel
theorem dX_init__1 : decode cX_init_ 1 = .ok (.iconst 1, 1) := by decide +kernel
theorem dX_init__2 : decode cX_init_ 2 = .ok (.putfield 38, 3) := by decide +kernel
theorem dX_init__5 : decode cX_init_ 5 = .ok (.aload_n 0, 1) := by decide +kernel
theorem dX_init__6 : decode cX_init_ 6 = .ok (.iconst 0, 1) := by decide +kernel
theorem dX_init__7 : decode cX_init_ 7 = .ok (.putfield 42, 3) := by decide +kernel
theorem dX_init__10 : decode cX_init_ 10 = .ok (.aload_n 0, 1) := by decide +kernel
theorem dX_init__11 : decode cX_init_ 11 = .ok (.iconst 0, 1) := by decide +kernel
theorem dX_init__12 : decode cX_init_ 12 = .ok (.putfield 46, 3) := by decide +kernel
theorem dX_init__15 : decode cX_init_ 15 = .ok (.aload_n 0, 1) := by decide +kernel
theorem dX_init__16 : decode cX_init_ 16 = .ok (.iconst 0, 1) := by decide +kernel
theorem dX_init__17 : decode cX_init_ 17 = .ok (.putfield 49, 3) := by decide +kernel
theorem dX_init__20 : decode cX_init_ 20 = .ok (.aload_n 0, 1) := by decide +kernel
theorem dX_init__21 : decode cX_init_ 21 = .ok (.iconst 0, 1) := by decide +kernel
theorem dX_init__22 : decode cX_init_ 22 = .ok (.putfield 52, 3) := by decide +kernel
theorem dX_init__25 : decode cX_init_ 25 = .ok (.aload_n 0, 1) := by decide +kernel
theorem dX_init__26 : decode cX_init_ 26 = .ok (.iconst 0, 1) := by decide +kernel
theorem dX_init__27 : decode cX_init_ 27 = .ok (.putfield 55, 3) := by decide +kernel
theorem dX_init__30 : decode cX_init_ 30 = .ok (.aload_n 0, 1) := by decide +kernel
theorem dX_init__31 : decode cX_init_ 31 = .ok (.iconst 0, 1) := by decide +kernel
theorem dX_init__32 : decode cX_init_ 32 = .ok (.putfield 58, 3) := by decide +kernel
theorem dX_init__35 : decode cX_init_ 35 = .ok (.aload_n 0, 1) := by decide +kernel
theorem dX_init__36 : decode cX_init_ 36 = .ok (.iconst 0, 1) := by decide +kernel
theorem dX_init__37 : decode cX_init_ 37 = .ok (.putfield 61, 3) := by decide +kernel
theorem dX_init__40 : decode cX_init_ 40 = .ok (.aload_n 0, 1) := by decide +kernel
theorem dX_init__41 : decode cX_init_ 41 = .ok (.iconst 0, 1) := by decide +kernel
theorem dX_init__42 : decode cX_init_ 42 = .ok (.putfield 64, 3) := by decide +kernel
theorem dX_init__45 : decode cX_init_ 45 = .ok (.aload_n 0, 1) := by decide +kernel
theorem dX_init__46 : decode cX_init_ 46 = .ok (.iconst 0, 1) := by decide +kernel
theorem dX_init__47 : decode cX_init_ 47 = .ok (.putfield 67, 3) := by decide +kernel
theorem dX_init__50 : decode cX_init_ 50 = .ok (.aload_n 0, 1) := by decide +kernel
theorem dX_init__51 : decode cX_init_ 51 = .ok (.iconst 0, 1) := by decide +kernel
theorem dX_init__52 : decode cX_init_ 52 = .ok (.putfield 70, 3) := by decide +kernel
theorem dX_init__55 : decode cX_init_ 55 = .ok (.aload_n 0, 1) := by decide +kernel
theorem dX_init__56 : decode cX_init_ 56 = .ok (.iconst 0, 1) := by decide +kernel
theorem dX_init__57 : decode cX_init_ 57 = .ok (.putfield 73, 3) := by decide +kernel
theorem dX_init__60 : decode cX_init_ 60 = .ok (.aload_n 0, 1) := by decide +kernel
theorem dX_init__61 : decode cX_init_ 61 = .ok (.iconst 0, 1) := by decide +kernel
theorem dX_init__62 : decode cX_init_ 62 = .ok (.putfield 76, 3) := by decide +kernel
theorem dX_init__65 : decode cX_init_ 65 = .ok (.aload_n 0, 1) := by decide +kernel
theorem dX_init__66 : decode cX_init_ 66 = .ok (.getfield 16, 3) := by decide +kernel
theorem dX_init__69 : decode cX_init_ 69 = .ok (.invokevirtual 79, 3) := by decide +kernel
theorem dX_init__72 : decode cX_init_ 72 = .ok (.aload_n 0, 1) := by decide +kernel
theorem dX_init__73 : decode cX_init_ 73 = .ok (.getfield 34, 3) := by decide +kernel
theorem dX_init__76 : decode cX_init_ 76 = .ok (.invokevirtual 82, 3) := by decide +kernel
theorem dX_init__79 : decode cX_init_ 79 = .ok (.return_, 1) := by decide +kernel
theorem dX_deposit_0 : decode cX_deposit 0 = .ok (.iload_n 1, 1) := by decide +kernel
theorem dX_deposit_1 : decode cX_deposit 1 = .ok (.invokestatic 83, 3) := by decide +kernel
theorem dX_deposit_4 : decode cX_deposit 4 = .ok (.ifCond .ne 5, 3) := by decide +kernel
theorem dX_deposit_7 : decode cX_deposit 7 = .ok (.iconst 0, 1) := by decide +kernel
theorem dX_deposit_8 : decode cX_deposit 8 = .ok (.ireturn, 1) := by decide +kernel
theorem dX_deposit_9 : decode cX_deposit 9 = .ok (.aload_n 0, 1) := by decide +kernel
theorem dX_deposit_10 : decode cX_deposit 10 = .ok (.iload_n 1, 1) := by decide +kernel
theorem dX_deposit_11 : decode cX_deposit 11 = .ok (.iload_n 2, 1) := by decide +kernel
theorem dX_deposit_12 : decode cX_deposit 12 = .ok (.invokevirtual 87, 3) := by decide +kernel
theorem dX_deposit_15 : decode cX_deposit 15 = .ok (.iconst 1, 1) := by decide +kernel
theorem dX_deposit_16 : decode cX_deposit 16 = .ok (.ireturn, 1) := by decide +kernel
theorem dX_examine_0 : decode cX_examine 0 = .ok (.iload_n 1, 1) := by decide +kernel
theorem dX_examine_1 : decode cX_examine 1 = .ok (.invokestatic 83, 3) := by decide +kernel
theorem dX_examine_4 : decode cX_examine 4 = .ok (.ifCond .eq 11, 3) := by decide +kernel
theorem dX_examine_7 : decode cX_examine 7 = .ok (.aload_n 0, 1) := by decide +kernel
theorem dX_examine_8 : decode cX_examine 8 = .ok (.iload_n 1, 1) := by decide +kernel
theorem dX_examine_9 : decode cX_examine 9 = .ok (.invokevirtual 91, 3) := by decide +kernel
theorem dX_examine_12 : decode cX_examine 12 = .ok (.goto 4, 3) := by decide +kernel
theorem dX_examine_15 : decode cX_examine 15 = .ok (.iconst (-1), 1) := by decide +kernel
theorem dX_examine_16 : decode cX_examine 16 = .ok (.ireturn, 1) := by decide +kernel
theorem dX_load_0 : decode cX_load 0 = .ok (.iload_n 2, 1) := by decide +kernel
theorem dX_load_1 : decode cX_load 1 = .ok (.iconst 1, 1) := by decide +kernel
theorem dX_load_2 : decode cX_load 2 = .ok (.if_icmp .lt 15, 3) := by decide +kernel
theorem dX_load_5 : decode cX_load 5 = .ok (.iload_n 2, 1) := by decide +kernel
theorem dX_load_6 : decode cX_load 6 = .ok (.iconst 5, 1) := by decide +kernel
theorem dX_load_7 : decode cX_load 7 = .ok (.if_icmp .gt 10, 3) := by decide +kernel
theorem dX_load_10 : decode cX_load 10 = .ok (.iload_n 1, 1) := by decide +kernel
theorem dX_load_11 : decode cX_load 11 = .ok (.invokestatic 83, 3) := by decide +kernel
theorem dX_load_14 : decode cX_load 14 = .ok (.ifCond .ne 5, 3) := by decide +kernel
theorem dX_load_17 : decode cX_load 17 = .ok (.iconst 0, 1) := by decide +kernel
theorem dX_load_18 : decode cX_load 18 = .ok (.ireturn, 1) := by decide +kernel
theorem dX_load_19 : decode cX_load 19 = .ok (.iconst 0, 1) := by decide +kernel
theorem dX_load_20 : decode cX_load 20 = .ok (.istore 5, 2) := by decide +kernel
theorem dX_load_22 : decode cX_load 22 = .ok (.iload 5, 2) := by decide +kernel
theorem dX_load_24 : decode cX_load 24 = .ok (.iload_n 2, 1) := by decide +kernel
theorem dX_load_25 : decode cX_load 25 = .ok (.if_icmp .ge 29, 3) := by decide +kernel
theorem dX_load_28 : decode cX_load 28 = .ok (.aload_n 0, 1) := by decide +kernel
theorem dX_load_29 : decode cX_load 29 = .ok (.iload_n 1, 1) := by decide +kernel
theorem dX_load_30 : decode cX_load 30 = .ok (.iload 5, 2) := by decide +kernel
theorem dX_load_32 : decode cX_load 32 = .ok (.iadd, 1) := by decide +kernel
theorem dX_load_33 : decode cX_load 33 = .ok (.lload_n 3, 1) := by decide +kernel
theorem dX_load_34 : decode cX_load 34 = .ok (.bipush 12, 2) := by decide +kernel
theorem dX_load_36 : decode cX_load 36 = .ok (.iload_n 2, 1) := by decide +kernel
theorem dX_load_37 : decode cX_load 37 = .ok (.iconst 1, 1) := by decide +kernel
theorem dX_load_38 : decode cX_load 38 = .ok (.isub, 1) := by decide +kernel
theorem dX_load_39 : decode cX_load 39 = .ok (.iload 5, 2) := by decide +kernel
theorem dX_load_41 : decode cX_load 41 = .ok (.isub, 1) := by decide +kernel
theorem dX_load_42 : decode cX_load 42 = .ok (.imul, 1) := by decide +kernel
theorem dX_load_43 : decode cX_load 43 = .ok (.lushr, 1) := by decide +kernel
theorem dX_load_44 : decode cX_load 44 = .ok (.l2i, 1) := by decide +kernel
theorem dX_load_45 : decode cX_load 45 = .ok (.invokevirtual 87, 3) := by decide +kernel
theorem dX_load_48 : decode cX_load 48 = .ok (.iinc 5 1, 3) := by decide +kernel
theorem dX_load_51 : decode cX_load 51 = .ok (.goto (-29), 3) := by decide +kernel
theorem dX_load_54 : decode cX_load 54 = .ok (.iconst 1, 1) := by decide +kernel
theorem dX_load_55 : decode cX_load 55 = .ok (.ireturn, 1) := by decide +kernel
theorem dX_start_0 : decode cX_start 0 = .ok (.aload_n 0, 1) := by decide +kernel
theorem dX_start_1 : decode cX_start 1 = .ok (.getfield 38, 3) := by decide +kernel
theorem dX_start_4 : decode cX_start 4 = .ok (.ifCond .eq 10, 3) := by decide +kernel
theorem dX_start_7 : decode cX_start 7 = .ok (.aload_n 0, 1) := by decide +kernel
theorem dX_start_8 : decode cX_start 8 = .ok (.getfield 73, 3) := by decide +kernel
theorem dX_start_11 : decode cX_start 11 = .ok (.ifCond .eq 5, 3) := by decide +kernel
theorem dX_start_14 : decode cX_start 14 = .ok (.iconst 0, 1) := by decide +kernel
theorem dX_start_15 : decode cX_start 15 = .ok (.ireturn, 1) := by decide +kernel
theorem dX_start_16 : decode cX_start 16 = .ok (.aload_n 0, 1) := by decide +kernel
theorem dX_start_17 : decode cX_start 17 = .ok (.iload_n 1, 1) := by decide +kernel
theorem dX_start_18 : decode cX_start 18 = .ok (.sipush 4095, 3) := by decide +kernel
theorem dX_start_21 : decode cX_start 21 = .ok (.iand, 1) := by decide +kernel
theorem dX_start_22 : decode cX_start 22 = .ok (.putfield 42, 3) := by decide +kernel
theorem dX_start_25 : decode cX_start 25 = .ok (.aload_n 0, 1) := by decide +kernel
theorem dX_start_26 : decode cX_start 26 = .ok (.iconst 0, 1) := by decide +kernel
theorem dX_start_27 : decode cX_start 27 = .ok (.putfield 70, 3) := by decide +kernel
theorem dX_start_30 : decode cX_start 30 = .ok (.iconst 1, 1) := by decide +kernel
theorem dX_start_31 : decode cX_start 31 = .ok (.ireturn, 1) := by decide +kernel
theorem dX_switches_0 : decode cX_switches 0 = .ok (.aload_n 0, 1) := by decide +kernel
theorem dX_switches_1 : decode cX_switches 1 = .ok (.iload_n 1, 1) := by decide +kernel
theorem dX_switches_2 : decode cX_switches 2 = .ok (.sipush 4095, 3) := by decide +kernel
theorem dX_switches_5 : decode cX_switches 5 = .ok (.iand, 1) := by decide +kernel
theorem dX_switches_6 : decode cX_switches 6 = .ok (.putfield 95, 3) := by decide +kernel
theorem dX_switches_9 : decode cX_switches 9 = .ok (.return_, 1) := by decide +kernel
theorem dX_key_0 : decode cX_key 0 = .ok (.aload_n 0, 1) := by decide +kernel
theorem dX_key_1 : decode cX_key 1 = .ok (.getfield 16, 3) := by decide +kernel
theorem dX_key_4 : decode cX_key 4 = .ok (.iload_n 1, 1) := by decide +kernel
theorem dX_key_5 : decode cX_key 5 = .ok (.invokevirtual 98, 3) := by decide +kernel
theorem dX_key_8 : decode cX_key 8 = .ok (.return_, 1) := by decide +kernel
theorem dX_microStep_0 : decode cX_microStep 0 = .ok (.aload_n 0, 1) := by decide +kernel
theorem dX_microStep_1 : decode cX_microStep 1 = .ok (.getfield 38, 3) := by decide +kernel
theorem dX_microStep_4 : decode cX_microStep 4 = .ok (.ifCond .ne 5, 3) := by decide +kernel
theorem dX_microStep_7 : decode cX_microStep 7 = .ok (.iconst 3, 1) := by decide +kernel
theorem dX_microStep_8 : decode cX_microStep 8 = .ok (.ireturn, 1) := by decide +kernel
theorem dX_microStep_9 : decode cX_microStep 9 = .ok (.aload_n 0, 1) := by decide +kernel
theorem dX_microStep_10 : decode cX_microStep 10 = .ok (.getfield 73, 3) := by decide +kernel
theorem dX_microStep_13 : decode cX_microStep 13 = .ok (.ifCond .ne 12, 3) := by decide +kernel
theorem dX_microStep_16 : decode cX_microStep 16 = .ok (.aload_n 0, 1) := by decide +kernel
theorem dX_microStep_17 : decode cX_microStep 17 = .ok (.getfield 70, 3) := by decide +kernel
theorem dX_microStep_20 : decode cX_microStep 20 = .ok (.ifCond .eq 5, 3) := by decide +kernel
theorem dX_microStep_23 : decode cX_microStep 23 = .ok (.iconst 2, 1) := by decide +kernel
theorem dX_microStep_24 : decode cX_microStep 24 = .ok (.ireturn, 1) := by decide +kernel
theorem dX_microStep_25 : decode cX_microStep 25 = .ok (.aload_n 0, 1) := by decide +kernel
theorem dX_microStep_26 : decode cX_microStep 26 = .ok (.getfield 73, 3) := by decide +kernel
theorem dX_microStep_29 : decode cX_microStep 29 = .ok (.bipush 37, 2) := by decide +kernel
theorem dX_microStep_31 : decode cX_microStep 31 = .ok (.if_icmp .ne 15, 3) := by decide +kernel
theorem dX_microStep_34 : decode cX_microStep 34 = .ok (.aload_n 0, 1) := by decide +kernel
theorem dX_microStep_35 : decode cX_microStep 35 = .ok (.getfield 34, 3) := by decide +kernel
theorem dX_microStep_38 : decode cX_microStep 38 = .ok (.invokevirtual 101, 3) := by decide +kernel
theorem dX_microStep_41 : decode cX_microStep 41 = .ok (.ifCond .eq 5, 3) := by decide +kernel
theorem dX_microStep_44 : decode cX_microStep 44 = .ok (.iconst 4, 1) := by decide +kernel
theorem dX_microStep_45 : decode cX_microStep 45 = .ok (.ireturn, 1) := by decide +kernel
theorem dX_microStep_46 : decode cX_microStep 46 = .ok (.aload_n 0, 1) := by decide +kernel
theorem dX_microStep_47 : decode cX_microStep 47 = .ok (.aload_n 0, 1) := by decide +kernel
theorem dX_microStep_48 : decode cX_microStep 48 = .ok (.aload_n 0, 1) := by decide +kernel
theorem dX_microStep_49 : decode cX_microStep 49 = .ok (.getfield 73, 3) := by decide +kernel
theorem dX_microStep_52 : decode cX_microStep 52 = .ok (.invokevirtual 105, 3) := by decide +kernel
theorem dX_microStep_55 : decode cX_microStep 55 = .ok (.putfield 73, 3) := by decide +kernel
theorem dX_microStep_58 : decode cX_microStep 58 = .ok (.aload_n 0, 1) := by decide +kernel
theorem dX_microStep_59 : decode cX_microStep 59 = .ok (.dup, 1) := by decide +kernel
theorem dX_microStep_60 : decode cX_microStep 60 = .ok (.getfield 76, 3) := by decide +kernel
theorem dX_microStep_63 : decode cX_microStep 63 = .ok (.iconst 1, 1) := by decide +kernel
theorem dX_microStep_64 : decode cX_microStep 64 = .ok (.iadd, 1) := by decide +kernel
theorem dX_microStep_65 : decode cX_microStep 65 = .ok (.putfield 76, 3) := by decide +kernel
theorem dX_microStep_68 : decode cX_microStep 68 = .ok (.aload_n 0, 1) := by decide +kernel
theorem dX_microStep_69 : decode cX_microStep 69 = .ok (.getfield 73, 3) := by decide +kernel
theorem dX_microStep_72 : decode cX_microStep 72 = .ok (.ifCond .ne 7, 3) := by decide +kernel
theorem dX_microStep_75 : decode cX_microStep 75 = .ok (.iconst 1, 1) := by decide +kernel
theorem dX_microStep_76 : decode cX_microStep 76 = .ok (.goto 4, 3) := by decide +kernel
theorem dX_microStep_79 : decode cX_microStep 79 = .ok (.iconst 0, 1) := by decide +kernel
theorem dX_microStep_80 : decode cX_microStep 80 = .ok (.ireturn, 1) := by decide +kernel
theorem dX_step_0 : decode cX_step 0 = .ok (.aload_n 0, 1) := by decide +kernel
theorem dX_step_1 : decode cX_step 1 = .ok (.invokevirtual 108, 3) := by decide +kernel
theorem dX_step_4 : decode cX_step 4 = .ok (.istore_n 1, 1) := by decide +kernel
theorem dX_step_5 : decode cX_step 5 = .ok (.iconst 1, 1) := by decide +kernel
theorem dX_step_6 : decode cX_step 6 = .ok (.istore_n 2, 1) := by decide +kernel
theorem dX_step_7 : decode cX_step 7 = .ok (.iload_n 2, 1) := by decide +kernel
theorem dX_step_8 : decode cX_step 8 = .ok (.bipush 64, 2) := by decide +kernel
theorem dX_step_10 : decode cX_step 10 = .ok (.if_icmp .ge 18, 3) := by decide +kernel
theorem dX_step_13 : decode cX_step 13 = .ok (.iload_n 1, 1) := by decide +kernel
theorem dX_step_14 : decode cX_step 14 = .ok (.ifCond .ne 14, 3) := by decide +kernel
theorem dX_step_17 : decode cX_step 17 = .ok (.aload_n 0, 1) := by decide +kernel
theorem dX_step_18 : decode cX_step 18 = .ok (.invokevirtual 108, 3) := by decide +kernel
theorem dX_step_21 : decode cX_step 21 = .ok (.istore_n 1, 1) := by decide +kernel
theorem dX_step_22 : decode cX_step 22 = .ok (.iinc 2 1, 3) := by decide +kernel
theorem dX_step_25 : decode cX_step 25 = .ok (.goto (-18), 3) := by decide +kernel
theorem dX_step_28 : decode cX_step 28 = .ok (.iload_n 1, 1) := by decide +kernel
theorem dX_step_29 : decode cX_step 29 = .ok (.iconst 1, 1) := by decide +kernel
theorem dX_step_30 : decode cX_step 30 = .ok (.if_icmp .ne 7, 3) := by decide +kernel
theorem dX_step_33 : decode cX_step 33 = .ok (.iconst 0, 1) := by decide +kernel
theorem dX_step_34 : decode cX_step 34 = .ok (.goto 4, 3) := by decide +kernel
theorem dX_step_37 : decode cX_step 37 = .ok (.iload_n 1, 1) := by decide +kernel
theorem dX_step_38 : decode cX_step 38 = .ok (.ireturn, 1) := by decide +kernel
theorem dX_run_0 : decode cX_run 0 = .ok (.iload_n 1, 1) := by decide +kernel
theorem dX_run_1 : decode cX_run 1 = .ok (.ifCond .lt 10, 3) := by decide +kernel
theorem dX_run_4 : decode cX_run 4 = .ok (.iload_n 1, 1) := by decide +kernel
theorem dX_run_5 : decode cX_run 5 = .ok (.sipush 500, 3) := by decide +kernel
theorem dX_run_8 : decode cX_run 8 = .ok (.if_icmp .le 5, 3) := by decide +kernel
theorem dX_run_11 : decode cX_run 11 = .ok (.iconst (-1), 1) := by decide +kernel
theorem dX_run_12 : decode cX_run 12 = .ok (.ireturn, 1) := by decide +kernel
theorem dX_run_13 : decode cX_run 13 = .ok (.iconst 0, 1) := by decide +kernel
theorem dX_run_14 : decode cX_run 14 = .ok (.istore_n 2, 1) := by decide +kernel
theorem dX_run_15 : decode cX_run 15 = .ok (.iload_n 2, 1) := by decide +kernel
theorem dX_run_16 : decode cX_run 16 = .ok (.iload_n 1, 1) := by decide +kernel
theorem dX_run_17 : decode cX_run 17 = .ok (.if_icmp .ge 16, 3) := by decide +kernel
theorem dX_run_20 : decode cX_run 20 = .ok (.aload_n 0, 1) := by decide +kernel
theorem dX_run_21 : decode cX_run 21 = .ok (.invokevirtual 112, 3) := by decide +kernel
theorem dX_run_24 : decode cX_run 24 = .ok (.ifCond .ne 9, 3) := by decide +kernel
theorem dX_run_27 : decode cX_run 27 = .ok (.iinc 2 1, 3) := by decide +kernel
theorem dX_run_30 : decode cX_run 30 = .ok (.goto (-15), 3) := by decide +kernel
theorem dX_run_33 : decode cX_run 33 = .ok (.iload_n 2, 1) := by decide +kernel
theorem dX_run_34 : decode cX_run 34 = .ok (.ireturn, 1) := by decide +kernel
theorem dX_look_0 : decode cX_look 0 = .ok (.iload_n 1, 1) := by decide +kernel
theorem dX_look_1 : decode cX_look 1 = .ok (.tableswitch 117 0 10 #[59, 64, 69, 74, 79, 84, 89, 94, 99, 104, 112], 59) := by decide +kernel
theorem dX_look_60 : decode cX_look 60 = .ok (.aload_n 0, 1) := by decide +kernel
theorem dX_look_61 : decode cX_look 61 = .ok (.getfield 42, 3) := by decide +kernel
theorem dX_look_64 : decode cX_look 64 = .ok (.ireturn, 1) := by decide +kernel
theorem dX_look_65 : decode cX_look 65 = .ok (.aload_n 0, 1) := by decide +kernel
theorem dX_look_66 : decode cX_look 66 = .ok (.getfield 46, 3) := by decide +kernel
theorem dX_look_69 : decode cX_look 69 = .ok (.ireturn, 1) := by decide +kernel
theorem dX_look_70 : decode cX_look 70 = .ok (.aload_n 0, 1) := by decide +kernel
theorem dX_look_71 : decode cX_look 71 = .ok (.getfield 49, 3) := by decide +kernel
theorem dX_look_74 : decode cX_look 74 = .ok (.ireturn, 1) := by decide +kernel
theorem dX_look_75 : decode cX_look 75 = .ok (.aload_n 0, 1) := by decide +kernel
theorem dX_look_76 : decode cX_look 76 = .ok (.getfield 52, 3) := by decide +kernel
theorem dX_look_79 : decode cX_look 79 = .ok (.ireturn, 1) := by decide +kernel
theorem dX_look_80 : decode cX_look 80 = .ok (.aload_n 0, 1) := by decide +kernel
theorem dX_look_81 : decode cX_look 81 = .ok (.getfield 55, 3) := by decide +kernel
theorem dX_look_84 : decode cX_look 84 = .ok (.ireturn, 1) := by decide +kernel
theorem dX_look_85 : decode cX_look 85 = .ok (.aload_n 0, 1) := by decide +kernel
theorem dX_look_86 : decode cX_look 86 = .ok (.getfield 58, 3) := by decide +kernel
theorem dX_look_89 : decode cX_look 89 = .ok (.ireturn, 1) := by decide +kernel
theorem dX_look_90 : decode cX_look 90 = .ok (.aload_n 0, 1) := by decide +kernel
theorem dX_look_91 : decode cX_look 91 = .ok (.getfield 61, 3) := by decide +kernel
theorem dX_look_94 : decode cX_look 94 = .ok (.ireturn, 1) := by decide +kernel
theorem dX_look_95 : decode cX_look 95 = .ok (.aload_n 0, 1) := by decide +kernel
theorem dX_look_96 : decode cX_look 96 = .ok (.getfield 73, 3) := by decide +kernel
theorem dX_look_99 : decode cX_look 99 = .ok (.ireturn, 1) := by decide +kernel
theorem dX_look_100 : decode cX_look 100 = .ok (.aload_n 0, 1) := by decide +kernel
theorem dX_look_101 : decode cX_look 101 = .ok (.invokevirtual 115, 3) := by decide +kernel
theorem dX_look_104 : decode cX_look 104 = .ok (.ireturn, 1) := by decide +kernel
theorem dX_look_105 : decode cX_look 105 = .ok (.aload_n 0, 1) := by decide +kernel
theorem dX_look_106 : decode cX_look 106 = .ok (.getfield 16, 3) := by decide +kernel
theorem dX_look_109 : decode cX_look 109 = .ok (.getfield 118, 3) := by decide +kernel
theorem dX_look_112 : decode cX_look 112 = .ok (.ireturn, 1) := by decide +kernel
theorem dX_look_113 : decode cX_look 113 = .ok (.aload_n 0, 1) := by decide +kernel
theorem dX_look_114 : decode cX_look 114 = .ok (.getfield 76, 3) := by decide +kernel
theorem dX_look_117 : decode cX_look 117 = .ok (.ireturn, 1) := by decide +kernel
theorem dX_look_118 : decode cX_look 118 = .ok (.iconst (-1), 1) := by decide +kernel
theorem dX_look_119 : decode cX_look 119 = .ok (.ireturn, 1) := by decide +kernel
theorem dX_printed_0 : decode cX_printed 0 = .ok (.iload_n 1, 1) := by decide +kernel
theorem dX_printed_1 : decode cX_printed 1 = .ok (.iconst (-1), 1) := by decide +kernel
theorem dX_printed_2 : decode cX_printed 2 = .ok (.if_icmp .ne 13, 3) := by decide +kernel
theorem dX_printed_5 : decode cX_printed 5 = .ok (.aload_n 0, 1) := by decide +kernel
theorem dX_printed_6 : decode cX_printed 6 = .ok (.getfield 34, 3) := by decide +kernel
theorem dX_printed_9 : decode cX_printed 9 = .ok (.getfield 121, 3) := by decide +kernel
theorem dX_printed_12 : decode cX_printed 12 = .ok (.goto 11, 3) := by decide +kernel
theorem dX_printed_15 : decode cX_printed 15 = .ok (.aload_n 0, 1) := by decide +kernel
theorem dX_printed_16 : decode cX_printed 16 = .ok (.getfield 34, 3) := by decide +kernel
theorem dX_printed_19 : decode cX_printed 19 = .ok (.iload_n 1, 1) := by decide +kernel
theorem dX_printed_20 : decode cX_printed 20 = .ok (.invokevirtual 124, 3) := by decide +kernel
theorem dX_printed_23 : decode cX_printed 23 = .ok (.ireturn, 1) := by decide +kernel
theorem dX_conditions_0 : decode cX_conditions 0 = .ok (.aload_n 0, 1) := by decide +kernel
theorem dX_conditions_1 : decode cX_conditions 1 = .ok (.getfield 64, 3) := by decide +kernel
theorem dX_conditions_4 : decode cX_conditions 4 = .ok (.ifCond .eq 7, 3) := by decide +kernel
theorem dX_conditions_7 : decode cX_conditions 7 = .ok (.iconst 1, 1) := by decide +kernel
theorem dX_conditions_8 : decode cX_conditions 8 = .ok (.goto 4, 3) := by decide +kernel
theorem dX_conditions_11 : decode cX_conditions 11 = .ok (.iconst 0, 1) := by decide +kernel
theorem dX_conditions_12 : decode cX_conditions 12 = .ok (.aload_n 0, 1) := by decide +kernel
theorem dX_conditions_13 : decode cX_conditions 13 = .ok (.getfield 67, 3) := by decide +kernel
theorem dX_conditions_16 : decode cX_conditions 16 = .ok (.ifCond .eq 7, 3) := by decide +kernel
theorem dX_conditions_19 : decode cX_conditions 19 = .ok (.iconst 2, 1) := by decide +kernel
theorem dX_conditions_20 : decode cX_conditions 20 = .ok (.goto 4, 3) := by decide +kernel
theorem dX_conditions_23 : decode cX_conditions 23 = .ok (.iconst 0, 1) := by decide +kernel
theorem dX_conditions_24 : decode cX_conditions 24 = .ok (.iadd, 1) := by decide +kernel
theorem dX_conditions_25 : decode cX_conditions 25 = .ok (.aload_n 0, 1) := by decide +kernel
theorem dX_conditions_26 : decode cX_conditions 26 = .ok (.getfield 70, 3) := by decide +kernel
theorem dX_conditions_29 : decode cX_conditions 29 = .ok (.ifCond .eq 7, 3) := by decide +kernel
theorem dX_conditions_32 : decode cX_conditions 32 = .ok (.iconst 4, 1) := by decide +kernel
theorem dX_conditions_33 : decode cX_conditions 33 = .ok (.goto 4, 3) := by decide +kernel
theorem dX_conditions_36 : decode cX_conditions 36 = .ok (.iconst 0, 1) := by decide +kernel
theorem dX_conditions_37 : decode cX_conditions 37 = .ok (.iadd, 1) := by decide +kernel
theorem dX_conditions_38 : decode cX_conditions 38 = .ok (.aload_n 0, 1) := by decide +kernel
theorem dX_conditions_39 : decode cX_conditions 39 = .ok (.getfield 16, 3) := by decide +kernel
theorem dX_conditions_42 : decode cX_conditions 42 = .ok (.getfield 127, 3) := by decide +kernel
theorem dX_conditions_45 : decode cX_conditions 45 = .ok (.ifCond .eq 8, 3) := by decide +kernel
theorem dX_conditions_48 : decode cX_conditions 48 = .ok (.bipush 8, 2) := by decide +kernel
theorem dX_conditions_50 : decode cX_conditions 50 = .ok (.goto 4, 3) := by decide +kernel
theorem dX_conditions_53 : decode cX_conditions 53 = .ok (.iconst 0, 1) := by decide +kernel
theorem dX_conditions_54 : decode cX_conditions 54 = .ok (.iadd, 1) := by decide +kernel
theorem dX_conditions_55 : decode cX_conditions 55 = .ok (.aload_n 0, 1) := by decide +kernel
theorem dX_conditions_56 : decode cX_conditions 56 = .ok (.getfield 34, 3) := by decide +kernel
theorem dX_conditions_59 : decode cX_conditions 59 = .ok (.getfield 130, 3) := by decide +kernel
theorem dX_conditions_62 : decode cX_conditions 62 = .ok (.ifCond .eq 8, 3) := by decide +kernel
theorem dX_conditions_65 : decode cX_conditions 65 = .ok (.bipush 16, 2) := by decide +kernel
theorem dX_conditions_67 : decode cX_conditions 67 = .ok (.goto 4, 3) := by decide +kernel
theorem dX_conditions_70 : decode cX_conditions 70 = .ok (.iconst 0, 1) := by decide +kernel
theorem dX_conditions_71 : decode cX_conditions 71 = .ok (.iadd, 1) := by decide +kernel
theorem dX_conditions_72 : decode cX_conditions 72 = .ok (.ireturn, 1) := by decide +kernel
theorem dX_isAddress_0 : decode cX_isAddress 0 = .ok (.iload_n 0, 1) := by decide +kernel
theorem dX_isAddress_1 : decode cX_isAddress 1 = .ok (.ifCond .lt 14, 3) := by decide +kernel
theorem dX_isAddress_4 : decode cX_isAddress 4 = .ok (.iload_n 0, 1) := by decide +kernel
theorem dX_isAddress_5 : decode cX_isAddress 5 = .ok (.sipush 4096, 3) := by decide +kernel
theorem dX_isAddress_8 : decode cX_isAddress 8 = .ok (.if_icmp .ge 7, 3) := by decide +kernel
theorem dX_isAddress_11 : decode cX_isAddress 11 = .ok (.iconst 1, 1) := by decide +kernel
theorem dX_isAddress_12 : decode cX_isAddress 12 = .ok (.goto 4, 3) := by decide +kernel
theorem dX_isAddress_15 : decode cX_isAddress 15 = .ok (.iconst 0, 1) := by decide +kernel
theorem dX_isAddress_16 : decode cX_isAddress 16 = .ok (.ireturn, 1) := by decide +kernel
theorem dX_read_0 : decode cX_read 0 = .ok (.aload_n 0, 1) := by decide +kernel
theorem dX_read_1 : decode cX_read 1 = .ok (.getfield 9, 3) := by decide +kernel
theorem dX_read_4 : decode cX_read 4 = .ok (.iload_n 1, 1) := by decide +kernel
theorem dX_read_5 : decode cX_read 5 = .ok (.sipush 4095, 3) := by decide +kernel
theorem dX_read_8 : decode cX_read 8 = .ok (.iand, 1) := by decide +kernel
theorem dX_read_9 : decode cX_read 9 = .ok (.iaload, 1) := by decide +kernel
theorem dX_read_10 : decode cX_read 10 = .ok (.ireturn, 1) := by decide +kernel
theorem dX_write_0 : decode cX_write 0 = .ok (.aload_n 0, 1) := by decide +kernel
theorem dX_write_1 : decode cX_write 1 = .ok (.getfield 9, 3) := by decide +kernel
theorem dX_write_4 : decode cX_write 4 = .ok (.iload_n 1, 1) := by decide +kernel
theorem dX_write_5 : decode cX_write 5 = .ok (.sipush 4095, 3) := by decide +kernel
theorem dX_write_8 : decode cX_write 8 = .ok (.iand, 1) := by decide +kernel
theorem dX_write_9 : decode cX_write 9 = .ok (.iload_n 2, 1) := by decide +kernel
theorem dX_write_10 : decode cX_write 10 = .ok (.sipush 4095, 3) := by decide +kernel
theorem dX_write_13 : decode cX_write 13 = .ok (.iand, 1) := by decide +kernel
theorem dX_write_14 : decode cX_write 14 = .ok (.iastore, 1) := by decide +kernel
theorem dX_write_15 : decode cX_write 15 = .ok (.return_, 1) := by decide +kernel
theorem dX_irHas_0 : decode cX_irHas 0 = .ok (.aload_n 0, 1) := by decide +kernel
theorem dX_irHas_1 : decode cX_irHas 1 = .ok (.getfield 61, 3) := by decide +kernel
theorem dX_irHas_4 : decode cX_irHas 4 = .ok (.iload_n 1, 1) := by decide +kernel
theorem dX_irHas_5 : decode cX_irHas 5 = .ok (.iand, 1) := by decide +kernel
theorem dX_irHas_6 : decode cX_irHas 6 = .ok (.ifCond .eq 7, 3) := by decide +kernel
theorem dX_irHas_9 : decode cX_irHas 9 = .ok (.iconst 1, 1) := by decide +kernel
theorem dX_irHas_10 : decode cX_irHas 10 = .ok (.goto 4, 3) := by decide +kernel
theorem dX_irHas_13 : decode cX_irHas 13 = .ok (.iconst 0, 1) := by decide +kernel
theorem dX_irHas_14 : decode cX_irHas 14 = .ok (.ireturn, 1) := by decide +kernel
theorem dX_perform_0 : decode cX_perform 0 = .ok (.iload_n 1, 1) := by decide +kernel
theorem dX_perform_1 : decode cX_perform 1 = .ok (.tableswitch 379 0 41 #[183, 188, 193, 198, 203, 208, 379, 379, 213, 220, 227, 232, 243, 254, 379, 259, 264, 269, 274, 279, 284, 289, 294, 299, 304, 309, 314, 319, 324, 379, 329, 334, 339, 344, 349, 354, 359, 364, 379, 379, 369, 374], 183) := by decide +kernel
theorem dX_perform_184 : decode cX_perform 184 = .ok (.aload_n 0, 1) := by decide +kernel
theorem dX_perform_185 : decode cX_perform 185 = .ok (.invokevirtual 131, 3) := by decide +kernel
theorem dX_perform_188 : decode cX_perform 188 = .ok (.ireturn, 1) := by decide +kernel
theorem dX_perform_189 : decode cX_perform 189 = .ok (.aload_n 0, 1) := by decide +kernel
theorem dX_perform_190 : decode cX_perform 190 = .ok (.invokevirtual 134, 3) := by decide +kernel
theorem dX_perform_193 : decode cX_perform 193 = .ok (.ireturn, 1) := by decide +kernel
theorem dX_perform_194 : decode cX_perform 194 = .ok (.aload_n 0, 1) := by decide +kernel
theorem dX_perform_195 : decode cX_perform 195 = .ok (.invokevirtual 137, 3) := by decide +kernel
theorem dX_perform_198 : decode cX_perform 198 = .ok (.ireturn, 1) := by decide +kernel
theorem dX_perform_199 : decode cX_perform 199 = .ok (.aload_n 0, 1) := by decide +kernel
theorem dX_perform_200 : decode cX_perform 200 = .ok (.invokevirtual 140, 3) := by decide +kernel
theorem dX_perform_203 : decode cX_perform 203 = .ok (.ireturn, 1) := by decide +kernel
theorem dX_perform_204 : decode cX_perform 204 = .ok (.aload_n 0, 1) := by decide +kernel
theorem dX_perform_205 : decode cX_perform 205 = .ok (.invokevirtual 143, 3) := by decide +kernel
theorem dX_perform_208 : decode cX_perform 208 = .ok (.ireturn, 1) := by decide +kernel
theorem dX_perform_209 : decode cX_perform 209 = .ok (.aload_n 0, 1) := by decide +kernel
theorem dX_perform_210 : decode cX_perform 210 = .ok (.invokevirtual 146, 3) := by decide +kernel
theorem dX_perform_213 : decode cX_perform 213 = .ok (.ireturn, 1) := by decide +kernel
theorem dX_perform_214 : decode cX_perform 214 = .ok (.aload_n 0, 1) := by decide +kernel
theorem dX_perform_215 : decode cX_perform 215 = .ok (.bipush 16, 2) := by decide +kernel
theorem dX_perform_217 : decode cX_perform 217 = .ok (.invokevirtual 149, 3) := by decide +kernel
theorem dX_perform_220 : decode cX_perform 220 = .ok (.ireturn, 1) := by decide +kernel
theorem dX_perform_221 : decode cX_perform 221 = .ok (.aload_n 0, 1) := by decide +kernel
theorem dX_perform_222 : decode cX_perform 222 = .ok (.bipush 17, 2) := by decide +kernel
theorem dX_perform_224 : decode cX_perform 224 = .ok (.invokevirtual 149, 3) := by decide +kernel
theorem dX_perform_227 : decode cX_perform 227 = .ok (.ireturn, 1) := by decide +kernel
theorem dX_perform_228 : decode cX_perform 228 = .ok (.aload_n 0, 1) := by decide +kernel
theorem dX_perform_229 : decode cX_perform 229 = .ok (.invokevirtual 152, 3) := by decide +kernel
theorem dX_perform_232 : decode cX_perform 232 = .ok (.ireturn, 1) := by decide +kernel
theorem dX_perform_233 : decode cX_perform 233 = .ok (.aload_n 0, 1) := by decide +kernel
theorem dX_perform_234 : decode cX_perform 234 = .ok (.aload_n 0, 1) := by decide +kernel
theorem dX_perform_235 : decode cX_perform 235 = .ok (.getfield 46, 3) := by decide +kernel
theorem dX_perform_238 : decode cX_perform 238 = .ok (.bipush 19, 2) := by decide +kernel
theorem dX_perform_240 : decode cX_perform 240 = .ok (.invokevirtual 155, 3) := by decide +kernel
theorem dX_perform_243 : decode cX_perform 243 = .ok (.ireturn, 1) := by decide +kernel
theorem dX_perform_244 : decode cX_perform 244 = .ok (.aload_n 0, 1) := by decide +kernel
theorem dX_perform_245 : decode cX_perform 245 = .ok (.aload_n 0, 1) := by decide +kernel
theorem dX_perform_246 : decode cX_perform 246 = .ok (.getfield 42, 3) := by decide +kernel
theorem dX_perform_249 : decode cX_perform 249 = .ok (.bipush 15, 2) := by decide +kernel
theorem dX_perform_251 : decode cX_perform 251 = .ok (.invokevirtual 155, 3) := by decide +kernel
theorem dX_perform_254 : decode cX_perform 254 = .ok (.ireturn, 1) := by decide +kernel
theorem dX_perform_255 : decode cX_perform 255 = .ok (.aload_n 0, 1) := by decide +kernel
theorem dX_perform_256 : decode cX_perform 256 = .ok (.invokevirtual 158, 3) := by decide +kernel
theorem dX_perform_259 : decode cX_perform 259 = .ok (.ireturn, 1) := by decide +kernel
theorem dX_perform_260 : decode cX_perform 260 = .ok (.aload_n 0, 1) := by decide +kernel
theorem dX_perform_261 : decode cX_perform 261 = .ok (.invokevirtual 161, 3) := by decide +kernel
theorem dX_perform_264 : decode cX_perform 264 = .ok (.ireturn, 1) := by decide +kernel
theorem dX_perform_265 : decode cX_perform 265 = .ok (.aload_n 0, 1) := by decide +kernel
theorem dX_perform_266 : decode cX_perform 266 = .ok (.invokevirtual 164, 3) := by decide +kernel
theorem dX_perform_269 : decode cX_perform 269 = .ok (.ireturn, 1) := by decide +kernel
theorem dX_perform_270 : decode cX_perform 270 = .ok (.aload_n 0, 1) := by decide +kernel
theorem dX_perform_271 : decode cX_perform 271 = .ok (.invokevirtual 167, 3) := by decide +kernel
theorem dX_perform_274 : decode cX_perform 274 = .ok (.ireturn, 1) := by decide +kernel
theorem dX_perform_275 : decode cX_perform 275 = .ok (.aload_n 0, 1) := by decide +kernel
theorem dX_perform_276 : decode cX_perform 276 = .ok (.invokevirtual 170, 3) := by decide +kernel
theorem dX_perform_279 : decode cX_perform 279 = .ok (.ireturn, 1) := by decide +kernel
theorem dX_perform_280 : decode cX_perform 280 = .ok (.aload_n 0, 1) := by decide +kernel
theorem dX_perform_281 : decode cX_perform 281 = .ok (.invokevirtual 173, 3) := by decide +kernel
theorem dX_perform_284 : decode cX_perform 284 = .ok (.ireturn, 1) := by decide +kernel
theorem dX_perform_285 : decode cX_perform 285 = .ok (.aload_n 0, 1) := by decide +kernel
theorem dX_perform_286 : decode cX_perform 286 = .ok (.invokevirtual 176, 3) := by decide +kernel
theorem dX_perform_289 : decode cX_perform 289 = .ok (.ireturn, 1) := by decide +kernel
theorem dX_perform_290 : decode cX_perform 290 = .ok (.aload_n 0, 1) := by decide +kernel
theorem dX_perform_291 : decode cX_perform 291 = .ok (.invokevirtual 179, 3) := by decide +kernel
theorem dX_perform_294 : decode cX_perform 294 = .ok (.ireturn, 1) := by decide +kernel
theorem dX_perform_295 : decode cX_perform 295 = .ok (.aload_n 0, 1) := by decide +kernel
theorem dX_perform_296 : decode cX_perform 296 = .ok (.invokevirtual 182, 3) := by decide +kernel
theorem dX_perform_299 : decode cX_perform 299 = .ok (.ireturn, 1) := by decide +kernel
theorem dX_perform_300 : decode cX_perform 300 = .ok (.aload_n 0, 1) := by decide +kernel
theorem dX_perform_301 : decode cX_perform 301 = .ok (.invokevirtual 185, 3) := by decide +kernel
theorem dX_perform_304 : decode cX_perform 304 = .ok (.ireturn, 1) := by decide +kernel
theorem dX_perform_305 : decode cX_perform 305 = .ok (.aload_n 0, 1) := by decide +kernel
theorem dX_perform_306 : decode cX_perform 306 = .ok (.invokevirtual 188, 3) := by decide +kernel
theorem dX_perform_309 : decode cX_perform 309 = .ok (.ireturn, 1) := by decide +kernel
theorem dX_perform_310 : decode cX_perform 310 = .ok (.aload_n 0, 1) := by decide +kernel
theorem dX_perform_311 : decode cX_perform 311 = .ok (.invokevirtual 191, 3) := by decide +kernel
theorem dX_perform_314 : decode cX_perform 314 = .ok (.ireturn, 1) := by decide +kernel
theorem dX_perform_315 : decode cX_perform 315 = .ok (.aload_n 0, 1) := by decide +kernel
theorem dX_perform_316 : decode cX_perform 316 = .ok (.invokevirtual 194, 3) := by decide +kernel
theorem dX_perform_319 : decode cX_perform 319 = .ok (.ireturn, 1) := by decide +kernel
theorem dX_perform_320 : decode cX_perform 320 = .ok (.aload_n 0, 1) := by decide +kernel
theorem dX_perform_321 : decode cX_perform 321 = .ok (.invokevirtual 197, 3) := by decide +kernel
theorem dX_perform_324 : decode cX_perform 324 = .ok (.ireturn, 1) := by decide +kernel
theorem dX_perform_325 : decode cX_perform 325 = .ok (.aload_n 0, 1) := by decide +kernel
theorem dX_perform_326 : decode cX_perform 326 = .ok (.invokevirtual 200, 3) := by decide +kernel
theorem dX_perform_329 : decode cX_perform 329 = .ok (.ireturn, 1) := by decide +kernel
theorem dX_perform_330 : decode cX_perform 330 = .ok (.aload_n 0, 1) := by decide +kernel
theorem dX_perform_331 : decode cX_perform 331 = .ok (.invokevirtual 203, 3) := by decide +kernel
theorem dX_perform_334 : decode cX_perform 334 = .ok (.ireturn, 1) := by decide +kernel
theorem dX_perform_335 : decode cX_perform 335 = .ok (.aload_n 0, 1) := by decide +kernel
theorem dX_perform_336 : decode cX_perform 336 = .ok (.invokevirtual 206, 3) := by decide +kernel
theorem dX_perform_339 : decode cX_perform 339 = .ok (.ireturn, 1) := by decide +kernel
theorem dX_perform_340 : decode cX_perform 340 = .ok (.aload_n 0, 1) := by decide +kernel
theorem dX_perform_341 : decode cX_perform 341 = .ok (.invokevirtual 209, 3) := by decide +kernel
theorem dX_perform_344 : decode cX_perform 344 = .ok (.ireturn, 1) := by decide +kernel
theorem dX_perform_345 : decode cX_perform 345 = .ok (.aload_n 0, 1) := by decide +kernel
theorem dX_perform_346 : decode cX_perform 346 = .ok (.invokevirtual 212, 3) := by decide +kernel
theorem dX_perform_349 : decode cX_perform 349 = .ok (.ireturn, 1) := by decide +kernel
theorem dX_perform_350 : decode cX_perform 350 = .ok (.aload_n 0, 1) := by decide +kernel
theorem dX_perform_351 : decode cX_perform 351 = .ok (.invokevirtual 215, 3) := by decide +kernel
theorem dX_perform_354 : decode cX_perform 354 = .ok (.ireturn, 1) := by decide +kernel
theorem dX_perform_355 : decode cX_perform 355 = .ok (.aload_n 0, 1) := by decide +kernel
theorem dX_perform_356 : decode cX_perform 356 = .ok (.invokevirtual 218, 3) := by decide +kernel
theorem dX_perform_359 : decode cX_perform 359 = .ok (.ireturn, 1) := by decide +kernel
theorem dX_perform_360 : decode cX_perform 360 = .ok (.aload_n 0, 1) := by decide +kernel
theorem dX_perform_361 : decode cX_perform 361 = .ok (.invokevirtual 221, 3) := by decide +kernel
theorem dX_perform_364 : decode cX_perform 364 = .ok (.ireturn, 1) := by decide +kernel
theorem dX_perform_365 : decode cX_perform 365 = .ok (.aload_n 0, 1) := by decide +kernel
theorem dX_perform_366 : decode cX_perform 366 = .ok (.invokevirtual 224, 3) := by decide +kernel
theorem dX_perform_369 : decode cX_perform 369 = .ok (.ireturn, 1) := by decide +kernel
theorem dX_perform_370 : decode cX_perform 370 = .ok (.aload_n 0, 1) := by decide +kernel
theorem dX_perform_371 : decode cX_perform 371 = .ok (.invokevirtual 227, 3) := by decide +kernel
theorem dX_perform_374 : decode cX_perform 374 = .ok (.ireturn, 1) := by decide +kernel
theorem dX_perform_375 : decode cX_perform 375 = .ok (.aload_n 0, 1) := by decide +kernel
theorem dX_perform_376 : decode cX_perform 376 = .ok (.invokevirtual 161, 3) := by decide +kernel
theorem dX_perform_379 : decode cX_perform 379 = .ok (.ireturn, 1) := by decide +kernel
theorem dX_perform_380 : decode cX_perform 380 = .ok (.iconst 0, 1) := by decide +kernel
theorem dX_perform_381 : decode cX_perform 381 = .ok (.ireturn, 1) := by decide +kernel
theorem dX_begin_0 : decode cX_begin 0 = .ok (.aload_n 0, 1) := by decide +kernel
theorem dX_begin_1 : decode cX_begin 1 = .ok (.getfield 64, 3) := by decide +kernel
theorem dX_begin_4 : decode cX_begin 4 = .ok (.ifCond .eq 33, 3) := by decide +kernel
theorem dX_begin_7 : decode cX_begin 7 = .ok (.aload_n 0, 1) := by decide +kernel
theorem dX_begin_8 : decode cX_begin 8 = .ok (.getfield 67, 3) := by decide +kernel
theorem dX_begin_11 : decode cX_begin 11 = .ok (.ifCond .ne 26, 3) := by decide +kernel
theorem dX_begin_14 : decode cX_begin 14 = .ok (.aload_n 0, 1) := by decide +kernel
theorem dX_begin_15 : decode cX_begin 15 = .ok (.getfield 16, 3) := by decide +kernel
theorem dX_begin_18 : decode cX_begin 18 = .ok (.getfield 127, 3) := by decide +kernel
theorem dX_begin_21 : decode cX_begin 21 = .ok (.ifCond .ne 13, 3) := by decide +kernel
theorem dX_begin_24 : decode cX_begin 24 = .ok (.aload_n 0, 1) := by decide +kernel
theorem dX_begin_25 : decode cX_begin 25 = .ok (.getfield 34, 3) := by decide +kernel
theorem dX_begin_28 : decode cX_begin 28 = .ok (.getfield 130, 3) := by decide +kernel
theorem dX_begin_31 : decode cX_begin 31 = .ok (.ifCond .eq 6, 3) := by decide +kernel
theorem dX_begin_34 : decode cX_begin 34 = .ok (.bipush 40, 2) := by decide +kernel
theorem dX_begin_36 : decode cX_begin 36 = .ok (.ireturn, 1) := by decide +kernel
theorem dX_begin_37 : decode cX_begin 37 = .ok (.aload_n 0, 1) := by decide +kernel
theorem dX_begin_38 : decode cX_begin 38 = .ok (.iconst 0, 1) := by decide +kernel
theorem dX_begin_39 : decode cX_begin 39 = .ok (.putfield 67, 3) := by decide +kernel
theorem dX_begin_42 : decode cX_begin 42 = .ok (.aload_n 0, 1) := by decide +kernel
theorem dX_begin_43 : decode cX_begin 43 = .ok (.aload_n 0, 1) := by decide +kernel
theorem dX_begin_44 : decode cX_begin 44 = .ok (.getfield 42, 3) := by decide +kernel
theorem dX_begin_47 : decode cX_begin 47 = .ok (.putfield 55, 3) := by decide +kernel
theorem dX_begin_50 : decode cX_begin 50 = .ok (.aload_n 0, 1) := by decide +kernel
theorem dX_begin_51 : decode cX_begin 51 = .ok (.invokevirtual 230, 3) := by decide +kernel
theorem dX_begin_54 : decode cX_begin 54 = .ok (.iconst 1, 1) := by decide +kernel
theorem dX_begin_55 : decode cX_begin 55 = .ok (.ireturn, 1) := by decide +kernel
theorem dX_advancePc_0 : decode cX_advancePc 0 = .ok (.aload_n 0, 1) := by decide +kernel
theorem dX_advancePc_1 : decode cX_advancePc 1 = .ok (.aload_n 0, 1) := by decide +kernel
theorem dX_advancePc_2 : decode cX_advancePc 2 = .ok (.getfield 42, 3) := by decide +kernel
theorem dX_advancePc_5 : decode cX_advancePc 5 = .ok (.iconst 1, 1) := by decide +kernel
theorem dX_advancePc_6 : decode cX_advancePc 6 = .ok (.iadd, 1) := by decide +kernel
theorem dX_advancePc_7 : decode cX_advancePc 7 = .ok (.sipush 4095, 3) := by decide +kernel
theorem dX_advancePc_10 : decode cX_advancePc 10 = .ok (.iand, 1) := by decide +kernel
theorem dX_advancePc_11 : decode cX_advancePc 11 = .ok (.putfield 42, 3) := by decide +kernel
theorem dX_advancePc_14 : decode cX_advancePc 14 = .ok (.return_, 1) := by decide +kernel
theorem dX_fetch_0 : decode cX_fetch 0 = .ok (.aload_n 0, 1) := by decide +kernel
theorem dX_fetch_1 : decode cX_fetch 1 = .ok (.aload_n 0, 1) := by decide +kernel
theorem dX_fetch_2 : decode cX_fetch 2 = .ok (.aload_n 0, 1) := by decide +kernel
theorem dX_fetch_3 : decode cX_fetch 3 = .ok (.getfield 55, 3) := by decide +kernel
theorem dX_fetch_6 : decode cX_fetch 6 = .ok (.invokevirtual 91, 3) := by decide +kernel
theorem dX_fetch_9 : decode cX_fetch 9 = .ok (.putfield 58, 3) := by decide +kernel
theorem dX_fetch_12 : decode cX_fetch 12 = .ok (.aload_n 0, 1) := by decide +kernel
theorem dX_fetch_13 : decode cX_fetch 13 = .ok (.aload_n 0, 1) := by decide +kernel
theorem dX_fetch_14 : decode cX_fetch 14 = .ok (.getfield 58, 3) := by decide +kernel
theorem dX_fetch_17 : decode cX_fetch 17 = .ok (.putfield 61, 3) := by decide +kernel
theorem dX_fetch_20 : decode cX_fetch 20 = .ok (.aload_n 0, 1) := by decide +kernel
theorem dX_fetch_21 : decode cX_fetch 21 = .ok (.getfield 61, 3) := by decide +kernel
theorem dX_fetch_24 : decode cX_fetch 24 = .ok (.sipush 3584, 3) := by decide +kernel
theorem dX_fetch_27 : decode cX_fetch 27 = .ok (.if_icmp .lt 6, 3) := by decide +kernel
theorem dX_fetch_30 : decode cX_fetch 30 = .ok (.bipush 20, 2) := by decide +kernel
theorem dX_fetch_32 : decode cX_fetch 32 = .ok (.ireturn, 1) := by decide +kernel
theorem dX_fetch_33 : decode cX_fetch 33 = .ok (.aload_n 0, 1) := by decide +kernel
theorem dX_fetch_34 : decode cX_fetch 34 = .ok (.getfield 61, 3) := by decide +kernel
theorem dX_fetch_37 : decode cX_fetch 37 = .ok (.sipush 3072, 3) := by decide +kernel
theorem dX_fetch_40 : decode cX_fetch 40 = .ok (.if_icmp .lt 8, 3) := by decide +kernel
theorem dX_fetch_43 : decode cX_fetch 43 = .ok (.bipush 32, 2) := by decide +kernel
theorem dX_fetch_45 : decode cX_fetch 45 = .ok (.goto 4, 3) := by decide +kernel
theorem dX_fetch_48 : decode cX_fetch 48 = .ok (.iconst 2, 1) := by decide +kernel
theorem dX_fetch_49 : decode cX_fetch 49 = .ok (.ireturn, 1) := by decide +kernel
theorem dX_findAddress_0 : decode cX_findAddress 0 = .ok (.aload_n 0, 1) := by decide +kernel
theorem dX_findAddress_1 : decode cX_findAddress 1 = .ok (.sipush 128, 3) := by decide +kernel
theorem dX_findAddress_4 : decode cX_findAddress 4 = .ok (.invokevirtual 233, 3) := by decide +kernel
theorem dX_findAddress_7 : decode cX_findAddress 7 = .ok (.ifCond .eq 14, 3) := by decide +kernel
theorem dX_findAddress_10 : decode cX_findAddress 10 = .ok (.aload_n 0, 1) := by decide +kernel
theorem dX_findAddress_11 : decode cX_findAddress 11 = .ok (.getfield 55, 3) := by decide +kernel
theorem dX_findAddress_14 : decode cX_findAddress 14 = .ok (.sipush 3968, 3) := by decide +kernel
theorem dX_findAddress_17 : decode cX_findAddress 17 = .ok (.iand, 1) := by decide +kernel
theorem dX_findAddress_18 : decode cX_findAddress 18 = .ok (.goto 4, 3) := by decide +kernel
theorem dX_findAddress_21 : decode cX_findAddress 21 = .ok (.iconst 0, 1) := by decide +kernel
theorem dX_findAddress_22 : decode cX_findAddress 22 = .ok (.istore_n 1, 1) := by decide +kernel
theorem dX_findAddress_23 : decode cX_findAddress 23 = .ok (.aload_n 0, 1) := by decide +kernel
theorem dX_findAddress_24 : decode cX_findAddress 24 = .ok (.iload_n 1, 1) := by decide +kernel
theorem dX_findAddress_25 : decode cX_findAddress 25 = .ok (.aload_n 0, 1) := by decide +kernel
theorem dX_findAddress_26 : decode cX_findAddress 26 = .ok (.getfield 61, 3) := by decide +kernel
theorem dX_findAddress_29 : decode cX_findAddress 29 = .ok (.bipush 127, 2) := by decide +kernel
theorem dX_findAddress_31 : decode cX_findAddress 31 = .ok (.iand, 1) := by decide +kernel
theorem dX_findAddress_32 : decode cX_findAddress 32 = .ok (.iadd, 1) := by decide +kernel
theorem dX_findAddress_33 : decode cX_findAddress 33 = .ok (.putfield 55, 3) := by decide +kernel
theorem dX_findAddress_36 : decode cX_findAddress 36 = .ok (.aload_n 0, 1) := by decide +kernel
theorem dX_findAddress_37 : decode cX_findAddress 37 = .ok (.sipush 256, 3) := by decide +kernel
theorem dX_findAddress_40 : decode cX_findAddress 40 = .ok (.invokevirtual 233, 3) := by decide +kernel
theorem dX_findAddress_43 : decode cX_findAddress 43 = .ok (.ifCond .eq 7, 3) := by decide +kernel
theorem dX_findAddress_46 : decode cX_findAddress 46 = .ok (.iconst 3, 1) := by decide +kernel
theorem dX_findAddress_47 : decode cX_findAddress 47 = .ok (.goto 7, 3) := by decide +kernel
theorem dX_findAddress_50 : decode cX_findAddress 50 = .ok (.aload_n 0, 1) := by decide +kernel
theorem dX_findAddress_51 : decode cX_findAddress 51 = .ok (.invokevirtual 236, 3) := by decide +kernel
theorem dX_findAddress_54 : decode cX_findAddress 54 = .ok (.ireturn, 1) := by decide +kernel
theorem dX_firstOfInstruction_0 : decode cX_firstOfInstruction 0 = .ok (.bipush 8, 2) := by decide +kernel
theorem dX_firstOfInstruction_2 : decode cX_firstOfInstruction 2 = .ok (.aload_n 0, 1) := by decide +kernel
theorem dX_firstOfInstruction_3 : decode cX_firstOfInstruction 3 = .ok (.getfield 61, 3) := by decide +kernel
theorem dX_firstOfInstruction_6 : decode cX_firstOfInstruction 6 = .ok (.sipush 512, 3) := by decide +kernel
theorem dX_firstOfInstruction_9 : decode cX_firstOfInstruction 9 = .ok (.idiv, 1) := by decide +kernel
theorem dX_firstOfInstruction_10 : decode cX_firstOfInstruction 10 = .ok (.iadd, 1) := by decide +kernel
theorem dX_firstOfInstruction_11 : decode cX_firstOfInstruction 11 = .ok (.ireturn, 1) := by decide +kernel
theorem dX_readPointer_0 : decode cX_readPointer 0 = .ok (.aload_n 0, 1) := by decide +kernel
theorem dX_readPointer_1 : decode cX_readPointer 1 = .ok (.aload_n 0, 1) := by decide +kernel
theorem dX_readPointer_2 : decode cX_readPointer 2 = .ok (.aload_n 0, 1) := by decide +kernel
theorem dX_readPointer_3 : decode cX_readPointer 3 = .ok (.getfield 55, 3) := by decide +kernel
theorem dX_readPointer_6 : decode cX_readPointer 6 = .ok (.invokevirtual 91, 3) := by decide +kernel
theorem dX_readPointer_9 : decode cX_readPointer 9 = .ok (.putfield 58, 3) := by decide +kernel
theorem dX_readPointer_12 : decode cX_readPointer 12 = .ok (.aload_n 0, 1) := by decide +kernel
theorem dX_readPointer_13 : decode cX_readPointer 13 = .ok (.getfield 55, 3) := by decide +kernel
theorem dX_readPointer_16 : decode cX_readPointer 16 = .ok (.bipush 8, 2) := by decide +kernel
theorem dX_readPointer_18 : decode cX_readPointer 18 = .ok (.if_icmp .lt 16, 3) := by decide +kernel
theorem dX_readPointer_21 : decode cX_readPointer 21 = .ok (.aload_n 0, 1) := by decide +kernel
theorem dX_readPointer_22 : decode cX_readPointer 22 = .ok (.getfield 55, 3) := by decide +kernel
theorem dX_readPointer_25 : decode cX_readPointer 25 = .ok (.bipush 15, 2) := by decide +kernel
theorem dX_readPointer_27 : decode cX_readPointer 27 = .ok (.if_icmp .gt 7, 3) := by decide +kernel
theorem dX_readPointer_30 : decode cX_readPointer 30 = .ok (.iconst 4, 1) := by decide +kernel
theorem dX_readPointer_31 : decode cX_readPointer 31 = .ok (.goto 4, 3) := by decide +kernel
theorem dX_readPointer_34 : decode cX_readPointer 34 = .ok (.iconst 5, 1) := by decide +kernel
theorem dX_readPointer_35 : decode cX_readPointer 35 = .ok (.ireturn, 1) := by decide +kernel
theorem dX_advancePointer_0 : decode cX_advancePointer 0 = .ok (.aload_n 0, 1) := by decide +kernel
theorem dX_advancePointer_1 : decode cX_advancePointer 1 = .ok (.aload_n 0, 1) := by decide +kernel
theorem dX_advancePointer_2 : decode cX_advancePointer 2 = .ok (.getfield 58, 3) := by decide +kernel
theorem dX_advancePointer_5 : decode cX_advancePointer 5 = .ok (.iconst 1, 1) := by decide +kernel
theorem dX_advancePointer_6 : decode cX_advancePointer 6 = .ok (.iadd, 1) := by decide +kernel
theorem dX_advancePointer_7 : decode cX_advancePointer 7 = .ok (.sipush 4095, 3) := by decide +kernel
theorem dX_advancePointer_10 : decode cX_advancePointer 10 = .ok (.iand, 1) := by decide +kernel
theorem dX_advancePointer_11 : decode cX_advancePointer 11 = .ok (.putfield 58, 3) := by decide +kernel
theorem dX_advancePointer_14 : decode cX_advancePointer 14 = .ok (.aload_n 0, 1) := by decide +kernel
theorem dX_advancePointer_15 : decode cX_advancePointer 15 = .ok (.aload_n 0, 1) := by decide +kernel
theorem dX_advancePointer_16 : decode cX_advancePointer 16 = .ok (.getfield 55, 3) := by decide +kernel
theorem dX_advancePointer_19 : decode cX_advancePointer 19 = .ok (.aload_n 0, 1) := by decide +kernel
theorem dX_advancePointer_20 : decode cX_advancePointer 20 = .ok (.getfield 58, 3) := by decide +kernel
theorem dX_advancePointer_23 : decode cX_advancePointer 23 = .ok (.invokevirtual 87, 3) := by decide +kernel
theorem dX_advancePointer_26 : decode cX_advancePointer 26 = .ok (.iconst 5, 1) := by decide +kernel
theorem dX_advancePointer_27 : decode cX_advancePointer 27 = .ok (.ireturn, 1) := by decide +kernel
theorem dX_followPointer_0 : decode cX_followPointer 0 = .ok (.aload_n 0, 1) := by decide +kernel
theorem dX_followPointer_1 : decode cX_followPointer 1 = .ok (.aload_n 0, 1) := by decide +kernel
theorem dX_followPointer_2 : decode cX_followPointer 2 = .ok (.getfield 58, 3) := by decide +kernel
theorem dX_followPointer_5 : decode cX_followPointer 5 = .ok (.putfield 55, 3) := by decide +kernel
theorem dX_followPointer_8 : decode cX_followPointer 8 = .ok (.aload_n 0, 1) := by decide +kernel
theorem dX_followPointer_9 : decode cX_followPointer 9 = .ok (.invokevirtual 236, 3) := by decide +kernel
theorem dX_followPointer_12 : decode cX_followPointer 12 = .ok (.ireturn, 1) := by decide +kernel
theorem dX_readOperand_0 : decode cX_readOperand 0 = .ok (.aload_n 0, 1) := by decide +kernel
theorem dX_readOperand_1 : decode cX_readOperand 1 = .ok (.aload_n 0, 1) := by decide +kernel
theorem dX_readOperand_2 : decode cX_readOperand 2 = .ok (.aload_n 0, 1) := by decide +kernel
theorem dX_readOperand_3 : decode cX_readOperand 3 = .ok (.getfield 55, 3) := by decide +kernel
theorem dX_readOperand_6 : decode cX_readOperand 6 = .ok (.invokevirtual 91, 3) := by decide +kernel
theorem dX_readOperand_9 : decode cX_readOperand 9 = .ok (.putfield 58, 3) := by decide +kernel
theorem dX_readOperand_12 : decode cX_readOperand 12 = .ok (.iload_n 1, 1) := by decide +kernel
theorem dX_readOperand_13 : decode cX_readOperand 13 = .ok (.ireturn, 1) := by decide +kernel
theorem dX_readOneMore_0 : decode cX_readOneMore 0 = .ok (.aload_n 0, 1) := by decide +kernel
theorem dX_readOneMore_1 : decode cX_readOneMore 1 = .ok (.aload_n 0, 1) := by decide +kernel
theorem dX_readOneMore_2 : decode cX_readOneMore 2 = .ok (.aload_n 0, 1) := by decide +kernel
theorem dX_readOneMore_3 : decode cX_readOneMore 3 = .ok (.getfield 55, 3) := by decide +kernel
theorem dX_readOneMore_6 : decode cX_readOneMore 6 = .ok (.invokevirtual 91, 3) := by decide +kernel
theorem dX_readOneMore_9 : decode cX_readOneMore 9 = .ok (.iconst 1, 1) := by decide +kernel
theorem dX_readOneMore_10 : decode cX_readOneMore 10 = .ok (.iadd, 1) := by decide +kernel
theorem dX_readOneMore_11 : decode cX_readOneMore 11 = .ok (.sipush 4095, 3) := by decide +kernel
theorem dX_readOneMore_14 : decode cX_readOneMore 14 = .ok (.iand, 1) := by decide +kernel
theorem dX_readOneMore_15 : decode cX_readOneMore 15 = .ok (.putfield 58, 3) := by decide +kernel
theorem dX_readOneMore_18 : decode cX_readOneMore 18 = .ok (.bipush 18, 2) := by decide +kernel
theorem dX_readOneMore_20 : decode cX_readOneMore 20 = .ok (.ireturn, 1) := by decide +kernel
theorem dX_takeIntoMb_0 : decode cX_takeIntoMb 0 = .ok (.aload_n 0, 1) := by decide +kernel
theorem dX_takeIntoMb_1 : decode cX_takeIntoMb 1 = .ok (.iload_n 1, 1) := by decide +kernel
theorem dX_takeIntoMb_2 : decode cX_takeIntoMb 2 = .ok (.putfield 58, 3) := by decide +kernel
theorem dX_takeIntoMb_5 : decode cX_takeIntoMb 5 = .ok (.iload_n 2, 1) := by decide +kernel
theorem dX_takeIntoMb_6 : decode cX_takeIntoMb 6 = .ok (.ireturn, 1) := by decide +kernel
theorem dX_jump_0 : decode cX_jump 0 = .ok (.aload_n 0, 1) := by decide +kernel
theorem dX_jump_1 : decode cX_jump 1 = .ok (.aload_n 0, 1) := by decide +kernel
theorem dX_jump_2 : decode cX_jump 2 = .ok (.getfield 55, 3) := by decide +kernel
theorem dX_jump_5 : decode cX_jump 5 = .ok (.putfield 42, 3) := by decide +kernel
theorem dX_jump_8 : decode cX_jump 8 = .ok (.iconst 0, 1) := by decide +kernel
theorem dX_jump_9 : decode cX_jump 9 = .ok (.ireturn, 1) := by decide +kernel
theorem dX_storeAndGoBehind_0 : decode cX_storeAndGoBehind 0 = .ok (.aload_n 0, 1) := by decide +kernel
theorem dX_storeAndGoBehind_1 : decode cX_storeAndGoBehind 1 = .ok (.aload_n 0, 1) := by decide +kernel
theorem dX_storeAndGoBehind_2 : decode cX_storeAndGoBehind 2 = .ok (.getfield 55, 3) := by decide +kernel
theorem dX_storeAndGoBehind_5 : decode cX_storeAndGoBehind 5 = .ok (.aload_n 0, 1) := by decide +kernel
theorem dX_storeAndGoBehind_6 : decode cX_storeAndGoBehind 6 = .ok (.getfield 58, 3) := by decide +kernel
theorem dX_storeAndGoBehind_9 : decode cX_storeAndGoBehind 9 = .ok (.invokevirtual 87, 3) := by decide +kernel
theorem dX_storeAndGoBehind_12 : decode cX_storeAndGoBehind 12 = .ok (.aload_n 0, 1) := by decide +kernel
theorem dX_storeAndGoBehind_13 : decode cX_storeAndGoBehind 13 = .ok (.aload_n 0, 1) := by decide +kernel
theorem dX_storeAndGoBehind_14 : decode cX_storeAndGoBehind 14 = .ok (.getfield 55, 3) := by decide +kernel
theorem dX_storeAndGoBehind_17 : decode cX_storeAndGoBehind 17 = .ok (.iconst 1, 1) := by decide +kernel
theorem dX_storeAndGoBehind_18 : decode cX_storeAndGoBehind 18 = .ok (.iadd, 1) := by decide +kernel
theorem dX_storeAndGoBehind_19 : decode cX_storeAndGoBehind 19 = .ok (.sipush 4095, 3) := by decide +kernel
theorem dX_storeAndGoBehind_22 : decode cX_storeAndGoBehind 22 = .ok (.iand, 1) := by decide +kernel
theorem dX_storeAndGoBehind_23 : decode cX_storeAndGoBehind 23 = .ok (.putfield 42, 3) := by decide +kernel
theorem dX_storeAndGoBehind_26 : decode cX_storeAndGoBehind 26 = .ok (.iconst 0, 1) := by decide +kernel
theorem dX_storeAndGoBehind_27 : decode cX_storeAndGoBehind 27 = .ok (.ireturn, 1) := by decide +kernel
theorem dX_andOperand_0 : decode cX_andOperand 0 = .ok (.aload_n 0, 1) := by decide +kernel
theorem dX_andOperand_1 : decode cX_andOperand 1 = .ok (.dup, 1) := by decide +kernel
theorem dX_andOperand_2 : decode cX_andOperand 2 = .ok (.getfield 46, 3) := by decide +kernel
theorem dX_andOperand_5 : decode cX_andOperand 5 = .ok (.aload_n 0, 1) := by decide +kernel
theorem dX_andOperand_6 : decode cX_andOperand 6 = .ok (.getfield 58, 3) := by decide +kernel
theorem dX_andOperand_9 : decode cX_andOperand 9 = .ok (.iand, 1) := by decide +kernel
theorem dX_andOperand_10 : decode cX_andOperand 10 = .ok (.putfield 46, 3) := by decide +kernel
theorem dX_andOperand_13 : decode cX_andOperand 13 = .ok (.iconst 0, 1) := by decide +kernel
theorem dX_andOperand_14 : decode cX_andOperand 14 = .ok (.ireturn, 1) := by decide +kernel
theorem dX_addOperand_0 : decode cX_addOperand 0 = .ok (.aload_n 0, 1) := by decide +kernel
theorem dX_addOperand_1 : decode cX_addOperand 1 = .ok (.aload_n 0, 1) := by decide +kernel
theorem dX_addOperand_2 : decode cX_addOperand 2 = .ok (.getfield 58, 3) := by decide +kernel
theorem dX_addOperand_5 : decode cX_addOperand 5 = .ok (.invokevirtual 239, 3) := by decide +kernel
theorem dX_addOperand_8 : decode cX_addOperand 8 = .ok (.iconst 0, 1) := by decide +kernel
theorem dX_addOperand_9 : decode cX_addOperand 9 = .ok (.ireturn, 1) := by decide +kernel
theorem dX_addToAc_0 : decode cX_addToAc 0 = .ok (.aload_n 0, 1) := by decide +kernel
theorem dX_addToAc_1 : decode cX_addToAc 1 = .ok (.getfield 46, 3) := by decide +kernel
theorem dX_addToAc_4 : decode cX_addToAc 4 = .ok (.iload_n 1, 1) := by decide +kernel
theorem dX_addToAc_5 : decode cX_addToAc 5 = .ok (.iadd, 1) := by decide +kernel
theorem dX_addToAc_6 : decode cX_addToAc 6 = .ok (.istore_n 2, 1) := by decide +kernel
theorem dX_addToAc_7 : decode cX_addToAc 7 = .ok (.iload_n 2, 1) := by decide +kernel
theorem dX_addToAc_8 : decode cX_addToAc 8 = .ok (.sipush 4095, 3) := by decide +kernel
theorem dX_addToAc_11 : decode cX_addToAc 11 = .ok (.if_icmp .le 7, 3) := by decide +kernel
theorem dX_addToAc_14 : decode cX_addToAc 14 = .ok (.aload_n 0, 1) := by decide +kernel
theorem dX_addToAc_15 : decode cX_addToAc 15 = .ok (.invokevirtual 242, 3) := by decide +kernel
theorem dX_addToAc_18 : decode cX_addToAc 18 = .ok (.aload_n 0, 1) := by decide +kernel
theorem dX_addToAc_19 : decode cX_addToAc 19 = .ok (.iload_n 2, 1) := by decide +kernel
theorem dX_addToAc_20 : decode cX_addToAc 20 = .ok (.sipush 4095, 3) := by decide +kernel
theorem dX_addToAc_23 : decode cX_addToAc 23 = .ok (.iand, 1) := by decide +kernel
theorem dX_addToAc_24 : decode cX_addToAc 24 = .ok (.putfield 46, 3) := by decide +kernel
theorem dX_addToAc_27 : decode cX_addToAc 27 = .ok (.return_, 1) := by decide +kernel
theorem dX_turnLinkOver_0 : decode cX_turnLinkOver 0 = .ok (.aload_n 0, 1) := by decide +kernel
theorem dX_turnLinkOver_1 : decode cX_turnLinkOver 1 = .ok (.iconst 1, 1) := by decide +kernel
theorem dX_turnLinkOver_2 : decode cX_turnLinkOver 2 = .ok (.aload_n 0, 1) := by decide +kernel
theorem dX_turnLinkOver_3 : decode cX_turnLinkOver 3 = .ok (.getfield 49, 3) := by decide +kernel
theorem dX_turnLinkOver_6 : decode cX_turnLinkOver 6 = .ok (.isub, 1) := by decide +kernel
theorem dX_turnLinkOver_7 : decode cX_turnLinkOver 7 = .ok (.putfield 49, 3) := by decide +kernel
theorem dX_turnLinkOver_10 : decode cX_turnLinkOver 10 = .ok (.return_, 1) := by decide +kernel
theorem dX_storeAndSkipIfZero_0 : decode cX_storeAndSkipIfZero 0 = .ok (.aload_n 0, 1) := by decide +kernel
theorem dX_storeAndSkipIfZero_1 : decode cX_storeAndSkipIfZero 1 = .ok (.aload_n 0, 1) := by decide +kernel
theorem dX_storeAndSkipIfZero_2 : decode cX_storeAndSkipIfZero 2 = .ok (.getfield 55, 3) := by decide +kernel
theorem dX_storeAndSkipIfZero_5 : decode cX_storeAndSkipIfZero 5 = .ok (.aload_n 0, 1) := by decide +kernel
theorem dX_storeAndSkipIfZero_6 : decode cX_storeAndSkipIfZero 6 = .ok (.getfield 58, 3) := by decide +kernel
theorem dX_storeAndSkipIfZero_9 : decode cX_storeAndSkipIfZero 9 = .ok (.invokevirtual 87, 3) := by decide +kernel
theorem dX_storeAndSkipIfZero_12 : decode cX_storeAndSkipIfZero 12 = .ok (.aload_n 0, 1) := by decide +kernel
theorem dX_storeAndSkipIfZero_13 : decode cX_storeAndSkipIfZero 13 = .ok (.getfield 58, 3) := by decide +kernel
theorem dX_storeAndSkipIfZero_16 : decode cX_storeAndSkipIfZero 16 = .ok (.ifCond .ne 7, 3) := by decide +kernel
theorem dX_storeAndSkipIfZero_19 : decode cX_storeAndSkipIfZero 19 = .ok (.aload_n 0, 1) := by decide +kernel
theorem dX_storeAndSkipIfZero_20 : decode cX_storeAndSkipIfZero 20 = .ok (.invokevirtual 230, 3) := by decide +kernel
theorem dX_storeAndSkipIfZero_23 : decode cX_storeAndSkipIfZero 23 = .ok (.iconst 0, 1) := by decide +kernel
theorem dX_storeAndSkipIfZero_24 : decode cX_storeAndSkipIfZero 24 = .ok (.ireturn, 1) := by decide +kernel
theorem dX_storeAndClear_0 : decode cX_storeAndClear 0 = .ok (.aload_n 0, 1) := by decide +kernel
theorem dX_storeAndClear_1 : decode cX_storeAndClear 1 = .ok (.aload_n 0, 1) := by decide +kernel
theorem dX_storeAndClear_2 : decode cX_storeAndClear 2 = .ok (.getfield 55, 3) := by decide +kernel
theorem dX_storeAndClear_5 : decode cX_storeAndClear 5 = .ok (.aload_n 0, 1) := by decide +kernel
theorem dX_storeAndClear_6 : decode cX_storeAndClear 6 = .ok (.getfield 58, 3) := by decide +kernel
theorem dX_storeAndClear_9 : decode cX_storeAndClear 9 = .ok (.invokevirtual 87, 3) := by decide +kernel
theorem dX_storeAndClear_12 : decode cX_storeAndClear 12 = .ok (.aload_n 0, 1) := by decide +kernel
theorem dX_storeAndClear_13 : decode cX_storeAndClear 13 = .ok (.iconst 0, 1) := by decide +kernel
theorem dX_storeAndClear_14 : decode cX_storeAndClear 14 = .ok (.putfield 46, 3) := by decide +kernel
theorem dX_storeAndClear_17 : decode cX_storeAndClear 17 = .ok (.iconst 0, 1) := by decide +kernel
theorem dX_storeAndClear_18 : decode cX_storeAndClear 18 = .ok (.ireturn, 1) := by decide +kernel
theorem dX_chooseOperateGroup_0 : decode cX_chooseOperateGroup 0 = .ok (.aload_n 0, 1) := by decide +kernel
theorem dX_chooseOperateGroup_1 : decode cX_chooseOperateGroup 1 = .ok (.sipush 256, 3) := by decide +kernel
theorem dX_chooseOperateGroup_4 : decode cX_chooseOperateGroup 4 = .ok (.invokevirtual 233, 3) := by decide +kernel
theorem dX_chooseOperateGroup_7 : decode cX_chooseOperateGroup 7 = .ok (.ifCond .ne 6, 3) := by decide +kernel
theorem dX_chooseOperateGroup_10 : decode cX_chooseOperateGroup 10 = .ok (.bipush 21, 2) := by decide +kernel
theorem dX_chooseOperateGroup_12 : decode cX_chooseOperateGroup 12 = .ok (.ireturn, 1) := by decide +kernel
theorem dX_chooseOperateGroup_13 : decode cX_chooseOperateGroup 13 = .ok (.aload_n 0, 1) := by decide +kernel
theorem dX_chooseOperateGroup_14 : decode cX_chooseOperateGroup 14 = .ok (.iconst 1, 1) := by decide +kernel
theorem dX_chooseOperateGroup_15 : decode cX_chooseOperateGroup 15 = .ok (.invokevirtual 233, 3) := by decide +kernel
theorem dX_chooseOperateGroup_18 : decode cX_chooseOperateGroup 18 = .ok (.ifCond .eq 8, 3) := by decide +kernel
theorem dX_chooseOperateGroup_21 : decode cX_chooseOperateGroup 21 = .ok (.bipush 30, 2) := by decide +kernel
theorem dX_chooseOperateGroup_23 : decode cX_chooseOperateGroup 23 = .ok (.goto 5, 3) := by decide +kernel
theorem dX_chooseOperateGroup_26 : decode cX_chooseOperateGroup 26 = .ok (.bipush 26, 2) := by decide +kernel
theorem dX_chooseOperateGroup_28 : decode cX_chooseOperateGroup 28 = .ok (.ireturn, 1) := by decide +kernel
theorem dX_clearAcIfAsked_0 : decode cX_clearAcIfAsked 0 = .ok (.aload_n 0, 1) := by decide +kernel
theorem dX_clearAcIfAsked_1 : decode cX_clearAcIfAsked 1 = .ok (.sipush 128, 3) := by decide +kernel
theorem dX_clearAcIfAsked_4 : decode cX_clearAcIfAsked 4 = .ok (.invokevirtual 233, 3) := by decide +kernel
theorem dX_clearAcIfAsked_7 : decode cX_clearAcIfAsked 7 = .ok (.ifCond .eq 8, 3) := by decide +kernel
theorem dX_clearAcIfAsked_10 : decode cX_clearAcIfAsked 10 = .ok (.aload_n 0, 1) := by decide +kernel
theorem dX_clearAcIfAsked_11 : decode cX_clearAcIfAsked 11 = .ok (.iconst 0, 1) := by decide +kernel
theorem dX_clearAcIfAsked_12 : decode cX_clearAcIfAsked 12 = .ok (.putfield 46, 3) := by decide +kernel
theorem dX_clearAcIfAsked_15 : decode cX_clearAcIfAsked 15 = .ok (.return_, 1) := by decide +kernel
theorem dX_clear_0 : decode cX_clear 0 = .ok (.aload_n 0, 1) := by decide +kernel
theorem dX_clear_1 : decode cX_clear 1 = .ok (.invokevirtual 245, 3) := by decide +kernel
theorem dX_clear_4 : decode cX_clear 4 = .ok (.aload_n 0, 1) := by decide +kernel
theorem dX_clear_5 : decode cX_clear 5 = .ok (.bipush 64, 2) := by decide +kernel
theorem dX_clear_7 : decode cX_clear 7 = .ok (.invokevirtual 233, 3) := by decide +kernel
theorem dX_clear_10 : decode cX_clear 10 = .ok (.ifCond .eq 8, 3) := by decide +kernel
theorem dX_clear_13 : decode cX_clear 13 = .ok (.aload_n 0, 1) := by decide +kernel
theorem dX_clear_14 : decode cX_clear 14 = .ok (.iconst 0, 1) := by decide +kernel
theorem dX_clear_15 : decode cX_clear 15 = .ok (.putfield 49, 3) := by decide +kernel
theorem dX_clear_18 : decode cX_clear 18 = .ok (.bipush 22, 2) := by decide +kernel
theorem dX_clear_20 : decode cX_clear 20 = .ok (.ireturn, 1) := by decide +kernel
theorem dX_complement_0 : decode cX_complement 0 = .ok (.aload_n 0, 1) := by decide +kernel
theorem dX_complement_1 : decode cX_complement 1 = .ok (.bipush 32, 2) := by decide +kernel
theorem dX_complement_3 : decode cX_complement 3 = .ok (.invokevirtual 233, 3) := by decide +kernel
theorem dX_complement_6 : decode cX_complement 6 = .ok (.ifCond .eq 15, 3) := by decide +kernel
theorem dX_complement_9 : decode cX_complement 9 = .ok (.aload_n 0, 1) := by decide +kernel
theorem dX_complement_10 : decode cX_complement 10 = .ok (.sipush 4095, 3) := by decide +kernel
theorem dX_complement_13 : decode cX_complement 13 = .ok (.aload_n 0, 1) := by decide +kernel
theorem dX_complement_14 : decode cX_complement 14 = .ok (.getfield 46, 3) := by decide +kernel
theorem dX_complement_17 : decode cX_complement 17 = .ok (.isub, 1) := by decide +kernel
theorem dX_complement_18 : decode cX_complement 18 = .ok (.putfield 46, 3) := by decide +kernel
theorem dX_complement_21 : decode cX_complement 21 = .ok (.aload_n 0, 1) := by decide +kernel
theorem dX_complement_22 : decode cX_complement 22 = .ok (.bipush 16, 2) := by decide +kernel
theorem dX_complement_24 : decode cX_complement 24 = .ok (.invokevirtual 233, 3) := by decide +kernel
theorem dX_complement_27 : decode cX_complement 27 = .ok (.ifCond .eq 7, 3) := by decide +kernel
theorem dX_complement_30 : decode cX_complement 30 = .ok (.aload_n 0, 1) := by decide +kernel
theorem dX_complement_31 : decode cX_complement 31 = .ok (.invokevirtual 242, 3) := by decide +kernel
theorem dX_complement_34 : decode cX_complement 34 = .ok (.bipush 23, 2) := by decide +kernel
theorem dX_complement_36 : decode cX_complement 36 = .ok (.ireturn, 1) := by decide +kernel
theorem dX_increment_0 : decode cX_increment 0 = .ok (.aload_n 0, 1) := by decide +kernel
theorem dX_increment_1 : decode cX_increment 1 = .ok (.iconst 1, 1) := by decide +kernel
theorem dX_increment_2 : decode cX_increment 2 = .ok (.invokevirtual 233, 3) := by decide +kernel
theorem dX_increment_5 : decode cX_increment 5 = .ok (.ifCond .eq 8, 3) := by decide +kernel
theorem dX_increment_8 : decode cX_increment 8 = .ok (.aload_n 0, 1) := by decide +kernel
theorem dX_increment_9 : decode cX_increment 9 = .ok (.iconst 1, 1) := by decide +kernel
theorem dX_increment_10 : decode cX_increment 10 = .ok (.invokevirtual 239, 3) := by decide +kernel
theorem dX_increment_13 : decode cX_increment 13 = .ok (.aload_n 0, 1) := by decide +kernel
theorem dX_increment_14 : decode cX_increment 14 = .ok (.bipush 12, 2) := by decide +kernel
theorem dX_increment_16 : decode cX_increment 16 = .ok (.invokevirtual 233, 3) := by decide +kernel
theorem dX_increment_19 : decode cX_increment 19 = .ok (.ifCond .eq 8, 3) := by decide +kernel
theorem dX_increment_22 : decode cX_increment 22 = .ok (.bipush 24, 2) := by decide +kernel
theorem dX_increment_24 : decode cX_increment 24 = .ok (.goto 4, 3) := by decide +kernel
theorem dX_increment_27 : decode cX_increment 27 = .ok (.iconst 0, 1) := by decide +kernel
theorem dX_increment_28 : decode cX_increment 28 = .ok (.ireturn, 1) := by decide +kernel
theorem dX_rotateFirst_0 : decode cX_rotateFirst 0 = .ok (.aload_n 0, 1) := by decide +kernel
theorem dX_rotateFirst_1 : decode cX_rotateFirst 1 = .ok (.invokevirtual 248, 3) := by decide +kernel
theorem dX_rotateFirst_4 : decode cX_rotateFirst 4 = .ok (.aload_n 0, 1) := by decide +kernel
theorem dX_rotateFirst_5 : decode cX_rotateFirst 5 = .ok (.iconst 2, 1) := by decide +kernel
theorem dX_rotateFirst_6 : decode cX_rotateFirst 6 = .ok (.invokevirtual 233, 3) := by decide +kernel
theorem dX_rotateFirst_9 : decode cX_rotateFirst 9 = .ok (.ifCond .eq 8, 3) := by decide +kernel
theorem dX_rotateFirst_12 : decode cX_rotateFirst 12 = .ok (.bipush 25, 2) := by decide +kernel
theorem dX_rotateFirst_14 : decode cX_rotateFirst 14 = .ok (.goto 4, 3) := by decide +kernel
theorem dX_rotateFirst_17 : decode cX_rotateFirst 17 = .ok (.iconst 0, 1) := by decide +kernel
theorem dX_rotateFirst_18 : decode cX_rotateFirst 18 = .ok (.ireturn, 1) := by decide +kernel
theorem dX_rotateLast_0 : decode cX_rotateLast 0 = .ok (.aload_n 0, 1) := by decide +kernel
theorem dX_rotateLast_1 : decode cX_rotateLast 1 = .ok (.invokevirtual 248, 3) := by decide +kernel
theorem dX_rotateLast_4 : decode cX_rotateLast 4 = .ok (.iconst 0, 1) := by decide +kernel
theorem dX_rotateLast_5 : decode cX_rotateLast 5 = .ok (.ireturn, 1) := by decide +kernel
theorem dX_rotate_0 : decode cX_rotate 0 = .ok (.aload_n 0, 1) := by decide +kernel
theorem dX_rotate_1 : decode cX_rotate 1 = .ok (.getfield 49, 3) := by decide +kernel
theorem dX_rotate_4 : decode cX_rotate 4 = .ok (.bipush 12, 2) := by decide +kernel
theorem dX_rotate_6 : decode cX_rotate 6 = .ok (.ishl, 1) := by decide +kernel
theorem dX_rotate_7 : decode cX_rotate 7 = .ok (.aload_n 0, 1) := by decide +kernel
theorem dX_rotate_8 : decode cX_rotate 8 = .ok (.getfield 46, 3) := by decide +kernel
theorem dX_rotate_11 : decode cX_rotate 11 = .ok (.ior, 1) := by decide +kernel
theorem dX_rotate_12 : decode cX_rotate 12 = .ok (.istore_n 1, 1) := by decide +kernel
theorem dX_rotate_13 : decode cX_rotate 13 = .ok (.aload_n 0, 1) := by decide +kernel
theorem dX_rotate_14 : decode cX_rotate 14 = .ok (.bipush 8, 2) := by decide +kernel
theorem dX_rotate_16 : decode cX_rotate 16 = .ok (.invokevirtual 233, 3) := by decide +kernel
theorem dX_rotate_19 : decode cX_rotate 19 = .ok (.ifCond .eq 14, 3) := by decide +kernel
theorem dX_rotate_22 : decode cX_rotate 22 = .ok (.iload_n 1, 1) := by decide +kernel
theorem dX_rotate_23 : decode cX_rotate 23 = .ok (.iconst 1, 1) := by decide +kernel
theorem dX_rotate_24 : decode cX_rotate 24 = .ok (.ishr, 1) := by decide +kernel
theorem dX_rotate_25 : decode cX_rotate 25 = .ok (.iload_n 1, 1) := by decide +kernel
theorem dX_rotate_26 : decode cX_rotate 26 = .ok (.iconst 1, 1) := by decide +kernel
theorem dX_rotate_27 : decode cX_rotate 27 = .ok (.iand, 1) := by decide +kernel
theorem dX_rotate_28 : decode cX_rotate 28 = .ok (.bipush 12, 2) := by decide +kernel
theorem dX_rotate_30 : decode cX_rotate 30 = .ok (.ishl, 1) := by decide +kernel
theorem dX_rotate_31 : decode cX_rotate 31 = .ok (.ior, 1) := by decide +kernel
theorem dX_rotate_32 : decode cX_rotate 32 = .ok (.istore_n 1, 1) := by decide +kernel
theorem dX_rotate_33 : decode cX_rotate 33 = .ok (.aload_n 0, 1) := by decide +kernel
theorem dX_rotate_34 : decode cX_rotate 34 = .ok (.iconst 4, 1) := by decide +kernel
theorem dX_rotate_35 : decode cX_rotate 35 = .ok (.invokevirtual 233, 3) := by decide +kernel
theorem dX_rotate_38 : decode cX_rotate 38 = .ok (.ifCond .eq 16, 3) := by decide +kernel
theorem dX_rotate_41 : decode cX_rotate 41 = .ok (.iload_n 1, 1) := by decide +kernel
theorem dX_rotate_42 : decode cX_rotate 42 = .ok (.iconst 1, 1) := by decide +kernel
theorem dX_rotate_43 : decode cX_rotate 43 = .ok (.ishl, 1) := by decide +kernel
theorem dX_rotate_44 : decode cX_rotate 44 = .ok (.iload_n 1, 1) := by decide +kernel
theorem dX_rotate_45 : decode cX_rotate 45 = .ok (.bipush 12, 2) := by decide +kernel
theorem dX_rotate_47 : decode cX_rotate 47 = .ok (.ishr, 1) := by decide +kernel
theorem dX_rotate_48 : decode cX_rotate 48 = .ok (.ior, 1) := by decide +kernel
theorem dX_rotate_49 : decode cX_rotate 49 = .ok (.sipush 8191, 3) := by decide +kernel
theorem dX_rotate_52 : decode cX_rotate 52 = .ok (.iand, 1) := by decide +kernel
theorem dX_rotate_53 : decode cX_rotate 53 = .ok (.istore_n 1, 1) := by decide +kernel
theorem dX_rotate_54 : decode cX_rotate 54 = .ok (.aload_n 0, 1) := by decide +kernel
theorem dX_rotate_55 : decode cX_rotate 55 = .ok (.iload_n 1, 1) := by decide +kernel
theorem dX_rotate_56 : decode cX_rotate 56 = .ok (.bipush 12, 2) := by decide +kernel
theorem dX_rotate_58 : decode cX_rotate 58 = .ok (.ishr, 1) := by decide +kernel
theorem dX_rotate_59 : decode cX_rotate 59 = .ok (.putfield 49, 3) := by decide +kernel
theorem dX_rotate_62 : decode cX_rotate 62 = .ok (.aload_n 0, 1) := by decide +kernel
theorem dX_rotate_63 : decode cX_rotate 63 = .ok (.iload_n 1, 1) := by decide +kernel
theorem dX_rotate_64 : decode cX_rotate 64 = .ok (.sipush 4095, 3) := by decide +kernel
theorem dX_rotate_67 : decode cX_rotate 67 = .ok (.iand, 1) := by decide +kernel
theorem dX_rotate_68 : decode cX_rotate 68 = .ok (.putfield 46, 3) := by decide +kernel
theorem dX_rotate_71 : decode cX_rotate 71 = .ok (.return_, 1) := by decide +kernel
theorem dX_test_0 : decode cX_test 0 = .ok (.aload_n 0, 1) := by decide +kernel
theorem dX_test_1 : decode cX_test 1 = .ok (.bipush 64, 2) := by decide +kernel
theorem dX_test_3 : decode cX_test 3 = .ok (.invokevirtual 233, 3) := by decide +kernel
theorem dX_test_6 : decode cX_test 6 = .ok (.ifCond .eq 13, 3) := by decide +kernel
theorem dX_test_9 : decode cX_test 9 = .ok (.aload_n 0, 1) := by decide +kernel
theorem dX_test_10 : decode cX_test 10 = .ok (.getfield 46, 3) := by decide +kernel
theorem dX_test_13 : decode cX_test 13 = .ok (.sipush 2048, 3) := by decide +kernel
theorem dX_test_16 : decode cX_test 16 = .ok (.if_icmp .ge 36, 3) := by decide +kernel
theorem dX_test_19 : decode cX_test 19 = .ok (.aload_n 0, 1) := by decide +kernel
theorem dX_test_20 : decode cX_test 20 = .ok (.bipush 32, 2) := by decide +kernel
theorem dX_test_22 : decode cX_test 22 = .ok (.invokevirtual 233, 3) := by decide +kernel
theorem dX_test_25 : decode cX_test 25 = .ok (.ifCond .eq 10, 3) := by decide +kernel
theorem dX_test_28 : decode cX_test 28 = .ok (.aload_n 0, 1) := by decide +kernel
theorem dX_test_29 : decode cX_test 29 = .ok (.getfield 46, 3) := by decide +kernel
theorem dX_test_32 : decode cX_test 32 = .ok (.ifCond .eq 20, 3) := by decide +kernel
theorem dX_test_35 : decode cX_test 35 = .ok (.aload_n 0, 1) := by decide +kernel
theorem dX_test_36 : decode cX_test 36 = .ok (.bipush 16, 2) := by decide +kernel
theorem dX_test_38 : decode cX_test 38 = .ok (.invokevirtual 233, 3) := by decide +kernel
theorem dX_test_41 : decode cX_test 41 = .ok (.ifCond .eq 15, 3) := by decide +kernel
theorem dX_test_44 : decode cX_test 44 = .ok (.aload_n 0, 1) := by decide +kernel
theorem dX_test_45 : decode cX_test 45 = .ok (.getfield 49, 3) := by decide +kernel
theorem dX_test_48 : decode cX_test 48 = .ok (.iconst 1, 1) := by decide +kernel
theorem dX_test_49 : decode cX_test 49 = .ok (.if_icmp .ne 7, 3) := by decide +kernel
theorem dX_test_52 : decode cX_test 52 = .ok (.iconst 1, 1) := by decide +kernel
theorem dX_test_53 : decode cX_test 53 = .ok (.goto 4, 3) := by decide +kernel
theorem dX_test_56 : decode cX_test 56 = .ok (.iconst 0, 1) := by decide +kernel
theorem dX_test_57 : decode cX_test 57 = .ok (.istore_n 1, 1) := by decide +kernel
theorem dX_test_58 : decode cX_test 58 = .ok (.iload_n 1, 1) := by decide +kernel
theorem dX_test_59 : decode cX_test 59 = .ok (.aload_n 0, 1) := by decide +kernel
theorem dX_test_60 : decode cX_test 60 = .ok (.bipush 8, 2) := by decide +kernel
theorem dX_test_62 : decode cX_test 62 = .ok (.invokevirtual 233, 3) := by decide +kernel
theorem dX_test_65 : decode cX_test 65 = .ok (.if_icmp .eq 7, 3) := by decide +kernel
theorem dX_test_68 : decode cX_test 68 = .ok (.aload_n 0, 1) := by decide +kernel
theorem dX_test_69 : decode cX_test 69 = .ok (.invokevirtual 230, 3) := by decide +kernel
theorem dX_test_72 : decode cX_test 72 = .ok (.bipush 27, 2) := by decide +kernel
theorem dX_test_74 : decode cX_test 74 = .ok (.ireturn, 1) := by decide +kernel
theorem dX_clearAfterTest_0 : decode cX_clearAfterTest 0 = .ok (.aload_n 0, 1) := by decide +kernel
theorem dX_clearAfterTest_1 : decode cX_clearAfterTest 1 = .ok (.invokevirtual 245, 3) := by decide +kernel
theorem dX_clearAfterTest_4 : decode cX_clearAfterTest 4 = .ok (.aload_n 0, 1) := by decide +kernel
theorem dX_clearAfterTest_5 : decode cX_clearAfterTest 5 = .ok (.bipush 6, 2) := by decide +kernel
theorem dX_clearAfterTest_7 : decode cX_clearAfterTest 7 = .ok (.invokevirtual 233, 3) := by decide +kernel
theorem dX_clearAfterTest_10 : decode cX_clearAfterTest 10 = .ok (.ifCond .eq 8, 3) := by decide +kernel
theorem dX_clearAfterTest_13 : decode cX_clearAfterTest 13 = .ok (.bipush 28, 2) := by decide +kernel
theorem dX_clearAfterTest_15 : decode cX_clearAfterTest 15 = .ok (.goto 4, 3) := by decide +kernel
theorem dX_clearAfterTest_18 : decode cX_clearAfterTest 18 = .ok (.iconst 0, 1) := by decide +kernel
theorem dX_clearAfterTest_19 : decode cX_clearAfterTest 19 = .ok (.ireturn, 1) := by decide +kernel
theorem dX_switchesAndHalt_0 : decode cX_switchesAndHalt 0 = .ok (.aload_n 0, 1) := by decide +kernel
theorem dX_switchesAndHalt_1 : decode cX_switchesAndHalt 1 = .ok (.iconst 4, 1) := by decide +kernel
theorem dX_switchesAndHalt_2 : decode cX_switchesAndHalt 2 = .ok (.invokevirtual 233, 3) := by decide +kernel
theorem dX_switchesAndHalt_5 : decode cX_switchesAndHalt 5 = .ok (.ifCond .eq 16, 3) := by decide +kernel
theorem dX_switchesAndHalt_8 : decode cX_switchesAndHalt 8 = .ok (.aload_n 0, 1) := by decide +kernel
theorem dX_switchesAndHalt_9 : decode cX_switchesAndHalt 9 = .ok (.dup, 1) := by decide +kernel
theorem dX_switchesAndHalt_10 : decode cX_switchesAndHalt 10 = .ok (.getfield 46, 3) := by decide +kernel
theorem dX_switchesAndHalt_13 : decode cX_switchesAndHalt 13 = .ok (.aload_n 0, 1) := by decide +kernel
theorem dX_switchesAndHalt_14 : decode cX_switchesAndHalt 14 = .ok (.getfield 95, 3) := by decide +kernel
theorem dX_switchesAndHalt_17 : decode cX_switchesAndHalt 17 = .ok (.ior, 1) := by decide +kernel
theorem dX_switchesAndHalt_18 : decode cX_switchesAndHalt 18 = .ok (.putfield 46, 3) := by decide +kernel
theorem dX_switchesAndHalt_21 : decode cX_switchesAndHalt 21 = .ok (.aload_n 0, 1) := by decide +kernel
theorem dX_switchesAndHalt_22 : decode cX_switchesAndHalt 22 = .ok (.iconst 2, 1) := by decide +kernel
theorem dX_switchesAndHalt_23 : decode cX_switchesAndHalt 23 = .ok (.invokevirtual 233, 3) := by decide +kernel
theorem dX_switchesAndHalt_26 : decode cX_switchesAndHalt 26 = .ok (.ifCond .eq 8, 3) := by decide +kernel
theorem dX_switchesAndHalt_29 : decode cX_switchesAndHalt 29 = .ok (.aload_n 0, 1) := by decide +kernel
theorem dX_switchesAndHalt_30 : decode cX_switchesAndHalt 30 = .ok (.iconst 1, 1) := by decide +kernel
theorem dX_switchesAndHalt_31 : decode cX_switchesAndHalt 31 = .ok (.putfield 70, 3) := by decide +kernel
theorem dX_switchesAndHalt_34 : decode cX_switchesAndHalt 34 = .ok (.iconst 0, 1) := by decide +kernel
theorem dX_switchesAndHalt_35 : decode cX_switchesAndHalt 35 = .ok (.ireturn, 1) := by decide +kernel
theorem dX_clearBeforeMq_0 : decode cX_clearBeforeMq 0 = .ok (.aload_n 0, 1) := by decide +kernel
theorem dX_clearBeforeMq_1 : decode cX_clearBeforeMq 1 = .ok (.invokevirtual 245, 3) := by decide +kernel
theorem dX_clearBeforeMq_4 : decode cX_clearBeforeMq 4 = .ok (.bipush 31, 2) := by decide +kernel
theorem dX_clearBeforeMq_6 : decode cX_clearBeforeMq 6 = .ok (.ireturn, 1) := by decide +kernel
theorem dX_exchangeMq_0 : decode cX_exchangeMq 0 = .ok (.aload_n 0, 1) := by decide +kernel
theorem dX_exchangeMq_1 : decode cX_exchangeMq 1 = .ok (.getfield 52, 3) := by decide +kernel
theorem dX_exchangeMq_4 : decode cX_exchangeMq 4 = .ok (.istore_n 1, 1) := by decide +kernel
theorem dX_exchangeMq_5 : decode cX_exchangeMq 5 = .ok (.aload_n 0, 1) := by decide +kernel
theorem dX_exchangeMq_6 : decode cX_exchangeMq 6 = .ok (.getfield 46, 3) := by decide +kernel
theorem dX_exchangeMq_9 : decode cX_exchangeMq 9 = .ok (.istore_n 2, 1) := by decide +kernel
theorem dX_exchangeMq_10 : decode cX_exchangeMq 10 = .ok (.aload_n 0, 1) := by decide +kernel
theorem dX_exchangeMq_11 : decode cX_exchangeMq 11 = .ok (.bipush 16, 2) := by decide +kernel
theorem dX_exchangeMq_13 : decode cX_exchangeMq 13 = .ok (.invokevirtual 233, 3) := by decide +kernel
theorem dX_exchangeMq_16 : decode cX_exchangeMq 16 = .ok (.ifCond .eq 13, 3) := by decide +kernel
theorem dX_exchangeMq_19 : decode cX_exchangeMq 19 = .ok (.aload_n 0, 1) := by decide +kernel
theorem dX_exchangeMq_20 : decode cX_exchangeMq 20 = .ok (.aload_n 0, 1) := by decide +kernel
theorem dX_exchangeMq_21 : decode cX_exchangeMq 21 = .ok (.getfield 46, 3) := by decide +kernel
theorem dX_exchangeMq_24 : decode cX_exchangeMq 24 = .ok (.putfield 52, 3) := by decide +kernel
theorem dX_exchangeMq_27 : decode cX_exchangeMq 27 = .ok (.iconst 0, 1) := by decide +kernel
theorem dX_exchangeMq_28 : decode cX_exchangeMq 28 = .ok (.istore_n 2, 1) := by decide +kernel
theorem dX_exchangeMq_29 : decode cX_exchangeMq 29 = .ok (.aload_n 0, 1) := by decide +kernel
theorem dX_exchangeMq_30 : decode cX_exchangeMq 30 = .ok (.aload_n 0, 1) := by decide +kernel
theorem dX_exchangeMq_31 : decode cX_exchangeMq 31 = .ok (.bipush 64, 2) := by decide +kernel
theorem dX_exchangeMq_33 : decode cX_exchangeMq 33 = .ok (.invokevirtual 233, 3) := by decide +kernel
theorem dX_exchangeMq_36 : decode cX_exchangeMq 36 = .ok (.ifCond .eq 9, 3) := by decide +kernel
theorem dX_exchangeMq_39 : decode cX_exchangeMq 39 = .ok (.iload_n 2, 1) := by decide +kernel
theorem dX_exchangeMq_40 : decode cX_exchangeMq 40 = .ok (.iload_n 1, 1) := by decide +kernel
theorem dX_exchangeMq_41 : decode cX_exchangeMq 41 = .ok (.ior, 1) := by decide +kernel
theorem dX_exchangeMq_42 : decode cX_exchangeMq 42 = .ok (.goto 4, 3) := by decide +kernel
theorem dX_exchangeMq_45 : decode cX_exchangeMq 45 = .ok (.iload_n 2, 1) := by decide +kernel
theorem dX_exchangeMq_46 : decode cX_exchangeMq 46 = .ok (.putfield 46, 3) := by decide +kernel
theorem dX_exchangeMq_49 : decode cX_exchangeMq 49 = .ok (.iconst 0, 1) := by decide +kernel
theorem dX_exchangeMq_50 : decode cX_exchangeMq 50 = .ok (.ireturn, 1) := by decide +kernel
theorem dX_chooseDevice_0 : decode cX_chooseDevice 0 = .ok (.aload_n 0, 1) := by decide +kernel
theorem dX_chooseDevice_1 : decode cX_chooseDevice 1 = .ok (.getfield 61, 3) := by decide +kernel
theorem dX_chooseDevice_4 : decode cX_chooseDevice 4 = .ok (.bipush 8, 2) := by decide +kernel
theorem dX_chooseDevice_6 : decode cX_chooseDevice 6 = .ok (.idiv, 1) := by decide +kernel
theorem dX_chooseDevice_7 : decode cX_chooseDevice 7 = .ok (.bipush 63, 2) := by decide +kernel
theorem dX_chooseDevice_9 : decode cX_chooseDevice 9 = .ok (.iand, 1) := by decide +kernel
theorem dX_chooseDevice_10 : decode cX_chooseDevice 10 = .ok (.tableswitch 43 0 4 #[34, 43, 43, 37, 40], 34) := by decide +kernel
theorem dX_chooseDevice_44 : decode cX_chooseDevice 44 = .ok (.bipush 33, 2) := by decide +kernel
theorem dX_chooseDevice_46 : decode cX_chooseDevice 46 = .ok (.ireturn, 1) := by decide +kernel
theorem dX_chooseDevice_47 : decode cX_chooseDevice 47 = .ok (.bipush 34, 2) := by decide +kernel
theorem dX_chooseDevice_49 : decode cX_chooseDevice 49 = .ok (.ireturn, 1) := by decide +kernel
theorem dX_chooseDevice_50 : decode cX_chooseDevice 50 = .ok (.bipush 36, 2) := by decide +kernel
theorem dX_chooseDevice_52 : decode cX_chooseDevice 52 = .ok (.ireturn, 1) := by decide +kernel
theorem dX_chooseDevice_53 : decode cX_chooseDevice 53 = .ok (.iconst 0, 1) := by decide +kernel
theorem dX_chooseDevice_54 : decode cX_chooseDevice 54 = .ok (.ireturn, 1) := by decide +kernel
theorem dX_turnInterrupts_0 : decode cX_turnInterrupts 0 = .ok (.aload_n 0, 1) := by decide +kernel
theorem dX_turnInterrupts_1 : decode cX_turnInterrupts 1 = .ok (.iconst 1, 1) := by decide +kernel
theorem dX_turnInterrupts_2 : decode cX_turnInterrupts 2 = .ok (.invokevirtual 233, 3) := by decide +kernel
theorem dX_turnInterrupts_5 : decode cX_turnInterrupts 5 = .ok (.ifCond .eq 13, 3) := by decide +kernel
theorem dX_turnInterrupts_8 : decode cX_turnInterrupts 8 = .ok (.aload_n 0, 1) := by decide +kernel
theorem dX_turnInterrupts_9 : decode cX_turnInterrupts 9 = .ok (.iconst 1, 1) := by decide +kernel
theorem dX_turnInterrupts_10 : decode cX_turnInterrupts 10 = .ok (.putfield 64, 3) := by decide +kernel
theorem dX_turnInterrupts_13 : decode cX_turnInterrupts 13 = .ok (.aload_n 0, 1) := by decide +kernel
theorem dX_turnInterrupts_14 : decode cX_turnInterrupts 14 = .ok (.iconst 1, 1) := by decide +kernel
theorem dX_turnInterrupts_15 : decode cX_turnInterrupts 15 = .ok (.putfield 67, 3) := by decide +kernel
theorem dX_turnInterrupts_18 : decode cX_turnInterrupts 18 = .ok (.aload_n 0, 1) := by decide +kernel
theorem dX_turnInterrupts_19 : decode cX_turnInterrupts 19 = .ok (.iconst 2, 1) := by decide +kernel
theorem dX_turnInterrupts_20 : decode cX_turnInterrupts 20 = .ok (.invokevirtual 233, 3) := by decide +kernel
theorem dX_turnInterrupts_23 : decode cX_turnInterrupts 23 = .ok (.ifCond .eq 8, 3) := by decide +kernel
theorem dX_turnInterrupts_26 : decode cX_turnInterrupts 26 = .ok (.aload_n 0, 1) := by decide +kernel
theorem dX_turnInterrupts_27 : decode cX_turnInterrupts 27 = .ok (.iconst 0, 1) := by decide +kernel
theorem dX_turnInterrupts_28 : decode cX_turnInterrupts 28 = .ok (.putfield 64, 3) := by decide +kernel
theorem dX_turnInterrupts_31 : decode cX_turnInterrupts 31 = .ok (.iconst 0, 1) := by decide +kernel
theorem dX_turnInterrupts_32 : decode cX_turnInterrupts 32 = .ok (.ireturn, 1) := by decide +kernel
theorem dX_askKeyboard_0 : decode cX_askKeyboard 0 = .ok (.aload_n 0, 1) := by decide +kernel
theorem dX_askKeyboard_1 : decode cX_askKeyboard 1 = .ok (.iconst 1, 1) := by decide +kernel
theorem dX_askKeyboard_2 : decode cX_askKeyboard 2 = .ok (.invokevirtual 233, 3) := by decide +kernel
theorem dX_askKeyboard_5 : decode cX_askKeyboard 5 = .ok (.ifCond .eq 17, 3) := by decide +kernel
theorem dX_askKeyboard_8 : decode cX_askKeyboard 8 = .ok (.aload_n 0, 1) := by decide +kernel
theorem dX_askKeyboard_9 : decode cX_askKeyboard 9 = .ok (.getfield 16, 3) := by decide +kernel
theorem dX_askKeyboard_12 : decode cX_askKeyboard 12 = .ok (.getfield 127, 3) := by decide +kernel
theorem dX_askKeyboard_15 : decode cX_askKeyboard 15 = .ok (.ifCond .eq 7, 3) := by decide +kernel
theorem dX_askKeyboard_18 : decode cX_askKeyboard 18 = .ok (.aload_n 0, 1) := by decide +kernel
theorem dX_askKeyboard_19 : decode cX_askKeyboard 19 = .ok (.invokevirtual 230, 3) := by decide +kernel
theorem dX_askKeyboard_22 : decode cX_askKeyboard 22 = .ok (.aload_n 0, 1) := by decide +kernel
theorem dX_askKeyboard_23 : decode cX_askKeyboard 23 = .ok (.iconst 2, 1) := by decide +kernel
theorem dX_askKeyboard_24 : decode cX_askKeyboard 24 = .ok (.invokevirtual 233, 3) := by decide +kernel
theorem dX_askKeyboard_27 : decode cX_askKeyboard 27 = .ok (.ifCond .eq 16, 3) := by decide +kernel
theorem dX_askKeyboard_30 : decode cX_askKeyboard 30 = .ok (.aload_n 0, 1) := by decide +kernel
theorem dX_askKeyboard_31 : decode cX_askKeyboard 31 = .ok (.getfield 16, 3) := by decide +kernel
theorem dX_askKeyboard_34 : decode cX_askKeyboard 34 = .ok (.iconst 0, 1) := by decide +kernel
theorem dX_askKeyboard_35 : decode cX_askKeyboard 35 = .ok (.putfield 127, 3) := by decide +kernel
theorem dX_askKeyboard_38 : decode cX_askKeyboard 38 = .ok (.aload_n 0, 1) := by decide +kernel
theorem dX_askKeyboard_39 : decode cX_askKeyboard 39 = .ok (.iconst 0, 1) := by decide +kernel
theorem dX_askKeyboard_40 : decode cX_askKeyboard 40 = .ok (.putfield 46, 3) := by decide +kernel
theorem dX_askKeyboard_43 : decode cX_askKeyboard 43 = .ok (.aload_n 0, 1) := by decide +kernel
theorem dX_askKeyboard_44 : decode cX_askKeyboard 44 = .ok (.iconst 4, 1) := by decide +kernel
theorem dX_askKeyboard_45 : decode cX_askKeyboard 45 = .ok (.invokevirtual 233, 3) := by decide +kernel
theorem dX_askKeyboard_48 : decode cX_askKeyboard 48 = .ok (.ifCond .eq 8, 3) := by decide +kernel
theorem dX_askKeyboard_51 : decode cX_askKeyboard 51 = .ok (.bipush 35, 2) := by decide +kernel
theorem dX_askKeyboard_53 : decode cX_askKeyboard 53 = .ok (.goto 4, 3) := by decide +kernel
theorem dX_askKeyboard_56 : decode cX_askKeyboard 56 = .ok (.iconst 0, 1) := by decide +kernel
theorem dX_askKeyboard_57 : decode cX_askKeyboard 57 = .ok (.ireturn, 1) := by decide +kernel
theorem dX_readKeyboard_0 : decode cX_readKeyboard 0 = .ok (.aload_n 0, 1) := by decide +kernel
theorem dX_readKeyboard_1 : decode cX_readKeyboard 1 = .ok (.dup, 1) := by decide +kernel
theorem dX_readKeyboard_2 : decode cX_readKeyboard 2 = .ok (.getfield 46, 3) := by decide +kernel
theorem dX_readKeyboard_5 : decode cX_readKeyboard 5 = .ok (.aload_n 0, 1) := by decide +kernel
theorem dX_readKeyboard_6 : decode cX_readKeyboard 6 = .ok (.getfield 16, 3) := by decide +kernel
theorem dX_readKeyboard_9 : decode cX_readKeyboard 9 = .ok (.getfield 118, 3) := by decide +kernel
theorem dX_readKeyboard_12 : decode cX_readKeyboard 12 = .ok (.ior, 1) := by decide +kernel
theorem dX_readKeyboard_13 : decode cX_readKeyboard 13 = .ok (.putfield 46, 3) := by decide +kernel
theorem dX_readKeyboard_16 : decode cX_readKeyboard 16 = .ok (.iconst 0, 1) := by decide +kernel
theorem dX_readKeyboard_17 : decode cX_readKeyboard 17 = .ok (.ireturn, 1) := by decide +kernel
theorem dX_askPrinter_0 : decode cX_askPrinter 0 = .ok (.aload_n 0, 1) := by decide +kernel
theorem dX_askPrinter_1 : decode cX_askPrinter 1 = .ok (.iconst 1, 1) := by decide +kernel
theorem dX_askPrinter_2 : decode cX_askPrinter 2 = .ok (.invokevirtual 233, 3) := by decide +kernel
theorem dX_askPrinter_5 : decode cX_askPrinter 5 = .ok (.ifCond .eq 17, 3) := by decide +kernel
theorem dX_askPrinter_8 : decode cX_askPrinter 8 = .ok (.aload_n 0, 1) := by decide +kernel
theorem dX_askPrinter_9 : decode cX_askPrinter 9 = .ok (.getfield 34, 3) := by decide +kernel
theorem dX_askPrinter_12 : decode cX_askPrinter 12 = .ok (.getfield 130, 3) := by decide +kernel
theorem dX_askPrinter_15 : decode cX_askPrinter 15 = .ok (.ifCond .eq 7, 3) := by decide +kernel
theorem dX_askPrinter_18 : decode cX_askPrinter 18 = .ok (.aload_n 0, 1) := by decide +kernel
theorem dX_askPrinter_19 : decode cX_askPrinter 19 = .ok (.invokevirtual 230, 3) := by decide +kernel
theorem dX_askPrinter_22 : decode cX_askPrinter 22 = .ok (.aload_n 0, 1) := by decide +kernel
theorem dX_askPrinter_23 : decode cX_askPrinter 23 = .ok (.iconst 2, 1) := by decide +kernel
theorem dX_askPrinter_24 : decode cX_askPrinter 24 = .ok (.invokevirtual 233, 3) := by decide +kernel
theorem dX_askPrinter_27 : decode cX_askPrinter 27 = .ok (.ifCond .eq 11, 3) := by decide +kernel
theorem dX_askPrinter_30 : decode cX_askPrinter 30 = .ok (.aload_n 0, 1) := by decide +kernel
theorem dX_askPrinter_31 : decode cX_askPrinter 31 = .ok (.getfield 34, 3) := by decide +kernel
theorem dX_askPrinter_34 : decode cX_askPrinter 34 = .ok (.iconst 0, 1) := by decide +kernel
theorem dX_askPrinter_35 : decode cX_askPrinter 35 = .ok (.putfield 130, 3) := by decide +kernel
theorem dX_askPrinter_38 : decode cX_askPrinter 38 = .ok (.aload_n 0, 1) := by decide +kernel
theorem dX_askPrinter_39 : decode cX_askPrinter 39 = .ok (.iconst 4, 1) := by decide +kernel
theorem dX_askPrinter_40 : decode cX_askPrinter 40 = .ok (.invokevirtual 233, 3) := by decide +kernel
theorem dX_askPrinter_43 : decode cX_askPrinter 43 = .ok (.ifCond .eq 8, 3) := by decide +kernel
theorem dX_askPrinter_46 : decode cX_askPrinter 46 = .ok (.bipush 37, 2) := by decide +kernel
theorem dX_askPrinter_48 : decode cX_askPrinter 48 = .ok (.goto 4, 3) := by decide +kernel
theorem dX_askPrinter_51 : decode cX_askPrinter 51 = .ok (.iconst 0, 1) := by decide +kernel
theorem dX_askPrinter_52 : decode cX_askPrinter 52 = .ok (.ireturn, 1) := by decide +kernel
theorem dX_writePrinter_0 : decode cX_writePrinter 0 = .ok (.aload_n 0, 1) := by decide +kernel
theorem dX_writePrinter_1 : decode cX_writePrinter 1 = .ok (.getfield 34, 3) := by decide +kernel
theorem dX_writePrinter_4 : decode cX_writePrinter 4 = .ok (.aload_n 0, 1) := by decide +kernel
theorem dX_writePrinter_5 : decode cX_writePrinter 5 = .ok (.getfield 46, 3) := by decide +kernel
theorem dX_writePrinter_8 : decode cX_writePrinter 8 = .ok (.invokevirtual 251, 3) := by decide +kernel
theorem dX_writePrinter_11 : decode cX_writePrinter 11 = .ok (.iconst 0, 1) := by decide +kernel
theorem dX_writePrinter_12 : decode cX_writePrinter 12 = .ok (.ireturn, 1) := by decide +kernel
theorem dX_interrupt_0 : decode cX_interrupt 0 = .ok (.aload_n 0, 1) := by decide +kernel
theorem dX_interrupt_1 : decode cX_interrupt 1 = .ok (.aload_n 0, 1) := by decide +kernel
theorem dX_interrupt_2 : decode cX_interrupt 2 = .ok (.getfield 42, 3) := by decide +kernel
theorem dX_interrupt_5 : decode cX_interrupt 5 = .ok (.putfield 58, 3) := by decide +kernel
theorem dX_interrupt_8 : decode cX_interrupt 8 = .ok (.aload_n 0, 1) := by decide +kernel
theorem dX_interrupt_9 : decode cX_interrupt 9 = .ok (.iconst 0, 1) := by decide +kernel
theorem dX_interrupt_10 : decode cX_interrupt 10 = .ok (.putfield 55, 3) := by decide +kernel
theorem dX_interrupt_13 : decode cX_interrupt 13 = .ok (.aload_n 0, 1) := by decide +kernel
theorem dX_interrupt_14 : decode cX_interrupt 14 = .ok (.iconst 0, 1) := by decide +kernel
theorem dX_interrupt_15 : decode cX_interrupt 15 = .ok (.putfield 64, 3) := by decide +kernel
theorem dX_interrupt_18 : decode cX_interrupt 18 = .ok (.bipush 41, 2) := by decide +kernel
theorem dX_interrupt_20 : decode cX_interrupt 20 = .ok (.ireturn, 1) := by decide +kernel
theorem dK_init_0 : decode cK_init 0 = .ok (.aload_n 0, 1) := by decide +kernel
theorem dK_init_1 : decode cK_init 1 = .ok (.invokespecial 1, 3) := by decide +kernel
theorem dK_init_4 : decode cK_init 4 = .ok (.return_, 1) := by decide +kernel
theorem dK_reset_0 : decode cK_reset 0 = .ok (.aload_n 0, 1) := by decide +kernel
theorem dK_reset_1 : decode cK_reset 1 = .ok (.iconst 0, 1) := by decide +kernel
theorem dK_reset_2 : decode cK_reset 2 = .ok (.putfield 7, 3) := by decide +kernel
theorem dK_reset_5 : decode cK_reset 5 = .ok (.aload_n 0, 1) := by decide +kernel
theorem dK_reset_6 : decode cK_reset 6 = .ok (.iconst 0, 1) := by decide +kernel
theorem dK_reset_7 : decode cK_reset 7 = .ok (.putfield 13, 3) := by decide +kernel
theorem dK_reset_10 : decode cK_reset 10 = .ok (.return_, 1) := by decide +kernel
theorem dK_press_0 : decode cK_press 0 = .ok (.aload_n 0, 1) := by decide +kernel
theorem dK_press_1 : decode cK_press 1 = .ok (.iload_n 1, 1) := by decide +kernel
theorem dK_press_2 : decode cK_press 2 = .ok (.sipush 255, 3) := by decide +kernel
theorem dK_press_5 : decode cK_press 5 = .ok (.iand, 1) := by decide +kernel
theorem dK_press_6 : decode cK_press 6 = .ok (.putfield 13, 3) := by decide +kernel
theorem dK_press_9 : decode cK_press 9 = .ok (.aload_n 0, 1) := by decide +kernel
theorem dK_press_10 : decode cK_press 10 = .ok (.iconst 1, 1) := by decide +kernel
theorem dK_press_11 : decode cK_press 11 = .ok (.putfield 7, 3) := by decide +kernel
theorem dK_press_14 : decode cK_press 14 = .ok (.return_, 1) := by decide +kernel
theorem dP_init_0 : decode cP_init 0 = .ok (.aload_n 0, 1) := by decide +kernel
theorem dP_init_1 : decode cP_init 1 = .ok (.invokespecial 3, 3) := by decide +kernel
theorem dP_init_4 : decode cP_init 4 = .ok (.aload_n 0, 1) := by decide +kernel
theorem dP_init_5 : decode cP_init 5 = .ok (.iload_n 1, 1) := by decide +kernel
theorem dP_init_6 : decode cP_init 6 = .ok (.newarray .int, 2) := by decide +kernel
theorem dP_init_8 : decode cP_init 8 = .ok (.putfield 9, 3) := by decide +kernel
theorem dP_init_11 : decode cP_init 11 = .ok (.return_, 1) := by decide +kernel
theorem dP_reset_0 : decode cP_reset 0 = .ok (.aload_n 0, 1) := by decide +kernel
theorem dP_reset_1 : decode cP_reset 1 = .ok (.iconst 0, 1) := by decide +kernel
theorem dP_reset_2 : decode cP_reset 2 = .ok (.putfield 15, 3) := by decide +kernel
theorem dP_reset_5 : decode cP_reset 5 = .ok (.aload_n 0, 1) := by decide +kernel
theorem dP_reset_6 : decode cP_reset 6 = .ok (.iconst 0, 1) := by decide +kernel
theorem dP_reset_7 : decode cP_reset 7 = .ok (.putfield 19, 3) := by decide +kernel
theorem dP_reset_10 : decode cP_reset 10 = .ok (.return_, 1) := by decide +kernel
theorem dP_isFull_0 : decode cP_isFull 0 = .ok (.aload_n 0, 1) := by decide +kernel
theorem dP_isFull_1 : decode cP_isFull 1 = .ok (.getfield 15, 3) := by decide +kernel
theorem dP_isFull_4 : decode cP_isFull 4 = .ok (.aload_n 0, 1) := by decide +kernel
theorem dP_isFull_5 : decode cP_isFull 5 = .ok (.getfield 9, 3) := by decide +kernel
theorem dP_isFull_8 : decode cP_isFull 8 = .ok (.arraylength, 1) := by decide +kernel
theorem dP_isFull_9 : decode cP_isFull 9 = .ok (.if_icmp .lt 7, 3) := by decide +kernel
theorem dP_isFull_12 : decode cP_isFull 12 = .ok (.iconst 1, 1) := by decide +kernel
theorem dP_isFull_13 : decode cP_isFull 13 = .ok (.goto 4, 3) := by decide +kernel
theorem dP_isFull_16 : decode cP_isFull 16 = .ok (.iconst 0, 1) := by decide +kernel
theorem dP_isFull_17 : decode cP_isFull 17 = .ok (.ireturn, 1) := by decide +kernel
theorem dP_print_0 : decode cP_print 0 = .ok (.aload_n 0, 1) := by decide +kernel
theorem dP_print_1 : decode cP_print 1 = .ok (.invokevirtual 23, 3) := by decide +kernel
theorem dP_print_4 : decode cP_print 4 = .ok (.ifCond .eq 4, 3) := by decide +kernel
theorem dP_print_7 : decode cP_print 7 = .ok (.return_, 1) := by decide +kernel
theorem dP_print_8 : decode cP_print 8 = .ok (.aload_n 0, 1) := by decide +kernel
theorem dP_print_9 : decode cP_print 9 = .ok (.getfield 9, 3) := by decide +kernel
theorem dP_print_12 : decode cP_print 12 = .ok (.aload_n 0, 1) := by decide +kernel
theorem dP_print_13 : decode cP_print 13 = .ok (.getfield 15, 3) := by decide +kernel
theorem dP_print_16 : decode cP_print 16 = .ok (.iload_n 1, 1) := by decide +kernel
theorem dP_print_17 : decode cP_print 17 = .ok (.sipush 255, 3) := by decide +kernel
theorem dP_print_20 : decode cP_print 20 = .ok (.iand, 1) := by decide +kernel
theorem dP_print_21 : decode cP_print 21 = .ok (.iastore, 1) := by decide +kernel
theorem dP_print_22 : decode cP_print 22 = .ok (.aload_n 0, 1) := by decide +kernel
theorem dP_print_23 : decode cP_print 23 = .ok (.dup, 1) := by decide +kernel
theorem dP_print_24 : decode cP_print 24 = .ok (.getfield 15, 3) := by decide +kernel
theorem dP_print_27 : decode cP_print 27 = .ok (.iconst 1, 1) := by decide +kernel
theorem dP_print_28 : decode cP_print 28 = .ok (.iadd, 1) := by decide +kernel
theorem dP_print_29 : decode cP_print 29 = .ok (.putfield 15, 3) := by decide +kernel
theorem dP_print_32 : decode cP_print 32 = .ok (.aload_n 0, 1) := by decide +kernel
theorem dP_print_33 : decode cP_print 33 = .ok (.iconst 1, 1) := by decide +kernel
theorem dP_print_34 : decode cP_print 34 = .ok (.putfield 19, 3) := by decide +kernel
theorem dP_print_37 : decode cP_print 37 = .ok (.return_, 1) := by decide +kernel
theorem dP_byteAt_0 : decode cP_byteAt 0 = .ok (.iload_n 1, 1) := by decide +kernel
theorem dP_byteAt_1 : decode cP_byteAt 1 = .ok (.ifCond .lt 20, 3) := by decide +kernel
theorem dP_byteAt_4 : decode cP_byteAt 4 = .ok (.iload_n 1, 1) := by decide +kernel
theorem dP_byteAt_5 : decode cP_byteAt 5 = .ok (.aload_n 0, 1) := by decide +kernel
theorem dP_byteAt_6 : decode cP_byteAt 6 = .ok (.getfield 15, 3) := by decide +kernel
theorem dP_byteAt_9 : decode cP_byteAt 9 = .ok (.if_icmp .ge 12, 3) := by decide +kernel
theorem dP_byteAt_12 : decode cP_byteAt 12 = .ok (.aload_n 0, 1) := by decide +kernel
theorem dP_byteAt_13 : decode cP_byteAt 13 = .ok (.getfield 9, 3) := by decide +kernel
theorem dP_byteAt_16 : decode cP_byteAt 16 = .ok (.iload_n 1, 1) := by decide +kernel
theorem dP_byteAt_17 : decode cP_byteAt 17 = .ok (.iaload, 1) := by decide +kernel
theorem dP_byteAt_18 : decode cP_byteAt 18 = .ok (.goto 4, 3) := by decide +kernel
theorem dP_byteAt_21 : decode cP_byteAt 21 = .ok (.iconst (-1), 1) := by decide +kernel
theorem dP_byteAt_22 : decode cP_byteAt 22 = .ok (.ireturn, 1) := by decide +kernel
