theorem dM_init_0 : decode cM_init 0 = .ok (.aload_n 0, 1) := by decide +kernel
theorem dM_init_1 : decode cM_init 1 = .ok (.invokespecial 1, 3) := by decide +kernel
theorem dM_init_4 : decode cM_init 4 = .ok (.aload_n 0, 1) := by decide +kernel
theorem dM_init_5 : decode cM_init 5 = .ok (.sipush 4096, 3) := by decide +kernel
theorem dM_init_8 : decode cM_init 8 = .ok (.newarray .int, 2) := by decide +kernel
theorem dM_init_10 : decode cM_init 10 = .ok (.putfield 7, 3) := by decide +kernel
theorem dM_init_13 : decode cM_init 13 = .ok (.aload_n 0, 1) := by decide +kernel
theorem dM_init_14 : decode cM_init 14 = .ok (.bipush 100, 2) := by decide +kernel
theorem dM_init_16 : decode cM_init 16 = .ok (.newarray .int, 2) := by decide +kernel
theorem dM_init_18 : decode cM_init 18 = .ok (.putfield 13, 3) := by decide +kernel
theorem dM_init_21 : decode cM_init 21 = .ok (.aload_n 0, 1) := by decide +kernel
theorem dM_init_22 : decode cM_init 22 = .ok (.iload_n 1, 1) := by decide +kernel
theorem dM_init_23 : decode cM_init 23 = .ok (.ifCond .ge 7, 3) := by decide +kernel
theorem dM_init_26 : decode cM_init 26 = .ok (.iconst 0, 1) := by decide +kernel
theorem dM_init_27 : decode cM_init 27 = .ok (.goto 15, 3) := by decide +kernel
theorem dM_init_30 : decode cM_init 30 = .ok (.iload_n 1, 1) := by decide +kernel
theorem dM_init_31 : decode cM_init 31 = .ok (.bipush 100, 2) := by decide +kernel
theorem dM_init_33 : decode cM_init 33 = .ok (.if_icmp .le 8, 3) := by decide +kernel
theorem dM_init_36 : decode cM_init 36 = .ok (.bipush 100, 2) := by decide +kernel
theorem dM_init_38 : decode cM_init 38 = .ok (.goto 4, 3) := by decide +kernel
theorem dM_init_41 : decode cM_init 41 = .ok (.iload_n 1, 1) := by decide +kernel
theorem dM_init_42 : decode cM_init 42 = .ok (.putfield 16, 3) := by decide +kernel
theorem dM_init_45 : decode cM_init 45 = .ok (.return_, 1) := by decide +kernel
theorem dM_init__0 : decode cM_init_ 0 = .ok (.aload_n 0, 1) := by decide +kernel
theorem dM_init__1 : decode cM_init_ 1 = .ok (.iconst 1, 1) := by decide +kernel
theorem dM_init__2 : decode cM_init_ 2 = .ok (.putfield 20, 3) := by decide +kernel
theorem dM_init__5 : decode cM_init_ 5 = .ok (.aload_n 0, 1) := by decide +kernel
theorem dM_init__6 : decode cM_init_ 6 = .ok (.iconst 0, 1) := by decide +kernel
theorem dM_init__7 : decode cM_init_ 7 = .ok (.putfield 24, 3) := by decide +kernel
theorem dM_init__10 : decode cM_init_ 10 = .ok (.aload_n 0, 1) := by decide +kernel
theorem dM_init__11 : decode cM_init_ 11 = .ok (.iconst 0, 1) := by decide +kernel
theorem dM_init__12 : decode cM_init_ 12 = .ok (.putfield 27, 3) := by decide +kernel
theorem dM_init__15 : decode cM_init_ 15 = .ok (.aload_n 0, 1) := by decide +kernel
theorem dM_init__16 : decode cM_init_ 16 = .ok (.iconst 0, 1) := by decide +kernel
theorem dM_init__17 : decode cM_init_ 17 = .ok (.putfield 30, 3) := by decide +kernel
theorem dM_init__20 : decode cM_init_ 20 = .ok (.aload_n 0, 1) := by decide +kernel
theorem dM_init__21 : decode cM_init_ 21 = .ok (.iconst 0, 1) := by decide +kernel
theorem dM_init__22 : decode cM_init_ 22 = .ok (.putfield 33, 3) := by decide +kernel
theorem dM_init__25 : decode cM_init_ 25 = .ok (.aload_n 0, 1) := by decide +kernel
theorem dM_init__26 : decode cM_init_ 26 = .ok (.iconst 0, 1) := by decide +kernel
theorem dM_init__27 : decode cM_init_ 27 = .ok (.putfield 36, 3) := by decide +kernel
theorem dM_init__30 : decode cM_init_ 30 = .ok (.aload_n 0, 1) := by decide +kernel
theorem dM_init__31 : decode cM_init_ 31 = .ok (.iconst 0, 1) := by decide +kernel
theorem dM_init__32 : decode cM_init_ 32 = .ok (.putfield 39, 3) := by decide +kernel
theorem dM_init__35 : decode cM_init_ 35 = .ok (.aload_n 0, 1) := by decide +kernel
theorem dM_init__36 : decode cM_init_ 36 = .ok (.iconst 0, 1) := by decide +kernel
theorem dM_init__37 : decode cM_init_ 37 = .ok (.putfield 42, 3) := by decide +kernel
theorem dM_init__40 : decode cM_init_ 40 = .ok (.aload_n 0, 1) := by decide +kernel
theorem dM_init__41 : decode cM_init_ 41 = .ok (.iconst 0, 1) := by decide +kernel
theorem dM_init__42 : decode cM_init_ 42 = .ok (.putfield 45, 3) := by decide +kernel
theorem dM_init__45 : decode cM_init_ 45 = .ok (.aload_n 0, 1) := by decide +kernel
theorem dM_init__46 : decode cM_init_ 46 = .ok (.iconst 0, 1) := by decide +kernel
theorem dM_init__47 : decode cM_init_ 47 = .ok (.putfield 48, 3) := by decide +kernel
theorem dM_init__50 : decode cM_init_ 50 = .ok (.aload_n 0, 1) := by decide +kernel
theorem dM_init__51 : decode cM_init_ 51 = .ok (.iconst 0, 1) := by decide +kernel
theorem dM_init__52 : decode cM_init_ 52 = .ok (.putfield 51, 3) := by decide +kernel
theorem dM_init__55 : decode cM_init_ 55 = .ok (.aload_n 0, 1) := by decide +kernel
theorem dM_init__56 : decode cM_init_ 56 = .ok (.iconst 0, 1) := by decide +kernel
theorem dM_init__57 : decode cM_init_ 57 = .ok (.putfield 54, 3) := by decide +kernel
theorem dM_init__60 : decode cM_init_ 60 = .ok (.aload_n 0, 1) := by decide +kernel
theorem dM_init__61 : decode cM_init_ 61 = .ok (.iconst 0, 1) := by decide +kernel
theorem dM_init__62 : decode cM_init_ 62 = .ok (.putfield 57, 3) := by decide +kernel
theorem dM_init__65 : decode cM_init_ 65 = .ok (.aload_n 0, 1) := by decide +kernel
theorem dM_init__66 : decode cM_init_ 66 = .ok (.iconst 0, 1) := by decide +kernel
theorem dM_init__67 : decode cM_init_ 67 = .ok (.putfield 60, 3) := by decide +kernel
theorem dM_init__70 : decode cM_init_ 70 = .ok (.aload_n 0, 1) := by decide +kernel
theorem dM_init__71 : decode cM_init_ 71 = .ok (.iconst 0, 1) := by decide +kernel
theorem dM_init__72 : decode cM_init_ 72 = .ok (.putfield 63, 3) := by decide +kernel
theorem dM_init__75 : decode cM_init_ 75 = .ok (.aload_n 0, 1) := by decide +kernel
theorem dM_init__76 : decode cM_init_ 76 = .ok (.iconst 0, 1) := by decide +kernel
theorem dM_init__77 : decode cM_init_ 77 = .ok (.putfield 66, 3) := by decide +kernel
theorem dM_init__80 : decode cM_init_ 80 = .ok (.aload_n 0, 1) := by decide +kernel
theorem dM_init__81 : decode cM_init_ 81 = .ok (.iconst 0, 1) := by decide +kernel
theorem dM_init__82 : decode cM_init_ 82 = .ok (.putfield 69, 3) := by decide +kernel
theorem dM_init__85 : decode cM_init_ 85 = .ok (.return_, 1) := by decide +kernel
theorem dM_isAddress_0 : decode cM_isAddress 0 = .ok (.iload_n 0, 1) := by decide +kernel
theorem dM_isAddress_1 : decode cM_isAddress 1 = .ok (.ifCond .lt 14, 3) := by decide +kernel
theorem dM_isAddress_4 : decode cM_isAddress 4 = .ok (.iload_n 0, 1) := by decide +kernel
theorem dM_isAddress_5 : decode cM_isAddress 5 = .ok (.sipush 4096, 3) := by decide +kernel
theorem dM_isAddress_8 : decode cM_isAddress 8 = .ok (.if_icmp .ge 7, 3) := by decide +kernel
theorem dM_isAddress_11 : decode cM_isAddress 11 = .ok (.iconst 1, 1) := by decide +kernel
theorem dM_isAddress_12 : decode cM_isAddress 12 = .ok (.goto 4, 3) := by decide +kernel
theorem dM_isAddress_15 : decode cM_isAddress 15 = .ok (.iconst 0, 1) := by decide +kernel
theorem dM_isAddress_16 : decode cM_isAddress 16 = .ok (.ireturn, 1) := by decide +kernel
theorem dM_deposit_0 : decode cM_deposit 0 = .ok (.iload_n 1, 1) := by decide +kernel
theorem dM_deposit_1 : decode cM_deposit 1 = .ok (.invokestatic 72, 3) := by decide +kernel
theorem dM_deposit_4 : decode cM_deposit 4 = .ok (.ifCond .ne 5, 3) := by decide +kernel
theorem dM_deposit_7 : decode cM_deposit 7 = .ok (.iconst 0, 1) := by decide +kernel
theorem dM_deposit_8 : decode cM_deposit 8 = .ok (.ireturn, 1) := by decide +kernel
theorem dM_deposit_9 : decode cM_deposit 9 = .ok (.aload_n 0, 1) := by decide +kernel
theorem dM_deposit_10 : decode cM_deposit 10 = .ok (.getfield 7, 3) := by decide +kernel
theorem dM_deposit_13 : decode cM_deposit 13 = .ok (.iload_n 1, 1) := by decide +kernel
theorem dM_deposit_14 : decode cM_deposit 14 = .ok (.iload_n 2, 1) := by decide +kernel
theorem dM_deposit_15 : decode cM_deposit 15 = .ok (.sipush 4095, 3) := by decide +kernel
theorem dM_deposit_18 : decode cM_deposit 18 = .ok (.iand, 1) := by decide +kernel
theorem dM_deposit_19 : decode cM_deposit 19 = .ok (.iastore, 1) := by decide +kernel
theorem dM_deposit_20 : decode cM_deposit 20 = .ok (.iconst 1, 1) := by decide +kernel
theorem dM_deposit_21 : decode cM_deposit 21 = .ok (.ireturn, 1) := by decide +kernel
theorem dM_examine_0 : decode cM_examine 0 = .ok (.iload_n 1, 1) := by decide +kernel
theorem dM_examine_1 : decode cM_examine 1 = .ok (.invokestatic 72, 3) := by decide +kernel
theorem dM_examine_4 : decode cM_examine 4 = .ok (.ifCond .eq 12, 3) := by decide +kernel
theorem dM_examine_7 : decode cM_examine 7 = .ok (.aload_n 0, 1) := by decide +kernel
theorem dM_examine_8 : decode cM_examine 8 = .ok (.getfield 7, 3) := by decide +kernel
theorem dM_examine_11 : decode cM_examine 11 = .ok (.iload_n 1, 1) := by decide +kernel
theorem dM_examine_12 : decode cM_examine 12 = .ok (.iaload, 1) := by decide +kernel
theorem dM_examine_13 : decode cM_examine 13 = .ok (.goto 4, 3) := by decide +kernel
theorem dM_examine_16 : decode cM_examine 16 = .ok (.iconst (-1), 1) := by decide +kernel
theorem dM_examine_17 : decode cM_examine 17 = .ok (.ireturn, 1) := by decide +kernel
theorem dM_load_0 : decode cM_load 0 = .ok (.iload_n 1, 1) := by decide +kernel
theorem dM_load_1 : decode cM_load 1 = .ok (.invokestatic 72, 3) := by decide +kernel
theorem dM_load_4 : decode cM_load 4 = .ok (.ifCond .eq 13, 3) := by decide +kernel
theorem dM_load_7 : decode cM_load 7 = .ok (.iload_n 2, 1) := by decide +kernel
theorem dM_load_8 : decode cM_load 8 = .ok (.iconst 1, 1) := by decide +kernel
theorem dM_load_9 : decode cM_load 9 = .ok (.if_icmp .lt 8, 3) := by decide +kernel
theorem dM_load_12 : decode cM_load 12 = .ok (.iload_n 2, 1) := by decide +kernel
theorem dM_load_13 : decode cM_load 13 = .ok (.iconst 5, 1) := by decide +kernel
theorem dM_load_14 : decode cM_load 14 = .ok (.if_icmp .le 5, 3) := by decide +kernel
theorem dM_load_17 : decode cM_load 17 = .ok (.iconst 0, 1) := by decide +kernel
theorem dM_load_18 : decode cM_load 18 = .ok (.ireturn, 1) := by decide +kernel
theorem dM_load_19 : decode cM_load 19 = .ok (.iconst 0, 1) := by decide +kernel
theorem dM_load_20 : decode cM_load 20 = .ok (.istore 5, 2) := by decide +kernel
theorem dM_load_22 : decode cM_load 22 = .ok (.iload 5, 2) := by decide +kernel
theorem dM_load_24 : decode cM_load 24 = .ok (.iload_n 2, 1) := by decide +kernel
theorem dM_load_25 : decode cM_load 25 = .ok (.if_icmp .ge 38, 3) := by decide +kernel
theorem dM_load_28 : decode cM_load 28 = .ok (.aload_n 0, 1) := by decide +kernel
theorem dM_load_29 : decode cM_load 29 = .ok (.getfield 7, 3) := by decide +kernel
theorem dM_load_32 : decode cM_load 32 = .ok (.iload_n 1, 1) := by decide +kernel
theorem dM_load_33 : decode cM_load 33 = .ok (.iload 5, 2) := by decide +kernel
theorem dM_load_35 : decode cM_load 35 = .ok (.iadd, 1) := by decide +kernel
theorem dM_load_36 : decode cM_load 36 = .ok (.sipush 4095, 3) := by decide +kernel
theorem dM_load_39 : decode cM_load 39 = .ok (.iand, 1) := by decide +kernel
theorem dM_load_40 : decode cM_load 40 = .ok (.lload_n 3, 1) := by decide +kernel
theorem dM_load_41 : decode cM_load 41 = .ok (.bipush 12, 2) := by decide +kernel
theorem dM_load_43 : decode cM_load 43 = .ok (.iload_n 2, 1) := by decide +kernel
theorem dM_load_44 : decode cM_load 44 = .ok (.iconst 1, 1) := by decide +kernel
theorem dM_load_45 : decode cM_load 45 = .ok (.isub, 1) := by decide +kernel
theorem dM_load_46 : decode cM_load 46 = .ok (.iload 5, 2) := by decide +kernel
theorem dM_load_48 : decode cM_load 48 = .ok (.isub, 1) := by decide +kernel
theorem dM_load_49 : decode cM_load 49 = .ok (.imul, 1) := by decide +kernel
theorem dM_load_50 : decode cM_load 50 = .ok (.lshr, 1) := by decide +kernel
theorem dM_load_51 : decode cM_load 51 = .ok (.l2i, 1) := by decide +kernel
theorem dM_load_52 : decode cM_load 52 = .ok (.sipush 4095, 3) := by decide +kernel
theorem dM_load_55 : decode cM_load 55 = .ok (.iand, 1) := by decide +kernel
theorem dM_load_56 : decode cM_load 56 = .ok (.iastore, 1) := by decide +kernel
theorem dM_load_57 : decode cM_load 57 = .ok (.iinc 5 1, 3) := by decide +kernel
theorem dM_load_60 : decode cM_load 60 = .ok (.goto (-38), 3) := by decide +kernel
theorem dM_load_63 : decode cM_load 63 = .ok (.iconst 1, 1) := by decide +kernel
theorem dM_load_64 : decode cM_load 64 = .ok (.ireturn, 1) := by decide +kernel
theorem dM_start_0 : decode cM_start 0 = .ok (.aload_n 0, 1) := by decide +kernel
theorem dM_start_1 : decode cM_start 1 = .ok (.getfield 20, 3) := by decide +kernel
theorem dM_start_4 : decode cM_start 4 = .ok (.ifCond .eq 10, 3) := by decide +kernel
theorem dM_start_7 : decode cM_start 7 = .ok (.aload_n 0, 1) := by decide +kernel
theorem dM_start_8 : decode cM_start 8 = .ok (.getfield 24, 3) := by decide +kernel
theorem dM_start_11 : decode cM_start 11 = .ok (.ifCond .eq 5, 3) := by decide +kernel
theorem dM_start_14 : decode cM_start 14 = .ok (.iconst 0, 1) := by decide +kernel
theorem dM_start_15 : decode cM_start 15 = .ok (.ireturn, 1) := by decide +kernel
theorem dM_start_16 : decode cM_start 16 = .ok (.aload_n 0, 1) := by decide +kernel
theorem dM_start_17 : decode cM_start 17 = .ok (.iload_n 1, 1) := by decide +kernel
theorem dM_start_18 : decode cM_start 18 = .ok (.sipush 4095, 3) := by decide +kernel
theorem dM_start_21 : decode cM_start 21 = .ok (.iand, 1) := by decide +kernel
theorem dM_start_22 : decode cM_start 22 = .ok (.putfield 27, 3) := by decide +kernel
theorem dM_start_25 : decode cM_start 25 = .ok (.aload_n 0, 1) := by decide +kernel
theorem dM_start_26 : decode cM_start 26 = .ok (.iconst 0, 1) := by decide +kernel
theorem dM_start_27 : decode cM_start 27 = .ok (.putfield 54, 3) := by decide +kernel
theorem dM_start_30 : decode cM_start 30 = .ok (.iconst 1, 1) := by decide +kernel
theorem dM_start_31 : decode cM_start 31 = .ok (.ireturn, 1) := by decide +kernel
theorem dM_switches_0 : decode cM_switches 0 = .ok (.aload_n 0, 1) := by decide +kernel
theorem dM_switches_1 : decode cM_switches 1 = .ok (.iload_n 1, 1) := by decide +kernel
theorem dM_switches_2 : decode cM_switches 2 = .ok (.sipush 4095, 3) := by decide +kernel
theorem dM_switches_5 : decode cM_switches 5 = .ok (.iand, 1) := by decide +kernel
theorem dM_switches_6 : decode cM_switches 6 = .ok (.putfield 76, 3) := by decide +kernel
theorem dM_switches_9 : decode cM_switches 9 = .ok (.return_, 1) := by decide +kernel
theorem dM_key_0 : decode cM_key 0 = .ok (.aload_n 0, 1) := by decide +kernel
theorem dM_key_1 : decode cM_key 1 = .ok (.iload_n 1, 1) := by decide +kernel
theorem dM_key_2 : decode cM_key 2 = .ok (.sipush 255, 3) := by decide +kernel
theorem dM_key_5 : decode cM_key 5 = .ok (.iand, 1) := by decide +kernel
theorem dM_key_6 : decode cM_key 6 = .ok (.putfield 63, 3) := by decide +kernel
theorem dM_key_9 : decode cM_key 9 = .ok (.aload_n 0, 1) := by decide +kernel
theorem dM_key_10 : decode cM_key 10 = .ok (.iconst 1, 1) := by decide +kernel
theorem dM_key_11 : decode cM_key 11 = .ok (.putfield 57, 3) := by decide +kernel
theorem dM_key_14 : decode cM_key 14 = .ok (.return_, 1) := by decide +kernel
theorem dM_bit_0 : decode cM_bit 0 = .ok (.aload_n 0, 1) := by decide +kernel
theorem dM_bit_1 : decode cM_bit 1 = .ok (.getfield 45, 3) := by decide +kernel
theorem dM_bit_4 : decode cM_bit 4 = .ok (.iload_n 1, 1) := by decide +kernel
theorem dM_bit_5 : decode cM_bit 5 = .ok (.iand, 1) := by decide +kernel
theorem dM_bit_6 : decode cM_bit 6 = .ok (.ifCond .eq 7, 3) := by decide +kernel
theorem dM_bit_9 : decode cM_bit 9 = .ok (.iconst 1, 1) := by decide +kernel
theorem dM_bit_10 : decode cM_bit 10 = .ok (.goto 4, 3) := by decide +kernel
theorem dM_bit_13 : decode cM_bit 13 = .ok (.iconst 0, 1) := by decide +kernel
theorem dM_bit_14 : decode cM_bit 14 = .ok (.ireturn, 1) := by decide +kernel
theorem dM_skip_0 : decode cM_skip 0 = .ok (.aload_n 0, 1) := by decide +kernel
theorem dM_skip_1 : decode cM_skip 1 = .ok (.iload_n 1, 1) := by decide +kernel
theorem dM_skip_2 : decode cM_skip 2 = .ok (.ifCond .eq 16, 3) := by decide +kernel
theorem dM_skip_5 : decode cM_skip 5 = .ok (.aload_n 0, 1) := by decide +kernel
theorem dM_skip_6 : decode cM_skip 6 = .ok (.getfield 27, 3) := by decide +kernel
theorem dM_skip_9 : decode cM_skip 9 = .ok (.iconst 1, 1) := by decide +kernel
theorem dM_skip_10 : decode cM_skip 10 = .ok (.iadd, 1) := by decide +kernel
theorem dM_skip_11 : decode cM_skip 11 = .ok (.sipush 4095, 3) := by decide +kernel
theorem dM_skip_14 : decode cM_skip 14 = .ok (.iand, 1) := by decide +kernel
theorem dM_skip_15 : decode cM_skip 15 = .ok (.goto 7, 3) := by decide +kernel
theorem dM_skip_18 : decode cM_skip 18 = .ok (.aload_n 0, 1) := by decide +kernel
theorem dM_skip_19 : decode cM_skip 19 = .ok (.getfield 27, 3) := by decide +kernel
theorem dM_skip_22 : decode cM_skip 22 = .ok (.putfield 27, 3) := by decide +kernel
theorem dM_skip_25 : decode cM_skip 25 = .ok (.return_, 1) := by decide +kernel
theorem dM_add_0 : decode cM_add 0 = .ok (.aload_n 0, 1) := by decide +kernel
theorem dM_add_1 : decode cM_add 1 = .ok (.getfield 30, 3) := by decide +kernel
theorem dM_add_4 : decode cM_add 4 = .ok (.iload_n 1, 1) := by decide +kernel
theorem dM_add_5 : decode cM_add 5 = .ok (.iadd, 1) := by decide +kernel
theorem dM_add_6 : decode cM_add 6 = .ok (.istore_n 2, 1) := by decide +kernel
theorem dM_add_7 : decode cM_add 7 = .ok (.aload_n 0, 1) := by decide +kernel
theorem dM_add_8 : decode cM_add 8 = .ok (.iload_n 2, 1) := by decide +kernel
theorem dM_add_9 : decode cM_add 9 = .ok (.sipush 4095, 3) := by decide +kernel
theorem dM_add_12 : decode cM_add 12 = .ok (.if_icmp .le 12, 3) := by decide +kernel
theorem dM_add_15 : decode cM_add 15 = .ok (.iconst 1, 1) := by decide +kernel
theorem dM_add_16 : decode cM_add 16 = .ok (.aload_n 0, 1) := by decide +kernel
theorem dM_add_17 : decode cM_add 17 = .ok (.getfield 33, 3) := by decide +kernel
theorem dM_add_20 : decode cM_add 20 = .ok (.isub, 1) := by decide +kernel
theorem dM_add_21 : decode cM_add 21 = .ok (.goto 7, 3) := by decide +kernel
theorem dM_add_24 : decode cM_add 24 = .ok (.aload_n 0, 1) := by decide +kernel
theorem dM_add_25 : decode cM_add 25 = .ok (.getfield 33, 3) := by decide +kernel
theorem dM_add_28 : decode cM_add 28 = .ok (.putfield 33, 3) := by decide +kernel
theorem dM_add_31 : decode cM_add 31 = .ok (.aload_n 0, 1) := by decide +kernel
theorem dM_add_32 : decode cM_add 32 = .ok (.iload_n 2, 1) := by decide +kernel
theorem dM_add_33 : decode cM_add 33 = .ok (.sipush 4095, 3) := by decide +kernel
theorem dM_add_36 : decode cM_add 36 = .ok (.iand, 1) := by decide +kernel
theorem dM_add_37 : decode cM_add 37 = .ok (.putfield 30, 3) := by decide +kernel
theorem dM_add_40 : decode cM_add 40 = .ok (.return_, 1) := by decide +kernel
theorem dM_fetch_0 : decode cM_fetch 0 = .ok (.aload_n 0, 1) := by decide +kernel
theorem dM_fetch_1 : decode cM_fetch 1 = .ok (.getfield 24, 3) := by decide +kernel
theorem dM_fetch_4 : decode cM_fetch 4 = .ok (.tableswitch 266 0 4 #[36, 87, 140, 200, 237], 36) := by decide +kernel
theorem dM_fetch_40 : decode cM_fetch 40 = .ok (.aload_n 0, 1) := by decide +kernel
theorem dM_fetch_41 : decode cM_fetch 41 = .ok (.getfield 48, 3) := by decide +kernel
theorem dM_fetch_44 : decode cM_fetch 44 = .ok (.ifCond .eq 27, 3) := by decide +kernel
theorem dM_fetch_47 : decode cM_fetch 47 = .ok (.aload_n 0, 1) := by decide +kernel
theorem dM_fetch_48 : decode cM_fetch 48 = .ok (.getfield 51, 3) := by decide +kernel
theorem dM_fetch_51 : decode cM_fetch 51 = .ok (.ifCond .ne 20, 3) := by decide +kernel
theorem dM_fetch_54 : decode cM_fetch 54 = .ok (.aload_n 0, 1) := by decide +kernel
theorem dM_fetch_55 : decode cM_fetch 55 = .ok (.getfield 57, 3) := by decide +kernel
theorem dM_fetch_58 : decode cM_fetch 58 = .ok (.ifCond .ne 10, 3) := by decide +kernel
theorem dM_fetch_61 : decode cM_fetch 61 = .ok (.aload_n 0, 1) := by decide +kernel
theorem dM_fetch_62 : decode cM_fetch 62 = .ok (.getfield 60, 3) := by decide +kernel
theorem dM_fetch_65 : decode cM_fetch 65 = .ok (.ifCond .eq 6, 3) := by decide +kernel
theorem dM_fetch_68 : decode cM_fetch 68 = .ok (.bipush 40, 2) := by decide +kernel
theorem dM_fetch_70 : decode cM_fetch 70 = .ok (.ireturn, 1) := by decide +kernel
theorem dM_fetch_71 : decode cM_fetch 71 = .ok (.aload_n 0, 1) := by decide +kernel
theorem dM_fetch_72 : decode cM_fetch 72 = .ok (.iconst 0, 1) := by decide +kernel
theorem dM_fetch_73 : decode cM_fetch 73 = .ok (.putfield 51, 3) := by decide +kernel
theorem dM_fetch_76 : decode cM_fetch 76 = .ok (.aload_n 0, 1) := by decide +kernel
theorem dM_fetch_77 : decode cM_fetch 77 = .ok (.aload_n 0, 1) := by decide +kernel
theorem dM_fetch_78 : decode cM_fetch 78 = .ok (.getfield 27, 3) := by decide +kernel
theorem dM_fetch_81 : decode cM_fetch 81 = .ok (.putfield 39, 3) := by decide +kernel
theorem dM_fetch_84 : decode cM_fetch 84 = .ok (.aload_n 0, 1) := by decide +kernel
theorem dM_fetch_85 : decode cM_fetch 85 = .ok (.iconst 1, 1) := by decide +kernel
theorem dM_fetch_86 : decode cM_fetch 86 = .ok (.invokevirtual 79, 3) := by decide +kernel
theorem dM_fetch_89 : decode cM_fetch 89 = .ok (.iconst 1, 1) := by decide +kernel
theorem dM_fetch_90 : decode cM_fetch 90 = .ok (.ireturn, 1) := by decide +kernel
theorem dM_fetch_91 : decode cM_fetch 91 = .ok (.aload_n 0, 1) := by decide +kernel
theorem dM_fetch_92 : decode cM_fetch 92 = .ok (.aload_n 0, 1) := by decide +kernel
theorem dM_fetch_93 : decode cM_fetch 93 = .ok (.getfield 7, 3) := by decide +kernel
theorem dM_fetch_96 : decode cM_fetch 96 = .ok (.aload_n 0, 1) := by decide +kernel
theorem dM_fetch_97 : decode cM_fetch 97 = .ok (.getfield 39, 3) := by decide +kernel
theorem dM_fetch_100 : decode cM_fetch 100 = .ok (.iaload, 1) := by decide +kernel
theorem dM_fetch_101 : decode cM_fetch 101 = .ok (.putfield 42, 3) := by decide +kernel
theorem dM_fetch_104 : decode cM_fetch 104 = .ok (.aload_n 0, 1) := by decide +kernel
theorem dM_fetch_105 : decode cM_fetch 105 = .ok (.aload_n 0, 1) := by decide +kernel
theorem dM_fetch_106 : decode cM_fetch 106 = .ok (.getfield 42, 3) := by decide +kernel
theorem dM_fetch_109 : decode cM_fetch 109 = .ok (.putfield 45, 3) := by decide +kernel
theorem dM_fetch_112 : decode cM_fetch 112 = .ok (.aload_n 0, 1) := by decide +kernel
theorem dM_fetch_113 : decode cM_fetch 113 = .ok (.getfield 45, 3) := by decide +kernel
theorem dM_fetch_116 : decode cM_fetch 116 = .ok (.sipush 3584, 3) := by decide +kernel
theorem dM_fetch_119 : decode cM_fetch 119 = .ok (.if_icmp .lt 8, 3) := by decide +kernel
theorem dM_fetch_122 : decode cM_fetch 122 = .ok (.bipush 20, 2) := by decide +kernel
theorem dM_fetch_124 : decode cM_fetch 124 = .ok (.goto 19, 3) := by decide +kernel
theorem dM_fetch_127 : decode cM_fetch 127 = .ok (.aload_n 0, 1) := by decide +kernel
theorem dM_fetch_128 : decode cM_fetch 128 = .ok (.getfield 45, 3) := by decide +kernel
theorem dM_fetch_131 : decode cM_fetch 131 = .ok (.sipush 3072, 3) := by decide +kernel
theorem dM_fetch_134 : decode cM_fetch 134 = .ok (.if_icmp .lt 8, 3) := by decide +kernel
theorem dM_fetch_137 : decode cM_fetch 137 = .ok (.bipush 32, 2) := by decide +kernel
theorem dM_fetch_139 : decode cM_fetch 139 = .ok (.goto 4, 3) := by decide +kernel
theorem dM_fetch_142 : decode cM_fetch 142 = .ok (.iconst 2, 1) := by decide +kernel
theorem dM_fetch_143 : decode cM_fetch 143 = .ok (.ireturn, 1) := by decide +kernel
theorem dM_fetch_144 : decode cM_fetch 144 = .ok (.aload_n 0, 1) := by decide +kernel
theorem dM_fetch_145 : decode cM_fetch 145 = .ok (.aload_n 0, 1) := by decide +kernel
theorem dM_fetch_146 : decode cM_fetch 146 = .ok (.getfield 45, 3) := by decide +kernel
theorem dM_fetch_149 : decode cM_fetch 149 = .ok (.bipush 127, 2) := by decide +kernel
theorem dM_fetch_151 : decode cM_fetch 151 = .ok (.iand, 1) := by decide +kernel
theorem dM_fetch_152 : decode cM_fetch 152 = .ok (.aload_n 0, 1) := by decide +kernel
theorem dM_fetch_153 : decode cM_fetch 153 = .ok (.sipush 128, 3) := by decide +kernel
theorem dM_fetch_156 : decode cM_fetch 156 = .ok (.invokevirtual 83, 3) := by decide +kernel
theorem dM_fetch_159 : decode cM_fetch 159 = .ok (.ifCond .eq 14, 3) := by decide +kernel
theorem dM_fetch_162 : decode cM_fetch 162 = .ok (.aload_n 0, 1) := by decide +kernel
theorem dM_fetch_163 : decode cM_fetch 163 = .ok (.getfield 39, 3) := by decide +kernel
theorem dM_fetch_166 : decode cM_fetch 166 = .ok (.sipush 3968, 3) := by decide +kernel
theorem dM_fetch_169 : decode cM_fetch 169 = .ok (.iand, 1) := by decide +kernel
theorem dM_fetch_170 : decode cM_fetch 170 = .ok (.goto 4, 3) := by decide +kernel
theorem dM_fetch_173 : decode cM_fetch 173 = .ok (.iconst 0, 1) := by decide +kernel
theorem dM_fetch_174 : decode cM_fetch 174 = .ok (.iadd, 1) := by decide +kernel
theorem dM_fetch_175 : decode cM_fetch 175 = .ok (.putfield 39, 3) := by decide +kernel
theorem dM_fetch_178 : decode cM_fetch 178 = .ok (.aload_n 0, 1) := by decide +kernel
theorem dM_fetch_179 : decode cM_fetch 179 = .ok (.sipush 256, 3) := by decide +kernel
theorem dM_fetch_182 : decode cM_fetch 182 = .ok (.invokevirtual 83, 3) := by decide +kernel
theorem dM_fetch_185 : decode cM_fetch 185 = .ok (.ifCond .eq 7, 3) := by decide +kernel
theorem dM_fetch_188 : decode cM_fetch 188 = .ok (.iconst 3, 1) := by decide +kernel
theorem dM_fetch_189 : decode cM_fetch 189 = .ok (.goto 14, 3) := by decide +kernel
theorem dM_fetch_192 : decode cM_fetch 192 = .ok (.bipush 8, 2) := by decide +kernel
theorem dM_fetch_194 : decode cM_fetch 194 = .ok (.aload_n 0, 1) := by decide +kernel
theorem dM_fetch_195 : decode cM_fetch 195 = .ok (.getfield 45, 3) := by decide +kernel
theorem dM_fetch_198 : decode cM_fetch 198 = .ok (.sipush 512, 3) := by decide +kernel
theorem dM_fetch_201 : decode cM_fetch 201 = .ok (.idiv, 1) := by decide +kernel
theorem dM_fetch_202 : decode cM_fetch 202 = .ok (.iadd, 1) := by decide +kernel
theorem dM_fetch_203 : decode cM_fetch 203 = .ok (.ireturn, 1) := by decide +kernel
theorem dM_fetch_204 : decode cM_fetch 204 = .ok (.aload_n 0, 1) := by decide +kernel
theorem dM_fetch_205 : decode cM_fetch 205 = .ok (.aload_n 0, 1) := by decide +kernel
theorem dM_fetch_206 : decode cM_fetch 206 = .ok (.getfield 7, 3) := by decide +kernel
theorem dM_fetch_209 : decode cM_fetch 209 = .ok (.aload_n 0, 1) := by decide +kernel
theorem dM_fetch_210 : decode cM_fetch 210 = .ok (.getfield 39, 3) := by decide +kernel
theorem dM_fetch_213 : decode cM_fetch 213 = .ok (.iaload, 1) := by decide +kernel
theorem dM_fetch_214 : decode cM_fetch 214 = .ok (.putfield 42, 3) := by decide +kernel
theorem dM_fetch_217 : decode cM_fetch 217 = .ok (.aload_n 0, 1) := by decide +kernel
theorem dM_fetch_218 : decode cM_fetch 218 = .ok (.getfield 39, 3) := by decide +kernel
theorem dM_fetch_221 : decode cM_fetch 221 = .ok (.bipush 8, 2) := by decide +kernel
theorem dM_fetch_223 : decode cM_fetch 223 = .ok (.if_icmp .lt 16, 3) := by decide +kernel
theorem dM_fetch_226 : decode cM_fetch 226 = .ok (.aload_n 0, 1) := by decide +kernel
theorem dM_fetch_227 : decode cM_fetch 227 = .ok (.getfield 39, 3) := by decide +kernel
theorem dM_fetch_230 : decode cM_fetch 230 = .ok (.bipush 15, 2) := by decide +kernel
theorem dM_fetch_232 : decode cM_fetch 232 = .ok (.if_icmp .gt 7, 3) := by decide +kernel
theorem dM_fetch_235 : decode cM_fetch 235 = .ok (.iconst 4, 1) := by decide +kernel
theorem dM_fetch_236 : decode cM_fetch 236 = .ok (.goto 4, 3) := by decide +kernel
theorem dM_fetch_239 : decode cM_fetch 239 = .ok (.iconst 5, 1) := by decide +kernel
theorem dM_fetch_240 : decode cM_fetch 240 = .ok (.ireturn, 1) := by decide +kernel
theorem dM_fetch_241 : decode cM_fetch 241 = .ok (.aload_n 0, 1) := by decide +kernel
theorem dM_fetch_242 : decode cM_fetch 242 = .ok (.aload_n 0, 1) := by decide +kernel
theorem dM_fetch_243 : decode cM_fetch 243 = .ok (.getfield 42, 3) := by decide +kernel
theorem dM_fetch_246 : decode cM_fetch 246 = .ok (.iconst 1, 1) := by decide +kernel
theorem dM_fetch_247 : decode cM_fetch 247 = .ok (.iadd, 1) := by decide +kernel
theorem dM_fetch_248 : decode cM_fetch 248 = .ok (.sipush 4095, 3) := by decide +kernel
theorem dM_fetch_251 : decode cM_fetch 251 = .ok (.iand, 1) := by decide +kernel
theorem dM_fetch_252 : decode cM_fetch 252 = .ok (.putfield 42, 3) := by decide +kernel
theorem dM_fetch_255 : decode cM_fetch 255 = .ok (.aload_n 0, 1) := by decide +kernel
theorem dM_fetch_256 : decode cM_fetch 256 = .ok (.getfield 7, 3) := by decide +kernel
theorem dM_fetch_259 : decode cM_fetch 259 = .ok (.aload_n 0, 1) := by decide +kernel
theorem dM_fetch_260 : decode cM_fetch 260 = .ok (.getfield 39, 3) := by decide +kernel
theorem dM_fetch_263 : decode cM_fetch 263 = .ok (.aload_n 0, 1) := by decide +kernel
theorem dM_fetch_264 : decode cM_fetch 264 = .ok (.getfield 42, 3) := by decide +kernel
theorem dM_fetch_267 : decode cM_fetch 267 = .ok (.iastore, 1) := by decide +kernel
theorem dM_fetch_268 : decode cM_fetch 268 = .ok (.iconst 5, 1) := by decide +kernel
theorem dM_fetch_269 : decode cM_fetch 269 = .ok (.ireturn, 1) := by decide +kernel
theorem dM_fetch_270 : decode cM_fetch 270 = .ok (.aload_n 0, 1) := by decide +kernel
theorem dM_fetch_271 : decode cM_fetch 271 = .ok (.aload_n 0, 1) := by decide +kernel
theorem dM_fetch_272 : decode cM_fetch 272 = .ok (.getfield 42, 3) := by decide +kernel
theorem dM_fetch_275 : decode cM_fetch 275 = .ok (.putfield 39, 3) := by decide +kernel
theorem dM_fetch_278 : decode cM_fetch 278 = .ok (.bipush 8, 2) := by decide +kernel
theorem dM_fetch_280 : decode cM_fetch 280 = .ok (.aload_n 0, 1) := by decide +kernel
theorem dM_fetch_281 : decode cM_fetch 281 = .ok (.getfield 45, 3) := by decide +kernel
theorem dM_fetch_284 : decode cM_fetch 284 = .ok (.sipush 512, 3) := by decide +kernel
theorem dM_fetch_287 : decode cM_fetch 287 = .ok (.idiv, 1) := by decide +kernel
theorem dM_fetch_288 : decode cM_fetch 288 = .ok (.iadd, 1) := by decide +kernel
theorem dM_fetch_289 : decode cM_fetch 289 = .ok (.ireturn, 1) := by decide +kernel
theorem dM_memory_0 : decode cM_memory 0 = .ok (.aload_n 0, 1) := by decide +kernel
theorem dM_memory_1 : decode cM_memory 1 = .ok (.getfield 24, 3) := by decide +kernel
theorem dM_memory_4 : decode cM_memory 4 = .ok (.tableswitch 156 8 17 #[56, 56, 77, 99, 110, 121, 156, 156, 131, 146], 56) := by decide +kernel
theorem dM_memory_60 : decode cM_memory 60 = .ok (.aload_n 0, 1) := by decide +kernel
theorem dM_memory_61 : decode cM_memory 61 = .ok (.aload_n 0, 1) := by decide +kernel
theorem dM_memory_62 : decode cM_memory 62 = .ok (.getfield 7, 3) := by decide +kernel
theorem dM_memory_65 : decode cM_memory 65 = .ok (.aload_n 0, 1) := by decide +kernel
theorem dM_memory_66 : decode cM_memory 66 = .ok (.getfield 39, 3) := by decide +kernel
theorem dM_memory_69 : decode cM_memory 69 = .ok (.iaload, 1) := by decide +kernel
theorem dM_memory_70 : decode cM_memory 70 = .ok (.putfield 42, 3) := by decide +kernel
theorem dM_memory_73 : decode cM_memory 73 = .ok (.aload_n 0, 1) := by decide +kernel
theorem dM_memory_74 : decode cM_memory 74 = .ok (.getfield 24, 3) := by decide +kernel
theorem dM_memory_77 : decode cM_memory 77 = .ok (.bipush 8, 2) := by decide +kernel
theorem dM_memory_79 : decode cM_memory 79 = .ok (.iadd, 1) := by decide +kernel
theorem dM_memory_80 : decode cM_memory 80 = .ok (.ireturn, 1) := by decide +kernel
theorem dM_memory_81 : decode cM_memory 81 = .ok (.aload_n 0, 1) := by decide +kernel
theorem dM_memory_82 : decode cM_memory 82 = .ok (.aload_n 0, 1) := by decide +kernel
theorem dM_memory_83 : decode cM_memory 83 = .ok (.getfield 7, 3) := by decide +kernel
theorem dM_memory_86 : decode cM_memory 86 = .ok (.aload_n 0, 1) := by decide +kernel
theorem dM_memory_87 : decode cM_memory 87 = .ok (.getfield 39, 3) := by decide +kernel
theorem dM_memory_90 : decode cM_memory 90 = .ok (.iaload, 1) := by decide +kernel
theorem dM_memory_91 : decode cM_memory 91 = .ok (.iconst 1, 1) := by decide +kernel
theorem dM_memory_92 : decode cM_memory 92 = .ok (.iadd, 1) := by decide +kernel
theorem dM_memory_93 : decode cM_memory 93 = .ok (.sipush 4095, 3) := by decide +kernel
theorem dM_memory_96 : decode cM_memory 96 = .ok (.iand, 1) := by decide +kernel
theorem dM_memory_97 : decode cM_memory 97 = .ok (.putfield 42, 3) := by decide +kernel
theorem dM_memory_100 : decode cM_memory 100 = .ok (.bipush 18, 2) := by decide +kernel
theorem dM_memory_102 : decode cM_memory 102 = .ok (.ireturn, 1) := by decide +kernel
theorem dM_memory_103 : decode cM_memory 103 = .ok (.aload_n 0, 1) := by decide +kernel
theorem dM_memory_104 : decode cM_memory 104 = .ok (.aload_n 0, 1) := by decide +kernel
theorem dM_memory_105 : decode cM_memory 105 = .ok (.getfield 30, 3) := by decide +kernel
theorem dM_memory_108 : decode cM_memory 108 = .ok (.putfield 42, 3) := by decide +kernel
theorem dM_memory_111 : decode cM_memory 111 = .ok (.bipush 19, 2) := by decide +kernel
theorem dM_memory_113 : decode cM_memory 113 = .ok (.ireturn, 1) := by decide +kernel
theorem dM_memory_114 : decode cM_memory 114 = .ok (.aload_n 0, 1) := by decide +kernel
theorem dM_memory_115 : decode cM_memory 115 = .ok (.aload_n 0, 1) := by decide +kernel
theorem dM_memory_116 : decode cM_memory 116 = .ok (.getfield 27, 3) := by decide +kernel
theorem dM_memory_119 : decode cM_memory 119 = .ok (.putfield 42, 3) := by decide +kernel
theorem dM_memory_122 : decode cM_memory 122 = .ok (.bipush 15, 2) := by decide +kernel
theorem dM_memory_124 : decode cM_memory 124 = .ok (.ireturn, 1) := by decide +kernel
theorem dM_memory_125 : decode cM_memory 125 = .ok (.aload_n 0, 1) := by decide +kernel
theorem dM_memory_126 : decode cM_memory 126 = .ok (.aload_n 0, 1) := by decide +kernel
theorem dM_memory_127 : decode cM_memory 127 = .ok (.getfield 39, 3) := by decide +kernel
theorem dM_memory_130 : decode cM_memory 130 = .ok (.putfield 27, 3) := by decide +kernel
theorem dM_memory_133 : decode cM_memory 133 = .ok (.iconst 0, 1) := by decide +kernel
theorem dM_memory_134 : decode cM_memory 134 = .ok (.ireturn, 1) := by decide +kernel
theorem dM_memory_135 : decode cM_memory 135 = .ok (.aload_n 0, 1) := by decide +kernel
theorem dM_memory_136 : decode cM_memory 136 = .ok (.aload_n 0, 1) := by decide +kernel
theorem dM_memory_137 : decode cM_memory 137 = .ok (.getfield 30, 3) := by decide +kernel
theorem dM_memory_140 : decode cM_memory 140 = .ok (.aload_n 0, 1) := by decide +kernel
theorem dM_memory_141 : decode cM_memory 141 = .ok (.getfield 42, 3) := by decide +kernel
theorem dM_memory_144 : decode cM_memory 144 = .ok (.iand, 1) := by decide +kernel
theorem dM_memory_145 : decode cM_memory 145 = .ok (.putfield 30, 3) := by decide +kernel
theorem dM_memory_148 : decode cM_memory 148 = .ok (.iconst 0, 1) := by decide +kernel
theorem dM_memory_149 : decode cM_memory 149 = .ok (.ireturn, 1) := by decide +kernel
theorem dM_memory_150 : decode cM_memory 150 = .ok (.aload_n 0, 1) := by decide +kernel
theorem dM_memory_151 : decode cM_memory 151 = .ok (.aload_n 0, 1) := by decide +kernel
theorem dM_memory_152 : decode cM_memory 152 = .ok (.getfield 42, 3) := by decide +kernel
theorem dM_memory_155 : decode cM_memory 155 = .ok (.invokevirtual 86, 3) := by decide +kernel
theorem dM_memory_158 : decode cM_memory 158 = .ok (.iconst 0, 1) := by decide +kernel
theorem dM_memory_159 : decode cM_memory 159 = .ok (.ireturn, 1) := by decide +kernel
theorem dM_memory_160 : decode cM_memory 160 = .ok (.aload_n 0, 1) := by decide +kernel
theorem dM_memory_161 : decode cM_memory 161 = .ok (.getfield 7, 3) := by decide +kernel
theorem dM_memory_164 : decode cM_memory 164 = .ok (.aload_n 0, 1) := by decide +kernel
theorem dM_memory_165 : decode cM_memory 165 = .ok (.getfield 39, 3) := by decide +kernel
theorem dM_memory_168 : decode cM_memory 168 = .ok (.aload_n 0, 1) := by decide +kernel
theorem dM_memory_169 : decode cM_memory 169 = .ok (.getfield 42, 3) := by decide +kernel
theorem dM_memory_172 : decode cM_memory 172 = .ok (.iastore, 1) := by decide +kernel
theorem dM_memory_173 : decode cM_memory 173 = .ok (.aload_n 0, 1) := by decide +kernel
theorem dM_memory_174 : decode cM_memory 174 = .ok (.aload_n 0, 1) := by decide +kernel
theorem dM_memory_175 : decode cM_memory 175 = .ok (.getfield 24, 3) := by decide +kernel
theorem dM_memory_178 : decode cM_memory 178 = .ok (.bipush 18, 2) := by decide +kernel
theorem dM_memory_180 : decode cM_memory 180 = .ok (.if_icmp .ne 14, 3) := by decide +kernel
theorem dM_memory_183 : decode cM_memory 183 = .ok (.aload_n 0, 1) := by decide +kernel
theorem dM_memory_184 : decode cM_memory 184 = .ok (.getfield 42, 3) := by decide +kernel
theorem dM_memory_187 : decode cM_memory 187 = .ok (.ifCond .ne 7, 3) := by decide +kernel
theorem dM_memory_190 : decode cM_memory 190 = .ok (.iconst 1, 1) := by decide +kernel
theorem dM_memory_191 : decode cM_memory 191 = .ok (.goto 4, 3) := by decide +kernel
theorem dM_memory_194 : decode cM_memory 194 = .ok (.iconst 0, 1) := by decide +kernel
theorem dM_memory_195 : decode cM_memory 195 = .ok (.invokevirtual 79, 3) := by decide +kernel
theorem dM_memory_198 : decode cM_memory 198 = .ok (.aload_n 0, 1) := by decide +kernel
theorem dM_memory_199 : decode cM_memory 199 = .ok (.aload_n 0, 1) := by decide +kernel
theorem dM_memory_200 : decode cM_memory 200 = .ok (.getfield 24, 3) := by decide +kernel
theorem dM_memory_203 : decode cM_memory 203 = .ok (.bipush 19, 2) := by decide +kernel
theorem dM_memory_205 : decode cM_memory 205 = .ok (.if_icmp .ne 7, 3) := by decide +kernel
theorem dM_memory_208 : decode cM_memory 208 = .ok (.iconst 0, 1) := by decide +kernel
theorem dM_memory_209 : decode cM_memory 209 = .ok (.goto 7, 3) := by decide +kernel
theorem dM_memory_212 : decode cM_memory 212 = .ok (.aload_n 0, 1) := by decide +kernel
theorem dM_memory_213 : decode cM_memory 213 = .ok (.getfield 30, 3) := by decide +kernel
theorem dM_memory_216 : decode cM_memory 216 = .ok (.putfield 30, 3) := by decide +kernel
theorem dM_memory_219 : decode cM_memory 219 = .ok (.aload_n 0, 1) := by decide +kernel
theorem dM_memory_220 : decode cM_memory 220 = .ok (.aload_n 0, 1) := by decide +kernel
theorem dM_memory_221 : decode cM_memory 221 = .ok (.getfield 24, 3) := by decide +kernel
theorem dM_memory_224 : decode cM_memory 224 = .ok (.bipush 15, 2) := by decide +kernel
theorem dM_memory_226 : decode cM_memory 226 = .ok (.if_icmp .ne 16, 3) := by decide +kernel
theorem dM_memory_229 : decode cM_memory 229 = .ok (.aload_n 0, 1) := by decide +kernel
theorem dM_memory_230 : decode cM_memory 230 = .ok (.getfield 39, 3) := by decide +kernel
theorem dM_memory_233 : decode cM_memory 233 = .ok (.iconst 1, 1) := by decide +kernel
theorem dM_memory_234 : decode cM_memory 234 = .ok (.iadd, 1) := by decide +kernel
theorem dM_memory_235 : decode cM_memory 235 = .ok (.sipush 4095, 3) := by decide +kernel
theorem dM_memory_238 : decode cM_memory 238 = .ok (.iand, 1) := by decide +kernel
theorem dM_memory_239 : decode cM_memory 239 = .ok (.goto 7, 3) := by decide +kernel
theorem dM_memory_242 : decode cM_memory 242 = .ok (.aload_n 0, 1) := by decide +kernel
theorem dM_memory_243 : decode cM_memory 243 = .ok (.getfield 27, 3) := by decide +kernel
theorem dM_memory_246 : decode cM_memory 246 = .ok (.putfield 27, 3) := by decide +kernel
theorem dM_memory_249 : decode cM_memory 249 = .ok (.iconst 0, 1) := by decide +kernel
theorem dM_memory_250 : decode cM_memory 250 = .ok (.ireturn, 1) := by decide +kernel
theorem dM_rotate_0 : decode cM_rotate 0 = .ok (.aload_n 0, 1) := by decide +kernel
theorem dM_rotate_1 : decode cM_rotate 1 = .ok (.getfield 33, 3) := by decide +kernel
theorem dM_rotate_4 : decode cM_rotate 4 = .ok (.bipush 12, 2) := by decide +kernel
theorem dM_rotate_6 : decode cM_rotate 6 = .ok (.ishl, 1) := by decide +kernel
theorem dM_rotate_7 : decode cM_rotate 7 = .ok (.aload_n 0, 1) := by decide +kernel
theorem dM_rotate_8 : decode cM_rotate 8 = .ok (.getfield 30, 3) := by decide +kernel
theorem dM_rotate_11 : decode cM_rotate 11 = .ok (.ior, 1) := by decide +kernel
theorem dM_rotate_12 : decode cM_rotate 12 = .ok (.istore_n 1, 1) := by decide +kernel
theorem dM_rotate_13 : decode cM_rotate 13 = .ok (.aload_n 0, 1) := by decide +kernel
theorem dM_rotate_14 : decode cM_rotate 14 = .ok (.bipush 8, 2) := by decide +kernel
theorem dM_rotate_16 : decode cM_rotate 16 = .ok (.invokevirtual 83, 3) := by decide +kernel
theorem dM_rotate_19 : decode cM_rotate 19 = .ok (.ifCond .eq 14, 3) := by decide +kernel
theorem dM_rotate_22 : decode cM_rotate 22 = .ok (.iload_n 1, 1) := by decide +kernel
theorem dM_rotate_23 : decode cM_rotate 23 = .ok (.iconst 1, 1) := by decide +kernel
theorem dM_rotate_24 : decode cM_rotate 24 = .ok (.ishr, 1) := by decide +kernel
theorem dM_rotate_25 : decode cM_rotate 25 = .ok (.iload_n 1, 1) := by decide +kernel
theorem dM_rotate_26 : decode cM_rotate 26 = .ok (.iconst 1, 1) := by decide +kernel
theorem dM_rotate_27 : decode cM_rotate 27 = .ok (.iand, 1) := by decide +kernel
theorem dM_rotate_28 : decode cM_rotate 28 = .ok (.bipush 12, 2) := by decide +kernel
theorem dM_rotate_30 : decode cM_rotate 30 = .ok (.ishl, 1) := by decide +kernel
theorem dM_rotate_31 : decode cM_rotate 31 = .ok (.ior, 1) := by decide +kernel
theorem dM_rotate_32 : decode cM_rotate 32 = .ok (.istore_n 1, 1) := by decide +kernel
theorem dM_rotate_33 : decode cM_rotate 33 = .ok (.aload_n 0, 1) := by decide +kernel
theorem dM_rotate_34 : decode cM_rotate 34 = .ok (.iconst 4, 1) := by decide +kernel
theorem dM_rotate_35 : decode cM_rotate 35 = .ok (.invokevirtual 83, 3) := by decide +kernel
theorem dM_rotate_38 : decode cM_rotate 38 = .ok (.ifCond .eq 16, 3) := by decide +kernel
theorem dM_rotate_41 : decode cM_rotate 41 = .ok (.iload_n 1, 1) := by decide +kernel
theorem dM_rotate_42 : decode cM_rotate 42 = .ok (.iconst 1, 1) := by decide +kernel
theorem dM_rotate_43 : decode cM_rotate 43 = .ok (.ishl, 1) := by decide +kernel
theorem dM_rotate_44 : decode cM_rotate 44 = .ok (.sipush 8191, 3) := by decide +kernel
theorem dM_rotate_47 : decode cM_rotate 47 = .ok (.iand, 1) := by decide +kernel
theorem dM_rotate_48 : decode cM_rotate 48 = .ok (.iload_n 1, 1) := by decide +kernel
theorem dM_rotate_49 : decode cM_rotate 49 = .ok (.bipush 12, 2) := by decide +kernel
theorem dM_rotate_51 : decode cM_rotate 51 = .ok (.ishr, 1) := by decide +kernel
theorem dM_rotate_52 : decode cM_rotate 52 = .ok (.ior, 1) := by decide +kernel
theorem dM_rotate_53 : decode cM_rotate 53 = .ok (.istore_n 1, 1) := by decide +kernel
theorem dM_rotate_54 : decode cM_rotate 54 = .ok (.aload_n 0, 1) := by decide +kernel
theorem dM_rotate_55 : decode cM_rotate 55 = .ok (.iload_n 1, 1) := by decide +kernel
theorem dM_rotate_56 : decode cM_rotate 56 = .ok (.bipush 12, 2) := by decide +kernel
theorem dM_rotate_58 : decode cM_rotate 58 = .ok (.ishr, 1) := by decide +kernel
theorem dM_rotate_59 : decode cM_rotate 59 = .ok (.putfield 33, 3) := by decide +kernel
theorem dM_rotate_62 : decode cM_rotate 62 = .ok (.aload_n 0, 1) := by decide +kernel
theorem dM_rotate_63 : decode cM_rotate 63 = .ok (.iload_n 1, 1) := by decide +kernel
theorem dM_rotate_64 : decode cM_rotate 64 = .ok (.sipush 4095, 3) := by decide +kernel
theorem dM_rotate_67 : decode cM_rotate 67 = .ok (.iand, 1) := by decide +kernel
theorem dM_rotate_68 : decode cM_rotate 68 = .ok (.putfield 30, 3) := by decide +kernel
theorem dM_rotate_71 : decode cM_rotate 71 = .ok (.return_, 1) := by decide +kernel
theorem dM_operate_0 : decode cM_operate 0 = .ok (.aload_n 0, 1) := by decide +kernel
theorem dM_operate_1 : decode cM_operate 1 = .ok (.getfield 24, 3) := by decide +kernel
theorem dM_operate_4 : decode cM_operate 4 = .ok (.tableswitch 195 20 23 #[32, 63, 109, 166], 32) := by decide +kernel
theorem dM_operate_36 : decode cM_operate 36 = .ok (.aload_n 0, 1) := by decide +kernel
theorem dM_operate_37 : decode cM_operate 37 = .ok (.sipush 256, 3) := by decide +kernel
theorem dM_operate_40 : decode cM_operate 40 = .ok (.invokevirtual 83, 3) := by decide +kernel
theorem dM_operate_43 : decode cM_operate 43 = .ok (.ifCond .ne 8, 3) := by decide +kernel
theorem dM_operate_46 : decode cM_operate 46 = .ok (.bipush 21, 2) := by decide +kernel
theorem dM_operate_48 : decode cM_operate 48 = .ok (.goto 18, 3) := by decide +kernel
theorem dM_operate_51 : decode cM_operate 51 = .ok (.aload_n 0, 1) := by decide +kernel
theorem dM_operate_52 : decode cM_operate 52 = .ok (.iconst 1, 1) := by decide +kernel
theorem dM_operate_53 : decode cM_operate 53 = .ok (.invokevirtual 83, 3) := by decide +kernel
theorem dM_operate_56 : decode cM_operate 56 = .ok (.ifCond .ne 8, 3) := by decide +kernel
theorem dM_operate_59 : decode cM_operate 59 = .ok (.bipush 26, 2) := by decide +kernel
theorem dM_operate_61 : decode cM_operate 61 = .ok (.goto 5, 3) := by decide +kernel
theorem dM_operate_64 : decode cM_operate 64 = .ok (.bipush 30, 2) := by decide +kernel
theorem dM_operate_66 : decode cM_operate 66 = .ok (.ireturn, 1) := by decide +kernel
theorem dM_operate_67 : decode cM_operate 67 = .ok (.aload_n 0, 1) := by decide +kernel
theorem dM_operate_68 : decode cM_operate 68 = .ok (.aload_n 0, 1) := by decide +kernel
theorem dM_operate_69 : decode cM_operate 69 = .ok (.sipush 128, 3) := by decide +kernel
theorem dM_operate_72 : decode cM_operate 72 = .ok (.invokevirtual 83, 3) := by decide +kernel
theorem dM_operate_75 : decode cM_operate 75 = .ok (.ifCond .eq 7, 3) := by decide +kernel
theorem dM_operate_78 : decode cM_operate 78 = .ok (.iconst 0, 1) := by decide +kernel
theorem dM_operate_79 : decode cM_operate 79 = .ok (.goto 7, 3) := by decide +kernel
theorem dM_operate_82 : decode cM_operate 82 = .ok (.aload_n 0, 1) := by decide +kernel
theorem dM_operate_83 : decode cM_operate 83 = .ok (.getfield 30, 3) := by decide +kernel
theorem dM_operate_86 : decode cM_operate 86 = .ok (.putfield 30, 3) := by decide +kernel
theorem dM_operate_89 : decode cM_operate 89 = .ok (.aload_n 0, 1) := by decide +kernel
theorem dM_operate_90 : decode cM_operate 90 = .ok (.aload_n 0, 1) := by decide +kernel
theorem dM_operate_91 : decode cM_operate 91 = .ok (.bipush 64, 2) := by decide +kernel
theorem dM_operate_93 : decode cM_operate 93 = .ok (.invokevirtual 83, 3) := by decide +kernel
theorem dM_operate_96 : decode cM_operate 96 = .ok (.ifCond .eq 7, 3) := by decide +kernel
theorem dM_operate_99 : decode cM_operate 99 = .ok (.iconst 0, 1) := by decide +kernel
theorem dM_operate_100 : decode cM_operate 100 = .ok (.goto 7, 3) := by decide +kernel
theorem dM_operate_103 : decode cM_operate 103 = .ok (.aload_n 0, 1) := by decide +kernel
theorem dM_operate_104 : decode cM_operate 104 = .ok (.getfield 33, 3) := by decide +kernel
theorem dM_operate_107 : decode cM_operate 107 = .ok (.putfield 33, 3) := by decide +kernel
theorem dM_operate_110 : decode cM_operate 110 = .ok (.bipush 22, 2) := by decide +kernel
theorem dM_operate_112 : decode cM_operate 112 = .ok (.ireturn, 1) := by decide +kernel
theorem dM_operate_113 : decode cM_operate 113 = .ok (.aload_n 0, 1) := by decide +kernel
theorem dM_operate_114 : decode cM_operate 114 = .ok (.aload_n 0, 1) := by decide +kernel
theorem dM_operate_115 : decode cM_operate 115 = .ok (.bipush 32, 2) := by decide +kernel
theorem dM_operate_117 : decode cM_operate 117 = .ok (.invokevirtual 83, 3) := by decide +kernel
theorem dM_operate_120 : decode cM_operate 120 = .ok (.ifCond .eq 14, 3) := by decide +kernel
theorem dM_operate_123 : decode cM_operate 123 = .ok (.sipush 4095, 3) := by decide +kernel
theorem dM_operate_126 : decode cM_operate 126 = .ok (.aload_n 0, 1) := by decide +kernel
theorem dM_operate_127 : decode cM_operate 127 = .ok (.getfield 30, 3) := by decide +kernel
theorem dM_operate_130 : decode cM_operate 130 = .ok (.isub, 1) := by decide +kernel
theorem dM_operate_131 : decode cM_operate 131 = .ok (.goto 7, 3) := by decide +kernel
theorem dM_operate_134 : decode cM_operate 134 = .ok (.aload_n 0, 1) := by decide +kernel
theorem dM_operate_135 : decode cM_operate 135 = .ok (.getfield 30, 3) := by decide +kernel
theorem dM_operate_138 : decode cM_operate 138 = .ok (.putfield 30, 3) := by decide +kernel
theorem dM_operate_141 : decode cM_operate 141 = .ok (.aload_n 0, 1) := by decide +kernel
theorem dM_operate_142 : decode cM_operate 142 = .ok (.aload_n 0, 1) := by decide +kernel
theorem dM_operate_143 : decode cM_operate 143 = .ok (.bipush 16, 2) := by decide +kernel
theorem dM_operate_145 : decode cM_operate 145 = .ok (.invokevirtual 83, 3) := by decide +kernel
theorem dM_operate_148 : decode cM_operate 148 = .ok (.ifCond .eq 12, 3) := by decide +kernel
theorem dM_operate_151 : decode cM_operate 151 = .ok (.iconst 1, 1) := by decide +kernel
theorem dM_operate_152 : decode cM_operate 152 = .ok (.aload_n 0, 1) := by decide +kernel
theorem dM_operate_153 : decode cM_operate 153 = .ok (.getfield 33, 3) := by decide +kernel
theorem dM_operate_156 : decode cM_operate 156 = .ok (.isub, 1) := by decide +kernel
theorem dM_operate_157 : decode cM_operate 157 = .ok (.goto 7, 3) := by decide +kernel
theorem dM_operate_160 : decode cM_operate 160 = .ok (.aload_n 0, 1) := by decide +kernel
theorem dM_operate_161 : decode cM_operate 161 = .ok (.getfield 33, 3) := by decide +kernel
theorem dM_operate_164 : decode cM_operate 164 = .ok (.putfield 33, 3) := by decide +kernel
theorem dM_operate_167 : decode cM_operate 167 = .ok (.bipush 23, 2) := by decide +kernel
theorem dM_operate_169 : decode cM_operate 169 = .ok (.ireturn, 1) := by decide +kernel
theorem dM_operate_170 : decode cM_operate 170 = .ok (.aload_n 0, 1) := by decide +kernel
theorem dM_operate_171 : decode cM_operate 171 = .ok (.iconst 1, 1) := by decide +kernel
theorem dM_operate_172 : decode cM_operate 172 = .ok (.invokevirtual 83, 3) := by decide +kernel
theorem dM_operate_175 : decode cM_operate 175 = .ok (.ifCond .eq 8, 3) := by decide +kernel
theorem dM_operate_178 : decode cM_operate 178 = .ok (.aload_n 0, 1) := by decide +kernel
theorem dM_operate_179 : decode cM_operate 179 = .ok (.iconst 1, 1) := by decide +kernel
theorem dM_operate_180 : decode cM_operate 180 = .ok (.invokevirtual 86, 3) := by decide +kernel
theorem dM_operate_183 : decode cM_operate 183 = .ok (.aload_n 0, 1) := by decide +kernel
theorem dM_operate_184 : decode cM_operate 184 = .ok (.bipush 12, 2) := by decide +kernel
theorem dM_operate_186 : decode cM_operate 186 = .ok (.invokevirtual 83, 3) := by decide +kernel
theorem dM_operate_189 : decode cM_operate 189 = .ok (.ifCond .eq 8, 3) := by decide +kernel
theorem dM_operate_192 : decode cM_operate 192 = .ok (.bipush 24, 2) := by decide +kernel
theorem dM_operate_194 : decode cM_operate 194 = .ok (.goto 4, 3) := by decide +kernel
theorem dM_operate_197 : decode cM_operate 197 = .ok (.iconst 0, 1) := by decide +kernel
theorem dM_operate_198 : decode cM_operate 198 = .ok (.ireturn, 1) := by decide +kernel
theorem dM_operate_199 : decode cM_operate 199 = .ok (.aload_n 0, 1) := by decide +kernel
theorem dM_operate_200 : decode cM_operate 200 = .ok (.invokevirtual 90, 3) := by decide +kernel
theorem dM_operate_203 : decode cM_operate 203 = .ok (.aload_n 0, 1) := by decide +kernel
theorem dM_operate_204 : decode cM_operate 204 = .ok (.getfield 24, 3) := by decide +kernel
theorem dM_operate_207 : decode cM_operate 207 = .ok (.bipush 24, 2) := by decide +kernel
theorem dM_operate_209 : decode cM_operate 209 = .ok (.if_icmp .ne 16, 3) := by decide +kernel
theorem dM_operate_212 : decode cM_operate 212 = .ok (.aload_n 0, 1) := by decide +kernel
theorem dM_operate_213 : decode cM_operate 213 = .ok (.iconst 2, 1) := by decide +kernel
theorem dM_operate_214 : decode cM_operate 214 = .ok (.invokevirtual 83, 3) := by decide +kernel
theorem dM_operate_217 : decode cM_operate 217 = .ok (.ifCond .eq 8, 3) := by decide +kernel
theorem dM_operate_220 : decode cM_operate 220 = .ok (.bipush 25, 2) := by decide +kernel
theorem dM_operate_222 : decode cM_operate 222 = .ok (.goto 4, 3) := by decide +kernel
theorem dM_operate_225 : decode cM_operate 225 = .ok (.iconst 0, 1) := by decide +kernel
theorem dM_operate_226 : decode cM_operate 226 = .ok (.ireturn, 1) := by decide +kernel
theorem dM_test_0 : decode cM_test 0 = .ok (.aload_n 0, 1) := by decide +kernel
theorem dM_test_1 : decode cM_test 1 = .ok (.getfield 24, 3) := by decide +kernel
theorem dM_test_4 : decode cM_test 4 = .ok (.tableswitch 233 26 30 #[36, 116, 154, 233, 208], 36) := by decide +kernel
theorem dM_test_40 : decode cM_test 40 = .ok (.aload_n 0, 1) := by decide +kernel
theorem dM_test_41 : decode cM_test 41 = .ok (.bipush 64, 2) := by decide +kernel
theorem dM_test_43 : decode cM_test 43 = .ok (.invokevirtual 83, 3) := by decide +kernel
theorem dM_test_46 : decode cM_test 46 = .ok (.ifCond .eq 13, 3) := by decide +kernel
theorem dM_test_49 : decode cM_test 49 = .ok (.aload_n 0, 1) := by decide +kernel
theorem dM_test_50 : decode cM_test 50 = .ok (.getfield 30, 3) := by decide +kernel
theorem dM_test_53 : decode cM_test 53 = .ok (.sipush 2048, 3) := by decide +kernel
theorem dM_test_56 : decode cM_test 56 = .ok (.if_icmp .ge 36, 3) := by decide +kernel
theorem dM_test_59 : decode cM_test 59 = .ok (.aload_n 0, 1) := by decide +kernel
theorem dM_test_60 : decode cM_test 60 = .ok (.bipush 32, 2) := by decide +kernel
theorem dM_test_62 : decode cM_test 62 = .ok (.invokevirtual 83, 3) := by decide +kernel
theorem dM_test_65 : decode cM_test 65 = .ok (.ifCond .eq 10, 3) := by decide +kernel
theorem dM_test_68 : decode cM_test 68 = .ok (.aload_n 0, 1) := by decide +kernel
theorem dM_test_69 : decode cM_test 69 = .ok (.getfield 30, 3) := by decide +kernel
theorem dM_test_72 : decode cM_test 72 = .ok (.ifCond .eq 20, 3) := by decide +kernel
theorem dM_test_75 : decode cM_test 75 = .ok (.aload_n 0, 1) := by decide +kernel
theorem dM_test_76 : decode cM_test 76 = .ok (.bipush 16, 2) := by decide +kernel
theorem dM_test_78 : decode cM_test 78 = .ok (.invokevirtual 83, 3) := by decide +kernel
theorem dM_test_81 : decode cM_test 81 = .ok (.ifCond .eq 15, 3) := by decide +kernel
theorem dM_test_84 : decode cM_test 84 = .ok (.aload_n 0, 1) := by decide +kernel
theorem dM_test_85 : decode cM_test 85 = .ok (.getfield 33, 3) := by decide +kernel
theorem dM_test_88 : decode cM_test 88 = .ok (.iconst 1, 1) := by decide +kernel
theorem dM_test_89 : decode cM_test 89 = .ok (.if_icmp .ne 7, 3) := by decide +kernel
theorem dM_test_92 : decode cM_test 92 = .ok (.iconst 1, 1) := by decide +kernel
theorem dM_test_93 : decode cM_test 93 = .ok (.goto 4, 3) := by decide +kernel
theorem dM_test_96 : decode cM_test 96 = .ok (.iconst 0, 1) := by decide +kernel
theorem dM_test_97 : decode cM_test 97 = .ok (.istore_n 1, 1) := by decide +kernel
theorem dM_test_98 : decode cM_test 98 = .ok (.aload_n 0, 1) := by decide +kernel
theorem dM_test_99 : decode cM_test 99 = .ok (.iload_n 1, 1) := by decide +kernel
theorem dM_test_100 : decode cM_test 100 = .ok (.aload_n 0, 1) := by decide +kernel
theorem dM_test_101 : decode cM_test 101 = .ok (.bipush 8, 2) := by decide +kernel
theorem dM_test_103 : decode cM_test 103 = .ok (.invokevirtual 83, 3) := by decide +kernel
theorem dM_test_106 : decode cM_test 106 = .ok (.if_icmp .eq 7, 3) := by decide +kernel
theorem dM_test_109 : decode cM_test 109 = .ok (.iconst 1, 1) := by decide +kernel
theorem dM_test_110 : decode cM_test 110 = .ok (.goto 4, 3) := by decide +kernel
theorem dM_test_113 : decode cM_test 113 = .ok (.iconst 0, 1) := by decide +kernel
theorem dM_test_114 : decode cM_test 114 = .ok (.invokevirtual 79, 3) := by decide +kernel
theorem dM_test_117 : decode cM_test 117 = .ok (.bipush 27, 2) := by decide +kernel
theorem dM_test_119 : decode cM_test 119 = .ok (.ireturn, 1) := by decide +kernel
theorem dM_test_120 : decode cM_test 120 = .ok (.aload_n 0, 1) := by decide +kernel
theorem dM_test_121 : decode cM_test 121 = .ok (.aload_n 0, 1) := by decide +kernel
theorem dM_test_122 : decode cM_test 122 = .ok (.sipush 128, 3) := by decide +kernel
theorem dM_test_125 : decode cM_test 125 = .ok (.invokevirtual 83, 3) := by decide +kernel
theorem dM_test_128 : decode cM_test 128 = .ok (.ifCond .eq 7, 3) := by decide +kernel
theorem dM_test_131 : decode cM_test 131 = .ok (.iconst 0, 1) := by decide +kernel
theorem dM_test_132 : decode cM_test 132 = .ok (.goto 7, 3) := by decide +kernel
theorem dM_test_135 : decode cM_test 135 = .ok (.aload_n 0, 1) := by decide +kernel
theorem dM_test_136 : decode cM_test 136 = .ok (.getfield 30, 3) := by decide +kernel
theorem dM_test_139 : decode cM_test 139 = .ok (.putfield 30, 3) := by decide +kernel
theorem dM_test_142 : decode cM_test 142 = .ok (.aload_n 0, 1) := by decide +kernel
theorem dM_test_143 : decode cM_test 143 = .ok (.bipush 6, 2) := by decide +kernel
theorem dM_test_145 : decode cM_test 145 = .ok (.invokevirtual 83, 3) := by decide +kernel
theorem dM_test_148 : decode cM_test 148 = .ok (.ifCond .eq 8, 3) := by decide +kernel
theorem dM_test_151 : decode cM_test 151 = .ok (.bipush 28, 2) := by decide +kernel
theorem dM_test_153 : decode cM_test 153 = .ok (.goto 4, 3) := by decide +kernel
theorem dM_test_156 : decode cM_test 156 = .ok (.iconst 0, 1) := by decide +kernel
theorem dM_test_157 : decode cM_test 157 = .ok (.ireturn, 1) := by decide +kernel
theorem dM_test_158 : decode cM_test 158 = .ok (.aload_n 0, 1) := by decide +kernel
theorem dM_test_159 : decode cM_test 159 = .ok (.aload_n 0, 1) := by decide +kernel
theorem dM_test_160 : decode cM_test 160 = .ok (.iconst 4, 1) := by decide +kernel
theorem dM_test_161 : decode cM_test 161 = .ok (.invokevirtual 83, 3) := by decide +kernel
theorem dM_test_164 : decode cM_test 164 = .ok (.ifCond .eq 15, 3) := by decide +kernel
theorem dM_test_167 : decode cM_test 167 = .ok (.aload_n 0, 1) := by decide +kernel
theorem dM_test_168 : decode cM_test 168 = .ok (.getfield 30, 3) := by decide +kernel
theorem dM_test_171 : decode cM_test 171 = .ok (.aload_n 0, 1) := by decide +kernel
theorem dM_test_172 : decode cM_test 172 = .ok (.getfield 76, 3) := by decide +kernel
theorem dM_test_175 : decode cM_test 175 = .ok (.ior, 1) := by decide +kernel
theorem dM_test_176 : decode cM_test 176 = .ok (.goto 7, 3) := by decide +kernel
theorem dM_test_179 : decode cM_test 179 = .ok (.aload_n 0, 1) := by decide +kernel
theorem dM_test_180 : decode cM_test 180 = .ok (.getfield 30, 3) := by decide +kernel
theorem dM_test_183 : decode cM_test 183 = .ok (.putfield 30, 3) := by decide +kernel
theorem dM_test_186 : decode cM_test 186 = .ok (.aload_n 0, 1) := by decide +kernel
theorem dM_test_187 : decode cM_test 187 = .ok (.aload_n 0, 1) := by decide +kernel
theorem dM_test_188 : decode cM_test 188 = .ok (.getfield 54, 3) := by decide +kernel
theorem dM_test_191 : decode cM_test 191 = .ok (.ifCond .ne 11, 3) := by decide +kernel
theorem dM_test_194 : decode cM_test 194 = .ok (.aload_n 0, 1) := by decide +kernel
theorem dM_test_195 : decode cM_test 195 = .ok (.iconst 2, 1) := by decide +kernel
theorem dM_test_196 : decode cM_test 196 = .ok (.invokevirtual 83, 3) := by decide +kernel
theorem dM_test_199 : decode cM_test 199 = .ok (.ifCond .eq 7, 3) := by decide +kernel
theorem dM_test_202 : decode cM_test 202 = .ok (.iconst 1, 1) := by decide +kernel
theorem dM_test_203 : decode cM_test 203 = .ok (.goto 4, 3) := by decide +kernel
theorem dM_test_206 : decode cM_test 206 = .ok (.iconst 0, 1) := by decide +kernel
theorem dM_test_207 : decode cM_test 207 = .ok (.putfield 54, 3) := by decide +kernel
theorem dM_test_210 : decode cM_test 210 = .ok (.iconst 0, 1) := by decide +kernel
theorem dM_test_211 : decode cM_test 211 = .ok (.ireturn, 1) := by decide +kernel
theorem dM_test_212 : decode cM_test 212 = .ok (.aload_n 0, 1) := by decide +kernel
theorem dM_test_213 : decode cM_test 213 = .ok (.aload_n 0, 1) := by decide +kernel
theorem dM_test_214 : decode cM_test 214 = .ok (.sipush 128, 3) := by decide +kernel
theorem dM_test_217 : decode cM_test 217 = .ok (.invokevirtual 83, 3) := by decide +kernel
theorem dM_test_220 : decode cM_test 220 = .ok (.ifCond .eq 7, 3) := by decide +kernel
theorem dM_test_223 : decode cM_test 223 = .ok (.iconst 0, 1) := by decide +kernel
theorem dM_test_224 : decode cM_test 224 = .ok (.goto 7, 3) := by decide +kernel
theorem dM_test_227 : decode cM_test 227 = .ok (.aload_n 0, 1) := by decide +kernel
theorem dM_test_228 : decode cM_test 228 = .ok (.getfield 30, 3) := by decide +kernel
theorem dM_test_231 : decode cM_test 231 = .ok (.putfield 30, 3) := by decide +kernel
theorem dM_test_234 : decode cM_test 234 = .ok (.bipush 31, 2) := by decide +kernel
theorem dM_test_236 : decode cM_test 236 = .ok (.ireturn, 1) := by decide +kernel
theorem dM_test_237 : decode cM_test 237 = .ok (.aload_n 0, 1) := by decide +kernel
theorem dM_test_238 : decode cM_test 238 = .ok (.getfield 36, 3) := by decide +kernel
theorem dM_test_241 : decode cM_test 241 = .ok (.istore_n 2, 1) := by decide +kernel
theorem dM_test_242 : decode cM_test 242 = .ok (.aload_n 0, 1) := by decide +kernel
theorem dM_test_243 : decode cM_test 243 = .ok (.aload_n 0, 1) := by decide +kernel
theorem dM_test_244 : decode cM_test 244 = .ok (.bipush 16, 2) := by decide +kernel
theorem dM_test_246 : decode cM_test 246 = .ok (.invokevirtual 83, 3) := by decide +kernel
theorem dM_test_249 : decode cM_test 249 = .ok (.ifCond .eq 10, 3) := by decide +kernel
theorem dM_test_252 : decode cM_test 252 = .ok (.aload_n 0, 1) := by decide +kernel
theorem dM_test_253 : decode cM_test 253 = .ok (.getfield 30, 3) := by decide +kernel
theorem dM_test_256 : decode cM_test 256 = .ok (.goto 7, 3) := by decide +kernel
theorem dM_test_259 : decode cM_test 259 = .ok (.aload_n 0, 1) := by decide +kernel
theorem dM_test_260 : decode cM_test 260 = .ok (.getfield 36, 3) := by decide +kernel
theorem dM_test_263 : decode cM_test 263 = .ok (.putfield 36, 3) := by decide +kernel
theorem dM_test_266 : decode cM_test 266 = .ok (.aload_n 0, 1) := by decide +kernel
theorem dM_test_267 : decode cM_test 267 = .ok (.aload_n 0, 1) := by decide +kernel
theorem dM_test_268 : decode cM_test 268 = .ok (.bipush 16, 2) := by decide +kernel
theorem dM_test_270 : decode cM_test 270 = .ok (.invokevirtual 83, 3) := by decide +kernel
theorem dM_test_273 : decode cM_test 273 = .ok (.ifCond .eq 20, 3) := by decide +kernel
theorem dM_test_276 : decode cM_test 276 = .ok (.aload_n 0, 1) := by decide +kernel
theorem dM_test_277 : decode cM_test 277 = .ok (.bipush 64, 2) := by decide +kernel
theorem dM_test_279 : decode cM_test 279 = .ok (.invokevirtual 83, 3) := by decide +kernel
theorem dM_test_282 : decode cM_test 282 = .ok (.ifCond .eq 7, 3) := by decide +kernel
theorem dM_test_285 : decode cM_test 285 = .ok (.iload_n 2, 1) := by decide +kernel
theorem dM_test_286 : decode cM_test 286 = .ok (.goto 29, 3) := by decide +kernel
theorem dM_test_289 : decode cM_test 289 = .ok (.iconst 0, 1) := by decide +kernel
theorem dM_test_290 : decode cM_test 290 = .ok (.goto 25, 3) := by decide +kernel
theorem dM_test_293 : decode cM_test 293 = .ok (.aload_n 0, 1) := by decide +kernel
theorem dM_test_294 : decode cM_test 294 = .ok (.bipush 64, 2) := by decide +kernel
theorem dM_test_296 : decode cM_test 296 = .ok (.invokevirtual 83, 3) := by decide +kernel
theorem dM_test_299 : decode cM_test 299 = .ok (.ifCond .eq 12, 3) := by decide +kernel
theorem dM_test_302 : decode cM_test 302 = .ok (.aload_n 0, 1) := by decide +kernel
theorem dM_test_303 : decode cM_test 303 = .ok (.getfield 30, 3) := by decide +kernel
theorem dM_test_306 : decode cM_test 306 = .ok (.iload_n 2, 1) := by decide +kernel
theorem dM_test_307 : decode cM_test 307 = .ok (.ior, 1) := by decide +kernel
theorem dM_test_308 : decode cM_test 308 = .ok (.goto 7, 3) := by decide +kernel
theorem dM_test_311 : decode cM_test 311 = .ok (.aload_n 0, 1) := by decide +kernel
theorem dM_test_312 : decode cM_test 312 = .ok (.getfield 30, 3) := by decide +kernel
theorem dM_test_315 : decode cM_test 315 = .ok (.putfield 30, 3) := by decide +kernel
theorem dM_test_318 : decode cM_test 318 = .ok (.iconst 0, 1) := by decide +kernel
theorem dM_test_319 : decode cM_test 319 = .ok (.ireturn, 1) := by decide +kernel
theorem dM_device_0 : decode cM_device 0 = .ok (.aload_n 0, 1) := by decide +kernel
theorem dM_device_1 : decode cM_device 1 = .ok (.getfield 24, 3) := by decide +kernel
theorem dM_device_4 : decode cM_device 4 = .ok (.tableswitch 342 32 40 #[52, 94, 152, 209, 224, 287, 342, 342, 321], 52) := by decide +kernel
theorem dM_device_56 : decode cM_device 56 = .ok (.aload_n 0, 1) := by decide +kernel
theorem dM_device_57 : decode cM_device 57 = .ok (.getfield 45, 3) := by decide +kernel
theorem dM_device_60 : decode cM_device 60 = .ok (.bipush 8, 2) := by decide +kernel
theorem dM_device_62 : decode cM_device 62 = .ok (.idiv, 1) := by decide +kernel
theorem dM_device_63 : decode cM_device 63 = .ok (.bipush 63, 2) := by decide +kernel
theorem dM_device_65 : decode cM_device 65 = .ok (.iand, 1) := by decide +kernel
theorem dM_device_66 : decode cM_device 66 = .ok (.istore_n 1, 1) := by decide +kernel
theorem dM_device_67 : decode cM_device 67 = .ok (.iload_n 1, 1) := by decide +kernel
theorem dM_device_68 : decode cM_device 68 = .ok (.ifCond .ne 8, 3) := by decide +kernel
theorem dM_device_71 : decode cM_device 71 = .ok (.bipush 33, 2) := by decide +kernel
theorem dM_device_73 : decode cM_device 73 = .ok (.goto 24, 3) := by decide +kernel
theorem dM_device_76 : decode cM_device 76 = .ok (.iload_n 1, 1) := by decide +kernel
theorem dM_device_77 : decode cM_device 77 = .ok (.iconst 3, 1) := by decide +kernel
theorem dM_device_78 : decode cM_device 78 = .ok (.if_icmp .ne 8, 3) := by decide +kernel
theorem dM_device_81 : decode cM_device 81 = .ok (.bipush 34, 2) := by decide +kernel
theorem dM_device_83 : decode cM_device 83 = .ok (.goto 14, 3) := by decide +kernel
theorem dM_device_86 : decode cM_device 86 = .ok (.iload_n 1, 1) := by decide +kernel
theorem dM_device_87 : decode cM_device 87 = .ok (.iconst 4, 1) := by decide +kernel
theorem dM_device_88 : decode cM_device 88 = .ok (.if_icmp .ne 8, 3) := by decide +kernel
theorem dM_device_91 : decode cM_device 91 = .ok (.bipush 36, 2) := by decide +kernel
theorem dM_device_93 : decode cM_device 93 = .ok (.goto 4, 3) := by decide +kernel
theorem dM_device_96 : decode cM_device 96 = .ok (.iconst 0, 1) := by decide +kernel
theorem dM_device_97 : decode cM_device 97 = .ok (.ireturn, 1) := by decide +kernel
theorem dM_device_98 : decode cM_device 98 = .ok (.aload_n 0, 1) := by decide +kernel
theorem dM_device_99 : decode cM_device 99 = .ok (.aload_n 0, 1) := by decide +kernel
theorem dM_device_100 : decode cM_device 100 = .ok (.getfield 48, 3) := by decide +kernel
theorem dM_device_103 : decode cM_device 103 = .ok (.ifCond .ne 11, 3) := by decide +kernel
theorem dM_device_106 : decode cM_device 106 = .ok (.aload_n 0, 1) := by decide +kernel
theorem dM_device_107 : decode cM_device 107 = .ok (.iconst 1, 1) := by decide +kernel
theorem dM_device_108 : decode cM_device 108 = .ok (.invokevirtual 83, 3) := by decide +kernel
theorem dM_device_111 : decode cM_device 111 = .ok (.ifCond .eq 15, 3) := by decide +kernel
theorem dM_device_114 : decode cM_device 114 = .ok (.aload_n 0, 1) := by decide +kernel
theorem dM_device_115 : decode cM_device 115 = .ok (.iconst 2, 1) := by decide +kernel
theorem dM_device_116 : decode cM_device 116 = .ok (.invokevirtual 83, 3) := by decide +kernel
theorem dM_device_119 : decode cM_device 119 = .ok (.ifCond .ne 7, 3) := by decide +kernel
theorem dM_device_122 : decode cM_device 122 = .ok (.iconst 1, 1) := by decide +kernel
theorem dM_device_123 : decode cM_device 123 = .ok (.goto 4, 3) := by decide +kernel
theorem dM_device_126 : decode cM_device 126 = .ok (.iconst 0, 1) := by decide +kernel
theorem dM_device_127 : decode cM_device 127 = .ok (.putfield 48, 3) := by decide +kernel
theorem dM_device_130 : decode cM_device 130 = .ok (.aload_n 0, 1) := by decide +kernel
theorem dM_device_131 : decode cM_device 131 = .ok (.aload_n 0, 1) := by decide +kernel
theorem dM_device_132 : decode cM_device 132 = .ok (.getfield 51, 3) := by decide +kernel
theorem dM_device_135 : decode cM_device 135 = .ok (.ifCond .ne 11, 3) := by decide +kernel
theorem dM_device_138 : decode cM_device 138 = .ok (.aload_n 0, 1) := by decide +kernel
theorem dM_device_139 : decode cM_device 139 = .ok (.iconst 1, 1) := by decide +kernel
theorem dM_device_140 : decode cM_device 140 = .ok (.invokevirtual 83, 3) := by decide +kernel
theorem dM_device_143 : decode cM_device 143 = .ok (.ifCond .eq 7, 3) := by decide +kernel
theorem dM_device_146 : decode cM_device 146 = .ok (.iconst 1, 1) := by decide +kernel
theorem dM_device_147 : decode cM_device 147 = .ok (.goto 4, 3) := by decide +kernel
theorem dM_device_150 : decode cM_device 150 = .ok (.iconst 0, 1) := by decide +kernel
theorem dM_device_151 : decode cM_device 151 = .ok (.putfield 51, 3) := by decide +kernel
theorem dM_device_154 : decode cM_device 154 = .ok (.iconst 0, 1) := by decide +kernel
theorem dM_device_155 : decode cM_device 155 = .ok (.ireturn, 1) := by decide +kernel
theorem dM_device_156 : decode cM_device 156 = .ok (.aload_n 0, 1) := by decide +kernel
theorem dM_device_157 : decode cM_device 157 = .ok (.aload_n 0, 1) := by decide +kernel
theorem dM_device_158 : decode cM_device 158 = .ok (.iconst 1, 1) := by decide +kernel
theorem dM_device_159 : decode cM_device 159 = .ok (.invokevirtual 83, 3) := by decide +kernel
theorem dM_device_162 : decode cM_device 162 = .ok (.ifCond .eq 14, 3) := by decide +kernel
theorem dM_device_165 : decode cM_device 165 = .ok (.aload_n 0, 1) := by decide +kernel
theorem dM_device_166 : decode cM_device 166 = .ok (.getfield 57, 3) := by decide +kernel
theorem dM_device_169 : decode cM_device 169 = .ok (.ifCond .eq 7, 3) := by decide +kernel
theorem dM_device_172 : decode cM_device 172 = .ok (.iconst 1, 1) := by decide +kernel
theorem dM_device_173 : decode cM_device 173 = .ok (.goto 4, 3) := by decide +kernel
theorem dM_device_176 : decode cM_device 176 = .ok (.iconst 0, 1) := by decide +kernel
theorem dM_device_177 : decode cM_device 177 = .ok (.invokevirtual 79, 3) := by decide +kernel
theorem dM_device_180 : decode cM_device 180 = .ok (.aload_n 0, 1) := by decide +kernel
theorem dM_device_181 : decode cM_device 181 = .ok (.iconst 2, 1) := by decide +kernel
theorem dM_device_182 : decode cM_device 182 = .ok (.invokevirtual 83, 3) := by decide +kernel
theorem dM_device_185 : decode cM_device 185 = .ok (.ifCond .eq 13, 3) := by decide +kernel
theorem dM_device_188 : decode cM_device 188 = .ok (.aload_n 0, 1) := by decide +kernel
theorem dM_device_189 : decode cM_device 189 = .ok (.iconst 0, 1) := by decide +kernel
theorem dM_device_190 : decode cM_device 190 = .ok (.putfield 57, 3) := by decide +kernel
theorem dM_device_193 : decode cM_device 193 = .ok (.aload_n 0, 1) := by decide +kernel
theorem dM_device_194 : decode cM_device 194 = .ok (.iconst 0, 1) := by decide +kernel
theorem dM_device_195 : decode cM_device 195 = .ok (.putfield 30, 3) := by decide +kernel
theorem dM_device_198 : decode cM_device 198 = .ok (.aload_n 0, 1) := by decide +kernel
theorem dM_device_199 : decode cM_device 199 = .ok (.iconst 4, 1) := by decide +kernel
theorem dM_device_200 : decode cM_device 200 = .ok (.invokevirtual 83, 3) := by decide +kernel
theorem dM_device_203 : decode cM_device 203 = .ok (.ifCond .eq 8, 3) := by decide +kernel
theorem dM_device_206 : decode cM_device 206 = .ok (.bipush 35, 2) := by decide +kernel
theorem dM_device_208 : decode cM_device 208 = .ok (.goto 4, 3) := by decide +kernel
theorem dM_device_211 : decode cM_device 211 = .ok (.iconst 0, 1) := by decide +kernel
theorem dM_device_212 : decode cM_device 212 = .ok (.ireturn, 1) := by decide +kernel
theorem dM_device_213 : decode cM_device 213 = .ok (.aload_n 0, 1) := by decide +kernel
theorem dM_device_214 : decode cM_device 214 = .ok (.aload_n 0, 1) := by decide +kernel
theorem dM_device_215 : decode cM_device 215 = .ok (.getfield 30, 3) := by decide +kernel
theorem dM_device_218 : decode cM_device 218 = .ok (.aload_n 0, 1) := by decide +kernel
theorem dM_device_219 : decode cM_device 219 = .ok (.getfield 63, 3) := by decide +kernel
theorem dM_device_222 : decode cM_device 222 = .ok (.ior, 1) := by decide +kernel
theorem dM_device_223 : decode cM_device 223 = .ok (.putfield 30, 3) := by decide +kernel
theorem dM_device_226 : decode cM_device 226 = .ok (.iconst 0, 1) := by decide +kernel
theorem dM_device_227 : decode cM_device 227 = .ok (.ireturn, 1) := by decide +kernel
theorem dM_device_228 : decode cM_device 228 = .ok (.aload_n 0, 1) := by decide +kernel
theorem dM_device_229 : decode cM_device 229 = .ok (.aload_n 0, 1) := by decide +kernel
theorem dM_device_230 : decode cM_device 230 = .ok (.iconst 1, 1) := by decide +kernel
theorem dM_device_231 : decode cM_device 231 = .ok (.invokevirtual 83, 3) := by decide +kernel
theorem dM_device_234 : decode cM_device 234 = .ok (.ifCond .eq 14, 3) := by decide +kernel
theorem dM_device_237 : decode cM_device 237 = .ok (.aload_n 0, 1) := by decide +kernel
theorem dM_device_238 : decode cM_device 238 = .ok (.getfield 60, 3) := by decide +kernel
theorem dM_device_241 : decode cM_device 241 = .ok (.ifCond .eq 7, 3) := by decide +kernel
theorem dM_device_244 : decode cM_device 244 = .ok (.iconst 1, 1) := by decide +kernel
theorem dM_device_245 : decode cM_device 245 = .ok (.goto 4, 3) := by decide +kernel
theorem dM_device_248 : decode cM_device 248 = .ok (.iconst 0, 1) := by decide +kernel
theorem dM_device_249 : decode cM_device 249 = .ok (.invokevirtual 79, 3) := by decide +kernel
theorem dM_device_252 : decode cM_device 252 = .ok (.aload_n 0, 1) := by decide +kernel
theorem dM_device_253 : decode cM_device 253 = .ok (.aload_n 0, 1) := by decide +kernel
theorem dM_device_254 : decode cM_device 254 = .ok (.getfield 60, 3) := by decide +kernel
theorem dM_device_257 : decode cM_device 257 = .ok (.ifCond .eq 15, 3) := by decide +kernel
theorem dM_device_260 : decode cM_device 260 = .ok (.aload_n 0, 1) := by decide +kernel
theorem dM_device_261 : decode cM_device 261 = .ok (.iconst 2, 1) := by decide +kernel
theorem dM_device_262 : decode cM_device 262 = .ok (.invokevirtual 83, 3) := by decide +kernel
theorem dM_device_265 : decode cM_device 265 = .ok (.ifCond .ne 7, 3) := by decide +kernel
theorem dM_device_268 : decode cM_device 268 = .ok (.iconst 1, 1) := by decide +kernel
theorem dM_device_269 : decode cM_device 269 = .ok (.goto 4, 3) := by decide +kernel
theorem dM_device_272 : decode cM_device 272 = .ok (.iconst 0, 1) := by decide +kernel
theorem dM_device_273 : decode cM_device 273 = .ok (.putfield 60, 3) := by decide +kernel
theorem dM_device_276 : decode cM_device 276 = .ok (.aload_n 0, 1) := by decide +kernel
theorem dM_device_277 : decode cM_device 277 = .ok (.iconst 4, 1) := by decide +kernel
theorem dM_device_278 : decode cM_device 278 = .ok (.invokevirtual 83, 3) := by decide +kernel
theorem dM_device_281 : decode cM_device 281 = .ok (.ifCond .eq 8, 3) := by decide +kernel
theorem dM_device_284 : decode cM_device 284 = .ok (.bipush 37, 2) := by decide +kernel
theorem dM_device_286 : decode cM_device 286 = .ok (.goto 4, 3) := by decide +kernel
theorem dM_device_289 : decode cM_device 289 = .ok (.iconst 0, 1) := by decide +kernel
theorem dM_device_290 : decode cM_device 290 = .ok (.ireturn, 1) := by decide +kernel
theorem dM_device_291 : decode cM_device 291 = .ok (.aload_n 0, 1) := by decide +kernel
theorem dM_device_292 : decode cM_device 292 = .ok (.getfield 13, 3) := by decide +kernel
theorem dM_device_295 : decode cM_device 295 = .ok (.aload_n 0, 1) := by decide +kernel
theorem dM_device_296 : decode cM_device 296 = .ok (.getfield 66, 3) := by decide +kernel
theorem dM_device_299 : decode cM_device 299 = .ok (.aload_n 0, 1) := by decide +kernel
theorem dM_device_300 : decode cM_device 300 = .ok (.getfield 30, 3) := by decide +kernel
theorem dM_device_303 : decode cM_device 303 = .ok (.sipush 255, 3) := by decide +kernel
theorem dM_device_306 : decode cM_device 306 = .ok (.iand, 1) := by decide +kernel
theorem dM_device_307 : decode cM_device 307 = .ok (.iastore, 1) := by decide +kernel
theorem dM_device_308 : decode cM_device 308 = .ok (.aload_n 0, 1) := by decide +kernel
theorem dM_device_309 : decode cM_device 309 = .ok (.dup, 1) := by decide +kernel
theorem dM_device_310 : decode cM_device 310 = .ok (.getfield 66, 3) := by decide +kernel
theorem dM_device_313 : decode cM_device 313 = .ok (.iconst 1, 1) := by decide +kernel
theorem dM_device_314 : decode cM_device 314 = .ok (.iadd, 1) := by decide +kernel
theorem dM_device_315 : decode cM_device 315 = .ok (.putfield 66, 3) := by decide +kernel
theorem dM_device_318 : decode cM_device 318 = .ok (.aload_n 0, 1) := by decide +kernel
theorem dM_device_319 : decode cM_device 319 = .ok (.iconst 1, 1) := by decide +kernel
theorem dM_device_320 : decode cM_device 320 = .ok (.putfield 60, 3) := by decide +kernel
theorem dM_device_323 : decode cM_device 323 = .ok (.iconst 0, 1) := by decide +kernel
theorem dM_device_324 : decode cM_device 324 = .ok (.ireturn, 1) := by decide +kernel
theorem dM_device_325 : decode cM_device 325 = .ok (.aload_n 0, 1) := by decide +kernel
theorem dM_device_326 : decode cM_device 326 = .ok (.aload_n 0, 1) := by decide +kernel
theorem dM_device_327 : decode cM_device 327 = .ok (.getfield 27, 3) := by decide +kernel
theorem dM_device_330 : decode cM_device 330 = .ok (.putfield 42, 3) := by decide +kernel
theorem dM_device_333 : decode cM_device 333 = .ok (.aload_n 0, 1) := by decide +kernel
theorem dM_device_334 : decode cM_device 334 = .ok (.iconst 0, 1) := by decide +kernel
theorem dM_device_335 : decode cM_device 335 = .ok (.putfield 39, 3) := by decide +kernel
theorem dM_device_338 : decode cM_device 338 = .ok (.aload_n 0, 1) := by decide +kernel
theorem dM_device_339 : decode cM_device 339 = .ok (.iconst 0, 1) := by decide +kernel
theorem dM_device_340 : decode cM_device 340 = .ok (.putfield 48, 3) := by decide +kernel
theorem dM_device_343 : decode cM_device 343 = .ok (.bipush 41, 2) := by decide +kernel
theorem dM_device_345 : decode cM_device 345 = .ok (.ireturn, 1) := by decide +kernel
theorem dM_device_346 : decode cM_device 346 = .ok (.aload_n 0, 1) := by decide +kernel
theorem dM_device_347 : decode cM_device 347 = .ok (.getfield 7, 3) := by decide +kernel
theorem dM_device_350 : decode cM_device 350 = .ok (.aload_n 0, 1) := by decide +kernel
theorem dM_device_351 : decode cM_device 351 = .ok (.getfield 39, 3) := by decide +kernel
theorem dM_device_354 : decode cM_device 354 = .ok (.aload_n 0, 1) := by decide +kernel
theorem dM_device_355 : decode cM_device 355 = .ok (.getfield 42, 3) := by decide +kernel
theorem dM_device_358 : decode cM_device 358 = .ok (.iastore, 1) := by decide +kernel
theorem dM_device_359 : decode cM_device 359 = .ok (.aload_n 0, 1) := by decide +kernel
theorem dM_device_360 : decode cM_device 360 = .ok (.aload_n 0, 1) := by decide +kernel
theorem dM_device_361 : decode cM_device 361 = .ok (.getfield 39, 3) := by decide +kernel
theorem dM_device_364 : decode cM_device 364 = .ok (.iconst 1, 1) := by decide +kernel
theorem dM_device_365 : decode cM_device 365 = .ok (.iadd, 1) := by decide +kernel
theorem dM_device_366 : decode cM_device 366 = .ok (.sipush 4095, 3) := by decide +kernel
theorem dM_device_369 : decode cM_device 369 = .ok (.iand, 1) := by decide +kernel
theorem dM_device_370 : decode cM_device 370 = .ok (.putfield 27, 3) := by decide +kernel
theorem dM_device_373 : decode cM_device 373 = .ok (.iconst 0, 1) := by decide +kernel
theorem dM_device_374 : decode cM_device 374 = .ok (.ireturn, 1) := by decide +kernel
theorem dM_microStep_0 : decode cM_microStep 0 = .ok (.aload_n 0, 1) := by decide +kernel
theorem dM_microStep_1 : decode cM_microStep 1 = .ok (.getfield 20, 3) := by decide +kernel
theorem dM_microStep_4 : decode cM_microStep 4 = .ok (.ifCond .ne 5, 3) := by decide +kernel
theorem dM_microStep_7 : decode cM_microStep 7 = .ok (.iconst 3, 1) := by decide +kernel
theorem dM_microStep_8 : decode cM_microStep 8 = .ok (.ireturn, 1) := by decide +kernel
theorem dM_microStep_9 : decode cM_microStep 9 = .ok (.aload_n 0, 1) := by decide +kernel
theorem dM_microStep_10 : decode cM_microStep 10 = .ok (.getfield 24, 3) := by decide +kernel
theorem dM_microStep_13 : decode cM_microStep 13 = .ok (.ifCond .ne 12, 3) := by decide +kernel
theorem dM_microStep_16 : decode cM_microStep 16 = .ok (.aload_n 0, 1) := by decide +kernel
theorem dM_microStep_17 : decode cM_microStep 17 = .ok (.getfield 54, 3) := by decide +kernel
theorem dM_microStep_20 : decode cM_microStep 20 = .ok (.ifCond .eq 5, 3) := by decide +kernel
theorem dM_microStep_23 : decode cM_microStep 23 = .ok (.iconst 2, 1) := by decide +kernel
theorem dM_microStep_24 : decode cM_microStep 24 = .ok (.ireturn, 1) := by decide +kernel
theorem dM_microStep_25 : decode cM_microStep 25 = .ok (.aload_n 0, 1) := by decide +kernel
theorem dM_microStep_26 : decode cM_microStep 26 = .ok (.getfield 24, 3) := by decide +kernel
theorem dM_microStep_29 : decode cM_microStep 29 = .ok (.bipush 37, 2) := by decide +kernel
theorem dM_microStep_31 : decode cM_microStep 31 = .ok (.if_icmp .ne 16, 3) := by decide +kernel
theorem dM_microStep_34 : decode cM_microStep 34 = .ok (.aload_n 0, 1) := by decide +kernel
theorem dM_microStep_35 : decode cM_microStep 35 = .ok (.getfield 66, 3) := by decide +kernel
theorem dM_microStep_38 : decode cM_microStep 38 = .ok (.aload_n 0, 1) := by decide +kernel
theorem dM_microStep_39 : decode cM_microStep 39 = .ok (.getfield 16, 3) := by decide +kernel
theorem dM_microStep_42 : decode cM_microStep 42 = .ok (.if_icmp .ne 5, 3) := by decide +kernel
theorem dM_microStep_45 : decode cM_microStep 45 = .ok (.iconst 4, 1) := by decide +kernel
theorem dM_microStep_46 : decode cM_microStep 46 = .ok (.ireturn, 1) := by decide +kernel
theorem dM_microStep_47 : decode cM_microStep 47 = .ok (.aload_n 0, 1) := by decide +kernel
theorem dM_microStep_48 : decode cM_microStep 48 = .ok (.aload_n 0, 1) := by decide +kernel
theorem dM_microStep_49 : decode cM_microStep 49 = .ok (.getfield 24, 3) := by decide +kernel
theorem dM_microStep_52 : decode cM_microStep 52 = .ok (.bipush 8, 2) := by decide +kernel
theorem dM_microStep_54 : decode cM_microStep 54 = .ok (.if_icmp .ge 10, 3) := by decide +kernel
theorem dM_microStep_57 : decode cM_microStep 57 = .ok (.aload_n 0, 1) := by decide +kernel
theorem dM_microStep_58 : decode cM_microStep 58 = .ok (.invokevirtual 93, 3) := by decide +kernel
theorem dM_microStep_61 : decode cM_microStep 61 = .ok (.goto 55, 3) := by decide +kernel
theorem dM_microStep_64 : decode cM_microStep 64 = .ok (.aload_n 0, 1) := by decide +kernel
theorem dM_microStep_65 : decode cM_microStep 65 = .ok (.getfield 24, 3) := by decide +kernel
theorem dM_microStep_68 : decode cM_microStep 68 = .ok (.bipush 20, 2) := by decide +kernel
theorem dM_microStep_70 : decode cM_microStep 70 = .ok (.if_icmp .ge 10, 3) := by decide +kernel
theorem dM_microStep_73 : decode cM_microStep 73 = .ok (.aload_n 0, 1) := by decide +kernel
theorem dM_microStep_74 : decode cM_microStep 74 = .ok (.invokevirtual 97, 3) := by decide +kernel
theorem dM_microStep_77 : decode cM_microStep 77 = .ok (.goto 39, 3) := by decide +kernel
theorem dM_microStep_80 : decode cM_microStep 80 = .ok (.aload_n 0, 1) := by decide +kernel
theorem dM_microStep_81 : decode cM_microStep 81 = .ok (.getfield 24, 3) := by decide +kernel
theorem dM_microStep_84 : decode cM_microStep 84 = .ok (.bipush 26, 2) := by decide +kernel
theorem dM_microStep_86 : decode cM_microStep 86 = .ok (.if_icmp .ge 10, 3) := by decide +kernel
theorem dM_microStep_89 : decode cM_microStep 89 = .ok (.aload_n 0, 1) := by decide +kernel
theorem dM_microStep_90 : decode cM_microStep 90 = .ok (.invokevirtual 100, 3) := by decide +kernel
theorem dM_microStep_93 : decode cM_microStep 93 = .ok (.goto 23, 3) := by decide +kernel
theorem dM_microStep_96 : decode cM_microStep 96 = .ok (.aload_n 0, 1) := by decide +kernel
theorem dM_microStep_97 : decode cM_microStep 97 = .ok (.getfield 24, 3) := by decide +kernel
theorem dM_microStep_100 : decode cM_microStep 100 = .ok (.bipush 32, 2) := by decide +kernel
theorem dM_microStep_102 : decode cM_microStep 102 = .ok (.if_icmp .ge 10, 3) := by decide +kernel
theorem dM_microStep_105 : decode cM_microStep 105 = .ok (.aload_n 0, 1) := by decide +kernel
theorem dM_microStep_106 : decode cM_microStep 106 = .ok (.invokevirtual 103, 3) := by decide +kernel
theorem dM_microStep_109 : decode cM_microStep 109 = .ok (.goto 7, 3) := by decide +kernel
theorem dM_microStep_112 : decode cM_microStep 112 = .ok (.aload_n 0, 1) := by decide +kernel
theorem dM_microStep_113 : decode cM_microStep 113 = .ok (.invokevirtual 106, 3) := by decide +kernel
theorem dM_microStep_116 : decode cM_microStep 116 = .ok (.putfield 24, 3) := by decide +kernel
theorem dM_microStep_119 : decode cM_microStep 119 = .ok (.aload_n 0, 1) := by decide +kernel
theorem dM_microStep_120 : decode cM_microStep 120 = .ok (.dup, 1) := by decide +kernel
theorem dM_microStep_121 : decode cM_microStep 121 = .ok (.getfield 69, 3) := by decide +kernel
theorem dM_microStep_124 : decode cM_microStep 124 = .ok (.iconst 1, 1) := by decide +kernel
theorem dM_microStep_125 : decode cM_microStep 125 = .ok (.iadd, 1) := by decide +kernel
theorem dM_microStep_126 : decode cM_microStep 126 = .ok (.putfield 69, 3) := by decide +kernel
theorem dM_microStep_129 : decode cM_microStep 129 = .ok (.aload_n 0, 1) := by decide +kernel
theorem dM_microStep_130 : decode cM_microStep 130 = .ok (.getfield 24, 3) := by decide +kernel
theorem dM_microStep_133 : decode cM_microStep 133 = .ok (.ifCond .ne 7, 3) := by decide +kernel
theorem dM_microStep_136 : decode cM_microStep 136 = .ok (.iconst 1, 1) := by decide +kernel
theorem dM_microStep_137 : decode cM_microStep 137 = .ok (.goto 4, 3) := by decide +kernel
theorem dM_microStep_140 : decode cM_microStep 140 = .ok (.iconst 0, 1) := by decide +kernel
theorem dM_microStep_141 : decode cM_microStep 141 = .ok (.ireturn, 1) := by decide +kernel
theorem dM_step_0 : decode cM_step 0 = .ok (.iconst 0, 1) := by decide +kernel
theorem dM_step_1 : decode cM_step 1 = .ok (.istore_n 1, 1) := by decide +kernel
theorem dM_step_2 : decode cM_step 2 = .ok (.iload_n 1, 1) := by decide +kernel
theorem dM_step_3 : decode cM_step 3 = .ok (.bipush 20, 2) := by decide +kernel
theorem dM_step_5 : decode cM_step 5 = .ok (.if_icmp .ge 29, 3) := by decide +kernel
theorem dM_step_8 : decode cM_step 8 = .ok (.aload_n 0, 1) := by decide +kernel
theorem dM_step_9 : decode cM_step 9 = .ok (.invokevirtual 109, 3) := by decide +kernel
theorem dM_step_12 : decode cM_step 12 = .ok (.istore_n 2, 1) := by decide +kernel
theorem dM_step_13 : decode cM_step 13 = .ok (.iload_n 2, 1) := by decide +kernel
theorem dM_step_14 : decode cM_step 14 = .ok (.ifCond .eq 14, 3) := by decide +kernel
theorem dM_step_17 : decode cM_step 17 = .ok (.iload_n 2, 1) := by decide +kernel
theorem dM_step_18 : decode cM_step 18 = .ok (.iconst 1, 1) := by decide +kernel
theorem dM_step_19 : decode cM_step 19 = .ok (.if_icmp .ne 7, 3) := by decide +kernel
theorem dM_step_22 : decode cM_step 22 = .ok (.iconst 0, 1) := by decide +kernel
theorem dM_step_23 : decode cM_step 23 = .ok (.goto 4, 3) := by decide +kernel
theorem dM_step_26 : decode cM_step 26 = .ok (.iload_n 2, 1) := by decide +kernel
theorem dM_step_27 : decode cM_step 27 = .ok (.ireturn, 1) := by decide +kernel
theorem dM_step_28 : decode cM_step 28 = .ok (.iinc 1 1, 3) := by decide +kernel
theorem dM_step_31 : decode cM_step 31 = .ok (.goto (-29), 3) := by decide +kernel
theorem dM_step_34 : decode cM_step 34 = .ok (.iconst 0, 1) := by decide +kernel
theorem dM_step_35 : decode cM_step 35 = .ok (.ireturn, 1) := by decide +kernel
theorem dM_run_0 : decode cM_run 0 = .ok (.iload_n 1, 1) := by decide +kernel
theorem dM_run_1 : decode cM_run 1 = .ok (.ifCond .lt 10, 3) := by decide +kernel
theorem dM_run_4 : decode cM_run 4 = .ok (.iload_n 1, 1) := by decide +kernel
theorem dM_run_5 : decode cM_run 5 = .ok (.sipush 500, 3) := by decide +kernel
theorem dM_run_8 : decode cM_run 8 = .ok (.if_icmp .le 5, 3) := by decide +kernel
theorem dM_run_11 : decode cM_run 11 = .ok (.iconst (-1), 1) := by decide +kernel
theorem dM_run_12 : decode cM_run 12 = .ok (.ireturn, 1) := by decide +kernel
theorem dM_run_13 : decode cM_run 13 = .ok (.iconst 0, 1) := by decide +kernel
theorem dM_run_14 : decode cM_run 14 = .ok (.istore_n 2, 1) := by decide +kernel
theorem dM_run_15 : decode cM_run 15 = .ok (.iconst 0, 1) := by decide +kernel
theorem dM_run_16 : decode cM_run 16 = .ok (.istore_n 3, 1) := by decide +kernel
theorem dM_run_17 : decode cM_run 17 = .ok (.iload_n 3, 1) := by decide +kernel
theorem dM_run_18 : decode cM_run 18 = .ok (.iload_n 1, 1) := by decide +kernel
theorem dM_run_19 : decode cM_run 19 = .ok (.if_icmp .ge 21, 3) := by decide +kernel
theorem dM_run_22 : decode cM_run 22 = .ok (.aload_n 0, 1) := by decide +kernel
theorem dM_run_23 : decode cM_run 23 = .ok (.invokevirtual 112, 3) := by decide +kernel
theorem dM_run_26 : decode cM_run 26 = .ok (.ifCond .eq 5, 3) := by decide +kernel
theorem dM_run_29 : decode cM_run 29 = .ok (.iload_n 2, 1) := by decide +kernel
theorem dM_run_30 : decode cM_run 30 = .ok (.ireturn, 1) := by decide +kernel
theorem dM_run_31 : decode cM_run 31 = .ok (.iinc 2 1, 3) := by decide +kernel
theorem dM_run_34 : decode cM_run 34 = .ok (.iinc 3 1, 3) := by decide +kernel
theorem dM_run_37 : decode cM_run 37 = .ok (.goto (-20), 3) := by decide +kernel
theorem dM_run_40 : decode cM_run 40 = .ok (.iload_n 2, 1) := by decide +kernel
theorem dM_run_41 : decode cM_run 41 = .ok (.ireturn, 1) := by decide +kernel
theorem dM_flags_0 : decode cM_flags 0 = .ok (.aload_n 0, 1) := by decide +kernel
theorem dM_flags_1 : decode cM_flags 1 = .ok (.getfield 48, 3) := by decide +kernel
theorem dM_flags_4 : decode cM_flags 4 = .ok (.ifCond .eq 7, 3) := by decide +kernel
theorem dM_flags_7 : decode cM_flags 7 = .ok (.iconst 1, 1) := by decide +kernel
theorem dM_flags_8 : decode cM_flags 8 = .ok (.goto 4, 3) := by decide +kernel
theorem dM_flags_11 : decode cM_flags 11 = .ok (.iconst 0, 1) := by decide +kernel
theorem dM_flags_12 : decode cM_flags 12 = .ok (.aload_n 0, 1) := by decide +kernel
theorem dM_flags_13 : decode cM_flags 13 = .ok (.getfield 51, 3) := by decide +kernel
theorem dM_flags_16 : decode cM_flags 16 = .ok (.ifCond .eq 7, 3) := by decide +kernel
theorem dM_flags_19 : decode cM_flags 19 = .ok (.iconst 2, 1) := by decide +kernel
theorem dM_flags_20 : decode cM_flags 20 = .ok (.goto 4, 3) := by decide +kernel
theorem dM_flags_23 : decode cM_flags 23 = .ok (.iconst 0, 1) := by decide +kernel
theorem dM_flags_24 : decode cM_flags 24 = .ok (.iadd, 1) := by decide +kernel
theorem dM_flags_25 : decode cM_flags 25 = .ok (.aload_n 0, 1) := by decide +kernel
theorem dM_flags_26 : decode cM_flags 26 = .ok (.getfield 54, 3) := by decide +kernel
theorem dM_flags_29 : decode cM_flags 29 = .ok (.ifCond .eq 7, 3) := by decide +kernel
theorem dM_flags_32 : decode cM_flags 32 = .ok (.iconst 4, 1) := by decide +kernel
theorem dM_flags_33 : decode cM_flags 33 = .ok (.goto 4, 3) := by decide +kernel
theorem dM_flags_36 : decode cM_flags 36 = .ok (.iconst 0, 1) := by decide +kernel
theorem dM_flags_37 : decode cM_flags 37 = .ok (.iadd, 1) := by decide +kernel
theorem dM_flags_38 : decode cM_flags 38 = .ok (.aload_n 0, 1) := by decide +kernel
theorem dM_flags_39 : decode cM_flags 39 = .ok (.getfield 57, 3) := by decide +kernel
theorem dM_flags_42 : decode cM_flags 42 = .ok (.ifCond .eq 8, 3) := by decide +kernel
theorem dM_flags_45 : decode cM_flags 45 = .ok (.bipush 8, 2) := by decide +kernel
theorem dM_flags_47 : decode cM_flags 47 = .ok (.goto 4, 3) := by decide +kernel
theorem dM_flags_50 : decode cM_flags 50 = .ok (.iconst 0, 1) := by decide +kernel
theorem dM_flags_51 : decode cM_flags 51 = .ok (.iadd, 1) := by decide +kernel
theorem dM_flags_52 : decode cM_flags 52 = .ok (.aload_n 0, 1) := by decide +kernel
theorem dM_flags_53 : decode cM_flags 53 = .ok (.getfield 60, 3) := by decide +kernel
theorem dM_flags_56 : decode cM_flags 56 = .ok (.ifCond .eq 8, 3) := by decide +kernel
theorem dM_flags_59 : decode cM_flags 59 = .ok (.bipush 16, 2) := by decide +kernel
theorem dM_flags_61 : decode cM_flags 61 = .ok (.goto 4, 3) := by decide +kernel
theorem dM_flags_64 : decode cM_flags 64 = .ok (.iconst 0, 1) := by decide +kernel
theorem dM_flags_65 : decode cM_flags 65 = .ok (.iadd, 1) := by decide +kernel
theorem dM_flags_66 : decode cM_flags 66 = .ok (.ireturn, 1) := by decide +kernel
theorem dM_look_0 : decode cM_look 0 = .ok (.iload_n 1, 1) := by decide +kernel
theorem dM_look_1 : decode cM_look 1 = .ok (.tableswitch 114 0 10 #[59, 64, 69, 74, 79, 84, 89, 94, 99, 104, 109], 59) := by decide +kernel
theorem dM_look_60 : decode cM_look 60 = .ok (.aload_n 0, 1) := by decide +kernel
theorem dM_look_61 : decode cM_look 61 = .ok (.getfield 27, 3) := by decide +kernel
theorem dM_look_64 : decode cM_look 64 = .ok (.ireturn, 1) := by decide +kernel
theorem dM_look_65 : decode cM_look 65 = .ok (.aload_n 0, 1) := by decide +kernel
theorem dM_look_66 : decode cM_look 66 = .ok (.getfield 30, 3) := by decide +kernel
theorem dM_look_69 : decode cM_look 69 = .ok (.ireturn, 1) := by decide +kernel
theorem dM_look_70 : decode cM_look 70 = .ok (.aload_n 0, 1) := by decide +kernel
theorem dM_look_71 : decode cM_look 71 = .ok (.getfield 33, 3) := by decide +kernel
theorem dM_look_74 : decode cM_look 74 = .ok (.ireturn, 1) := by decide +kernel
theorem dM_look_75 : decode cM_look 75 = .ok (.aload_n 0, 1) := by decide +kernel
theorem dM_look_76 : decode cM_look 76 = .ok (.getfield 36, 3) := by decide +kernel
theorem dM_look_79 : decode cM_look 79 = .ok (.ireturn, 1) := by decide +kernel
theorem dM_look_80 : decode cM_look 80 = .ok (.aload_n 0, 1) := by decide +kernel
theorem dM_look_81 : decode cM_look 81 = .ok (.getfield 39, 3) := by decide +kernel
theorem dM_look_84 : decode cM_look 84 = .ok (.ireturn, 1) := by decide +kernel
theorem dM_look_85 : decode cM_look 85 = .ok (.aload_n 0, 1) := by decide +kernel
theorem dM_look_86 : decode cM_look 86 = .ok (.getfield 42, 3) := by decide +kernel
theorem dM_look_89 : decode cM_look 89 = .ok (.ireturn, 1) := by decide +kernel
theorem dM_look_90 : decode cM_look 90 = .ok (.aload_n 0, 1) := by decide +kernel
theorem dM_look_91 : decode cM_look 91 = .ok (.getfield 45, 3) := by decide +kernel
theorem dM_look_94 : decode cM_look 94 = .ok (.ireturn, 1) := by decide +kernel
theorem dM_look_95 : decode cM_look 95 = .ok (.aload_n 0, 1) := by decide +kernel
theorem dM_look_96 : decode cM_look 96 = .ok (.getfield 24, 3) := by decide +kernel
theorem dM_look_99 : decode cM_look 99 = .ok (.ireturn, 1) := by decide +kernel
theorem dM_look_100 : decode cM_look 100 = .ok (.aload_n 0, 1) := by decide +kernel
theorem dM_look_101 : decode cM_look 101 = .ok (.invokevirtual 115, 3) := by decide +kernel
theorem dM_look_104 : decode cM_look 104 = .ok (.ireturn, 1) := by decide +kernel
theorem dM_look_105 : decode cM_look 105 = .ok (.aload_n 0, 1) := by decide +kernel
theorem dM_look_106 : decode cM_look 106 = .ok (.getfield 63, 3) := by decide +kernel
theorem dM_look_109 : decode cM_look 109 = .ok (.ireturn, 1) := by decide +kernel
theorem dM_look_110 : decode cM_look 110 = .ok (.aload_n 0, 1) := by decide +kernel
theorem dM_look_111 : decode cM_look 111 = .ok (.getfield 69, 3) := by decide +kernel
theorem dM_look_114 : decode cM_look 114 = .ok (.ireturn, 1) := by decide +kernel
theorem dM_look_115 : decode cM_look 115 = .ok (.iconst (-1), 1) := by decide +kernel
theorem dM_look_116 : decode cM_look 116 = .ok (.ireturn, 1) := by decide +kernel
theorem dM_printed_0 : decode cM_printed 0 = .ok (.iload_n 1, 1) := by decide +kernel
theorem dM_printed_1 : decode cM_printed 1 = .ok (.iconst (-1), 1) := by decide +kernel
theorem dM_printed_2 : decode cM_printed 2 = .ok (.if_icmp .ne 10, 3) := by decide +kernel
theorem dM_printed_5 : decode cM_printed 5 = .ok (.aload_n 0, 1) := by decide +kernel
theorem dM_printed_6 : decode cM_printed 6 = .ok (.getfield 66, 3) := by decide +kernel
theorem dM_printed_9 : decode cM_printed 9 = .ok (.goto 25, 3) := by decide +kernel
theorem dM_printed_12 : decode cM_printed 12 = .ok (.iload_n 1, 1) := by decide +kernel
theorem dM_printed_13 : decode cM_printed 13 = .ok (.ifCond .lt 11, 3) := by decide +kernel
theorem dM_printed_16 : decode cM_printed 16 = .ok (.iload_n 1, 1) := by decide +kernel
theorem dM_printed_17 : decode cM_printed 17 = .ok (.aload_n 0, 1) := by decide +kernel
theorem dM_printed_18 : decode cM_printed 18 = .ok (.getfield 66, 3) := by decide +kernel
theorem dM_printed_21 : decode cM_printed 21 = .ok (.if_icmp .lt 7, 3) := by decide +kernel
theorem dM_printed_24 : decode cM_printed 24 = .ok (.iconst (-1), 1) := by decide +kernel
theorem dM_printed_25 : decode cM_printed 25 = .ok (.goto 9, 3) := by decide +kernel
theorem dM_printed_28 : decode cM_printed 28 = .ok (.aload_n 0, 1) := by decide +kernel
theorem dM_printed_29 : decode cM_printed 29 = .ok (.getfield 13, 3) := by decide +kernel
theorem dM_printed_32 : decode cM_printed 32 = .ok (.iload_n 1, 1) := by decide +kernel
theorem dM_printed_33 : decode cM_printed 33 = .ok (.iaload, 1) := by decide +kernel
theorem dM_printed_34 : decode cM_printed 34 = .ok (.ireturn, 1) := by decide +kernel
theorem dL_cell_0 : decode cL_cell 0 = .ok (.iload_n 1, 1) := by decide +kernel
theorem dL_cell_1 : decode cL_cell 1 = .ok (.aload_n 0, 1) := by decide +kernel
theorem dL_cell_2 : decode cL_cell 2 = .ok (.arraylength, 1) := by decide +kernel
theorem dL_cell_3 : decode cL_cell 3 = .ok (.if_icmp .ge 9, 3) := by decide +kernel
theorem dL_cell_6 : decode cL_cell 6 = .ok (.aload_n 0, 1) := by decide +kernel
theorem dL_cell_7 : decode cL_cell 7 = .ok (.iload_n 1, 1) := by decide +kernel
theorem dL_cell_8 : decode cL_cell 8 = .ok (.iaload, 1) := by decide +kernel
theorem dL_cell_9 : decode cL_cell 9 = .ok (.goto 4, 3) := by decide +kernel
theorem dL_cell_12 : decode cL_cell 12 = .ok (.iconst 0, 1) := by decide +kernel
theorem dL_cell_13 : decode cL_cell 13 = .ok (.ireturn, 1) := by decide +kernel
theorem dL_law_0 : decode cL_law 0 = .ok (.new 7, 3) := by decide +kernel
theorem dL_law_3 : decode cL_law 3 = .ok (.dup, 1) := by decide +kernel
theorem dL_law_4 : decode cL_law 4 = .ok (.aload_n 0, 1) := by decide +kernel
theorem dL_law_5 : decode cL_law 5 = .ok (.iconst 0, 1) := by decide +kernel
theorem dL_law_6 : decode cL_law 6 = .ok (.invokestatic 9, 3) := by decide +kernel
theorem dL_law_9 : decode cL_law 9 = .ok (.invokespecial 15, 3) := by decide +kernel
theorem dL_law_12 : decode cL_law 12 = .ok (.astore_n 1, 1) := by decide +kernel
theorem dL_law_13 : decode cL_law 13 = .ok (.new 18, 3) := by decide +kernel
theorem dL_law_16 : decode cL_law 16 = .ok (.dup, 1) := by decide +kernel
theorem dL_law_17 : decode cL_law 17 = .ok (.aload_n 0, 1) := by decide +kernel
theorem dL_law_18 : decode cL_law 18 = .ok (.iconst 0, 1) := by decide +kernel
theorem dL_law_19 : decode cL_law 19 = .ok (.invokestatic 9, 3) := by decide +kernel
theorem dL_law_22 : decode cL_law 22 = .ok (.invokespecial 20, 3) := by decide +kernel
theorem dL_law_25 : decode cL_law 25 = .ok (.astore_n 2, 1) := by decide +kernel
theorem dL_law_26 : decode cL_law 26 = .ok (.iconst 1, 1) := by decide +kernel
theorem dL_law_27 : decode cL_law 27 = .ok (.istore_n 3, 1) := by decide +kernel
theorem dL_law_28 : decode cL_law 28 = .ok (.iload_n 3, 1) := by decide +kernel
theorem dL_law_29 : decode cL_law 29 = .ok (.aload_n 0, 1) := by decide +kernel
theorem dL_law_30 : decode cL_law 30 = .ok (.arraylength, 1) := by decide +kernel
theorem dL_law_31 : decode cL_law 31 = .ok (.iconst 5, 1) := by decide +kernel
theorem dL_law_32 : decode cL_law 32 = .ok (.isub, 1) := by decide +kernel
theorem dL_law_33 : decode cL_law 33 = .ok (.if_icmp .gt 377, 3) := by decide +kernel
theorem dL_law_36 : decode cL_law 36 = .ok (.aload_n 0, 1) := by decide +kernel
theorem dL_law_37 : decode cL_law 37 = .ok (.iload_n 3, 1) := by decide +kernel
theorem dL_law_38 : decode cL_law 38 = .ok (.iaload, 1) := by decide +kernel
theorem dL_law_39 : decode cL_law 39 = .ok (.bipush 15, 2) := by decide +kernel
theorem dL_law_41 : decode cL_law 41 = .ok (.iand, 1) := by decide +kernel
theorem dL_law_42 : decode cL_law 42 = .ok (.tableswitch 362 0 11 #[62, 73, 106, 129, 202, 225, 246, 267, 280, 293, 316, 339], 62) := by decide +kernel
theorem dL_law_104 : decode cL_law 104 = .ok (.aload_n 1, 1) := by decide +kernel
theorem dL_law_105 : decode cL_law 105 = .ok (.invokevirtual 21, 3) := by decide +kernel
theorem dL_law_108 : decode cL_law 108 = .ok (.aload_n 2, 1) := by decide +kernel
theorem dL_law_109 : decode cL_law 109 = .ok (.invokevirtual 24, 3) := by decide +kernel
theorem dL_law_112 : decode cL_law 112 = .ok (.goto 292, 3) := by decide +kernel
theorem dL_law_115 : decode cL_law 115 = .ok (.aload_n 1, 1) := by decide +kernel
theorem dL_law_116 : decode cL_law 116 = .ok (.aload_n 0, 1) := by decide +kernel
theorem dL_law_117 : decode cL_law 117 = .ok (.iload_n 3, 1) := by decide +kernel
theorem dL_law_118 : decode cL_law 118 = .ok (.iconst 1, 1) := by decide +kernel
theorem dL_law_119 : decode cL_law 119 = .ok (.iadd, 1) := by decide +kernel
theorem dL_law_120 : decode cL_law 120 = .ok (.iaload, 1) := by decide +kernel
theorem dL_law_121 : decode cL_law 121 = .ok (.aload_n 0, 1) := by decide +kernel
theorem dL_law_122 : decode cL_law 122 = .ok (.iload_n 3, 1) := by decide +kernel
theorem dL_law_123 : decode cL_law 123 = .ok (.iconst 2, 1) := by decide +kernel
theorem dL_law_124 : decode cL_law 124 = .ok (.iadd, 1) := by decide +kernel
theorem dL_law_125 : decode cL_law 125 = .ok (.iaload, 1) := by decide +kernel
theorem dL_law_126 : decode cL_law 126 = .ok (.invokevirtual 25, 3) := by decide +kernel
theorem dL_law_129 : decode cL_law 129 = .ok (.aload_n 2, 1) := by decide +kernel
theorem dL_law_130 : decode cL_law 130 = .ok (.aload_n 0, 1) := by decide +kernel
theorem dL_law_131 : decode cL_law 131 = .ok (.iload_n 3, 1) := by decide +kernel
theorem dL_law_132 : decode cL_law 132 = .ok (.iconst 1, 1) := by decide +kernel
theorem dL_law_133 : decode cL_law 133 = .ok (.iadd, 1) := by decide +kernel
theorem dL_law_134 : decode cL_law 134 = .ok (.iaload, 1) := by decide +kernel
theorem dL_law_135 : decode cL_law 135 = .ok (.aload_n 0, 1) := by decide +kernel
theorem dL_law_136 : decode cL_law 136 = .ok (.iload_n 3, 1) := by decide +kernel
theorem dL_law_137 : decode cL_law 137 = .ok (.iconst 2, 1) := by decide +kernel
theorem dL_law_138 : decode cL_law 138 = .ok (.iadd, 1) := by decide +kernel
theorem dL_law_139 : decode cL_law 139 = .ok (.iaload, 1) := by decide +kernel
theorem dL_law_140 : decode cL_law 140 = .ok (.invokevirtual 29, 3) := by decide +kernel
theorem dL_law_143 : decode cL_law 143 = .ok (.if_icmp .eq 261, 3) := by decide +kernel
theorem dL_law_146 : decode cL_law 146 = .ok (.iconst 0, 1) := by decide +kernel
theorem dL_law_147 : decode cL_law 147 = .ok (.ireturn, 1) := by decide +kernel
theorem dL_law_148 : decode cL_law 148 = .ok (.aload_n 1, 1) := by decide +kernel
theorem dL_law_149 : decode cL_law 149 = .ok (.aload_n 0, 1) := by decide +kernel
theorem dL_law_150 : decode cL_law 150 = .ok (.iload_n 3, 1) := by decide +kernel
theorem dL_law_151 : decode cL_law 151 = .ok (.iconst 1, 1) := by decide +kernel
theorem dL_law_152 : decode cL_law 152 = .ok (.iadd, 1) := by decide +kernel
theorem dL_law_153 : decode cL_law 153 = .ok (.iaload, 1) := by decide +kernel
theorem dL_law_154 : decode cL_law 154 = .ok (.invokevirtual 30, 3) := by decide +kernel
theorem dL_law_157 : decode cL_law 157 = .ok (.aload_n 2, 1) := by decide +kernel
theorem dL_law_158 : decode cL_law 158 = .ok (.aload_n 0, 1) := by decide +kernel
theorem dL_law_159 : decode cL_law 159 = .ok (.iload_n 3, 1) := by decide +kernel
theorem dL_law_160 : decode cL_law 160 = .ok (.iconst 1, 1) := by decide +kernel
theorem dL_law_161 : decode cL_law 161 = .ok (.iadd, 1) := by decide +kernel
theorem dL_law_162 : decode cL_law 162 = .ok (.iaload, 1) := by decide +kernel
theorem dL_law_163 : decode cL_law 163 = .ok (.invokevirtual 34, 3) := by decide +kernel
theorem dL_law_166 : decode cL_law 166 = .ok (.if_icmp .eq 238, 3) := by decide +kernel
theorem dL_law_169 : decode cL_law 169 = .ok (.iconst 0, 1) := by decide +kernel
theorem dL_law_170 : decode cL_law 170 = .ok (.ireturn, 1) := by decide +kernel
theorem dL_law_171 : decode cL_law 171 = .ok (.aload_n 1, 1) := by decide +kernel
theorem dL_law_172 : decode cL_law 172 = .ok (.aload_n 0, 1) := by decide +kernel
theorem dL_law_173 : decode cL_law 173 = .ok (.iload_n 3, 1) := by decide +kernel
theorem dL_law_174 : decode cL_law 174 = .ok (.iconst 1, 1) := by decide +kernel
theorem dL_law_175 : decode cL_law 175 = .ok (.iadd, 1) := by decide +kernel
theorem dL_law_176 : decode cL_law 176 = .ok (.iaload, 1) := by decide +kernel
theorem dL_law_177 : decode cL_law 177 = .ok (.aload_n 0, 1) := by decide +kernel
theorem dL_law_178 : decode cL_law 178 = .ok (.iload_n 3, 1) := by decide +kernel
theorem dL_law_179 : decode cL_law 179 = .ok (.iconst 2, 1) := by decide +kernel
theorem dL_law_180 : decode cL_law 180 = .ok (.iadd, 1) := by decide +kernel
theorem dL_law_181 : decode cL_law 181 = .ok (.iaload, 1) := by decide +kernel
theorem dL_law_182 : decode cL_law 182 = .ok (.aload_n 0, 1) := by decide +kernel
theorem dL_law_183 : decode cL_law 183 = .ok (.iload_n 3, 1) := by decide +kernel
theorem dL_law_184 : decode cL_law 184 = .ok (.iconst 3, 1) := by decide +kernel
theorem dL_law_185 : decode cL_law 185 = .ok (.iadd, 1) := by decide +kernel
theorem dL_law_186 : decode cL_law 186 = .ok (.iaload, 1) := by decide +kernel
theorem dL_law_187 : decode cL_law 187 = .ok (.i2l, 1) := by decide +kernel
theorem dL_law_188 : decode cL_law 188 = .ok (.bipush 32, 2) := by decide +kernel
theorem dL_law_190 : decode cL_law 190 = .ok (.lshl, 1) := by decide +kernel
theorem dL_law_191 : decode cL_law 191 = .ok (.aload_n 0, 1) := by decide +kernel
theorem dL_law_192 : decode cL_law 192 = .ok (.iload_n 3, 1) := by decide +kernel
theorem dL_law_193 : decode cL_law 193 = .ok (.iconst 4, 1) := by decide +kernel
theorem dL_law_194 : decode cL_law 194 = .ok (.iadd, 1) := by decide +kernel
theorem dL_law_195 : decode cL_law 195 = .ok (.iaload, 1) := by decide +kernel
theorem dL_law_196 : decode cL_law 196 = .ok (.i2l, 1) := by decide +kernel
theorem dL_law_197 : decode cL_law 197 = .ok (.ldc2_w 35, 3) := by decide +kernel
theorem dL_law_200 : decode cL_law 200 = .ok (.land, 1) := by decide +kernel
theorem dL_law_201 : decode cL_law 201 = .ok (.lor, 1) := by decide +kernel
theorem dL_law_202 : decode cL_law 202 = .ok (.invokevirtual 37, 3) := by decide +kernel
theorem dL_law_205 : decode cL_law 205 = .ok (.aload_n 2, 1) := by decide +kernel
theorem dL_law_206 : decode cL_law 206 = .ok (.aload_n 0, 1) := by decide +kernel
theorem dL_law_207 : decode cL_law 207 = .ok (.iload_n 3, 1) := by decide +kernel
theorem dL_law_208 : decode cL_law 208 = .ok (.iconst 1, 1) := by decide +kernel
theorem dL_law_209 : decode cL_law 209 = .ok (.iadd, 1) := by decide +kernel
theorem dL_law_210 : decode cL_law 210 = .ok (.iaload, 1) := by decide +kernel
theorem dL_law_211 : decode cL_law 211 = .ok (.aload_n 0, 1) := by decide +kernel
theorem dL_law_212 : decode cL_law 212 = .ok (.iload_n 3, 1) := by decide +kernel
theorem dL_law_213 : decode cL_law 213 = .ok (.iconst 2, 1) := by decide +kernel
theorem dL_law_214 : decode cL_law 214 = .ok (.iadd, 1) := by decide +kernel
theorem dL_law_215 : decode cL_law 215 = .ok (.iaload, 1) := by decide +kernel
theorem dL_law_216 : decode cL_law 216 = .ok (.aload_n 0, 1) := by decide +kernel
theorem dL_law_217 : decode cL_law 217 = .ok (.iload_n 3, 1) := by decide +kernel
theorem dL_law_218 : decode cL_law 218 = .ok (.iconst 3, 1) := by decide +kernel
theorem dL_law_219 : decode cL_law 219 = .ok (.iadd, 1) := by decide +kernel
theorem dL_law_220 : decode cL_law 220 = .ok (.iaload, 1) := by decide +kernel
theorem dL_law_221 : decode cL_law 221 = .ok (.i2l, 1) := by decide +kernel
theorem dL_law_222 : decode cL_law 222 = .ok (.bipush 32, 2) := by decide +kernel
theorem dL_law_224 : decode cL_law 224 = .ok (.lshl, 1) := by decide +kernel
theorem dL_law_225 : decode cL_law 225 = .ok (.aload_n 0, 1) := by decide +kernel
theorem dL_law_226 : decode cL_law 226 = .ok (.iload_n 3, 1) := by decide +kernel
theorem dL_law_227 : decode cL_law 227 = .ok (.iconst 4, 1) := by decide +kernel
theorem dL_law_228 : decode cL_law 228 = .ok (.iadd, 1) := by decide +kernel
theorem dL_law_229 : decode cL_law 229 = .ok (.iaload, 1) := by decide +kernel
theorem dL_law_230 : decode cL_law 230 = .ok (.i2l, 1) := by decide +kernel
theorem dL_law_231 : decode cL_law 231 = .ok (.ldc2_w 35, 3) := by decide +kernel
theorem dL_law_234 : decode cL_law 234 = .ok (.land, 1) := by decide +kernel
theorem dL_law_235 : decode cL_law 235 = .ok (.lor, 1) := by decide +kernel
theorem dL_law_236 : decode cL_law 236 = .ok (.invokevirtual 41, 3) := by decide +kernel
theorem dL_law_239 : decode cL_law 239 = .ok (.if_icmp .eq 165, 3) := by decide +kernel
theorem dL_law_242 : decode cL_law 242 = .ok (.iconst 0, 1) := by decide +kernel
theorem dL_law_243 : decode cL_law 243 = .ok (.ireturn, 1) := by decide +kernel
theorem dL_law_244 : decode cL_law 244 = .ok (.aload_n 1, 1) := by decide +kernel
theorem dL_law_245 : decode cL_law 245 = .ok (.aload_n 0, 1) := by decide +kernel
theorem dL_law_246 : decode cL_law 246 = .ok (.iload_n 3, 1) := by decide +kernel
theorem dL_law_247 : decode cL_law 247 = .ok (.iconst 1, 1) := by decide +kernel
theorem dL_law_248 : decode cL_law 248 = .ok (.iadd, 1) := by decide +kernel
theorem dL_law_249 : decode cL_law 249 = .ok (.iaload, 1) := by decide +kernel
theorem dL_law_250 : decode cL_law 250 = .ok (.invokevirtual 42, 3) := by decide +kernel
theorem dL_law_253 : decode cL_law 253 = .ok (.aload_n 2, 1) := by decide +kernel
theorem dL_law_254 : decode cL_law 254 = .ok (.aload_n 0, 1) := by decide +kernel
theorem dL_law_255 : decode cL_law 255 = .ok (.iload_n 3, 1) := by decide +kernel
theorem dL_law_256 : decode cL_law 256 = .ok (.iconst 1, 1) := by decide +kernel
theorem dL_law_257 : decode cL_law 257 = .ok (.iadd, 1) := by decide +kernel
theorem dL_law_258 : decode cL_law 258 = .ok (.iaload, 1) := by decide +kernel
theorem dL_law_259 : decode cL_law 259 = .ok (.invokevirtual 46, 3) := by decide +kernel
theorem dL_law_262 : decode cL_law 262 = .ok (.if_icmp .eq 142, 3) := by decide +kernel
theorem dL_law_265 : decode cL_law 265 = .ok (.iconst 0, 1) := by decide +kernel
theorem dL_law_266 : decode cL_law 266 = .ok (.ireturn, 1) := by decide +kernel
theorem dL_law_267 : decode cL_law 267 = .ok (.aload_n 1, 1) := by decide +kernel
theorem dL_law_268 : decode cL_law 268 = .ok (.aload_n 0, 1) := by decide +kernel
theorem dL_law_269 : decode cL_law 269 = .ok (.iload_n 3, 1) := by decide +kernel
theorem dL_law_270 : decode cL_law 270 = .ok (.iconst 1, 1) := by decide +kernel
theorem dL_law_271 : decode cL_law 271 = .ok (.iadd, 1) := by decide +kernel
theorem dL_law_272 : decode cL_law 272 = .ok (.iaload, 1) := by decide +kernel
theorem dL_law_273 : decode cL_law 273 = .ok (.invokevirtual 47, 3) := by decide +kernel
theorem dL_law_276 : decode cL_law 276 = .ok (.aload_n 2, 1) := by decide +kernel
theorem dL_law_277 : decode cL_law 277 = .ok (.aload_n 0, 1) := by decide +kernel
theorem dL_law_278 : decode cL_law 278 = .ok (.iload_n 3, 1) := by decide +kernel
theorem dL_law_279 : decode cL_law 279 = .ok (.iconst 1, 1) := by decide +kernel
theorem dL_law_280 : decode cL_law 280 = .ok (.iadd, 1) := by decide +kernel
theorem dL_law_281 : decode cL_law 281 = .ok (.iaload, 1) := by decide +kernel
theorem dL_law_282 : decode cL_law 282 = .ok (.invokevirtual 50, 3) := by decide +kernel
theorem dL_law_285 : decode cL_law 285 = .ok (.goto 119, 3) := by decide +kernel
theorem dL_law_288 : decode cL_law 288 = .ok (.aload_n 1, 1) := by decide +kernel
theorem dL_law_289 : decode cL_law 289 = .ok (.aload_n 0, 1) := by decide +kernel
theorem dL_law_290 : decode cL_law 290 = .ok (.iload_n 3, 1) := by decide +kernel
theorem dL_law_291 : decode cL_law 291 = .ok (.iconst 1, 1) := by decide +kernel
theorem dL_law_292 : decode cL_law 292 = .ok (.iadd, 1) := by decide +kernel
theorem dL_law_293 : decode cL_law 293 = .ok (.iaload, 1) := by decide +kernel
theorem dL_law_294 : decode cL_law 294 = .ok (.invokevirtual 51, 3) := by decide +kernel
theorem dL_law_297 : decode cL_law 297 = .ok (.aload_n 2, 1) := by decide +kernel
theorem dL_law_298 : decode cL_law 298 = .ok (.aload_n 0, 1) := by decide +kernel
theorem dL_law_299 : decode cL_law 299 = .ok (.iload_n 3, 1) := by decide +kernel
theorem dL_law_300 : decode cL_law 300 = .ok (.iconst 1, 1) := by decide +kernel
theorem dL_law_301 : decode cL_law 301 = .ok (.iadd, 1) := by decide +kernel
theorem dL_law_302 : decode cL_law 302 = .ok (.iaload, 1) := by decide +kernel
theorem dL_law_303 : decode cL_law 303 = .ok (.invokevirtual 54, 3) := by decide +kernel
theorem dL_law_306 : decode cL_law 306 = .ok (.goto 98, 3) := by decide +kernel
theorem dL_law_309 : decode cL_law 309 = .ok (.aload_n 1, 1) := by decide +kernel
theorem dL_law_310 : decode cL_law 310 = .ok (.invokevirtual 55, 3) := by decide +kernel
theorem dL_law_313 : decode cL_law 313 = .ok (.aload_n 2, 1) := by decide +kernel
theorem dL_law_314 : decode cL_law 314 = .ok (.invokevirtual 59, 3) := by decide +kernel
theorem dL_law_317 : decode cL_law 317 = .ok (.if_icmp .eq 87, 3) := by decide +kernel
theorem dL_law_320 : decode cL_law 320 = .ok (.iconst 0, 1) := by decide +kernel
theorem dL_law_321 : decode cL_law 321 = .ok (.ireturn, 1) := by decide +kernel
theorem dL_law_322 : decode cL_law 322 = .ok (.aload_n 1, 1) := by decide +kernel
theorem dL_law_323 : decode cL_law 323 = .ok (.invokevirtual 60, 3) := by decide +kernel
theorem dL_law_326 : decode cL_law 326 = .ok (.aload_n 2, 1) := by decide +kernel
theorem dL_law_327 : decode cL_law 327 = .ok (.invokevirtual 63, 3) := by decide +kernel
theorem dL_law_330 : decode cL_law 330 = .ok (.if_icmp .eq 74, 3) := by decide +kernel
theorem dL_law_333 : decode cL_law 333 = .ok (.iconst 0, 1) := by decide +kernel
theorem dL_law_334 : decode cL_law 334 = .ok (.ireturn, 1) := by decide +kernel
theorem dL_law_335 : decode cL_law 335 = .ok (.aload_n 1, 1) := by decide +kernel
theorem dL_law_336 : decode cL_law 336 = .ok (.aload_n 0, 1) := by decide +kernel
theorem dL_law_337 : decode cL_law 337 = .ok (.iload_n 3, 1) := by decide +kernel
theorem dL_law_338 : decode cL_law 338 = .ok (.iconst 1, 1) := by decide +kernel
theorem dL_law_339 : decode cL_law 339 = .ok (.iadd, 1) := by decide +kernel
theorem dL_law_340 : decode cL_law 340 = .ok (.iaload, 1) := by decide +kernel
theorem dL_law_341 : decode cL_law 341 = .ok (.invokevirtual 64, 3) := by decide +kernel
theorem dL_law_344 : decode cL_law 344 = .ok (.aload_n 2, 1) := by decide +kernel
theorem dL_law_345 : decode cL_law 345 = .ok (.aload_n 0, 1) := by decide +kernel
theorem dL_law_346 : decode cL_law 346 = .ok (.iload_n 3, 1) := by decide +kernel
theorem dL_law_347 : decode cL_law 347 = .ok (.iconst 1, 1) := by decide +kernel
theorem dL_law_348 : decode cL_law 348 = .ok (.iadd, 1) := by decide +kernel
theorem dL_law_349 : decode cL_law 349 = .ok (.iaload, 1) := by decide +kernel
theorem dL_law_350 : decode cL_law 350 = .ok (.invokevirtual 67, 3) := by decide +kernel
theorem dL_law_353 : decode cL_law 353 = .ok (.if_icmp .eq 51, 3) := by decide +kernel
theorem dL_law_356 : decode cL_law 356 = .ok (.iconst 0, 1) := by decide +kernel
theorem dL_law_357 : decode cL_law 357 = .ok (.ireturn, 1) := by decide +kernel
theorem dL_law_358 : decode cL_law 358 = .ok (.aload_n 1, 1) := by decide +kernel
theorem dL_law_359 : decode cL_law 359 = .ok (.aload_n 0, 1) := by decide +kernel
theorem dL_law_360 : decode cL_law 360 = .ok (.iload_n 3, 1) := by decide +kernel
theorem dL_law_361 : decode cL_law 361 = .ok (.iconst 1, 1) := by decide +kernel
theorem dL_law_362 : decode cL_law 362 = .ok (.iadd, 1) := by decide +kernel
theorem dL_law_363 : decode cL_law 363 = .ok (.iaload, 1) := by decide +kernel
theorem dL_law_364 : decode cL_law 364 = .ok (.invokevirtual 68, 3) := by decide +kernel
theorem dL_law_367 : decode cL_law 367 = .ok (.aload_n 2, 1) := by decide +kernel
theorem dL_law_368 : decode cL_law 368 = .ok (.aload_n 0, 1) := by decide +kernel
theorem dL_law_369 : decode cL_law 369 = .ok (.iload_n 3, 1) := by decide +kernel
theorem dL_law_370 : decode cL_law 370 = .ok (.iconst 1, 1) := by decide +kernel
theorem dL_law_371 : decode cL_law 371 = .ok (.iadd, 1) := by decide +kernel
theorem dL_law_372 : decode cL_law 372 = .ok (.iaload, 1) := by decide +kernel
theorem dL_law_373 : decode cL_law 373 = .ok (.invokevirtual 71, 3) := by decide +kernel
theorem dL_law_376 : decode cL_law 376 = .ok (.if_icmp .eq 28, 3) := by decide +kernel
theorem dL_law_379 : decode cL_law 379 = .ok (.iconst 0, 1) := by decide +kernel
theorem dL_law_380 : decode cL_law 380 = .ok (.ireturn, 1) := by decide +kernel
theorem dL_law_381 : decode cL_law 381 = .ok (.aload_n 1, 1) := by decide +kernel
theorem dL_law_382 : decode cL_law 382 = .ok (.aload_n 0, 1) := by decide +kernel
theorem dL_law_383 : decode cL_law 383 = .ok (.iload_n 3, 1) := by decide +kernel
theorem dL_law_384 : decode cL_law 384 = .ok (.iconst 1, 1) := by decide +kernel
theorem dL_law_385 : decode cL_law 385 = .ok (.iadd, 1) := by decide +kernel
theorem dL_law_386 : decode cL_law 386 = .ok (.iaload, 1) := by decide +kernel
theorem dL_law_387 : decode cL_law 387 = .ok (.invokevirtual 72, 3) := by decide +kernel
theorem dL_law_390 : decode cL_law 390 = .ok (.aload_n 2, 1) := by decide +kernel
theorem dL_law_391 : decode cL_law 391 = .ok (.aload_n 0, 1) := by decide +kernel
theorem dL_law_392 : decode cL_law 392 = .ok (.iload_n 3, 1) := by decide +kernel
theorem dL_law_393 : decode cL_law 393 = .ok (.iconst 1, 1) := by decide +kernel
theorem dL_law_394 : decode cL_law 394 = .ok (.iadd, 1) := by decide +kernel
theorem dL_law_395 : decode cL_law 395 = .ok (.iaload, 1) := by decide +kernel
theorem dL_law_396 : decode cL_law 396 = .ok (.invokevirtual 75, 3) := by decide +kernel
theorem dL_law_399 : decode cL_law 399 = .ok (.if_icmp .eq 5, 3) := by decide +kernel
theorem dL_law_402 : decode cL_law 402 = .ok (.iconst 0, 1) := by decide +kernel
theorem dL_law_403 : decode cL_law 403 = .ok (.ireturn, 1) := by decide +kernel
theorem dL_law_404 : decode cL_law 404 = .ok (.iinc 3 5, 3) := by decide +kernel
theorem dL_law_407 : decode cL_law 407 = .ok (.goto (-379), 3) := by decide +kernel
theorem dL_law_410 : decode cL_law 410 = .ok (.iconst 1, 1) := by decide +kernel
theorem dL_law_411 : decode cL_law 411 = .ok (.ireturn, 1) := by decide +kernel
