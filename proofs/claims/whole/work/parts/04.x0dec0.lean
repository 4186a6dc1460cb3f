theorem dX0_init_0 : decode cX0_init 0 = .ok (.aload_n 0, 1) := by decide +kernel
theorem dX0_init_1 : decode cX0_init 1 = .ok (.invokespecial 3, 3) := by decide +kernel
theorem dX0_init_4 : decode cX0_init 4 = .ok (.aload_n 0, 1) := by decide +kernel
theorem dX0_init_5 : decode cX0_init 5 = .ok (.bipush 8, 2) := by decide +kernel
theorem dX0_init_7 : decode cX0_init 7 = .ok (.newarray .int, 2) := by decide +kernel
theorem dX0_init_9 : decode cX0_init 9 = .ok (.putfield 9, 3) := by decide +kernel
theorem dX0_init_12 : decode cX0_init 12 = .ok (.aload_n 0, 1) := by decide +kernel
theorem dX0_init_13 : decode cX0_init 13 = .ok (.sipush 140, 3) := by decide +kernel
theorem dX0_init_16 : decode cX0_init 16 = .ok (.newarray .int, 2) := by decide +kernel
theorem dX0_init_18 : decode cX0_init 18 = .ok (.putfield 13, 3) := by decide +kernel
theorem dX0_init_21 : decode cX0_init 21 = .ok (.aload_n 0, 1) := by decide +kernel
theorem dX0_init_22 : decode cX0_init 22 = .ok (.iconst 4, 1) := by decide +kernel
theorem dX0_init_23 : decode cX0_init 23 = .ok (.newarray .int, 2) := by decide +kernel
theorem dX0_init_25 : decode cX0_init 25 = .ok (.putfield 16, 3) := by decide +kernel
theorem dX0_init_28 : decode cX0_init 28 = .ok (.aload_n 0, 1) := by decide +kernel
theorem dX0_init_29 : decode cX0_init 29 = .ok (.sipush 256, 3) := by decide +kernel
theorem dX0_init_32 : decode cX0_init 32 = .ok (.newarray .int, 2) := by decide +kernel
theorem dX0_init_34 : decode cX0_init 34 = .ok (.putfield 19, 3) := by decide +kernel
theorem dX0_init_37 : decode cX0_init 37 = .ok (.aload_n 0, 1) := by decide +kernel
theorem dX0_init_38 : decode cX0_init 38 = .ok (.iconst 4, 1) := by decide +kernel
theorem dX0_init_39 : decode cX0_init 39 = .ok (.newarray .int, 2) := by decide +kernel
theorem dX0_init_41 : decode cX0_init 41 = .ok (.putfield 22, 3) := by decide +kernel
theorem dX0_init_44 : decode cX0_init 44 = .ok (.aload_n 0, 1) := by decide +kernel
theorem dX0_init_45 : decode cX0_init 45 = .ok (.iconst 4, 1) := by decide +kernel
theorem dX0_init_46 : decode cX0_init 46 = .ok (.newarray .int, 2) := by decide +kernel
theorem dX0_init_48 : decode cX0_init 48 = .ok (.putfield 25, 3) := by decide +kernel
theorem dX0_init_51 : decode cX0_init 51 = .ok (.aload_n 0, 1) := by decide +kernel
theorem dX0_init_52 : decode cX0_init 52 = .ok (.iconst 0, 1) := by decide +kernel
theorem dX0_init_53 : decode cX0_init 53 = .ok (.putfield 28, 3) := by decide +kernel
theorem dX0_init_56 : decode cX0_init 56 = .ok (.aload_n 0, 1) := by decide +kernel
theorem dX0_init_57 : decode cX0_init 57 = .ok (.iconst 0, 1) := by decide +kernel
theorem dX0_init_58 : decode cX0_init 58 = .ok (.putfield 32, 3) := by decide +kernel
theorem dX0_init_61 : decode cX0_init 61 = .ok (.aload_n 0, 1) := by decide +kernel
theorem dX0_init_62 : decode cX0_init 62 = .ok (.iconst 0, 1) := by decide +kernel
theorem dX0_init_63 : decode cX0_init 63 = .ok (.putfield 36, 3) := by decide +kernel
theorem dX0_init_66 : decode cX0_init 66 = .ok (.return_, 1) := by decide +kernel
theorem dX0_key_0 : decode cX0_key 0 = .ok (.iload_n 1, 1) := by decide +kernel
theorem dX0_key_1 : decode cX0_key 1 = .ok (.ifCond .lt 9, 3) := by decide +kernel
theorem dX0_key_4 : decode cX0_key 4 = .ok (.iload_n 1, 1) := by decide +kernel
theorem dX0_key_5 : decode cX0_key 5 = .ok (.bipush 8, 2) := by decide +kernel
theorem dX0_key_7 : decode cX0_key 7 = .ok (.if_icmp .lt 13, 3) := by decide +kernel
theorem dX0_key_10 : decode cX0_key 10 = .ok (.new 39, 3) := by decide +kernel
theorem dX0_key_13 : decode cX0_key 13 = .ok (.dup, 1) := by decide +kernel
theorem dX0_key_14 : decode cX0_key 14 = .ok (.ldc 41, 2) := by decide +kernel
theorem dX0_key_16 : decode cX0_key 16 = .ok (.invokespecial 43, 3) := by decide +kernel
theorem dX0_key_19 : decode cX0_key 19 = .ok (.athrow, 1) := by decide +kernel
theorem dX0_key_20 : decode cX0_key 20 = .ok (.aload_n 0, 1) := by decide +kernel
theorem dX0_key_21 : decode cX0_key 21 = .ok (.getfield 9, 3) := by decide +kernel
theorem dX0_key_24 : decode cX0_key 24 = .ok (.iload_n 1, 1) := by decide +kernel
theorem dX0_key_25 : decode cX0_key 25 = .ok (.iload_n 2, 1) := by decide +kernel
theorem dX0_key_26 : decode cX0_key 26 = .ok (.iastore, 1) := by decide +kernel
theorem dX0_key_27 : decode cX0_key 27 = .ok (.aload_n 0, 1) := by decide +kernel
theorem dX0_key_28 : decode cX0_key 28 = .ok (.iconst 0, 1) := by decide +kernel
theorem dX0_key_29 : decode cX0_key 29 = .ok (.putfield 32, 3) := by decide +kernel
theorem dX0_key_32 : decode cX0_key 32 = .ok (.return_, 1) := by decide +kernel
theorem dX0_size_0 : decode cX0_size 0 = .ok (.iload_n 1, 1) := by decide +kernel
theorem dX0_size_1 : decode cX0_size 1 = .ok (.ifCond .lt 9, 3) := by decide +kernel
theorem dX0_size_4 : decode cX0_size 4 = .ok (.iload_n 1, 1) := by decide +kernel
theorem dX0_size_5 : decode cX0_size 5 = .ok (.bipush 32, 2) := by decide +kernel
theorem dX0_size_7 : decode cX0_size 7 = .ok (.if_icmp .le 13, 3) := by decide +kernel
theorem dX0_size_10 : decode cX0_size 10 = .ok (.new 46, 3) := by decide +kernel
theorem dX0_size_13 : decode cX0_size 13 = .ok (.dup, 1) := by decide +kernel
theorem dX0_size_14 : decode cX0_size 14 = .ok (.ldc 48, 2) := by decide +kernel
theorem dX0_size_16 : decode cX0_size 16 = .ok (.invokespecial 50, 3) := by decide +kernel
theorem dX0_size_19 : decode cX0_size 19 = .ok (.athrow, 1) := by decide +kernel
theorem dX0_size_20 : decode cX0_size 20 = .ok (.aload_n 0, 1) := by decide +kernel
theorem dX0_size_21 : decode cX0_size 21 = .ok (.iload_n 1, 1) := by decide +kernel
theorem dX0_size_22 : decode cX0_size 22 = .ok (.putfield 28, 3) := by decide +kernel
theorem dX0_size_25 : decode cX0_size 25 = .ok (.aload_n 0, 1) := by decide +kernel
theorem dX0_size_26 : decode cX0_size 26 = .ok (.iconst 0, 1) := by decide +kernel
theorem dX0_size_27 : decode cX0_size 27 = .ok (.putfield 32, 3) := by decide +kernel
theorem dX0_size_30 : decode cX0_size 30 = .ok (.return_, 1) := by decide +kernel
theorem dX0_ready_0 : decode cX0_ready 0 = .ok (.iconst 0, 1) := by decide +kernel
theorem dX0_ready_1 : decode cX0_ready 1 = .ok (.istore_n 1, 1) := by decide +kernel
theorem dX0_ready_2 : decode cX0_ready 2 = .ok (.iload_n 1, 1) := by decide +kernel
theorem dX0_ready_3 : decode cX0_ready 3 = .ok (.bipush 8, 2) := by decide +kernel
theorem dX0_ready_5 : decode cX0_ready 5 = .ok (.if_icmp .ge 20, 3) := by decide +kernel
theorem dX0_ready_8 : decode cX0_ready 8 = .ok (.aload_n 0, 1) := by decide +kernel
theorem dX0_ready_9 : decode cX0_ready 9 = .ok (.getfield 13, 3) := by decide +kernel
theorem dX0_ready_12 : decode cX0_ready 12 = .ok (.iload_n 1, 1) := by decide +kernel
theorem dX0_ready_13 : decode cX0_ready 13 = .ok (.aload_n 0, 1) := by decide +kernel
theorem dX0_ready_14 : decode cX0_ready 14 = .ok (.iload_n 1, 1) := by decide +kernel
theorem dX0_ready_15 : decode cX0_ready 15 = .ok (.invokevirtual 51, 3) := by decide +kernel
theorem dX0_ready_18 : decode cX0_ready 18 = .ok (.iastore, 1) := by decide +kernel
theorem dX0_ready_19 : decode cX0_ready 19 = .ok (.iinc 1 1, 3) := by decide +kernel
theorem dX0_ready_22 : decode cX0_ready 22 = .ok (.goto (-20), 3) := by decide +kernel
theorem dX0_ready_25 : decode cX0_ready 25 = .ok (.aload_n 0, 1) := by decide +kernel
theorem dX0_ready_26 : decode cX0_ready 26 = .ok (.invokevirtual 55, 3) := by decide +kernel
theorem dX0_ready_29 : decode cX0_ready 29 = .ok (.iconst 0, 1) := by decide +kernel
theorem dX0_ready_30 : decode cX0_ready 30 = .ok (.istore_n 1, 1) := by decide +kernel
theorem dX0_ready_31 : decode cX0_ready 31 = .ok (.iload_n 1, 1) := by decide +kernel
theorem dX0_ready_32 : decode cX0_ready 32 = .ok (.bipush 32, 2) := by decide +kernel
theorem dX0_ready_34 : decode cX0_ready 34 = .ok (.if_icmp .gt 29, 3) := by decide +kernel
theorem dX0_ready_37 : decode cX0_ready 37 = .ok (.aload_n 0, 1) := by decide +kernel
theorem dX0_ready_38 : decode cX0_ready 38 = .ok (.getfield 13, 3) := by decide +kernel
theorem dX0_ready_41 : decode cX0_ready 41 = .ok (.iload_n 1, 1) := by decide +kernel
theorem dX0_ready_42 : decode cX0_ready 42 = .ok (.invokestatic 58, 3) := by decide +kernel
theorem dX0_ready_45 : decode cX0_ready 45 = .ok (.iconst 3, 1) := by decide +kernel
theorem dX0_ready_46 : decode cX0_ready 46 = .ok (.iload_n 1, 1) := by decide +kernel
theorem dX0_ready_47 : decode cX0_ready 47 = .ok (.isub, 1) := by decide +kernel
theorem dX0_ready_48 : decode cX0_ready 48 = .ok (.bipush 8, 2) := by decide +kernel
theorem dX0_ready_50 : decode cX0_ready 50 = .ok (.invokestatic 61, 3) := by decide +kernel
theorem dX0_ready_53 : decode cX0_ready 53 = .ok (.iconst 0, 1) := by decide +kernel
theorem dX0_ready_54 : decode cX0_ready 54 = .ok (.invokestatic 67, 3) := by decide +kernel
theorem dX0_ready_57 : decode cX0_ready 57 = .ok (.iinc 1 1, 3) := by decide +kernel
theorem dX0_ready_60 : decode cX0_ready 60 = .ok (.goto (-29), 3) := by decide +kernel
theorem dX0_ready_63 : decode cX0_ready 63 = .ok (.aload_n 0, 1) := by decide +kernel
theorem dX0_ready_64 : decode cX0_ready 64 = .ok (.iconst 1, 1) := by decide +kernel
theorem dX0_ready_65 : decode cX0_ready 65 = .ok (.putfield 32, 3) := by decide +kernel
theorem dX0_ready_68 : decode cX0_ready 68 = .ok (.return_, 1) := by decide +kernel
theorem dX0_round_0 : decode cX0_round 0 = .ok (.iload_n 1, 1) := by decide +kernel
theorem dX0_round_1 : decode cX0_round 1 = .ok (.ifCond .lt 18, 3) := by decide +kernel
theorem dX0_round_4 : decode cX0_round 4 = .ok (.iload_n 1, 1) := by decide +kernel
theorem dX0_round_5 : decode cX0_round 5 = .ok (.bipush 32, 2) := by decide +kernel
theorem dX0_round_7 : decode cX0_round 7 = .ok (.if_icmp .gt 12, 3) := by decide +kernel
theorem dX0_round_10 : decode cX0_round 10 = .ok (.iload_n 2, 1) := by decide +kernel
theorem dX0_round_11 : decode cX0_round 11 = .ok (.ifCond .lt 8, 3) := by decide +kernel
theorem dX0_round_14 : decode cX0_round 14 = .ok (.iload_n 2, 1) := by decide +kernel
theorem dX0_round_15 : decode cX0_round 15 = .ok (.iconst 4, 1) := by decide +kernel
theorem dX0_round_16 : decode cX0_round 16 = .ok (.if_icmp .lt 13, 3) := by decide +kernel
theorem dX0_round_19 : decode cX0_round 19 = .ok (.new 39, 3) := by decide +kernel
theorem dX0_round_22 : decode cX0_round 22 = .ok (.dup, 1) := by decide +kernel
theorem dX0_round_23 : decode cX0_round 23 = .ok (.ldc 71, 2) := by decide +kernel
theorem dX0_round_25 : decode cX0_round 25 = .ok (.invokespecial 43, 3) := by decide +kernel
theorem dX0_round_28 : decode cX0_round 28 = .ok (.athrow, 1) := by decide +kernel
theorem dX0_round_29 : decode cX0_round 29 = .ok (.aload_n 0, 1) := by decide +kernel
theorem dX0_round_30 : decode cX0_round 30 = .ok (.invokevirtual 73, 3) := by decide +kernel
theorem dX0_round_33 : decode cX0_round 33 = .ok (.aload_n 0, 1) := by decide +kernel
theorem dX0_round_34 : decode cX0_round 34 = .ok (.getfield 13, 3) := by decide +kernel
theorem dX0_round_37 : decode cX0_round 37 = .ok (.iload_n 1, 1) := by decide +kernel
theorem dX0_round_38 : decode cX0_round 38 = .ok (.invokestatic 58, 3) := by decide +kernel
theorem dX0_round_41 : decode cX0_round 41 = .ok (.iload_n 2, 1) := by decide +kernel
theorem dX0_round_42 : decode cX0_round 42 = .ok (.iadd, 1) := by decide +kernel
theorem dX0_round_43 : decode cX0_round 43 = .ok (.iaload, 1) := by decide +kernel
theorem dX0_round_44 : decode cX0_round 44 = .ok (.ireturn, 1) := by decide +kernel
theorem dX0_box_0 : decode cX0_box 0 = .ok (.iload_n 1, 1) := by decide +kernel
theorem dX0_box_1 : decode cX0_box 1 = .ok (.ifCond .lt 9, 3) := by decide +kernel
theorem dX0_box_4 : decode cX0_box 4 = .ok (.iload_n 1, 1) := by decide +kernel
theorem dX0_box_5 : decode cX0_box 5 = .ok (.bipush 8, 2) := by decide +kernel
theorem dX0_box_7 : decode cX0_box 7 = .ok (.if_icmp .lt 13, 3) := by decide +kernel
theorem dX0_box_10 : decode cX0_box 10 = .ok (.new 39, 3) := by decide +kernel
theorem dX0_box_13 : decode cX0_box 13 = .ok (.dup, 1) := by decide +kernel
theorem dX0_box_14 : decode cX0_box 14 = .ok (.ldc 76, 2) := by decide +kernel
theorem dX0_box_16 : decode cX0_box 16 = .ok (.invokespecial 43, 3) := by decide +kernel
theorem dX0_box_19 : decode cX0_box 19 = .ok (.athrow, 1) := by decide +kernel
theorem dX0_box_20 : decode cX0_box 20 = .ok (.iload_n 2, 1) := by decide +kernel
theorem dX0_box_21 : decode cX0_box 21 = .ok (.ifCond .lt 9, 3) := by decide +kernel
theorem dX0_box_24 : decode cX0_box 24 = .ok (.iload_n 2, 1) := by decide +kernel
theorem dX0_box_25 : decode cX0_box 25 = .ok (.bipush 16, 2) := by decide +kernel
theorem dX0_box_27 : decode cX0_box 27 = .ok (.if_icmp .lt 13, 3) := by decide +kernel
theorem dX0_box_30 : decode cX0_box 30 = .ok (.new 46, 3) := by decide +kernel
theorem dX0_box_33 : decode cX0_box 33 = .ok (.dup, 1) := by decide +kernel
theorem dX0_box_34 : decode cX0_box 34 = .ok (.ldc 78, 2) := by decide +kernel
theorem dX0_box_36 : decode cX0_box 36 = .ok (.invokespecial 50, 3) := by decide +kernel
theorem dX0_box_39 : decode cX0_box 39 = .ok (.athrow, 1) := by decide +kernel
theorem dX0_box_40 : decode cX0_box 40 = .ok (.iload_n 3, 1) := by decide +kernel
theorem dX0_box_41 : decode cX0_box 41 = .ok (.ifCond .eq 11, 3) := by decide +kernel
theorem dX0_box_44 : decode cX0_box 44 = .ok (.iload_n 1, 1) := by decide +kernel
theorem dX0_box_45 : decode cX0_box 45 = .ok (.iload_n 2, 1) := by decide +kernel
theorem dX0_box_46 : decode cX0_box 46 = .ok (.invokestatic 80, 3) := by decide +kernel
theorem dX0_box_49 : decode cX0_box 49 = .ok (.goto 13, 3) := by decide +kernel
theorem dX0_box_52 : decode cX0_box 52 = .ok (.getstatic 83, 3) := by decide +kernel
theorem dX0_box_55 : decode cX0_box 55 = .ok (.iload_n 1, 1) := by decide +kernel
theorem dX0_box_56 : decode cX0_box 56 = .ok (.bipush 16, 2) := by decide +kernel
theorem dX0_box_58 : decode cX0_box 58 = .ok (.imul, 1) := by decide +kernel
theorem dX0_box_59 : decode cX0_box 59 = .ok (.iload_n 2, 1) := by decide +kernel
theorem dX0_box_60 : decode cX0_box 60 = .ok (.iadd, 1) := by decide +kernel
theorem dX0_box_61 : decode cX0_box 61 = .ok (.iaload, 1) := by decide +kernel
theorem dX0_box_62 : decode cX0_box 62 = .ok (.ireturn, 1) := by decide +kernel
theorem dX0_start_0 : decode cX0_start 0 = .ok (.iload_n 1, 1) := by decide +kernel
theorem dX0_start_1 : decode cX0_start 1 = .ok (.ifCond .lt 8, 3) := by decide +kernel
theorem dX0_start_4 : decode cX0_start 4 = .ok (.iload_n 1, 1) := by decide +kernel
theorem dX0_start_5 : decode cX0_start 5 = .ok (.iconst 4, 1) := by decide +kernel
theorem dX0_start_6 : decode cX0_start 6 = .ok (.if_icmp .lt 13, 3) := by decide +kernel
theorem dX0_start_9 : decode cX0_start 9 = .ok (.new 39, 3) := by decide +kernel
theorem dX0_start_12 : decode cX0_start 12 = .ok (.dup, 1) := by decide +kernel
theorem dX0_start_13 : decode cX0_start 13 = .ok (.ldc 86, 2) := by decide +kernel
theorem dX0_start_15 : decode cX0_start 15 = .ok (.invokespecial 43, 3) := by decide +kernel
theorem dX0_start_18 : decode cX0_start 18 = .ok (.athrow, 1) := by decide +kernel
theorem dX0_start_19 : decode cX0_start 19 = .ok (.aload_n 0, 1) := by decide +kernel
theorem dX0_start_20 : decode cX0_start 20 = .ok (.getfield 16, 3) := by decide +kernel
theorem dX0_start_23 : decode cX0_start 23 = .ok (.iload_n 1, 1) := by decide +kernel
theorem dX0_start_24 : decode cX0_start 24 = .ok (.iload_n 2, 1) := by decide +kernel
theorem dX0_start_25 : decode cX0_start 25 = .ok (.iastore, 1) := by decide +kernel
theorem dX0_start_26 : decode cX0_start 26 = .ok (.return_, 1) := by decide +kernel
theorem dX0_put_0 : decode cX0_put 0 = .ok (.aload_n 0, 1) := by decide +kernel
theorem dX0_put_1 : decode cX0_put 1 = .ok (.getfield 36, 3) := by decide +kernel
theorem dX0_put_4 : decode cX0_put 4 = .ok (.iconst 4, 1) := by decide +kernel
theorem dX0_put_5 : decode cX0_put 5 = .ok (.iadd, 1) := by decide +kernel
theorem dX0_put_6 : decode cX0_put 6 = .ok (.sipush 256, 3) := by decide +kernel
theorem dX0_put_9 : decode cX0_put 9 = .ok (.if_icmp .le 13, 3) := by decide +kernel
theorem dX0_put_12 : decode cX0_put 12 = .ok (.new 88, 3) := by decide +kernel
theorem dX0_put_15 : decode cX0_put 15 = .ok (.dup, 1) := by decide +kernel
theorem dX0_put_16 : decode cX0_put 16 = .ok (.ldc 90, 2) := by decide +kernel
theorem dX0_put_18 : decode cX0_put 18 = .ok (.invokespecial 92, 3) := by decide +kernel
theorem dX0_put_21 : decode cX0_put 21 = .ok (.athrow, 1) := by decide +kernel
theorem dX0_put_22 : decode cX0_put 22 = .ok (.aload_n 0, 1) := by decide +kernel
theorem dX0_put_23 : decode cX0_put 23 = .ok (.getfield 19, 3) := by decide +kernel
theorem dX0_put_26 : decode cX0_put 26 = .ok (.aload_n 0, 1) := by decide +kernel
theorem dX0_put_27 : decode cX0_put 27 = .ok (.getfield 36, 3) := by decide +kernel
theorem dX0_put_30 : decode cX0_put 30 = .ok (.iload_n 1, 1) := by decide +kernel
theorem dX0_put_31 : decode cX0_put 31 = .ok (.iastore, 1) := by decide +kernel
theorem dX0_put_32 : decode cX0_put 32 = .ok (.aload_n 0, 1) := by decide +kernel
theorem dX0_put_33 : decode cX0_put 33 = .ok (.getfield 19, 3) := by decide +kernel
theorem dX0_put_36 : decode cX0_put 36 = .ok (.aload_n 0, 1) := by decide +kernel
theorem dX0_put_37 : decode cX0_put 37 = .ok (.getfield 36, 3) := by decide +kernel
theorem dX0_put_40 : decode cX0_put 40 = .ok (.iconst 1, 1) := by decide +kernel
theorem dX0_put_41 : decode cX0_put 41 = .ok (.iadd, 1) := by decide +kernel
theorem dX0_put_42 : decode cX0_put 42 = .ok (.iload_n 2, 1) := by decide +kernel
theorem dX0_put_43 : decode cX0_put 43 = .ok (.iastore, 1) := by decide +kernel
theorem dX0_put_44 : decode cX0_put 44 = .ok (.aload_n 0, 1) := by decide +kernel
theorem dX0_put_45 : decode cX0_put 45 = .ok (.getfield 19, 3) := by decide +kernel
theorem dX0_put_48 : decode cX0_put 48 = .ok (.aload_n 0, 1) := by decide +kernel
theorem dX0_put_49 : decode cX0_put 49 = .ok (.getfield 36, 3) := by decide +kernel
theorem dX0_put_52 : decode cX0_put 52 = .ok (.iconst 2, 1) := by decide +kernel
theorem dX0_put_53 : decode cX0_put 53 = .ok (.iadd, 1) := by decide +kernel
theorem dX0_put_54 : decode cX0_put 54 = .ok (.iload_n 3, 1) := by decide +kernel
theorem dX0_put_55 : decode cX0_put 55 = .ok (.iastore, 1) := by decide +kernel
theorem dX0_put_56 : decode cX0_put 56 = .ok (.aload_n 0, 1) := by decide +kernel
theorem dX0_put_57 : decode cX0_put 57 = .ok (.getfield 19, 3) := by decide +kernel
theorem dX0_put_60 : decode cX0_put 60 = .ok (.aload_n 0, 1) := by decide +kernel
theorem dX0_put_61 : decode cX0_put 61 = .ok (.getfield 36, 3) := by decide +kernel
theorem dX0_put_64 : decode cX0_put 64 = .ok (.iconst 3, 1) := by decide +kernel
theorem dX0_put_65 : decode cX0_put 65 = .ok (.iadd, 1) := by decide +kernel
theorem dX0_put_66 : decode cX0_put 66 = .ok (.iload 4, 2) := by decide +kernel
theorem dX0_put_68 : decode cX0_put 68 = .ok (.iastore, 1) := by decide +kernel
theorem dX0_put_69 : decode cX0_put 69 = .ok (.aload_n 0, 1) := by decide +kernel
theorem dX0_put_70 : decode cX0_put 70 = .ok (.dup, 1) := by decide +kernel
theorem dX0_put_71 : decode cX0_put 71 = .ok (.getfield 36, 3) := by decide +kernel
theorem dX0_put_74 : decode cX0_put 74 = .ok (.iconst 4, 1) := by decide +kernel
theorem dX0_put_75 : decode cX0_put 75 = .ok (.iadd, 1) := by decide +kernel
theorem dX0_put_76 : decode cX0_put 76 = .ok (.putfield 36, 3) := by decide +kernel
theorem dX0_put_79 : decode cX0_put 79 = .ok (.aload_n 0, 1) := by decide +kernel
theorem dX0_put_80 : decode cX0_put 80 = .ok (.getfield 36, 3) := by decide +kernel
theorem dX0_put_83 : decode cX0_put 83 = .ok (.ireturn, 1) := by decide +kernel
theorem dX0_cut_0 : decode cX0_cut 0 = .ok (.iload_n 1, 1) := by decide +kernel
theorem dX0_cut_1 : decode cX0_cut 1 = .ok (.ifCond .lt 11, 3) := by decide +kernel
theorem dX0_cut_4 : decode cX0_cut 4 = .ok (.iload_n 1, 1) := by decide +kernel
theorem dX0_cut_5 : decode cX0_cut 5 = .ok (.aload_n 0, 1) := by decide +kernel
theorem dX0_cut_6 : decode cX0_cut 6 = .ok (.getfield 36, 3) := by decide +kernel
theorem dX0_cut_9 : decode cX0_cut 9 = .ok (.if_icmp .le 13, 3) := by decide +kernel
theorem dX0_cut_12 : decode cX0_cut 12 = .ok (.new 46, 3) := by decide +kernel
theorem dX0_cut_15 : decode cX0_cut 15 = .ok (.dup, 1) := by decide +kernel
theorem dX0_cut_16 : decode cX0_cut 16 = .ok (.ldc 93, 2) := by decide +kernel
theorem dX0_cut_18 : decode cX0_cut 18 = .ok (.invokespecial 50, 3) := by decide +kernel
theorem dX0_cut_21 : decode cX0_cut 21 = .ok (.athrow, 1) := by decide +kernel
theorem dX0_cut_22 : decode cX0_cut 22 = .ok (.aload_n 0, 1) := by decide +kernel
theorem dX0_cut_23 : decode cX0_cut 23 = .ok (.iload_n 1, 1) := by decide +kernel
theorem dX0_cut_24 : decode cX0_cut 24 = .ok (.putfield 36, 3) := by decide +kernel
theorem dX0_cut_27 : decode cX0_cut 27 = .ok (.iload_n 1, 1) := by decide +kernel
theorem dX0_cut_28 : decode cX0_cut 28 = .ok (.ireturn, 1) := by decide +kernel
theorem dX0_word_0 : decode cX0_word 0 = .ok (.iload_n 1, 1) := by decide +kernel
theorem dX0_word_1 : decode cX0_word 1 = .ok (.ifCond .lt 11, 3) := by decide +kernel
theorem dX0_word_4 : decode cX0_word 4 = .ok (.iload_n 1, 1) := by decide +kernel
theorem dX0_word_5 : decode cX0_word 5 = .ok (.aload_n 0, 1) := by decide +kernel
theorem dX0_word_6 : decode cX0_word 6 = .ok (.getfield 36, 3) := by decide +kernel
theorem dX0_word_9 : decode cX0_word 9 = .ok (.if_icmp .lt 13, 3) := by decide +kernel
theorem dX0_word_12 : decode cX0_word 12 = .ok (.new 39, 3) := by decide +kernel
theorem dX0_word_15 : decode cX0_word 15 = .ok (.dup, 1) := by decide +kernel
theorem dX0_word_16 : decode cX0_word 16 = .ok (.ldc 95, 2) := by decide +kernel
theorem dX0_word_18 : decode cX0_word 18 = .ok (.invokespecial 43, 3) := by decide +kernel
theorem dX0_word_21 : decode cX0_word 21 = .ok (.athrow, 1) := by decide +kernel
theorem dX0_word_22 : decode cX0_word 22 = .ok (.aload_n 0, 1) := by decide +kernel
theorem dX0_word_23 : decode cX0_word 23 = .ok (.getfield 19, 3) := by decide +kernel
theorem dX0_word_26 : decode cX0_word 26 = .ok (.iload_n 1, 1) := by decide +kernel
theorem dX0_word_27 : decode cX0_word 27 = .ok (.iaload, 1) := by decide +kernel
theorem dX0_word_28 : decode cX0_word 28 = .ok (.ireturn, 1) := by decide +kernel
theorem dX0_run_0 : decode cX0_run 0 = .ok (.iload_n 1, 1) := by decide +kernel
theorem dX0_run_1 : decode cX0_run 1 = .ok (.ifCond .lt 8, 3) := by decide +kernel
theorem dX0_run_4 : decode cX0_run 4 = .ok (.iload_n 1, 1) := by decide +kernel
theorem dX0_run_5 : decode cX0_run 5 = .ok (.iconst 2, 1) := by decide +kernel
theorem dX0_run_6 : decode cX0_run 6 = .ok (.if_icmp .le 13, 3) := by decide +kernel
theorem dX0_run_9 : decode cX0_run 9 = .ok (.new 46, 3) := by decide +kernel
theorem dX0_run_12 : decode cX0_run 12 = .ok (.dup, 1) := by decide +kernel
theorem dX0_run_13 : decode cX0_run 13 = .ok (.ldc 97, 2) := by decide +kernel
theorem dX0_run_15 : decode cX0_run 15 = .ok (.invokespecial 50, 3) := by decide +kernel
theorem dX0_run_18 : decode cX0_run 18 = .ok (.athrow, 1) := by decide +kernel
theorem dX0_run_19 : decode cX0_run 19 = .ok (.aload_n 0, 1) := by decide +kernel
theorem dX0_run_20 : decode cX0_run 20 = .ok (.invokevirtual 73, 3) := by decide +kernel
theorem dX0_run_23 : decode cX0_run 23 = .ok (.aload_n 0, 1) := by decide +kernel
theorem dX0_run_24 : decode cX0_run 24 = .ok (.invokevirtual 99, 3) := by decide +kernel
theorem dX0_run_27 : decode cX0_run 27 = .ok (.iload_n 1, 1) := by decide +kernel
theorem dX0_run_28 : decode cX0_run 28 = .ok (.iconst 2, 1) := by decide +kernel
theorem dX0_run_29 : decode cX0_run 29 = .ok (.if_icmp .ne 10, 3) := by decide +kernel
theorem dX0_run_32 : decode cX0_run 32 = .ok (.aload_n 0, 1) := by decide +kernel
theorem dX0_run_33 : decode cX0_run 33 = .ok (.invokevirtual 102, 3) := by decide +kernel
theorem dX0_run_36 : decode cX0_run 36 = .ok (.goto 31, 3) := by decide +kernel
theorem dX0_run_39 : decode cX0_run 39 = .ok (.iload_n 1, 1) := by decide +kernel
theorem dX0_run_40 : decode cX0_run 40 = .ok (.iconst 1, 1) := by decide +kernel
theorem dX0_run_41 : decode cX0_run 41 = .ok (.if_icmp .ne 21, 3) := by decide +kernel
theorem dX0_run_44 : decode cX0_run 44 = .ok (.iload_n 2, 1) := by decide +kernel
theorem dX0_run_45 : decode cX0_run 45 = .ok (.ifCond .eq 10, 3) := by decide +kernel
theorem dX0_run_48 : decode cX0_run 48 = .ok (.aload_n 0, 1) := by decide +kernel
theorem dX0_run_49 : decode cX0_run 49 = .ok (.invokevirtual 105, 3) := by decide +kernel
theorem dX0_run_52 : decode cX0_run 52 = .ok (.goto 15, 3) := by decide +kernel
theorem dX0_run_55 : decode cX0_run 55 = .ok (.aload_n 0, 1) := by decide +kernel
theorem dX0_run_56 : decode cX0_run 56 = .ok (.invokevirtual 108, 3) := by decide +kernel
theorem dX0_run_59 : decode cX0_run 59 = .ok (.goto 8, 3) := by decide +kernel
theorem dX0_run_62 : decode cX0_run 62 = .ok (.aload_n 0, 1) := by decide +kernel
theorem dX0_run_63 : decode cX0_run 63 = .ok (.iload_n 2, 1) := by decide +kernel
theorem dX0_run_64 : decode cX0_run 64 = .ok (.invokevirtual 111, 3) := by decide +kernel
theorem dX0_run_67 : decode cX0_run 67 = .ok (.aload_n 0, 1) := by decide +kernel
theorem dX0_run_68 : decode cX0_run 68 = .ok (.getfield 36, 3) := by decide +kernel
theorem dX0_run_71 : decode cX0_run 71 = .ok (.iconst 4, 1) := by decide +kernel
theorem dX0_run_72 : decode cX0_run 72 = .ok (.idiv, 1) := by decide +kernel
theorem dX0_run_73 : decode cX0_run 73 = .ok (.ireturn, 1) := by decide +kernel
theorem dX0_seal_0 : decode cX0_seal 0 = .ok (.iload_n 1, 1) := by decide +kernel
theorem dX0_seal_1 : decode cX0_seal 1 = .ok (.ifCond .lt 8, 3) := by decide +kernel
theorem dX0_seal_4 : decode cX0_seal 4 = .ok (.iload_n 1, 1) := by decide +kernel
theorem dX0_seal_5 : decode cX0_seal 5 = .ok (.iconst 4, 1) := by decide +kernel
theorem dX0_seal_6 : decode cX0_seal 6 = .ok (.if_icmp .lt 13, 3) := by decide +kernel
theorem dX0_seal_9 : decode cX0_seal 9 = .ok (.new 39, 3) := by decide +kernel
theorem dX0_seal_12 : decode cX0_seal 12 = .ok (.dup, 1) := by decide +kernel
theorem dX0_seal_13 : decode cX0_seal 13 = .ok (.ldc 115, 2) := by decide +kernel
theorem dX0_seal_15 : decode cX0_seal 15 = .ok (.invokespecial 43, 3) := by decide +kernel
theorem dX0_seal_18 : decode cX0_seal 18 = .ok (.athrow, 1) := by decide +kernel
theorem dX0_seal_19 : decode cX0_seal 19 = .ok (.aload_n 0, 1) := by decide +kernel
theorem dX0_seal_20 : decode cX0_seal 20 = .ok (.invokevirtual 73, 3) := by decide +kernel
theorem dX0_seal_23 : decode cX0_seal 23 = .ok (.aload_n 0, 1) := by decide +kernel
theorem dX0_seal_24 : decode cX0_seal 24 = .ok (.invokevirtual 99, 3) := by decide +kernel
theorem dX0_seal_27 : decode cX0_seal 27 = .ok (.iconst 0, 1) := by decide +kernel
theorem dX0_seal_28 : decode cX0_seal 28 = .ok (.istore_n 2, 1) := by decide +kernel
theorem dX0_seal_29 : decode cX0_seal 29 = .ok (.iload_n 2, 1) := by decide +kernel
theorem dX0_seal_30 : decode cX0_seal 30 = .ok (.iconst 4, 1) := by decide +kernel
theorem dX0_seal_31 : decode cX0_seal 31 = .ok (.if_icmp .ge 16, 3) := by decide +kernel
theorem dX0_seal_34 : decode cX0_seal 34 = .ok (.aload_n 0, 1) := by decide +kernel
theorem dX0_seal_35 : decode cX0_seal 35 = .ok (.getfield 25, 3) := by decide +kernel
theorem dX0_seal_38 : decode cX0_seal 38 = .ok (.iload_n 2, 1) := by decide +kernel
theorem dX0_seal_39 : decode cX0_seal 39 = .ok (.iconst 0, 1) := by decide +kernel
theorem dX0_seal_40 : decode cX0_seal 40 = .ok (.iastore, 1) := by decide +kernel
theorem dX0_seal_41 : decode cX0_seal 41 = .ok (.iinc 2 1, 3) := by decide +kernel
theorem dX0_seal_44 : decode cX0_seal 44 = .ok (.goto (-15), 3) := by decide +kernel
theorem dX0_seal_47 : decode cX0_seal 47 = .ok (.iconst 0, 1) := by decide +kernel
theorem dX0_seal_48 : decode cX0_seal 48 = .ok (.istore_n 2, 1) := by decide +kernel
theorem dX0_seal_49 : decode cX0_seal 49 = .ok (.iload_n 2, 1) := by decide +kernel
theorem dX0_seal_50 : decode cX0_seal 50 = .ok (.aload_n 0, 1) := by decide +kernel
theorem dX0_seal_51 : decode cX0_seal 51 = .ok (.getfield 36, 3) := by decide +kernel
theorem dX0_seal_54 : decode cX0_seal 54 = .ok (.if_icmp .ge 31, 3) := by decide +kernel
theorem dX0_seal_57 : decode cX0_seal 57 = .ok (.aload_n 0, 1) := by decide +kernel
theorem dX0_seal_58 : decode cX0_seal 58 = .ok (.getfield 25, 3) := by decide +kernel
theorem dX0_seal_61 : decode cX0_seal 61 = .ok (.iconst 0, 1) := by decide +kernel
theorem dX0_seal_62 : decode cX0_seal 62 = .ok (.aload_n 0, 1) := by decide +kernel
theorem dX0_seal_63 : decode cX0_seal 63 = .ok (.getfield 19, 3) := by decide +kernel
theorem dX0_seal_66 : decode cX0_seal 66 = .ok (.iload_n 2, 1) := by decide +kernel
theorem dX0_seal_67 : decode cX0_seal 67 = .ok (.invokestatic 117, 3) := by decide +kernel
theorem dX0_seal_70 : decode cX0_seal 70 = .ok (.aload_n 0, 1) := by decide +kernel
theorem dX0_seal_71 : decode cX0_seal 71 = .ok (.aload_n 0, 1) := by decide +kernel
theorem dX0_seal_72 : decode cX0_seal 72 = .ok (.getfield 25, 3) := by decide +kernel
theorem dX0_seal_75 : decode cX0_seal 75 = .ok (.iconst 0, 1) := by decide +kernel
theorem dX0_seal_76 : decode cX0_seal 76 = .ok (.invokevirtual 121, 3) := by decide +kernel
theorem dX0_seal_79 : decode cX0_seal 79 = .ok (.iinc 2 4, 3) := by decide +kernel
theorem dX0_seal_82 : decode cX0_seal 82 = .ok (.goto (-33), 3) := by decide +kernel
theorem dX0_seal_85 : decode cX0_seal 85 = .ok (.aload_n 0, 1) := by decide +kernel
theorem dX0_seal_86 : decode cX0_seal 86 = .ok (.getfield 25, 3) := by decide +kernel
theorem dX0_seal_89 : decode cX0_seal 89 = .ok (.iload_n 1, 1) := by decide +kernel
theorem dX0_seal_90 : decode cX0_seal 90 = .ok (.iaload, 1) := by decide +kernel
theorem dX0_seal_91 : decode cX0_seal 91 = .ok (.ireturn, 1) := by decide +kernel
theorem dX0_needReadyKey_0 : decode cX0_needReadyKey 0 = .ok (.aload_n 0, 1) := by decide +kernel
theorem dX0_needReadyKey_1 : decode cX0_needReadyKey 1 = .ok (.getfield 32, 3) := by decide +kernel
theorem dX0_needReadyKey_4 : decode cX0_needReadyKey 4 = .ok (.ifCond .ne 13, 3) := by decide +kernel
theorem dX0_needReadyKey_7 : decode cX0_needReadyKey 7 = .ok (.new 88, 3) := by decide +kernel
theorem dX0_needReadyKey_10 : decode cX0_needReadyKey 10 = .ok (.dup, 1) := by decide +kernel
theorem dX0_needReadyKey_11 : decode cX0_needReadyKey 11 = .ok (.ldc 125, 2) := by decide +kernel
theorem dX0_needReadyKey_13 : decode cX0_needReadyKey 13 = .ok (.invokespecial 92, 3) := by decide +kernel
theorem dX0_needReadyKey_16 : decode cX0_needReadyKey 16 = .ok (.athrow, 1) := by decide +kernel
theorem dX0_needReadyKey_17 : decode cX0_needReadyKey 17 = .ok (.return_, 1) := by decide +kernel
theorem dX0_needWholeBlocks_0 : decode cX0_needWholeBlocks 0 = .ok (.aload_n 0, 1) := by decide +kernel
theorem dX0_needWholeBlocks_1 : decode cX0_needWholeBlocks 1 = .ok (.getfield 36, 3) := by decide +kernel
theorem dX0_needWholeBlocks_4 : decode cX0_needWholeBlocks 4 = .ok (.iconst 4, 1) := by decide +kernel
theorem dX0_needWholeBlocks_5 : decode cX0_needWholeBlocks 5 = .ok (.irem, 1) := by decide +kernel
theorem dX0_needWholeBlocks_6 : decode cX0_needWholeBlocks 6 = .ok (.ifCond .eq 13, 3) := by decide +kernel
theorem dX0_needWholeBlocks_9 : decode cX0_needWholeBlocks 9 = .ok (.new 88, 3) := by decide +kernel
theorem dX0_needWholeBlocks_12 : decode cX0_needWholeBlocks 12 = .ok (.dup, 1) := by decide +kernel
theorem dX0_needWholeBlocks_13 : decode cX0_needWholeBlocks 13 = .ok (.ldc 127, 2) := by decide +kernel
theorem dX0_needWholeBlocks_15 : decode cX0_needWholeBlocks 15 = .ok (.invokespecial 92, 3) := by decide +kernel
theorem dX0_needWholeBlocks_18 : decode cX0_needWholeBlocks 18 = .ok (.athrow, 1) := by decide +kernel
theorem dX0_needWholeBlocks_19 : decode cX0_needWholeBlocks 19 = .ok (.return_, 1) := by decide +kernel
theorem dX0_paddedKeyWord_0 : decode cX0_paddedKeyWord 0 = .ok (.iconst 0, 1) := by decide +kernel
theorem dX0_paddedKeyWord_1 : decode cX0_paddedKeyWord 1 = .ok (.istore_n 2, 1) := by decide +kernel
theorem dX0_paddedKeyWord_2 : decode cX0_paddedKeyWord 2 = .ok (.iconst 0, 1) := by decide +kernel
theorem dX0_paddedKeyWord_3 : decode cX0_paddedKeyWord 3 = .ok (.istore_n 3, 1) := by decide +kernel
theorem dX0_paddedKeyWord_4 : decode cX0_paddedKeyWord 4 = .ok (.iload_n 3, 1) := by decide +kernel
theorem dX0_paddedKeyWord_5 : decode cX0_paddedKeyWord 5 = .ok (.iconst 4, 1) := by decide +kernel
theorem dX0_paddedKeyWord_6 : decode cX0_paddedKeyWord 6 = .ok (.if_icmp .ge 26, 3) := by decide +kernel
theorem dX0_paddedKeyWord_9 : decode cX0_paddedKeyWord 9 = .ok (.iload_n 2, 1) := by decide +kernel
theorem dX0_paddedKeyWord_10 : decode cX0_paddedKeyWord 10 = .ok (.aload_n 0, 1) := by decide +kernel
theorem dX0_paddedKeyWord_11 : decode cX0_paddedKeyWord 11 = .ok (.iconst 4, 1) := by decide +kernel
theorem dX0_paddedKeyWord_12 : decode cX0_paddedKeyWord 12 = .ok (.iload_n 1, 1) := by decide +kernel
theorem dX0_paddedKeyWord_13 : decode cX0_paddedKeyWord 13 = .ok (.imul, 1) := by decide +kernel
theorem dX0_paddedKeyWord_14 : decode cX0_paddedKeyWord 14 = .ok (.iload_n 3, 1) := by decide +kernel
theorem dX0_paddedKeyWord_15 : decode cX0_paddedKeyWord 15 = .ok (.iadd, 1) := by decide +kernel
theorem dX0_paddedKeyWord_16 : decode cX0_paddedKeyWord 16 = .ok (.invokevirtual 129, 3) := by decide +kernel
theorem dX0_paddedKeyWord_19 : decode cX0_paddedKeyWord 19 = .ok (.bipush 8, 2) := by decide +kernel
theorem dX0_paddedKeyWord_21 : decode cX0_paddedKeyWord 21 = .ok (.iload_n 3, 1) := by decide +kernel
theorem dX0_paddedKeyWord_22 : decode cX0_paddedKeyWord 22 = .ok (.imul, 1) := by decide +kernel
theorem dX0_paddedKeyWord_23 : decode cX0_paddedKeyWord 23 = .ok (.ishl, 1) := by decide +kernel
theorem dX0_paddedKeyWord_24 : decode cX0_paddedKeyWord 24 = .ok (.ior, 1) := by decide +kernel
theorem dX0_paddedKeyWord_25 : decode cX0_paddedKeyWord 25 = .ok (.istore_n 2, 1) := by decide +kernel
theorem dX0_paddedKeyWord_26 : decode cX0_paddedKeyWord 26 = .ok (.iinc 3 1, 3) := by decide +kernel
theorem dX0_paddedKeyWord_29 : decode cX0_paddedKeyWord 29 = .ok (.goto (-25), 3) := by decide +kernel
theorem dX0_paddedKeyWord_32 : decode cX0_paddedKeyWord 32 = .ok (.iload_n 2, 1) := by decide +kernel
theorem dX0_paddedKeyWord_33 : decode cX0_paddedKeyWord 33 = .ok (.ireturn, 1) := by decide +kernel
theorem dX0_paddedKeyByte_0 : decode cX0_paddedKeyByte 0 = .ok (.iload_n 1, 1) := by decide +kernel
theorem dX0_paddedKeyByte_1 : decode cX0_paddedKeyByte 1 = .ok (.aload_n 0, 1) := by decide +kernel
theorem dX0_paddedKeyByte_2 : decode cX0_paddedKeyByte 2 = .ok (.getfield 28, 3) := by decide +kernel
theorem dX0_paddedKeyByte_5 : decode cX0_paddedKeyByte 5 = .ok (.if_icmp .ge 23, 3) := by decide +kernel
theorem dX0_paddedKeyByte_8 : decode cX0_paddedKeyByte 8 = .ok (.aload_n 0, 1) := by decide +kernel
theorem dX0_paddedKeyByte_9 : decode cX0_paddedKeyByte 9 = .ok (.getfield 9, 3) := by decide +kernel
theorem dX0_paddedKeyByte_12 : decode cX0_paddedKeyByte 12 = .ok (.iload_n 1, 1) := by decide +kernel
theorem dX0_paddedKeyByte_13 : decode cX0_paddedKeyByte 13 = .ok (.iconst 4, 1) := by decide +kernel
theorem dX0_paddedKeyByte_14 : decode cX0_paddedKeyByte 14 = .ok (.idiv, 1) := by decide +kernel
theorem dX0_paddedKeyByte_15 : decode cX0_paddedKeyByte 15 = .ok (.iaload, 1) := by decide +kernel
theorem dX0_paddedKeyByte_16 : decode cX0_paddedKeyByte 16 = .ok (.bipush 8, 2) := by decide +kernel
theorem dX0_paddedKeyByte_18 : decode cX0_paddedKeyByte 18 = .ok (.iload_n 1, 1) := by decide +kernel
theorem dX0_paddedKeyByte_19 : decode cX0_paddedKeyByte 19 = .ok (.iconst 4, 1) := by decide +kernel
theorem dX0_paddedKeyByte_20 : decode cX0_paddedKeyByte 20 = .ok (.irem, 1) := by decide +kernel
theorem dX0_paddedKeyByte_21 : decode cX0_paddedKeyByte 21 = .ok (.imul, 1) := by decide +kernel
theorem dX0_paddedKeyByte_22 : decode cX0_paddedKeyByte 22 = .ok (.iushr, 1) := by decide +kernel
theorem dX0_paddedKeyByte_23 : decode cX0_paddedKeyByte 23 = .ok (.sipush 255, 3) := by decide +kernel
theorem dX0_paddedKeyByte_26 : decode cX0_paddedKeyByte 26 = .ok (.iand, 1) := by decide +kernel
theorem dX0_paddedKeyByte_27 : decode cX0_paddedKeyByte 27 = .ok (.ireturn, 1) := by decide +kernel
theorem dX0_paddedKeyByte_28 : decode cX0_paddedKeyByte 28 = .ok (.iload_n 1, 1) := by decide +kernel
theorem dX0_paddedKeyByte_29 : decode cX0_paddedKeyByte 29 = .ok (.aload_n 0, 1) := by decide +kernel
theorem dX0_paddedKeyByte_30 : decode cX0_paddedKeyByte 30 = .ok (.getfield 28, 3) := by decide +kernel
theorem dX0_paddedKeyByte_33 : decode cX0_paddedKeyByte 33 = .ok (.if_icmp .ne 7, 3) := by decide +kernel
theorem dX0_paddedKeyByte_36 : decode cX0_paddedKeyByte 36 = .ok (.iconst 1, 1) := by decide +kernel
theorem dX0_paddedKeyByte_37 : decode cX0_paddedKeyByte 37 = .ok (.goto 4, 3) := by decide +kernel
theorem dX0_paddedKeyByte_40 : decode cX0_paddedKeyByte 40 = .ok (.iconst 0, 1) := by decide +kernel
theorem dX0_paddedKeyByte_41 : decode cX0_paddedKeyByte 41 = .ok (.ireturn, 1) := by decide +kernel
theorem dX0_spreadKey_0 : decode cX0_spreadKey 0 = .ok (.iconst 0, 1) := by decide +kernel
theorem dX0_spreadKey_1 : decode cX0_spreadKey 1 = .ok (.istore_n 1, 1) := by decide +kernel
theorem dX0_spreadKey_2 : decode cX0_spreadKey 2 = .ok (.iload_n 1, 1) := by decide +kernel
theorem dX0_spreadKey_3 : decode cX0_spreadKey 3 = .ok (.sipush 132, 3) := by decide +kernel
theorem dX0_spreadKey_6 : decode cX0_spreadKey 6 = .ok (.if_icmp .ge 68, 3) := by decide +kernel
theorem dX0_spreadKey_9 : decode cX0_spreadKey 9 = .ok (.iload_n 1, 1) := by decide +kernel
theorem dX0_spreadKey_10 : decode cX0_spreadKey 10 = .ok (.bipush 8, 2) := by decide +kernel
theorem dX0_spreadKey_12 : decode cX0_spreadKey 12 = .ok (.iadd, 1) := by decide +kernel
theorem dX0_spreadKey_13 : decode cX0_spreadKey 13 = .ok (.istore_n 2, 1) := by decide +kernel
theorem dX0_spreadKey_14 : decode cX0_spreadKey 14 = .ok (.aload_n 0, 1) := by decide +kernel
theorem dX0_spreadKey_15 : decode cX0_spreadKey 15 = .ok (.getfield 13, 3) := by decide +kernel
theorem dX0_spreadKey_18 : decode cX0_spreadKey 18 = .ok (.iload_n 2, 1) := by decide +kernel
theorem dX0_spreadKey_19 : decode cX0_spreadKey 19 = .ok (.bipush 8, 2) := by decide +kernel
theorem dX0_spreadKey_21 : decode cX0_spreadKey 21 = .ok (.isub, 1) := by decide +kernel
theorem dX0_spreadKey_22 : decode cX0_spreadKey 22 = .ok (.iaload, 1) := by decide +kernel
theorem dX0_spreadKey_23 : decode cX0_spreadKey 23 = .ok (.aload_n 0, 1) := by decide +kernel
theorem dX0_spreadKey_24 : decode cX0_spreadKey 24 = .ok (.getfield 13, 3) := by decide +kernel
theorem dX0_spreadKey_27 : decode cX0_spreadKey 27 = .ok (.iload_n 2, 1) := by decide +kernel
theorem dX0_spreadKey_28 : decode cX0_spreadKey 28 = .ok (.iconst 5, 1) := by decide +kernel
theorem dX0_spreadKey_29 : decode cX0_spreadKey 29 = .ok (.isub, 1) := by decide +kernel
theorem dX0_spreadKey_30 : decode cX0_spreadKey 30 = .ok (.iaload, 1) := by decide +kernel
theorem dX0_spreadKey_31 : decode cX0_spreadKey 31 = .ok (.ixor, 1) := by decide +kernel
theorem dX0_spreadKey_32 : decode cX0_spreadKey 32 = .ok (.aload_n 0, 1) := by decide +kernel
theorem dX0_spreadKey_33 : decode cX0_spreadKey 33 = .ok (.getfield 13, 3) := by decide +kernel
theorem dX0_spreadKey_36 : decode cX0_spreadKey 36 = .ok (.iload_n 2, 1) := by decide +kernel
theorem dX0_spreadKey_37 : decode cX0_spreadKey 37 = .ok (.iconst 3, 1) := by decide +kernel
theorem dX0_spreadKey_38 : decode cX0_spreadKey 38 = .ok (.isub, 1) := by decide +kernel
theorem dX0_spreadKey_39 : decode cX0_spreadKey 39 = .ok (.iaload, 1) := by decide +kernel
theorem dX0_spreadKey_40 : decode cX0_spreadKey 40 = .ok (.ixor, 1) := by decide +kernel
theorem dX0_spreadKey_41 : decode cX0_spreadKey 41 = .ok (.aload_n 0, 1) := by decide +kernel
theorem dX0_spreadKey_42 : decode cX0_spreadKey 42 = .ok (.getfield 13, 3) := by decide +kernel
theorem dX0_spreadKey_45 : decode cX0_spreadKey 45 = .ok (.iload_n 2, 1) := by decide +kernel
theorem dX0_spreadKey_46 : decode cX0_spreadKey 46 = .ok (.iconst 1, 1) := by decide +kernel
theorem dX0_spreadKey_47 : decode cX0_spreadKey 47 = .ok (.isub, 1) := by decide +kernel
theorem dX0_spreadKey_48 : decode cX0_spreadKey 48 = .ok (.iaload, 1) := by decide +kernel
theorem dX0_spreadKey_49 : decode cX0_spreadKey 49 = .ok (.ixor, 1) := by decide +kernel
theorem dX0_spreadKey_50 : decode cX0_spreadKey 50 = .ok (.istore_n 3, 1) := by decide +kernel
theorem dX0_spreadKey_51 : decode cX0_spreadKey 51 = .ok (.aload_n 0, 1) := by decide +kernel
theorem dX0_spreadKey_52 : decode cX0_spreadKey 52 = .ok (.getfield 13, 3) := by decide +kernel
theorem dX0_spreadKey_55 : decode cX0_spreadKey 55 = .ok (.iload_n 2, 1) := by decide +kernel
theorem dX0_spreadKey_56 : decode cX0_spreadKey 56 = .ok (.iload_n 3, 1) := by decide +kernel
theorem dX0_spreadKey_57 : decode cX0_spreadKey 57 = .ok (.ldc 132, 2) := by decide +kernel
theorem dX0_spreadKey_59 : decode cX0_spreadKey 59 = .ok (.ixor, 1) := by decide +kernel
theorem dX0_spreadKey_60 : decode cX0_spreadKey 60 = .ok (.iload_n 1, 1) := by decide +kernel
theorem dX0_spreadKey_61 : decode cX0_spreadKey 61 = .ok (.ixor, 1) := by decide +kernel
theorem dX0_spreadKey_62 : decode cX0_spreadKey 62 = .ok (.bipush 11, 2) := by decide +kernel
theorem dX0_spreadKey_64 : decode cX0_spreadKey 64 = .ok (.invokestatic 133, 3) := by decide +kernel
theorem dX0_spreadKey_67 : decode cX0_spreadKey 67 = .ok (.iastore, 1) := by decide +kernel
theorem dX0_spreadKey_68 : decode cX0_spreadKey 68 = .ok (.iinc 1 1, 3) := by decide +kernel
theorem dX0_spreadKey_71 : decode cX0_spreadKey 71 = .ok (.goto (-69), 3) := by decide +kernel
theorem dX0_spreadKey_74 : decode cX0_spreadKey 74 = .ok (.return_, 1) := by decide +kernel
theorem dX0_roundKeyAt_0 : decode cX0_roundKeyAt 0 = .ok (.bipush 8, 2) := by decide +kernel
theorem dX0_roundKeyAt_2 : decode cX0_roundKeyAt 2 = .ok (.iconst 4, 1) := by decide +kernel
theorem dX0_roundKeyAt_3 : decode cX0_roundKeyAt 3 = .ok (.iload_n 0, 1) := by decide +kernel
theorem dX0_roundKeyAt_4 : decode cX0_roundKeyAt 4 = .ok (.imul, 1) := by decide +kernel
theorem dX0_roundKeyAt_5 : decode cX0_roundKeyAt 5 = .ok (.iadd, 1) := by decide +kernel
theorem dX0_roundKeyAt_6 : decode cX0_roundKeyAt 6 = .ok (.ireturn, 1) := by decide +kernel
theorem dX0_sourceInBox_0 : decode cX0_sourceInBox 0 = .ok (.iconst 0, 1) := by decide +kernel
theorem dX0_sourceInBox_1 : decode cX0_sourceInBox 1 = .ok (.istore_n 2, 1) := by decide +kernel
theorem dX0_sourceInBox_2 : decode cX0_sourceInBox 2 = .ok (.iconst 0, 1) := by decide +kernel
theorem dX0_sourceInBox_3 : decode cX0_sourceInBox 3 = .ok (.istore_n 3, 1) := by decide +kernel
theorem dX0_sourceInBox_4 : decode cX0_sourceInBox 4 = .ok (.iload_n 3, 1) := by decide +kernel
theorem dX0_sourceInBox_5 : decode cX0_sourceInBox 5 = .ok (.bipush 16, 2) := by decide +kernel
theorem dX0_sourceInBox_7 : decode cX0_sourceInBox 7 = .ok (.if_icmp .ge 25, 3) := by decide +kernel
theorem dX0_sourceInBox_10 : decode cX0_sourceInBox 10 = .ok (.getstatic 83, 3) := by decide +kernel
theorem dX0_sourceInBox_13 : decode cX0_sourceInBox 13 = .ok (.iload_n 0, 1) := by decide +kernel
theorem dX0_sourceInBox_14 : decode cX0_sourceInBox 14 = .ok (.bipush 16, 2) := by decide +kernel
theorem dX0_sourceInBox_16 : decode cX0_sourceInBox 16 = .ok (.imul, 1) := by decide +kernel
theorem dX0_sourceInBox_17 : decode cX0_sourceInBox 17 = .ok (.iload_n 3, 1) := by decide +kernel
theorem dX0_sourceInBox_18 : decode cX0_sourceInBox 18 = .ok (.iadd, 1) := by decide +kernel
theorem dX0_sourceInBox_19 : decode cX0_sourceInBox 19 = .ok (.iaload, 1) := by decide +kernel
theorem dX0_sourceInBox_20 : decode cX0_sourceInBox 20 = .ok (.iload_n 1, 1) := by decide +kernel
theorem dX0_sourceInBox_21 : decode cX0_sourceInBox 21 = .ok (.if_icmp .ne 5, 3) := by decide +kernel
theorem dX0_sourceInBox_24 : decode cX0_sourceInBox 24 = .ok (.iload_n 3, 1) := by decide +kernel
theorem dX0_sourceInBox_25 : decode cX0_sourceInBox 25 = .ok (.istore_n 2, 1) := by decide +kernel
theorem dX0_sourceInBox_26 : decode cX0_sourceInBox 26 = .ok (.iinc 3 1, 3) := by decide +kernel
theorem dX0_sourceInBox_29 : decode cX0_sourceInBox 29 = .ok (.goto (-25), 3) := by decide +kernel
theorem dX0_sourceInBox_32 : decode cX0_sourceInBox 32 = .ok (.iload_n 2, 1) := by decide +kernel
theorem dX0_sourceInBox_33 : decode cX0_sourceInBox 33 = .ok (.ireturn, 1) := by decide +kernel
theorem dX0_changeEachBlock_0 : decode cX0_changeEachBlock 0 = .ok (.iconst 0, 1) := by decide +kernel
theorem dX0_changeEachBlock_1 : decode cX0_changeEachBlock 1 = .ok (.istore_n 2, 1) := by decide +kernel
theorem dX0_changeEachBlock_2 : decode cX0_changeEachBlock 2 = .ok (.iload_n 2, 1) := by decide +kernel
theorem dX0_changeEachBlock_3 : decode cX0_changeEachBlock 3 = .ok (.aload_n 0, 1) := by decide +kernel
theorem dX0_changeEachBlock_4 : decode cX0_changeEachBlock 4 = .ok (.getfield 36, 3) := by decide +kernel
theorem dX0_changeEachBlock_7 : decode cX0_changeEachBlock 7 = .ok (.if_icmp .ge 34, 3) := by decide +kernel
theorem dX0_changeEachBlock_10 : decode cX0_changeEachBlock 10 = .ok (.iload_n 1, 1) := by decide +kernel
theorem dX0_changeEachBlock_11 : decode cX0_changeEachBlock 11 = .ok (.ifCond .eq 15, 3) := by decide +kernel
theorem dX0_changeEachBlock_14 : decode cX0_changeEachBlock 14 = .ok (.aload_n 0, 1) := by decide +kernel
theorem dX0_changeEachBlock_15 : decode cX0_changeEachBlock 15 = .ok (.aload_n 0, 1) := by decide +kernel
theorem dX0_changeEachBlock_16 : decode cX0_changeEachBlock 16 = .ok (.getfield 19, 3) := by decide +kernel
theorem dX0_changeEachBlock_19 : decode cX0_changeEachBlock 19 = .ok (.iload_n 2, 1) := by decide +kernel
theorem dX0_changeEachBlock_20 : decode cX0_changeEachBlock 20 = .ok (.invokevirtual 138, 3) := by decide +kernel
theorem dX0_changeEachBlock_23 : decode cX0_changeEachBlock 23 = .ok (.goto 12, 3) := by decide +kernel
theorem dX0_changeEachBlock_26 : decode cX0_changeEachBlock 26 = .ok (.aload_n 0, 1) := by decide +kernel
theorem dX0_changeEachBlock_27 : decode cX0_changeEachBlock 27 = .ok (.aload_n 0, 1) := by decide +kernel
theorem dX0_changeEachBlock_28 : decode cX0_changeEachBlock 28 = .ok (.getfield 19, 3) := by decide +kernel
theorem dX0_changeEachBlock_31 : decode cX0_changeEachBlock 31 = .ok (.iload_n 2, 1) := by decide +kernel
theorem dX0_changeEachBlock_32 : decode cX0_changeEachBlock 32 = .ok (.invokevirtual 121, 3) := by decide +kernel
theorem dX0_changeEachBlock_35 : decode cX0_changeEachBlock 35 = .ok (.iinc 2 4, 3) := by decide +kernel
theorem dX0_changeEachBlock_38 : decode cX0_changeEachBlock 38 = .ok (.goto (-36), 3) := by decide +kernel
theorem dX0_changeEachBlock_41 : decode cX0_changeEachBlock 41 = .ok (.return_, 1) := by decide +kernel
theorem dX0_chainTape_0 : decode cX0_chainTape 0 = .ok (.iconst 0, 1) := by decide +kernel
theorem dX0_chainTape_1 : decode cX0_chainTape 1 = .ok (.istore_n 1, 1) := by decide +kernel
theorem dX0_chainTape_2 : decode cX0_chainTape 2 = .ok (.iload_n 1, 1) := by decide +kernel
theorem dX0_chainTape_3 : decode cX0_chainTape 3 = .ok (.aload_n 0, 1) := by decide +kernel
theorem dX0_chainTape_4 : decode cX0_chainTape 4 = .ok (.getfield 36, 3) := by decide +kernel
theorem dX0_chainTape_7 : decode cX0_chainTape 7 = .ok (.if_icmp .ge 23, 3) := by decide +kernel
theorem dX0_chainTape_10 : decode cX0_chainTape 10 = .ok (.aload_n 0, 1) := by decide +kernel
theorem dX0_chainTape_11 : decode cX0_chainTape 11 = .ok (.iload_n 1, 1) := by decide +kernel
theorem dX0_chainTape_12 : decode cX0_chainTape 12 = .ok (.invokevirtual 141, 3) := by decide +kernel
theorem dX0_chainTape_15 : decode cX0_chainTape 15 = .ok (.aload_n 0, 1) := by decide +kernel
theorem dX0_chainTape_16 : decode cX0_chainTape 16 = .ok (.aload_n 0, 1) := by decide +kernel
theorem dX0_chainTape_17 : decode cX0_chainTape 17 = .ok (.getfield 19, 3) := by decide +kernel
theorem dX0_chainTape_20 : decode cX0_chainTape 20 = .ok (.iload_n 1, 1) := by decide +kernel
theorem dX0_chainTape_21 : decode cX0_chainTape 21 = .ok (.invokevirtual 121, 3) := by decide +kernel
theorem dX0_chainTape_24 : decode cX0_chainTape 24 = .ok (.iinc 1 4, 3) := by decide +kernel
theorem dX0_chainTape_27 : decode cX0_chainTape 27 = .ok (.goto (-25), 3) := by decide +kernel
theorem dX0_chainTape_30 : decode cX0_chainTape 30 = .ok (.return_, 1) := by decide +kernel
theorem dX0_unchainTape_0 : decode cX0_unchainTape 0 = .ok (.aload_n 0, 1) := by decide +kernel
theorem dX0_unchainTape_1 : decode cX0_unchainTape 1 = .ok (.getfield 36, 3) := by decide +kernel
theorem dX0_unchainTape_4 : decode cX0_unchainTape 4 = .ok (.iconst 4, 1) := by decide +kernel
theorem dX0_unchainTape_5 : decode cX0_unchainTape 5 = .ok (.isub, 1) := by decide +kernel
theorem dX0_unchainTape_6 : decode cX0_unchainTape 6 = .ok (.istore_n 1, 1) := by decide +kernel
theorem dX0_unchainTape_7 : decode cX0_unchainTape 7 = .ok (.iload_n 1, 1) := by decide +kernel
theorem dX0_unchainTape_8 : decode cX0_unchainTape 8 = .ok (.ifCond .lt 23, 3) := by decide +kernel
theorem dX0_unchainTape_11 : decode cX0_unchainTape 11 = .ok (.aload_n 0, 1) := by decide +kernel
theorem dX0_unchainTape_12 : decode cX0_unchainTape 12 = .ok (.aload_n 0, 1) := by decide +kernel
theorem dX0_unchainTape_13 : decode cX0_unchainTape 13 = .ok (.getfield 19, 3) := by decide +kernel
theorem dX0_unchainTape_16 : decode cX0_unchainTape 16 = .ok (.iload_n 1, 1) := by decide +kernel
theorem dX0_unchainTape_17 : decode cX0_unchainTape 17 = .ok (.invokevirtual 138, 3) := by decide +kernel
theorem dX0_unchainTape_20 : decode cX0_unchainTape 20 = .ok (.aload_n 0, 1) := by decide +kernel
theorem dX0_unchainTape_21 : decode cX0_unchainTape 21 = .ok (.iload_n 1, 1) := by decide +kernel
theorem dX0_unchainTape_22 : decode cX0_unchainTape 22 = .ok (.invokevirtual 141, 3) := by decide +kernel
theorem dX0_unchainTape_25 : decode cX0_unchainTape 25 = .ok (.iinc 1 (-4), 3) := by decide +kernel
theorem dX0_unchainTape_28 : decode cX0_unchainTape 28 = .ok (.goto (-21), 3) := by decide +kernel
theorem dX0_unchainTape_31 : decode cX0_unchainTape 31 = .ok (.return_, 1) := by decide +kernel
theorem dX0_xorWithOneBefore_0 : decode cX0_xorWithOneBefore 0 = .ok (.iload_n 1, 1) := by decide +kernel
theorem dX0_xorWithOneBefore_1 : decode cX0_xorWithOneBefore 1 = .ok (.ifCond .ne 19, 3) := by decide +kernel
theorem dX0_xorWithOneBefore_4 : decode cX0_xorWithOneBefore 4 = .ok (.aload_n 0, 1) := by decide +kernel
theorem dX0_xorWithOneBefore_5 : decode cX0_xorWithOneBefore 5 = .ok (.getfield 19, 3) := by decide +kernel
theorem dX0_xorWithOneBefore_8 : decode cX0_xorWithOneBefore 8 = .ok (.iconst 0, 1) := by decide +kernel
theorem dX0_xorWithOneBefore_9 : decode cX0_xorWithOneBefore 9 = .ok (.aload_n 0, 1) := by decide +kernel
theorem dX0_xorWithOneBefore_10 : decode cX0_xorWithOneBefore 10 = .ok (.getfield 16, 3) := by decide +kernel
theorem dX0_xorWithOneBefore_13 : decode cX0_xorWithOneBefore 13 = .ok (.iconst 0, 1) := by decide +kernel
theorem dX0_xorWithOneBefore_14 : decode cX0_xorWithOneBefore 14 = .ok (.invokestatic 117, 3) := by decide +kernel
theorem dX0_xorWithOneBefore_17 : decode cX0_xorWithOneBefore 17 = .ok (.goto 18, 3) := by decide +kernel
theorem dX0_xorWithOneBefore_20 : decode cX0_xorWithOneBefore 20 = .ok (.aload_n 0, 1) := by decide +kernel
theorem dX0_xorWithOneBefore_21 : decode cX0_xorWithOneBefore 21 = .ok (.getfield 19, 3) := by decide +kernel
theorem dX0_xorWithOneBefore_24 : decode cX0_xorWithOneBefore 24 = .ok (.iload_n 1, 1) := by decide +kernel
theorem dX0_xorWithOneBefore_25 : decode cX0_xorWithOneBefore 25 = .ok (.aload_n 0, 1) := by decide +kernel
theorem dX0_xorWithOneBefore_26 : decode cX0_xorWithOneBefore 26 = .ok (.getfield 19, 3) := by decide +kernel
theorem dX0_xorWithOneBefore_29 : decode cX0_xorWithOneBefore 29 = .ok (.iload_n 1, 1) := by decide +kernel
theorem dX0_xorWithOneBefore_30 : decode cX0_xorWithOneBefore 30 = .ok (.iconst 4, 1) := by decide +kernel
theorem dX0_xorWithOneBefore_31 : decode cX0_xorWithOneBefore 31 = .ok (.isub, 1) := by decide +kernel
theorem dX0_xorWithOneBefore_32 : decode cX0_xorWithOneBefore 32 = .ok (.invokestatic 117, 3) := by decide +kernel
theorem dX0_xorWithOneBefore_35 : decode cX0_xorWithOneBefore 35 = .ok (.return_, 1) := by decide +kernel
theorem dX0_maskByCounter_0 : decode cX0_maskByCounter 0 = .ok (.aload_n 0, 1) := by decide +kernel
theorem dX0_maskByCounter_1 : decode cX0_maskByCounter 1 = .ok (.getfield 16, 3) := by decide +kernel
theorem dX0_maskByCounter_4 : decode cX0_maskByCounter 4 = .ok (.iconst 0, 1) := by decide +kernel
theorem dX0_maskByCounter_5 : decode cX0_maskByCounter 5 = .ok (.aload_n 0, 1) := by decide +kernel
theorem dX0_maskByCounter_6 : decode cX0_maskByCounter 6 = .ok (.getfield 22, 3) := by decide +kernel
theorem dX0_maskByCounter_9 : decode cX0_maskByCounter 9 = .ok (.iconst 0, 1) := by decide +kernel
theorem dX0_maskByCounter_10 : decode cX0_maskByCounter 10 = .ok (.iconst 4, 1) := by decide +kernel
theorem dX0_maskByCounter_11 : decode cX0_maskByCounter 11 = .ok (.invokestatic 145, 3) := by decide +kernel
theorem dX0_maskByCounter_14 : decode cX0_maskByCounter 14 = .ok (.iconst 0, 1) := by decide +kernel
theorem dX0_maskByCounter_15 : decode cX0_maskByCounter 15 = .ok (.istore_n 1, 1) := by decide +kernel
theorem dX0_maskByCounter_16 : decode cX0_maskByCounter 16 = .ok (.iload_n 1, 1) := by decide +kernel
theorem dX0_maskByCounter_17 : decode cX0_maskByCounter 17 = .ok (.aload_n 0, 1) := by decide +kernel
theorem dX0_maskByCounter_18 : decode cX0_maskByCounter 18 = .ok (.getfield 36, 3) := by decide +kernel
theorem dX0_maskByCounter_21 : decode cX0_maskByCounter 21 = .ok (.if_icmp .ge 49, 3) := by decide +kernel
theorem dX0_maskByCounter_24 : decode cX0_maskByCounter 24 = .ok (.aload_n 0, 1) := by decide +kernel
