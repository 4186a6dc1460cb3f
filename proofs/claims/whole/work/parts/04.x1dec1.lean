theorem dX1_back_24 : decode cX1_back 24 = .ok (.ireturn, 1) := by decide +kernel
theorem dX1_through_0 : decode cX1_through 0 = .ok (.iconst 0, 1) := by decide +kernel
theorem dX1_through_1 : decode cX1_through 1 = .ok (.istore_n 3, 1) := by decide +kernel
theorem dX1_through_2 : decode cX1_through 2 = .ok (.iload_n 3, 1) := by decide +kernel
theorem dX1_through_3 : decode cX1_through 3 = .ok (.iconst 4, 1) := by decide +kernel
theorem dX1_through_4 : decode cX1_through 4 = .ok (.if_icmp .ge 16, 3) := by decide +kernel
theorem dX1_through_7 : decode cX1_through 7 = .ok (.aload_n 0, 1) := by decide +kernel
theorem dX1_through_8 : decode cX1_through 8 = .ok (.getfield 31, 3) := by decide +kernel
theorem dX1_through_11 : decode cX1_through 11 = .ok (.iload_n 3, 1) := by decide +kernel
theorem dX1_through_12 : decode cX1_through 12 = .ok (.iconst 0, 1) := by decide +kernel
theorem dX1_through_13 : decode cX1_through 13 = .ok (.iastore, 1) := by decide +kernel
theorem dX1_through_14 : decode cX1_through 14 = .ok (.iinc 3 1, 3) := by decide +kernel
theorem dX1_through_17 : decode cX1_through 17 = .ok (.goto (-15), 3) := by decide +kernel
theorem dX1_through_20 : decode cX1_through 20 = .ok (.iconst 0, 1) := by decide +kernel
theorem dX1_through_21 : decode cX1_through 21 = .ok (.istore_n 3, 1) := by decide +kernel
theorem dX1_through_22 : decode cX1_through 22 = .ok (.iload_n 3, 1) := by decide +kernel
theorem dX1_through_23 : decode cX1_through 23 = .ok (.bipush 32, 2) := by decide +kernel
theorem dX1_through_25 : decode cX1_through 25 = .ok (.if_icmp .ge 111, 3) := by decide +kernel
theorem dX1_through_28 : decode cX1_through 28 = .ok (.iconst 0, 1) := by decide +kernel
theorem dX1_through_29 : decode cX1_through 29 = .ok (.istore 4, 2) := by decide +kernel
theorem dX1_through_31 : decode cX1_through 31 = .ok (.iconst 3, 1) := by decide +kernel
theorem dX1_through_32 : decode cX1_through 32 = .ok (.istore 5, 2) := by decide +kernel
theorem dX1_through_34 : decode cX1_through 34 = .ok (.iload 5, 2) := by decide +kernel
theorem dX1_through_36 : decode cX1_through 36 = .ok (.ifCond .lt 27, 3) := by decide +kernel
theorem dX1_through_39 : decode cX1_through 39 = .ok (.iconst 2, 1) := by decide +kernel
theorem dX1_through_40 : decode cX1_through 40 = .ok (.iload 4, 2) := by decide +kernel
theorem dX1_through_42 : decode cX1_through 42 = .ok (.imul, 1) := by decide +kernel
theorem dX1_through_43 : decode cX1_through 43 = .ok (.aload_n 0, 1) := by decide +kernel
theorem dX1_through_44 : decode cX1_through 44 = .ok (.getfield 28, 3) := by decide +kernel
theorem dX1_through_47 : decode cX1_through 47 = .ok (.iload 5, 2) := by decide +kernel
theorem dX1_through_49 : decode cX1_through 49 = .ok (.iaload, 1) := by decide +kernel
theorem dX1_through_50 : decode cX1_through 50 = .ok (.iload_n 3, 1) := by decide +kernel
theorem dX1_through_51 : decode cX1_through 51 = .ok (.ishr, 1) := by decide +kernel
theorem dX1_through_52 : decode cX1_through 52 = .ok (.iconst 1, 1) := by decide +kernel
theorem dX1_through_53 : decode cX1_through 53 = .ok (.iand, 1) := by decide +kernel
theorem dX1_through_54 : decode cX1_through 54 = .ok (.iadd, 1) := by decide +kernel
theorem dX1_through_55 : decode cX1_through 55 = .ok (.istore 4, 2) := by decide +kernel
theorem dX1_through_57 : decode cX1_through 57 = .ok (.iinc 5 (-1), 3) := by decide +kernel
theorem dX1_through_60 : decode cX1_through 60 = .ok (.goto (-26), 3) := by decide +kernel
theorem dX1_through_63 : decode cX1_through 63 = .ok (.iload_n 2, 1) := by decide +kernel
theorem dX1_through_64 : decode cX1_through 64 = .ok (.ifCond .eq 13, 3) := by decide +kernel
theorem dX1_through_67 : decode cX1_through 67 = .ok (.aload_n 0, 1) := by decide +kernel
theorem dX1_through_68 : decode cX1_through 68 = .ok (.iload_n 1, 1) := by decide +kernel
theorem dX1_through_69 : decode cX1_through 69 = .ok (.iload 4, 2) := by decide +kernel
theorem dX1_through_71 : decode cX1_through 71 = .ok (.invokevirtual 44, 3) := by decide +kernel
theorem dX1_through_74 : decode cX1_through 74 = .ok (.goto 15, 3) := by decide +kernel
theorem dX1_through_77 : decode cX1_through 77 = .ok (.aload_n 0, 1) := by decide +kernel
theorem dX1_through_78 : decode cX1_through 78 = .ok (.getfield 25, 3) := by decide +kernel
theorem dX1_through_81 : decode cX1_through 81 = .ok (.bipush 16, 2) := by decide +kernel
theorem dX1_through_83 : decode cX1_through 83 = .ok (.iload_n 1, 1) := by decide +kernel
theorem dX1_through_84 : decode cX1_through 84 = .ok (.imul, 1) := by decide +kernel
theorem dX1_through_85 : decode cX1_through 85 = .ok (.iload 4, 2) := by decide +kernel
theorem dX1_through_87 : decode cX1_through 87 = .ok (.iadd, 1) := by decide +kernel
theorem dX1_through_88 : decode cX1_through 88 = .ok (.iaload, 1) := by decide +kernel
theorem dX1_through_89 : decode cX1_through 89 = .ok (.istore 5, 2) := by decide +kernel
theorem dX1_through_91 : decode cX1_through 91 = .ok (.iconst 0, 1) := by decide +kernel
theorem dX1_through_92 : decode cX1_through 92 = .ok (.istore 6, 2) := by decide +kernel
theorem dX1_through_94 : decode cX1_through 94 = .ok (.iload 6, 2) := by decide +kernel
theorem dX1_through_96 : decode cX1_through 96 = .ok (.iconst 4, 1) := by decide +kernel
theorem dX1_through_97 : decode cX1_through 97 = .ok (.if_icmp .ge 33, 3) := by decide +kernel
theorem dX1_through_100 : decode cX1_through 100 = .ok (.aload_n 0, 1) := by decide +kernel
theorem dX1_through_101 : decode cX1_through 101 = .ok (.getfield 31, 3) := by decide +kernel
theorem dX1_through_104 : decode cX1_through 104 = .ok (.iload 6, 2) := by decide +kernel
theorem dX1_through_106 : decode cX1_through 106 = .ok (.aload_n 0, 1) := by decide +kernel
theorem dX1_through_107 : decode cX1_through 107 = .ok (.getfield 31, 3) := by decide +kernel
theorem dX1_through_110 : decode cX1_through 110 = .ok (.iload 6, 2) := by decide +kernel
theorem dX1_through_112 : decode cX1_through 112 = .ok (.iaload, 1) := by decide +kernel
theorem dX1_through_113 : decode cX1_through 113 = .ok (.iload 5, 2) := by decide +kernel
theorem dX1_through_115 : decode cX1_through 115 = .ok (.iload 6, 2) := by decide +kernel
theorem dX1_through_117 : decode cX1_through 117 = .ok (.ishr, 1) := by decide +kernel
theorem dX1_through_118 : decode cX1_through 118 = .ok (.iconst 1, 1) := by decide +kernel
theorem dX1_through_119 : decode cX1_through 119 = .ok (.iand, 1) := by decide +kernel
theorem dX1_through_120 : decode cX1_through 120 = .ok (.iload_n 3, 1) := by decide +kernel
theorem dX1_through_121 : decode cX1_through 121 = .ok (.ishl, 1) := by decide +kernel
theorem dX1_through_122 : decode cX1_through 122 = .ok (.ior, 1) := by decide +kernel
theorem dX1_through_123 : decode cX1_through 123 = .ok (.iastore, 1) := by decide +kernel
theorem dX1_through_124 : decode cX1_through 124 = .ok (.iinc 6 1, 3) := by decide +kernel
theorem dX1_through_127 : decode cX1_through 127 = .ok (.goto (-33), 3) := by decide +kernel
theorem dX1_through_130 : decode cX1_through 130 = .ok (.iinc 3 1, 3) := by decide +kernel
theorem dX1_through_133 : decode cX1_through 133 = .ok (.goto (-111), 3) := by decide +kernel
theorem dX1_through_136 : decode cX1_through 136 = .ok (.iconst 0, 1) := by decide +kernel
theorem dX1_through_137 : decode cX1_through 137 = .ok (.istore_n 3, 1) := by decide +kernel
theorem dX1_through_138 : decode cX1_through 138 = .ok (.iload_n 3, 1) := by decide +kernel
theorem dX1_through_139 : decode cX1_through 139 = .ok (.iconst 4, 1) := by decide +kernel
theorem dX1_through_140 : decode cX1_through 140 = .ok (.if_icmp .ge 21, 3) := by decide +kernel
theorem dX1_through_143 : decode cX1_through 143 = .ok (.aload_n 0, 1) := by decide +kernel
theorem dX1_through_144 : decode cX1_through 144 = .ok (.getfield 28, 3) := by decide +kernel
theorem dX1_through_147 : decode cX1_through 147 = .ok (.iload_n 3, 1) := by decide +kernel
theorem dX1_through_148 : decode cX1_through 148 = .ok (.aload_n 0, 1) := by decide +kernel
theorem dX1_through_149 : decode cX1_through 149 = .ok (.getfield 31, 3) := by decide +kernel
theorem dX1_through_152 : decode cX1_through 152 = .ok (.iload_n 3, 1) := by decide +kernel
theorem dX1_through_153 : decode cX1_through 153 = .ok (.iaload, 1) := by decide +kernel
theorem dX1_through_154 : decode cX1_through 154 = .ok (.iastore, 1) := by decide +kernel
theorem dX1_through_155 : decode cX1_through 155 = .ok (.iinc 3 1, 3) := by decide +kernel
theorem dX1_through_158 : decode cX1_through 158 = .ok (.goto (-20), 3) := by decide +kernel
theorem dX1_through_161 : decode cX1_through 161 = .ok (.return_, 1) := by decide +kernel
theorem dX1_left_0 : decode cX1_left 0 = .ok (.iload_n 0, 1) := by decide +kernel
theorem dX1_left_1 : decode cX1_left 1 = .ok (.istore_n 2, 1) := by decide +kernel
theorem dX1_left_2 : decode cX1_left 2 = .ok (.iconst 0, 1) := by decide +kernel
theorem dX1_left_3 : decode cX1_left 3 = .ok (.istore_n 3, 1) := by decide +kernel
theorem dX1_left_4 : decode cX1_left 4 = .ok (.iload_n 3, 1) := by decide +kernel
theorem dX1_left_5 : decode cX1_left 5 = .ok (.iload_n 1, 1) := by decide +kernel
theorem dX1_left_6 : decode cX1_left 6 = .ok (.if_icmp .ge 23, 3) := by decide +kernel
theorem dX1_left_9 : decode cX1_left 9 = .ok (.iload_n 2, 1) := by decide +kernel
theorem dX1_left_10 : decode cX1_left 10 = .ok (.iload_n 2, 1) := by decide +kernel
theorem dX1_left_11 : decode cX1_left 11 = .ok (.iadd, 1) := by decide +kernel
theorem dX1_left_12 : decode cX1_left 12 = .ok (.iload_n 2, 1) := by decide +kernel
theorem dX1_left_13 : decode cX1_left 13 = .ok (.ifCond .ge 7, 3) := by decide +kernel
theorem dX1_left_16 : decode cX1_left 16 = .ok (.iconst 1, 1) := by decide +kernel
theorem dX1_left_17 : decode cX1_left 17 = .ok (.goto 4, 3) := by decide +kernel
theorem dX1_left_20 : decode cX1_left 20 = .ok (.iconst 0, 1) := by decide +kernel
theorem dX1_left_21 : decode cX1_left 21 = .ok (.iadd, 1) := by decide +kernel
theorem dX1_left_22 : decode cX1_left 22 = .ok (.istore_n 2, 1) := by decide +kernel
theorem dX1_left_23 : decode cX1_left 23 = .ok (.iinc 3 1, 3) := by decide +kernel
theorem dX1_left_26 : decode cX1_left 26 = .ok (.goto (-22), 3) := by decide +kernel
theorem dX1_left_29 : decode cX1_left 29 = .ok (.iload_n 2, 1) := by decide +kernel
theorem dX1_left_30 : decode cX1_left 30 = .ok (.ireturn, 1) := by decide +kernel
theorem dX1_right_0 : decode cX1_right 0 = .ok (.iload_n 0, 1) := by decide +kernel
theorem dX1_right_1 : decode cX1_right 1 = .ok (.bipush 32, 2) := by decide +kernel
theorem dX1_right_3 : decode cX1_right 3 = .ok (.iload_n 1, 1) := by decide +kernel
theorem dX1_right_4 : decode cX1_right 4 = .ok (.isub, 1) := by decide +kernel
theorem dX1_right_5 : decode cX1_right 5 = .ok (.invokestatic 48, 3) := by decide +kernel
theorem dX1_right_8 : decode cX1_right 8 = .ok (.ireturn, 1) := by decide +kernel
theorem dX1_key_0 : decode cX1_key 0 = .ok (.aload_n 0, 1) := by decide +kernel
theorem dX1_key_1 : decode cX1_key 1 = .ok (.iload_n 1, 1) := by decide +kernel
theorem dX1_key_2 : decode cX1_key 2 = .ok (.iconst 0, 1) := by decide +kernel
theorem dX1_key_3 : decode cX1_key 3 = .ok (.bipush 7, 2) := by decide +kernel
theorem dX1_key_5 : decode cX1_key 5 = .ok (.invokestatic 51, 3) := by decide +kernel
theorem dX1_key_8 : decode cX1_key 8 = .ok (.iconst 1, 1) := by decide +kernel
theorem dX1_key_9 : decode cX1_key 9 = .ok (.invokevirtual 55, 3) := by decide +kernel
theorem dX1_key_12 : decode cX1_key 12 = .ok (.ifCond .eq 15, 3) := by decide +kernel
theorem dX1_key_15 : decode cX1_key 15 = .ok (.aload_n 0, 1) := by decide +kernel
theorem dX1_key_16 : decode cX1_key 16 = .ok (.getfield 7, 3) := by decide +kernel
theorem dX1_key_19 : decode cX1_key 19 = .ok (.iload_n 1, 1) := by decide +kernel
theorem dX1_key_20 : decode cX1_key 20 = .ok (.iload_n 2, 1) := by decide +kernel
theorem dX1_key_21 : decode cX1_key 21 = .ok (.iastore, 1) := by decide +kernel
theorem dX1_key_22 : decode cX1_key 22 = .ok (.aload_n 0, 1) := by decide +kernel
theorem dX1_key_23 : decode cX1_key 23 = .ok (.iconst 0, 1) := by decide +kernel
theorem dX1_key_24 : decode cX1_key 24 = .ok (.putfield 59, 3) := by decide +kernel
theorem dX1_key_27 : decode cX1_key 27 = .ok (.return_, 1) := by decide +kernel
theorem dX1_size_0 : decode cX1_size 0 = .ok (.aload_n 0, 1) := by decide +kernel
theorem dX1_size_1 : decode cX1_size 1 = .ok (.iload_n 1, 1) := by decide +kernel
theorem dX1_size_2 : decode cX1_size 2 = .ok (.iconst 0, 1) := by decide +kernel
theorem dX1_size_3 : decode cX1_size 3 = .ok (.bipush 32, 2) := by decide +kernel
theorem dX1_size_5 : decode cX1_size 5 = .ok (.invokestatic 51, 3) := by decide +kernel
theorem dX1_size_8 : decode cX1_size 8 = .ok (.iconst 1, 1) := by decide +kernel
theorem dX1_size_9 : decode cX1_size 9 = .ok (.invokevirtual 55, 3) := by decide +kernel
theorem dX1_size_12 : decode cX1_size 12 = .ok (.ifCond .eq 13, 3) := by decide +kernel
theorem dX1_size_15 : decode cX1_size 15 = .ok (.aload_n 0, 1) := by decide +kernel
theorem dX1_size_16 : decode cX1_size 16 = .ok (.iload_n 1, 1) := by decide +kernel
theorem dX1_size_17 : decode cX1_size 17 = .ok (.putfield 63, 3) := by decide +kernel
theorem dX1_size_20 : decode cX1_size 20 = .ok (.aload_n 0, 1) := by decide +kernel
theorem dX1_size_21 : decode cX1_size 21 = .ok (.iconst 0, 1) := by decide +kernel
theorem dX1_size_22 : decode cX1_size 22 = .ok (.putfield 59, 3) := by decide +kernel
theorem dX1_size_25 : decode cX1_size 25 = .ok (.return_, 1) := by decide +kernel
theorem dX1_keyByte_0 : decode cX1_keyByte 0 = .ok (.iload_n 1, 1) := by decide +kernel
theorem dX1_keyByte_1 : decode cX1_keyByte 1 = .ok (.aload_n 0, 1) := by decide +kernel
theorem dX1_keyByte_2 : decode cX1_keyByte 2 = .ok (.getfield 63, 3) := by decide +kernel
theorem dX1_keyByte_5 : decode cX1_keyByte 5 = .ok (.if_icmp .ge 25, 3) := by decide +kernel
theorem dX1_keyByte_8 : decode cX1_keyByte 8 = .ok (.aload_n 0, 1) := by decide +kernel
theorem dX1_keyByte_9 : decode cX1_keyByte 9 = .ok (.getfield 7, 3) := by decide +kernel
theorem dX1_keyByte_12 : decode cX1_keyByte 12 = .ok (.iload_n 1, 1) := by decide +kernel
theorem dX1_keyByte_13 : decode cX1_keyByte 13 = .ok (.iconst 4, 1) := by decide +kernel
theorem dX1_keyByte_14 : decode cX1_keyByte 14 = .ok (.idiv, 1) := by decide +kernel
theorem dX1_keyByte_15 : decode cX1_keyByte 15 = .ok (.iaload, 1) := by decide +kernel
theorem dX1_keyByte_16 : decode cX1_keyByte 16 = .ok (.bipush 8, 2) := by decide +kernel
theorem dX1_keyByte_18 : decode cX1_keyByte 18 = .ok (.iload_n 1, 1) := by decide +kernel
theorem dX1_keyByte_19 : decode cX1_keyByte 19 = .ok (.iconst 4, 1) := by decide +kernel
theorem dX1_keyByte_20 : decode cX1_keyByte 20 = .ok (.irem, 1) := by decide +kernel
theorem dX1_keyByte_21 : decode cX1_keyByte 21 = .ok (.imul, 1) := by decide +kernel
theorem dX1_keyByte_22 : decode cX1_keyByte 22 = .ok (.ishr, 1) := by decide +kernel
theorem dX1_keyByte_23 : decode cX1_keyByte 23 = .ok (.sipush 255, 3) := by decide +kernel
theorem dX1_keyByte_26 : decode cX1_keyByte 26 = .ok (.iand, 1) := by decide +kernel
theorem dX1_keyByte_27 : decode cX1_keyByte 27 = .ok (.goto 16, 3) := by decide +kernel
theorem dX1_keyByte_30 : decode cX1_keyByte 30 = .ok (.iload_n 1, 1) := by decide +kernel
theorem dX1_keyByte_31 : decode cX1_keyByte 31 = .ok (.aload_n 0, 1) := by decide +kernel
theorem dX1_keyByte_32 : decode cX1_keyByte 32 = .ok (.getfield 63, 3) := by decide +kernel
theorem dX1_keyByte_35 : decode cX1_keyByte 35 = .ok (.if_icmp .ne 7, 3) := by decide +kernel
theorem dX1_keyByte_38 : decode cX1_keyByte 38 = .ok (.iconst 1, 1) := by decide +kernel
theorem dX1_keyByte_39 : decode cX1_keyByte 39 = .ok (.goto 4, 3) := by decide +kernel
theorem dX1_keyByte_42 : decode cX1_keyByte 42 = .ok (.iconst 0, 1) := by decide +kernel
theorem dX1_keyByte_43 : decode cX1_keyByte 43 = .ok (.ireturn, 1) := by decide +kernel
theorem dX1_ready_0 : decode cX1_ready 0 = .ok (.aload_n 0, 1) := by decide +kernel
theorem dX1_ready_1 : decode cX1_ready 1 = .ok (.iconst 0, 1) := by decide +kernel
theorem dX1_ready_2 : decode cX1_ready 2 = .ok (.putfield 41, 3) := by decide +kernel
theorem dX1_ready_5 : decode cX1_ready 5 = .ok (.iconst 0, 1) := by decide +kernel
theorem dX1_ready_6 : decode cX1_ready 6 = .ok (.istore_n 1, 1) := by decide +kernel
theorem dX1_ready_7 : decode cX1_ready 7 = .ok (.iload_n 1, 1) := by decide +kernel
theorem dX1_ready_8 : decode cX1_ready 8 = .ok (.bipush 8, 2) := by decide +kernel
theorem dX1_ready_10 : decode cX1_ready 10 = .ok (.if_icmp .ge 61, 3) := by decide +kernel
theorem dX1_ready_13 : decode cX1_ready 13 = .ok (.aload_n 0, 1) := by decide +kernel
theorem dX1_ready_14 : decode cX1_ready 14 = .ok (.getfield 13, 3) := by decide +kernel
theorem dX1_ready_17 : decode cX1_ready 17 = .ok (.iload_n 1, 1) := by decide +kernel
theorem dX1_ready_18 : decode cX1_ready 18 = .ok (.aload_n 0, 1) := by decide +kernel
theorem dX1_ready_19 : decode cX1_ready 19 = .ok (.iconst 4, 1) := by decide +kernel
theorem dX1_ready_20 : decode cX1_ready 20 = .ok (.iload_n 1, 1) := by decide +kernel
theorem dX1_ready_21 : decode cX1_ready 21 = .ok (.imul, 1) := by decide +kernel
theorem dX1_ready_22 : decode cX1_ready 22 = .ok (.invokevirtual 66, 3) := by decide +kernel
theorem dX1_ready_25 : decode cX1_ready 25 = .ok (.aload_n 0, 1) := by decide +kernel
theorem dX1_ready_26 : decode cX1_ready 26 = .ok (.iconst 4, 1) := by decide +kernel
theorem dX1_ready_27 : decode cX1_ready 27 = .ok (.iload_n 1, 1) := by decide +kernel
theorem dX1_ready_28 : decode cX1_ready 28 = .ok (.imul, 1) := by decide +kernel
theorem dX1_ready_29 : decode cX1_ready 29 = .ok (.iconst 1, 1) := by decide +kernel
theorem dX1_ready_30 : decode cX1_ready 30 = .ok (.iadd, 1) := by decide +kernel
theorem dX1_ready_31 : decode cX1_ready 31 = .ok (.invokevirtual 66, 3) := by decide +kernel
theorem dX1_ready_34 : decode cX1_ready 34 = .ok (.bipush 8, 2) := by decide +kernel
theorem dX1_ready_36 : decode cX1_ready 36 = .ok (.ishl, 1) := by decide +kernel
theorem dX1_ready_37 : decode cX1_ready 37 = .ok (.iadd, 1) := by decide +kernel
theorem dX1_ready_38 : decode cX1_ready 38 = .ok (.aload_n 0, 1) := by decide +kernel
theorem dX1_ready_39 : decode cX1_ready 39 = .ok (.iconst 4, 1) := by decide +kernel
theorem dX1_ready_40 : decode cX1_ready 40 = .ok (.iload_n 1, 1) := by decide +kernel
theorem dX1_ready_41 : decode cX1_ready 41 = .ok (.imul, 1) := by decide +kernel
theorem dX1_ready_42 : decode cX1_ready 42 = .ok (.iconst 2, 1) := by decide +kernel
theorem dX1_ready_43 : decode cX1_ready 43 = .ok (.iadd, 1) := by decide +kernel
theorem dX1_ready_44 : decode cX1_ready 44 = .ok (.invokevirtual 66, 3) := by decide +kernel
theorem dX1_ready_47 : decode cX1_ready 47 = .ok (.bipush 16, 2) := by decide +kernel
theorem dX1_ready_49 : decode cX1_ready 49 = .ok (.ishl, 1) := by decide +kernel
theorem dX1_ready_50 : decode cX1_ready 50 = .ok (.iadd, 1) := by decide +kernel
theorem dX1_ready_51 : decode cX1_ready 51 = .ok (.aload_n 0, 1) := by decide +kernel
theorem dX1_ready_52 : decode cX1_ready 52 = .ok (.iconst 4, 1) := by decide +kernel
theorem dX1_ready_53 : decode cX1_ready 53 = .ok (.iload_n 1, 1) := by decide +kernel
theorem dX1_ready_54 : decode cX1_ready 54 = .ok (.imul, 1) := by decide +kernel
theorem dX1_ready_55 : decode cX1_ready 55 = .ok (.iconst 3, 1) := by decide +kernel
theorem dX1_ready_56 : decode cX1_ready 56 = .ok (.iadd, 1) := by decide +kernel
theorem dX1_ready_57 : decode cX1_ready 57 = .ok (.invokevirtual 66, 3) := by decide +kernel
theorem dX1_ready_60 : decode cX1_ready 60 = .ok (.bipush 24, 2) := by decide +kernel
theorem dX1_ready_62 : decode cX1_ready 62 = .ok (.ishl, 1) := by decide +kernel
theorem dX1_ready_63 : decode cX1_ready 63 = .ok (.iadd, 1) := by decide +kernel
theorem dX1_ready_64 : decode cX1_ready 64 = .ok (.iastore, 1) := by decide +kernel
theorem dX1_ready_65 : decode cX1_ready 65 = .ok (.iinc 1 1, 3) := by decide +kernel
theorem dX1_ready_68 : decode cX1_ready 68 = .ok (.goto (-61), 3) := by decide +kernel
theorem dX1_ready_71 : decode cX1_ready 71 = .ok (.iconst 0, 1) := by decide +kernel
theorem dX1_ready_72 : decode cX1_ready 72 = .ok (.istore_n 1, 1) := by decide +kernel
theorem dX1_ready_73 : decode cX1_ready 73 = .ok (.iload_n 1, 1) := by decide +kernel
theorem dX1_ready_74 : decode cX1_ready 74 = .ok (.sipush 132, 3) := by decide +kernel
theorem dX1_ready_77 : decode cX1_ready 77 = .ok (.if_icmp .ge 62, 3) := by decide +kernel
theorem dX1_ready_80 : decode cX1_ready 80 = .ok (.aload_n 0, 1) := by decide +kernel
theorem dX1_ready_81 : decode cX1_ready 81 = .ok (.getfield 13, 3) := by decide +kernel
theorem dX1_ready_84 : decode cX1_ready 84 = .ok (.iload_n 1, 1) := by decide +kernel
theorem dX1_ready_85 : decode cX1_ready 85 = .ok (.bipush 8, 2) := by decide +kernel
theorem dX1_ready_87 : decode cX1_ready 87 = .ok (.iadd, 1) := by decide +kernel
theorem dX1_ready_88 : decode cX1_ready 88 = .ok (.aload_n 0, 1) := by decide +kernel
theorem dX1_ready_89 : decode cX1_ready 89 = .ok (.getfield 13, 3) := by decide +kernel
theorem dX1_ready_92 : decode cX1_ready 92 = .ok (.iload_n 1, 1) := by decide +kernel
theorem dX1_ready_93 : decode cX1_ready 93 = .ok (.iaload, 1) := by decide +kernel
theorem dX1_ready_94 : decode cX1_ready 94 = .ok (.aload_n 0, 1) := by decide +kernel
theorem dX1_ready_95 : decode cX1_ready 95 = .ok (.getfield 13, 3) := by decide +kernel
theorem dX1_ready_98 : decode cX1_ready 98 = .ok (.iload_n 1, 1) := by decide +kernel
theorem dX1_ready_99 : decode cX1_ready 99 = .ok (.iconst 3, 1) := by decide +kernel
theorem dX1_ready_100 : decode cX1_ready 100 = .ok (.iadd, 1) := by decide +kernel
theorem dX1_ready_101 : decode cX1_ready 101 = .ok (.iaload, 1) := by decide +kernel
theorem dX1_ready_102 : decode cX1_ready 102 = .ok (.ixor, 1) := by decide +kernel
theorem dX1_ready_103 : decode cX1_ready 103 = .ok (.aload_n 0, 1) := by decide +kernel
theorem dX1_ready_104 : decode cX1_ready 104 = .ok (.getfield 13, 3) := by decide +kernel
theorem dX1_ready_107 : decode cX1_ready 107 = .ok (.iload_n 1, 1) := by decide +kernel
theorem dX1_ready_108 : decode cX1_ready 108 = .ok (.iconst 5, 1) := by decide +kernel
theorem dX1_ready_109 : decode cX1_ready 109 = .ok (.iadd, 1) := by decide +kernel
theorem dX1_ready_110 : decode cX1_ready 110 = .ok (.iaload, 1) := by decide +kernel
theorem dX1_ready_111 : decode cX1_ready 111 = .ok (.ixor, 1) := by decide +kernel
theorem dX1_ready_112 : decode cX1_ready 112 = .ok (.aload_n 0, 1) := by decide +kernel
theorem dX1_ready_113 : decode cX1_ready 113 = .ok (.getfield 13, 3) := by decide +kernel
theorem dX1_ready_116 : decode cX1_ready 116 = .ok (.iload_n 1, 1) := by decide +kernel
theorem dX1_ready_117 : decode cX1_ready 117 = .ok (.bipush 7, 2) := by decide +kernel
theorem dX1_ready_119 : decode cX1_ready 119 = .ok (.iadd, 1) := by decide +kernel
theorem dX1_ready_120 : decode cX1_ready 120 = .ok (.iaload, 1) := by decide +kernel
theorem dX1_ready_121 : decode cX1_ready 121 = .ok (.ixor, 1) := by decide +kernel
theorem dX1_ready_122 : decode cX1_ready 122 = .ok (.ldc 70, 2) := by decide +kernel
theorem dX1_ready_124 : decode cX1_ready 124 = .ok (.ixor, 1) := by decide +kernel
theorem dX1_ready_125 : decode cX1_ready 125 = .ok (.iload_n 1, 1) := by decide +kernel
theorem dX1_ready_126 : decode cX1_ready 126 = .ok (.ixor, 1) := by decide +kernel
theorem dX1_ready_127 : decode cX1_ready 127 = .ok (.bipush 11, 2) := by decide +kernel
theorem dX1_ready_129 : decode cX1_ready 129 = .ok (.invokestatic 48, 3) := by decide +kernel
theorem dX1_ready_132 : decode cX1_ready 132 = .ok (.iastore, 1) := by decide +kernel
theorem dX1_ready_133 : decode cX1_ready 133 = .ok (.iinc 1 1, 3) := by decide +kernel
theorem dX1_ready_136 : decode cX1_ready 136 = .ok (.goto (-63), 3) := by decide +kernel
theorem dX1_ready_139 : decode cX1_ready 139 = .ok (.iconst 0, 1) := by decide +kernel
theorem dX1_ready_140 : decode cX1_ready 140 = .ok (.istore_n 1, 1) := by decide +kernel
theorem dX1_ready_141 : decode cX1_ready 141 = .ok (.iload_n 1, 1) := by decide +kernel
theorem dX1_ready_142 : decode cX1_ready 142 = .ok (.bipush 33, 2) := by decide +kernel
theorem dX1_ready_144 : decode cX1_ready 144 = .ok (.if_icmp .ge 82, 3) := by decide +kernel
theorem dX1_ready_147 : decode cX1_ready 147 = .ok (.iconst 0, 1) := by decide +kernel
theorem dX1_ready_148 : decode cX1_ready 148 = .ok (.istore_n 2, 1) := by decide +kernel
theorem dX1_ready_149 : decode cX1_ready 149 = .ok (.iload_n 2, 1) := by decide +kernel
theorem dX1_ready_150 : decode cX1_ready 150 = .ok (.iconst 4, 1) := by decide +kernel
theorem dX1_ready_151 : decode cX1_ready 151 = .ok (.if_icmp .ge 28, 3) := by decide +kernel
theorem dX1_ready_154 : decode cX1_ready 154 = .ok (.aload_n 0, 1) := by decide +kernel
theorem dX1_ready_155 : decode cX1_ready 155 = .ok (.getfield 28, 3) := by decide +kernel
theorem dX1_ready_158 : decode cX1_ready 158 = .ok (.iload_n 2, 1) := by decide +kernel
theorem dX1_ready_159 : decode cX1_ready 159 = .ok (.aload_n 0, 1) := by decide +kernel
theorem dX1_ready_160 : decode cX1_ready 160 = .ok (.getfield 13, 3) := by decide +kernel
theorem dX1_ready_163 : decode cX1_ready 163 = .ok (.bipush 8, 2) := by decide +kernel
theorem dX1_ready_165 : decode cX1_ready 165 = .ok (.iconst 4, 1) := by decide +kernel
theorem dX1_ready_166 : decode cX1_ready 166 = .ok (.iload_n 1, 1) := by decide +kernel
theorem dX1_ready_167 : decode cX1_ready 167 = .ok (.imul, 1) := by decide +kernel
theorem dX1_ready_168 : decode cX1_ready 168 = .ok (.iadd, 1) := by decide +kernel
theorem dX1_ready_169 : decode cX1_ready 169 = .ok (.iload_n 2, 1) := by decide +kernel
theorem dX1_ready_170 : decode cX1_ready 170 = .ok (.iadd, 1) := by decide +kernel
theorem dX1_ready_171 : decode cX1_ready 171 = .ok (.iaload, 1) := by decide +kernel
theorem dX1_ready_172 : decode cX1_ready 172 = .ok (.iastore, 1) := by decide +kernel
theorem dX1_ready_173 : decode cX1_ready 173 = .ok (.iinc 2 1, 3) := by decide +kernel
theorem dX1_ready_176 : decode cX1_ready 176 = .ok (.goto (-27), 3) := by decide +kernel
theorem dX1_ready_179 : decode cX1_ready 179 = .ok (.aload_n 0, 1) := by decide +kernel
theorem dX1_ready_180 : decode cX1_ready 180 = .ok (.bipush 35, 2) := by decide +kernel
theorem dX1_ready_182 : decode cX1_ready 182 = .ok (.iload_n 1, 1) := by decide +kernel
theorem dX1_ready_183 : decode cX1_ready 183 = .ok (.isub, 1) := by decide +kernel
theorem dX1_ready_184 : decode cX1_ready 184 = .ok (.bipush 8, 2) := by decide +kernel
theorem dX1_ready_186 : decode cX1_ready 186 = .ok (.irem, 1) := by decide +kernel
theorem dX1_ready_187 : decode cX1_ready 187 = .ok (.iconst 0, 1) := by decide +kernel
theorem dX1_ready_188 : decode cX1_ready 188 = .ok (.invokevirtual 71, 3) := by decide +kernel
theorem dX1_ready_191 : decode cX1_ready 191 = .ok (.iconst 0, 1) := by decide +kernel
theorem dX1_ready_192 : decode cX1_ready 192 = .ok (.istore_n 2, 1) := by decide +kernel
theorem dX1_ready_193 : decode cX1_ready 193 = .ok (.iload_n 2, 1) := by decide +kernel
theorem dX1_ready_194 : decode cX1_ready 194 = .ok (.iconst 4, 1) := by decide +kernel
theorem dX1_ready_195 : decode cX1_ready 195 = .ok (.if_icmp .ge 25, 3) := by decide +kernel
theorem dX1_ready_198 : decode cX1_ready 198 = .ok (.aload_n 0, 1) := by decide +kernel
theorem dX1_ready_199 : decode cX1_ready 199 = .ok (.getfield 16, 3) := by decide +kernel
theorem dX1_ready_202 : decode cX1_ready 202 = .ok (.iconst 4, 1) := by decide +kernel
theorem dX1_ready_203 : decode cX1_ready 203 = .ok (.iload_n 1, 1) := by decide +kernel
theorem dX1_ready_204 : decode cX1_ready 204 = .ok (.imul, 1) := by decide +kernel
theorem dX1_ready_205 : decode cX1_ready 205 = .ok (.iload_n 2, 1) := by decide +kernel
theorem dX1_ready_206 : decode cX1_ready 206 = .ok (.iadd, 1) := by decide +kernel
theorem dX1_ready_207 : decode cX1_ready 207 = .ok (.aload_n 0, 1) := by decide +kernel
theorem dX1_ready_208 : decode cX1_ready 208 = .ok (.getfield 28, 3) := by decide +kernel
theorem dX1_ready_211 : decode cX1_ready 211 = .ok (.iload_n 2, 1) := by decide +kernel
theorem dX1_ready_212 : decode cX1_ready 212 = .ok (.iaload, 1) := by decide +kernel
theorem dX1_ready_213 : decode cX1_ready 213 = .ok (.iastore, 1) := by decide +kernel
theorem dX1_ready_214 : decode cX1_ready 214 = .ok (.iinc 2 1, 3) := by decide +kernel
theorem dX1_ready_217 : decode cX1_ready 217 = .ok (.goto (-24), 3) := by decide +kernel
theorem dX1_ready_220 : decode cX1_ready 220 = .ok (.iinc 1 1, 3) := by decide +kernel
theorem dX1_ready_223 : decode cX1_ready 223 = .ok (.goto (-82), 3) := by decide +kernel
theorem dX1_ready_226 : decode cX1_ready 226 = .ok (.aload_n 0, 1) := by decide +kernel
theorem dX1_ready_227 : decode cX1_ready 227 = .ok (.iconst 1, 1) := by decide +kernel
theorem dX1_ready_228 : decode cX1_ready 228 = .ok (.putfield 59, 3) := by decide +kernel
theorem dX1_ready_231 : decode cX1_ready 231 = .ok (.return_, 1) := by decide +kernel
theorem dX1_round_0 : decode cX1_round 0 = .ok (.aload_n 0, 1) := by decide +kernel
theorem dX1_round_1 : decode cX1_round 1 = .ok (.iload_n 1, 1) := by decide +kernel
theorem dX1_round_2 : decode cX1_round 2 = .ok (.iconst 0, 1) := by decide +kernel
theorem dX1_round_3 : decode cX1_round 3 = .ok (.bipush 32, 2) := by decide +kernel
theorem dX1_round_5 : decode cX1_round 5 = .ok (.invokestatic 51, 3) := by decide +kernel
theorem dX1_round_8 : decode cX1_round 8 = .ok (.ifCond .eq 16, 3) := by decide +kernel
theorem dX1_round_11 : decode cX1_round 11 = .ok (.iload_n 2, 1) := by decide +kernel
theorem dX1_round_12 : decode cX1_round 12 = .ok (.iconst 0, 1) := by decide +kernel
theorem dX1_round_13 : decode cX1_round 13 = .ok (.iconst 3, 1) := by decide +kernel
theorem dX1_round_14 : decode cX1_round 14 = .ok (.invokestatic 51, 3) := by decide +kernel
theorem dX1_round_17 : decode cX1_round 17 = .ok (.ifCond .eq 7, 3) := by decide +kernel
theorem dX1_round_20 : decode cX1_round 20 = .ok (.iconst 1, 1) := by decide +kernel
theorem dX1_round_21 : decode cX1_round 21 = .ok (.goto 4, 3) := by decide +kernel
theorem dX1_round_24 : decode cX1_round 24 = .ok (.iconst 0, 1) := by decide +kernel
theorem dX1_round_25 : decode cX1_round 25 = .ok (.aload_n 0, 1) := by decide +kernel
theorem dX1_round_26 : decode cX1_round 26 = .ok (.getfield 59, 3) := by decide +kernel
theorem dX1_round_29 : decode cX1_round 29 = .ok (.invokevirtual 55, 3) := by decide +kernel
theorem dX1_round_32 : decode cX1_round 32 = .ok (.ifCond .eq 16, 3) := by decide +kernel
theorem dX1_round_35 : decode cX1_round 35 = .ok (.aload_n 0, 1) := by decide +kernel
theorem dX1_round_36 : decode cX1_round 36 = .ok (.getfield 16, 3) := by decide +kernel
theorem dX1_round_39 : decode cX1_round 39 = .ok (.iconst 4, 1) := by decide +kernel
theorem dX1_round_40 : decode cX1_round 40 = .ok (.iload_n 1, 1) := by decide +kernel
theorem dX1_round_41 : decode cX1_round 41 = .ok (.imul, 1) := by decide +kernel
theorem dX1_round_42 : decode cX1_round 42 = .ok (.iload_n 2, 1) := by decide +kernel
theorem dX1_round_43 : decode cX1_round 43 = .ok (.iadd, 1) := by decide +kernel
theorem dX1_round_44 : decode cX1_round 44 = .ok (.iaload, 1) := by decide +kernel
theorem dX1_round_45 : decode cX1_round 45 = .ok (.goto 4, 3) := by decide +kernel
theorem dX1_round_48 : decode cX1_round 48 = .ok (.iconst 0, 1) := by decide +kernel
theorem dX1_round_49 : decode cX1_round 49 = .ok (.ireturn, 1) := by decide +kernel
theorem dX1_box_0 : decode cX1_box 0 = .ok (.aload_n 0, 1) := by decide +kernel
theorem dX1_box_1 : decode cX1_box 1 = .ok (.iload_n 1, 1) := by decide +kernel
theorem dX1_box_2 : decode cX1_box 2 = .ok (.iconst 0, 1) := by decide +kernel
theorem dX1_box_3 : decode cX1_box 3 = .ok (.bipush 7, 2) := by decide +kernel
theorem dX1_box_5 : decode cX1_box 5 = .ok (.invokestatic 51, 3) := by decide +kernel
theorem dX1_box_8 : decode cX1_box 8 = .ok (.iload_n 2, 1) := by decide +kernel
theorem dX1_box_9 : decode cX1_box 9 = .ok (.iconst 0, 1) := by decide +kernel
theorem dX1_box_10 : decode cX1_box 10 = .ok (.bipush 15, 2) := by decide +kernel
theorem dX1_box_12 : decode cX1_box 12 = .ok (.invokestatic 51, 3) := by decide +kernel
theorem dX1_box_15 : decode cX1_box 15 = .ok (.invokevirtual 55, 3) := by decide +kernel
theorem dX1_box_18 : decode cX1_box 18 = .ok (.ifCond .ne 5, 3) := by decide +kernel
theorem dX1_box_21 : decode cX1_box 21 = .ok (.iconst 0, 1) := by decide +kernel
theorem dX1_box_22 : decode cX1_box 22 = .ok (.ireturn, 1) := by decide +kernel
theorem dX1_box_23 : decode cX1_box 23 = .ok (.iload_n 3, 1) := by decide +kernel
theorem dX1_box_24 : decode cX1_box 24 = .ok (.ifCond .eq 12, 3) := by decide +kernel
theorem dX1_box_27 : decode cX1_box 27 = .ok (.aload_n 0, 1) := by decide +kernel
theorem dX1_box_28 : decode cX1_box 28 = .ok (.iload_n 1, 1) := by decide +kernel
theorem dX1_box_29 : decode cX1_box 29 = .ok (.iload_n 2, 1) := by decide +kernel
theorem dX1_box_30 : decode cX1_box 30 = .ok (.invokevirtual 44, 3) := by decide +kernel
theorem dX1_box_33 : decode cX1_box 33 = .ok (.goto 14, 3) := by decide +kernel
theorem dX1_box_36 : decode cX1_box 36 = .ok (.aload_n 0, 1) := by decide +kernel
theorem dX1_box_37 : decode cX1_box 37 = .ok (.getfield 25, 3) := by decide +kernel
theorem dX1_box_40 : decode cX1_box 40 = .ok (.bipush 16, 2) := by decide +kernel
theorem dX1_box_42 : decode cX1_box 42 = .ok (.iload_n 1, 1) := by decide +kernel
theorem dX1_box_43 : decode cX1_box 43 = .ok (.imul, 1) := by decide +kernel
theorem dX1_box_44 : decode cX1_box 44 = .ok (.iload_n 2, 1) := by decide +kernel
theorem dX1_box_45 : decode cX1_box 45 = .ok (.iadd, 1) := by decide +kernel
theorem dX1_box_46 : decode cX1_box 46 = .ok (.iaload, 1) := by decide +kernel
theorem dX1_box_47 : decode cX1_box 47 = .ok (.ireturn, 1) := by decide +kernel
theorem dX1_start_0 : decode cX1_start 0 = .ok (.aload_n 0, 1) := by decide +kernel
theorem dX1_start_1 : decode cX1_start 1 = .ok (.iload_n 1, 1) := by decide +kernel
theorem dX1_start_2 : decode cX1_start 2 = .ok (.iconst 0, 1) := by decide +kernel
theorem dX1_start_3 : decode cX1_start 3 = .ok (.iconst 3, 1) := by decide +kernel
theorem dX1_start_4 : decode cX1_start 4 = .ok (.invokestatic 51, 3) := by decide +kernel
theorem dX1_start_7 : decode cX1_start 7 = .ok (.iconst 1, 1) := by decide +kernel
theorem dX1_start_8 : decode cX1_start 8 = .ok (.invokevirtual 55, 3) := by decide +kernel
theorem dX1_start_11 : decode cX1_start 11 = .ok (.ifCond .eq 10, 3) := by decide +kernel
theorem dX1_start_14 : decode cX1_start 14 = .ok (.aload_n 0, 1) := by decide +kernel
theorem dX1_start_15 : decode cX1_start 15 = .ok (.getfield 19, 3) := by decide +kernel
theorem dX1_start_18 : decode cX1_start 18 = .ok (.iload_n 1, 1) := by decide +kernel
theorem dX1_start_19 : decode cX1_start 19 = .ok (.iload_n 2, 1) := by decide +kernel
theorem dX1_start_20 : decode cX1_start 20 = .ok (.iastore, 1) := by decide +kernel
theorem dX1_start_21 : decode cX1_start 21 = .ok (.return_, 1) := by decide +kernel
theorem dX1_put_0 : decode cX1_put 0 = .ok (.aload_n 0, 1) := by decide +kernel
theorem dX1_put_1 : decode cX1_put 1 = .ok (.aload_n 0, 1) := by decide +kernel
theorem dX1_put_2 : decode cX1_put 2 = .ok (.getfield 37, 3) := by decide +kernel
theorem dX1_put_5 : decode cX1_put 5 = .ok (.sipush 252, 3) := by decide +kernel
theorem dX1_put_8 : decode cX1_put 8 = .ok (.if_icmp .gt 7, 3) := by decide +kernel
theorem dX1_put_11 : decode cX1_put 11 = .ok (.iconst 1, 1) := by decide +kernel
theorem dX1_put_12 : decode cX1_put 12 = .ok (.goto 4, 3) := by decide +kernel
theorem dX1_put_15 : decode cX1_put 15 = .ok (.iconst 0, 1) := by decide +kernel
theorem dX1_put_16 : decode cX1_put 16 = .ok (.iconst 1, 1) := by decide +kernel
theorem dX1_put_17 : decode cX1_put 17 = .ok (.invokevirtual 55, 3) := by decide +kernel
theorem dX1_put_20 : decode cX1_put 20 = .ok (.ifCond .ne 5, 3) := by decide +kernel
theorem dX1_put_23 : decode cX1_put 23 = .ok (.iconst 0, 1) := by decide +kernel
theorem dX1_put_24 : decode cX1_put 24 = .ok (.ireturn, 1) := by decide +kernel
theorem dX1_put_25 : decode cX1_put 25 = .ok (.aload_n 0, 1) := by decide +kernel
theorem dX1_put_26 : decode cX1_put 26 = .ok (.getfield 22, 3) := by decide +kernel
theorem dX1_put_29 : decode cX1_put 29 = .ok (.aload_n 0, 1) := by decide +kernel
theorem dX1_put_30 : decode cX1_put 30 = .ok (.getfield 37, 3) := by decide +kernel
theorem dX1_put_33 : decode cX1_put 33 = .ok (.iload_n 1, 1) := by decide +kernel
theorem dX1_put_34 : decode cX1_put 34 = .ok (.iastore, 1) := by decide +kernel
theorem dX1_put_35 : decode cX1_put 35 = .ok (.aload_n 0, 1) := by decide +kernel
theorem dX1_put_36 : decode cX1_put 36 = .ok (.getfield 22, 3) := by decide +kernel
theorem dX1_put_39 : decode cX1_put 39 = .ok (.aload_n 0, 1) := by decide +kernel
theorem dX1_put_40 : decode cX1_put 40 = .ok (.getfield 37, 3) := by decide +kernel
theorem dX1_put_43 : decode cX1_put 43 = .ok (.iconst 1, 1) := by decide +kernel
theorem dX1_put_44 : decode cX1_put 44 = .ok (.iadd, 1) := by decide +kernel
theorem dX1_put_45 : decode cX1_put 45 = .ok (.iload_n 2, 1) := by decide +kernel
theorem dX1_put_46 : decode cX1_put 46 = .ok (.iastore, 1) := by decide +kernel
theorem dX1_put_47 : decode cX1_put 47 = .ok (.aload_n 0, 1) := by decide +kernel
theorem dX1_put_48 : decode cX1_put 48 = .ok (.getfield 22, 3) := by decide +kernel
theorem dX1_put_51 : decode cX1_put 51 = .ok (.aload_n 0, 1) := by decide +kernel
theorem dX1_put_52 : decode cX1_put 52 = .ok (.getfield 37, 3) := by decide +kernel
theorem dX1_put_55 : decode cX1_put 55 = .ok (.iconst 2, 1) := by decide +kernel
theorem dX1_put_56 : decode cX1_put 56 = .ok (.iadd, 1) := by decide +kernel
theorem dX1_put_57 : decode cX1_put 57 = .ok (.iload_n 3, 1) := by decide +kernel
theorem dX1_put_58 : decode cX1_put 58 = .ok (.iastore, 1) := by decide +kernel
theorem dX1_put_59 : decode cX1_put 59 = .ok (.aload_n 0, 1) := by decide +kernel
theorem dX1_put_60 : decode cX1_put 60 = .ok (.getfield 22, 3) := by decide +kernel
theorem dX1_put_63 : decode cX1_put 63 = .ok (.aload_n 0, 1) := by decide +kernel
theorem dX1_put_64 : decode cX1_put 64 = .ok (.getfield 37, 3) := by decide +kernel
theorem dX1_put_67 : decode cX1_put 67 = .ok (.iconst 3, 1) := by decide +kernel
theorem dX1_put_68 : decode cX1_put 68 = .ok (.iadd, 1) := by decide +kernel
theorem dX1_put_69 : decode cX1_put 69 = .ok (.iload 4, 2) := by decide +kernel
theorem dX1_put_71 : decode cX1_put 71 = .ok (.iastore, 1) := by decide +kernel
theorem dX1_put_72 : decode cX1_put 72 = .ok (.aload_n 0, 1) := by decide +kernel
theorem dX1_put_73 : decode cX1_put 73 = .ok (.aload_n 0, 1) := by decide +kernel
theorem dX1_put_74 : decode cX1_put 74 = .ok (.getfield 37, 3) := by decide +kernel
theorem dX1_put_77 : decode cX1_put 77 = .ok (.iconst 4, 1) := by decide +kernel
theorem dX1_put_78 : decode cX1_put 78 = .ok (.iadd, 1) := by decide +kernel
theorem dX1_put_79 : decode cX1_put 79 = .ok (.putfield 37, 3) := by decide +kernel
theorem dX1_put_82 : decode cX1_put 82 = .ok (.aload_n 0, 1) := by decide +kernel
theorem dX1_put_83 : decode cX1_put 83 = .ok (.getfield 37, 3) := by decide +kernel
theorem dX1_put_86 : decode cX1_put 86 = .ok (.ireturn, 1) := by decide +kernel
theorem dX1_cut_0 : decode cX1_cut 0 = .ok (.aload_n 0, 1) := by decide +kernel
theorem dX1_cut_1 : decode cX1_cut 1 = .ok (.iload_n 1, 1) := by decide +kernel
theorem dX1_cut_2 : decode cX1_cut 2 = .ok (.iconst 0, 1) := by decide +kernel
theorem dX1_cut_3 : decode cX1_cut 3 = .ok (.aload_n 0, 1) := by decide +kernel
theorem dX1_cut_4 : decode cX1_cut 4 = .ok (.getfield 37, 3) := by decide +kernel
theorem dX1_cut_7 : decode cX1_cut 7 = .ok (.invokestatic 51, 3) := by decide +kernel
theorem dX1_cut_10 : decode cX1_cut 10 = .ok (.iconst 1, 1) := by decide +kernel
theorem dX1_cut_11 : decode cX1_cut 11 = .ok (.invokevirtual 55, 3) := by decide +kernel
theorem dX1_cut_14 : decode cX1_cut 14 = .ok (.ifCond .ne 5, 3) := by decide +kernel
theorem dX1_cut_17 : decode cX1_cut 17 = .ok (.iconst 0, 1) := by decide +kernel
theorem dX1_cut_18 : decode cX1_cut 18 = .ok (.ireturn, 1) := by decide +kernel
theorem dX1_cut_19 : decode cX1_cut 19 = .ok (.aload_n 0, 1) := by decide +kernel
theorem dX1_cut_20 : decode cX1_cut 20 = .ok (.iload_n 1, 1) := by decide +kernel
theorem dX1_cut_21 : decode cX1_cut 21 = .ok (.putfield 37, 3) := by decide +kernel
theorem dX1_cut_24 : decode cX1_cut 24 = .ok (.iload_n 1, 1) := by decide +kernel
theorem dX1_cut_25 : decode cX1_cut 25 = .ok (.ireturn, 1) := by decide +kernel
theorem dX1_word_0 : decode cX1_word 0 = .ok (.aload_n 0, 1) := by decide +kernel
theorem dX1_word_1 : decode cX1_word 1 = .ok (.iload_n 1, 1) := by decide +kernel
theorem dX1_word_2 : decode cX1_word 2 = .ok (.iconst 0, 1) := by decide +kernel
theorem dX1_word_3 : decode cX1_word 3 = .ok (.aload_n 0, 1) := by decide +kernel
theorem dX1_word_4 : decode cX1_word 4 = .ok (.getfield 37, 3) := by decide +kernel
theorem dX1_word_7 : decode cX1_word 7 = .ok (.iconst 1, 1) := by decide +kernel
theorem dX1_word_8 : decode cX1_word 8 = .ok (.isub, 1) := by decide +kernel
theorem dX1_word_9 : decode cX1_word 9 = .ok (.invokestatic 51, 3) := by decide +kernel
theorem dX1_word_12 : decode cX1_word 12 = .ok (.iconst 1, 1) := by decide +kernel
theorem dX1_word_13 : decode cX1_word 13 = .ok (.invokevirtual 55, 3) := by decide +kernel
theorem dX1_word_16 : decode cX1_word 16 = .ok (.ifCond .eq 12, 3) := by decide +kernel
theorem dX1_word_19 : decode cX1_word 19 = .ok (.aload_n 0, 1) := by decide +kernel
theorem dX1_word_20 : decode cX1_word 20 = .ok (.getfield 22, 3) := by decide +kernel
theorem dX1_word_23 : decode cX1_word 23 = .ok (.iload_n 1, 1) := by decide +kernel
theorem dX1_word_24 : decode cX1_word 24 = .ok (.iaload, 1) := by decide +kernel
theorem dX1_word_25 : decode cX1_word 25 = .ok (.goto 4, 3) := by decide +kernel
theorem dX1_word_28 : decode cX1_word 28 = .ok (.iconst 0, 1) := by decide +kernel
theorem dX1_word_29 : decode cX1_word 29 = .ok (.ireturn, 1) := by decide +kernel
theorem dX1_xor_0 : decode cX1_xor 0 = .ok (.iconst 0, 1) := by decide +kernel
theorem dX1_xor_1 : decode cX1_xor 1 = .ok (.istore_n 2, 1) := by decide +kernel
theorem dX1_xor_2 : decode cX1_xor 2 = .ok (.iload_n 2, 1) := by decide +kernel
theorem dX1_xor_3 : decode cX1_xor 3 = .ok (.iconst 4, 1) := by decide +kernel
theorem dX1_xor_4 : decode cX1_xor 4 = .ok (.if_icmp .ge 32, 3) := by decide +kernel
theorem dX1_xor_7 : decode cX1_xor 7 = .ok (.aload_n 0, 1) := by decide +kernel
theorem dX1_xor_8 : decode cX1_xor 8 = .ok (.getfield 28, 3) := by decide +kernel
theorem dX1_xor_11 : decode cX1_xor 11 = .ok (.iload_n 2, 1) := by decide +kernel
theorem dX1_xor_12 : decode cX1_xor 12 = .ok (.aload_n 0, 1) := by decide +kernel
theorem dX1_xor_13 : decode cX1_xor 13 = .ok (.getfield 28, 3) := by decide +kernel
theorem dX1_xor_16 : decode cX1_xor 16 = .ok (.iload_n 2, 1) := by decide +kernel
theorem dX1_xor_17 : decode cX1_xor 17 = .ok (.iaload, 1) := by decide +kernel
theorem dX1_xor_18 : decode cX1_xor 18 = .ok (.aload_n 0, 1) := by decide +kernel
theorem dX1_xor_19 : decode cX1_xor 19 = .ok (.getfield 16, 3) := by decide +kernel
theorem dX1_xor_22 : decode cX1_xor 22 = .ok (.iconst 4, 1) := by decide +kernel
theorem dX1_xor_23 : decode cX1_xor 23 = .ok (.iload_n 1, 1) := by decide +kernel
theorem dX1_xor_24 : decode cX1_xor 24 = .ok (.imul, 1) := by decide +kernel
theorem dX1_xor_25 : decode cX1_xor 25 = .ok (.iload_n 2, 1) := by decide +kernel
theorem dX1_xor_26 : decode cX1_xor 26 = .ok (.iadd, 1) := by decide +kernel
theorem dX1_xor_27 : decode cX1_xor 27 = .ok (.iaload, 1) := by decide +kernel
theorem dX1_xor_28 : decode cX1_xor 28 = .ok (.ixor, 1) := by decide +kernel
theorem dX1_xor_29 : decode cX1_xor 29 = .ok (.iastore, 1) := by decide +kernel
theorem dX1_xor_30 : decode cX1_xor 30 = .ok (.iinc 2 1, 3) := by decide +kernel
theorem dX1_xor_33 : decode cX1_xor 33 = .ok (.goto (-31), 3) := by decide +kernel
theorem dX1_xor_36 : decode cX1_xor 36 = .ok (.return_, 1) := by decide +kernel
theorem dX1_mix_0 : decode cX1_mix 0 = .ok (.aload_n 0, 1) := by decide +kernel
theorem dX1_mix_1 : decode cX1_mix 1 = .ok (.getfield 28, 3) := by decide +kernel
theorem dX1_mix_4 : decode cX1_mix 4 = .ok (.iconst 0, 1) := by decide +kernel
theorem dX1_mix_5 : decode cX1_mix 5 = .ok (.aload_n 0, 1) := by decide +kernel
theorem dX1_mix_6 : decode cX1_mix 6 = .ok (.getfield 28, 3) := by decide +kernel
theorem dX1_mix_9 : decode cX1_mix 9 = .ok (.iconst 0, 1) := by decide +kernel
theorem dX1_mix_10 : decode cX1_mix 10 = .ok (.iaload, 1) := by decide +kernel
theorem dX1_mix_11 : decode cX1_mix 11 = .ok (.bipush 13, 2) := by decide +kernel
theorem dX1_mix_13 : decode cX1_mix 13 = .ok (.invokestatic 48, 3) := by decide +kernel
theorem dX1_mix_16 : decode cX1_mix 16 = .ok (.iastore, 1) := by decide +kernel
theorem dX1_mix_17 : decode cX1_mix 17 = .ok (.aload_n 0, 1) := by decide +kernel
theorem dX1_mix_18 : decode cX1_mix 18 = .ok (.getfield 28, 3) := by decide +kernel
theorem dX1_mix_21 : decode cX1_mix 21 = .ok (.iconst 2, 1) := by decide +kernel
theorem dX1_mix_22 : decode cX1_mix 22 = .ok (.aload_n 0, 1) := by decide +kernel
theorem dX1_mix_23 : decode cX1_mix 23 = .ok (.getfield 28, 3) := by decide +kernel
theorem dX1_mix_26 : decode cX1_mix 26 = .ok (.iconst 2, 1) := by decide +kernel
theorem dX1_mix_27 : decode cX1_mix 27 = .ok (.iaload, 1) := by decide +kernel
theorem dX1_mix_28 : decode cX1_mix 28 = .ok (.iconst 3, 1) := by decide +kernel
theorem dX1_mix_29 : decode cX1_mix 29 = .ok (.invokestatic 48, 3) := by decide +kernel
theorem dX1_mix_32 : decode cX1_mix 32 = .ok (.iastore, 1) := by decide +kernel
theorem dX1_mix_33 : decode cX1_mix 33 = .ok (.aload_n 0, 1) := by decide +kernel
theorem dX1_mix_34 : decode cX1_mix 34 = .ok (.getfield 28, 3) := by decide +kernel
theorem dX1_mix_37 : decode cX1_mix 37 = .ok (.iconst 1, 1) := by decide +kernel
theorem dX1_mix_38 : decode cX1_mix 38 = .ok (.aload_n 0, 1) := by decide +kernel
theorem dX1_mix_39 : decode cX1_mix 39 = .ok (.getfield 28, 3) := by decide +kernel
theorem dX1_mix_42 : decode cX1_mix 42 = .ok (.iconst 1, 1) := by decide +kernel
theorem dX1_mix_43 : decode cX1_mix 43 = .ok (.iaload, 1) := by decide +kernel
theorem dX1_mix_44 : decode cX1_mix 44 = .ok (.aload_n 0, 1) := by decide +kernel
theorem dX1_mix_45 : decode cX1_mix 45 = .ok (.getfield 28, 3) := by decide +kernel
theorem dX1_mix_48 : decode cX1_mix 48 = .ok (.iconst 0, 1) := by decide +kernel
theorem dX1_mix_49 : decode cX1_mix 49 = .ok (.iaload, 1) := by decide +kernel
theorem dX1_mix_50 : decode cX1_mix 50 = .ok (.ixor, 1) := by decide +kernel
theorem dX1_mix_51 : decode cX1_mix 51 = .ok (.aload_n 0, 1) := by decide +kernel
theorem dX1_mix_52 : decode cX1_mix 52 = .ok (.getfield 28, 3) := by decide +kernel
theorem dX1_mix_55 : decode cX1_mix 55 = .ok (.iconst 2, 1) := by decide +kernel
theorem dX1_mix_56 : decode cX1_mix 56 = .ok (.iaload, 1) := by decide +kernel
theorem dX1_mix_57 : decode cX1_mix 57 = .ok (.ixor, 1) := by decide +kernel
theorem dX1_mix_58 : decode cX1_mix 58 = .ok (.iastore, 1) := by decide +kernel
theorem dX1_mix_59 : decode cX1_mix 59 = .ok (.aload_n 0, 1) := by decide +kernel
theorem dX1_mix_60 : decode cX1_mix 60 = .ok (.getfield 28, 3) := by decide +kernel
theorem dX1_mix_63 : decode cX1_mix 63 = .ok (.iconst 3, 1) := by decide +kernel
theorem dX1_mix_64 : decode cX1_mix 64 = .ok (.aload_n 0, 1) := by decide +kernel
theorem dX1_mix_65 : decode cX1_mix 65 = .ok (.getfield 28, 3) := by decide +kernel
theorem dX1_mix_68 : decode cX1_mix 68 = .ok (.iconst 3, 1) := by decide +kernel
theorem dX1_mix_69 : decode cX1_mix 69 = .ok (.iaload, 1) := by decide +kernel
theorem dX1_mix_70 : decode cX1_mix 70 = .ok (.aload_n 0, 1) := by decide +kernel
theorem dX1_mix_71 : decode cX1_mix 71 = .ok (.getfield 28, 3) := by decide +kernel
theorem dX1_mix_74 : decode cX1_mix 74 = .ok (.iconst 2, 1) := by decide +kernel
theorem dX1_mix_75 : decode cX1_mix 75 = .ok (.iaload, 1) := by decide +kernel
theorem dX1_mix_76 : decode cX1_mix 76 = .ok (.ixor, 1) := by decide +kernel
theorem dX1_mix_77 : decode cX1_mix 77 = .ok (.aload_n 0, 1) := by decide +kernel
theorem dX1_mix_78 : decode cX1_mix 78 = .ok (.getfield 28, 3) := by decide +kernel
theorem dX1_mix_81 : decode cX1_mix 81 = .ok (.iconst 0, 1) := by decide +kernel
theorem dX1_mix_82 : decode cX1_mix 82 = .ok (.iaload, 1) := by decide +kernel
theorem dX1_mix_83 : decode cX1_mix 83 = .ok (.bipush 8, 2) := by decide +kernel
theorem dX1_mix_85 : decode cX1_mix 85 = .ok (.imul, 1) := by decide +kernel
theorem dX1_mix_86 : decode cX1_mix 86 = .ok (.ixor, 1) := by decide +kernel
theorem dX1_mix_87 : decode cX1_mix 87 = .ok (.iastore, 1) := by decide +kernel
theorem dX1_mix_88 : decode cX1_mix 88 = .ok (.aload_n 0, 1) := by decide +kernel
theorem dX1_mix_89 : decode cX1_mix 89 = .ok (.getfield 28, 3) := by decide +kernel
theorem dX1_mix_92 : decode cX1_mix 92 = .ok (.iconst 1, 1) := by decide +kernel
theorem dX1_mix_93 : decode cX1_mix 93 = .ok (.aload_n 0, 1) := by decide +kernel
theorem dX1_mix_94 : decode cX1_mix 94 = .ok (.getfield 28, 3) := by decide +kernel
theorem dX1_mix_97 : decode cX1_mix 97 = .ok (.iconst 1, 1) := by decide +kernel
theorem dX1_mix_98 : decode cX1_mix 98 = .ok (.iaload, 1) := by decide +kernel
theorem dX1_mix_99 : decode cX1_mix 99 = .ok (.iconst 1, 1) := by decide +kernel
theorem dX1_mix_100 : decode cX1_mix 100 = .ok (.invokestatic 48, 3) := by decide +kernel
theorem dX1_mix_103 : decode cX1_mix 103 = .ok (.iastore, 1) := by decide +kernel
theorem dX1_mix_104 : decode cX1_mix 104 = .ok (.aload_n 0, 1) := by decide +kernel
theorem dX1_mix_105 : decode cX1_mix 105 = .ok (.getfield 28, 3) := by decide +kernel
theorem dX1_mix_108 : decode cX1_mix 108 = .ok (.iconst 3, 1) := by decide +kernel
theorem dX1_mix_109 : decode cX1_mix 109 = .ok (.aload_n 0, 1) := by decide +kernel
theorem dX1_mix_110 : decode cX1_mix 110 = .ok (.getfield 28, 3) := by decide +kernel
theorem dX1_mix_113 : decode cX1_mix 113 = .ok (.iconst 3, 1) := by decide +kernel
theorem dX1_mix_114 : decode cX1_mix 114 = .ok (.iaload, 1) := by decide +kernel
theorem dX1_mix_115 : decode cX1_mix 115 = .ok (.bipush 7, 2) := by decide +kernel
theorem dX1_mix_117 : decode cX1_mix 117 = .ok (.invokestatic 48, 3) := by decide +kernel
theorem dX1_mix_120 : decode cX1_mix 120 = .ok (.iastore, 1) := by decide +kernel
theorem dX1_mix_121 : decode cX1_mix 121 = .ok (.aload_n 0, 1) := by decide +kernel
theorem dX1_mix_122 : decode cX1_mix 122 = .ok (.getfield 28, 3) := by decide +kernel
theorem dX1_mix_125 : decode cX1_mix 125 = .ok (.iconst 0, 1) := by decide +kernel
theorem dX1_mix_126 : decode cX1_mix 126 = .ok (.aload_n 0, 1) := by decide +kernel
theorem dX1_mix_127 : decode cX1_mix 127 = .ok (.getfield 28, 3) := by decide +kernel
