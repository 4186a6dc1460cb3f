theorem dX0_maskByCounter_25 : decode cX0_maskByCounter 25 = .ok (.getfield 22, 3) := by decide +kernel
theorem dX0_maskByCounter_28 : decode cX0_maskByCounter 28 = .ok (.iconst 0, 1) := by decide +kernel
theorem dX0_maskByCounter_29 : decode cX0_maskByCounter 29 = .ok (.aload_n 0, 1) := by decide +kernel
theorem dX0_maskByCounter_30 : decode cX0_maskByCounter 30 = .ok (.getfield 25, 3) := by decide +kernel
theorem dX0_maskByCounter_33 : decode cX0_maskByCounter 33 = .ok (.iconst 0, 1) := by decide +kernel
theorem dX0_maskByCounter_34 : decode cX0_maskByCounter 34 = .ok (.iconst 4, 1) := by decide +kernel
theorem dX0_maskByCounter_35 : decode cX0_maskByCounter 35 = .ok (.invokestatic 145, 3) := by decide +kernel
theorem dX0_maskByCounter_38 : decode cX0_maskByCounter 38 = .ok (.aload_n 0, 1) := by decide +kernel
theorem dX0_maskByCounter_39 : decode cX0_maskByCounter 39 = .ok (.aload_n 0, 1) := by decide +kernel
theorem dX0_maskByCounter_40 : decode cX0_maskByCounter 40 = .ok (.getfield 25, 3) := by decide +kernel
theorem dX0_maskByCounter_43 : decode cX0_maskByCounter 43 = .ok (.iconst 0, 1) := by decide +kernel
theorem dX0_maskByCounter_44 : decode cX0_maskByCounter 44 = .ok (.invokevirtual 121, 3) := by decide +kernel
theorem dX0_maskByCounter_47 : decode cX0_maskByCounter 47 = .ok (.aload_n 0, 1) := by decide +kernel
theorem dX0_maskByCounter_48 : decode cX0_maskByCounter 48 = .ok (.getfield 19, 3) := by decide +kernel
theorem dX0_maskByCounter_51 : decode cX0_maskByCounter 51 = .ok (.iload_n 1, 1) := by decide +kernel
theorem dX0_maskByCounter_52 : decode cX0_maskByCounter 52 = .ok (.aload_n 0, 1) := by decide +kernel
theorem dX0_maskByCounter_53 : decode cX0_maskByCounter 53 = .ok (.getfield 25, 3) := by decide +kernel
theorem dX0_maskByCounter_56 : decode cX0_maskByCounter 56 = .ok (.iconst 0, 1) := by decide +kernel
theorem dX0_maskByCounter_57 : decode cX0_maskByCounter 57 = .ok (.invokestatic 117, 3) := by decide +kernel
theorem dX0_maskByCounter_60 : decode cX0_maskByCounter 60 = .ok (.aload_n 0, 1) := by decide +kernel
theorem dX0_maskByCounter_61 : decode cX0_maskByCounter 61 = .ok (.invokevirtual 151, 3) := by decide +kernel
theorem dX0_maskByCounter_64 : decode cX0_maskByCounter 64 = .ok (.iinc 1 4, 3) := by decide +kernel
theorem dX0_maskByCounter_67 : decode cX0_maskByCounter 67 = .ok (.goto (-51), 3) := by decide +kernel
theorem dX0_maskByCounter_70 : decode cX0_maskByCounter 70 = .ok (.return_, 1) := by decide +kernel
theorem dX0_countOneMore_0 : decode cX0_countOneMore 0 = .ok (.iconst 0, 1) := by decide +kernel
theorem dX0_countOneMore_1 : decode cX0_countOneMore 1 = .ok (.istore_n 1, 1) := by decide +kernel
theorem dX0_countOneMore_2 : decode cX0_countOneMore 2 = .ok (.iload_n 1, 1) := by decide +kernel
theorem dX0_countOneMore_3 : decode cX0_countOneMore 3 = .ok (.iconst 4, 1) := by decide +kernel
theorem dX0_countOneMore_4 : decode cX0_countOneMore 4 = .ok (.if_icmp .ge 31, 3) := by decide +kernel
theorem dX0_countOneMore_7 : decode cX0_countOneMore 7 = .ok (.aload_n 0, 1) := by decide +kernel
theorem dX0_countOneMore_8 : decode cX0_countOneMore 8 = .ok (.getfield 22, 3) := by decide +kernel
theorem dX0_countOneMore_11 : decode cX0_countOneMore 11 = .ok (.iload_n 1, 1) := by decide +kernel
theorem dX0_countOneMore_12 : decode cX0_countOneMore 12 = .ok (.dup2, 1) := by decide +kernel
theorem dX0_countOneMore_13 : decode cX0_countOneMore 13 = .ok (.iaload, 1) := by decide +kernel
theorem dX0_countOneMore_14 : decode cX0_countOneMore 14 = .ok (.iconst 1, 1) := by decide +kernel
theorem dX0_countOneMore_15 : decode cX0_countOneMore 15 = .ok (.iadd, 1) := by decide +kernel
theorem dX0_countOneMore_16 : decode cX0_countOneMore 16 = .ok (.iastore, 1) := by decide +kernel
theorem dX0_countOneMore_17 : decode cX0_countOneMore 17 = .ok (.aload_n 0, 1) := by decide +kernel
theorem dX0_countOneMore_18 : decode cX0_countOneMore 18 = .ok (.getfield 22, 3) := by decide +kernel
theorem dX0_countOneMore_21 : decode cX0_countOneMore 21 = .ok (.iload_n 1, 1) := by decide +kernel
theorem dX0_countOneMore_22 : decode cX0_countOneMore 22 = .ok (.iaload, 1) := by decide +kernel
theorem dX0_countOneMore_23 : decode cX0_countOneMore 23 = .ok (.ifCond .eq 6, 3) := by decide +kernel
theorem dX0_countOneMore_26 : decode cX0_countOneMore 26 = .ok (.goto 9, 3) := by decide +kernel
theorem dX0_countOneMore_29 : decode cX0_countOneMore 29 = .ok (.iinc 1 1, 3) := by decide +kernel
theorem dX0_countOneMore_32 : decode cX0_countOneMore 32 = .ok (.goto (-30), 3) := by decide +kernel
theorem dX0_countOneMore_35 : decode cX0_countOneMore 35 = .ok (.return_, 1) := by decide +kernel
theorem dX0_encipher_0 : decode cX0_encipher 0 = .ok (.iconst 0, 1) := by decide +kernel
theorem dX0_encipher_1 : decode cX0_encipher 1 = .ok (.istore_n 3, 1) := by decide +kernel
theorem dX0_encipher_2 : decode cX0_encipher 2 = .ok (.iload_n 3, 1) := by decide +kernel
theorem dX0_encipher_3 : decode cX0_encipher 3 = .ok (.bipush 32, 2) := by decide +kernel
theorem dX0_encipher_5 : decode cX0_encipher 5 = .ok (.if_icmp .ge 43, 3) := by decide +kernel
theorem dX0_encipher_8 : decode cX0_encipher 8 = .ok (.aload_n 1, 1) := by decide +kernel
theorem dX0_encipher_9 : decode cX0_encipher 9 = .ok (.iload_n 2, 1) := by decide +kernel
theorem dX0_encipher_10 : decode cX0_encipher 10 = .ok (.aload_n 0, 1) := by decide +kernel
theorem dX0_encipher_11 : decode cX0_encipher 11 = .ok (.getfield 13, 3) := by decide +kernel
theorem dX0_encipher_14 : decode cX0_encipher 14 = .ok (.iload_n 3, 1) := by decide +kernel
theorem dX0_encipher_15 : decode cX0_encipher 15 = .ok (.invokestatic 58, 3) := by decide +kernel
theorem dX0_encipher_18 : decode cX0_encipher 18 = .ok (.invokestatic 117, 3) := by decide +kernel
theorem dX0_encipher_21 : decode cX0_encipher 21 = .ok (.aload_n 1, 1) := by decide +kernel
theorem dX0_encipher_22 : decode cX0_encipher 22 = .ok (.iload_n 2, 1) := by decide +kernel
theorem dX0_encipher_23 : decode cX0_encipher 23 = .ok (.iload_n 3, 1) := by decide +kernel
theorem dX0_encipher_24 : decode cX0_encipher 24 = .ok (.bipush 8, 2) := by decide +kernel
theorem dX0_encipher_26 : decode cX0_encipher 26 = .ok (.irem, 1) := by decide +kernel
theorem dX0_encipher_27 : decode cX0_encipher 27 = .ok (.iconst 0, 1) := by decide +kernel
theorem dX0_encipher_28 : decode cX0_encipher 28 = .ok (.invokestatic 67, 3) := by decide +kernel
theorem dX0_encipher_31 : decode cX0_encipher 31 = .ok (.iload_n 3, 1) := by decide +kernel
theorem dX0_encipher_32 : decode cX0_encipher 32 = .ok (.bipush 31, 2) := by decide +kernel
theorem dX0_encipher_34 : decode cX0_encipher 34 = .ok (.if_icmp .ge 8, 3) := by decide +kernel
theorem dX0_encipher_37 : decode cX0_encipher 37 = .ok (.aload_n 1, 1) := by decide +kernel
theorem dX0_encipher_38 : decode cX0_encipher 38 = .ok (.iload_n 2, 1) := by decide +kernel
theorem dX0_encipher_39 : decode cX0_encipher 39 = .ok (.invokestatic 154, 3) := by decide +kernel
theorem dX0_encipher_42 : decode cX0_encipher 42 = .ok (.iinc 3 1, 3) := by decide +kernel
theorem dX0_encipher_45 : decode cX0_encipher 45 = .ok (.goto (-43), 3) := by decide +kernel
theorem dX0_encipher_48 : decode cX0_encipher 48 = .ok (.aload_n 1, 1) := by decide +kernel
theorem dX0_encipher_49 : decode cX0_encipher 49 = .ok (.iload_n 2, 1) := by decide +kernel
theorem dX0_encipher_50 : decode cX0_encipher 50 = .ok (.aload_n 0, 1) := by decide +kernel
theorem dX0_encipher_51 : decode cX0_encipher 51 = .ok (.getfield 13, 3) := by decide +kernel
theorem dX0_encipher_54 : decode cX0_encipher 54 = .ok (.bipush 32, 2) := by decide +kernel
theorem dX0_encipher_56 : decode cX0_encipher 56 = .ok (.invokestatic 58, 3) := by decide +kernel
theorem dX0_encipher_59 : decode cX0_encipher 59 = .ok (.invokestatic 117, 3) := by decide +kernel
theorem dX0_encipher_62 : decode cX0_encipher 62 = .ok (.return_, 1) := by decide +kernel
theorem dX0_decipher_0 : decode cX0_decipher 0 = .ok (.aload_n 1, 1) := by decide +kernel
theorem dX0_decipher_1 : decode cX0_decipher 1 = .ok (.iload_n 2, 1) := by decide +kernel
theorem dX0_decipher_2 : decode cX0_decipher 2 = .ok (.aload_n 0, 1) := by decide +kernel
theorem dX0_decipher_3 : decode cX0_decipher 3 = .ok (.getfield 13, 3) := by decide +kernel
theorem dX0_decipher_6 : decode cX0_decipher 6 = .ok (.bipush 32, 2) := by decide +kernel
theorem dX0_decipher_8 : decode cX0_decipher 8 = .ok (.invokestatic 58, 3) := by decide +kernel
theorem dX0_decipher_11 : decode cX0_decipher 11 = .ok (.invokestatic 117, 3) := by decide +kernel
theorem dX0_decipher_14 : decode cX0_decipher 14 = .ok (.bipush 31, 2) := by decide +kernel
theorem dX0_decipher_16 : decode cX0_decipher 16 = .ok (.istore_n 3, 1) := by decide +kernel
theorem dX0_decipher_17 : decode cX0_decipher 17 = .ok (.iload_n 3, 1) := by decide +kernel
theorem dX0_decipher_18 : decode cX0_decipher 18 = .ok (.ifCond .lt 43, 3) := by decide +kernel
theorem dX0_decipher_21 : decode cX0_decipher 21 = .ok (.iload_n 3, 1) := by decide +kernel
theorem dX0_decipher_22 : decode cX0_decipher 22 = .ok (.bipush 31, 2) := by decide +kernel
theorem dX0_decipher_24 : decode cX0_decipher 24 = .ok (.if_icmp .ge 8, 3) := by decide +kernel
theorem dX0_decipher_27 : decode cX0_decipher 27 = .ok (.aload_n 1, 1) := by decide +kernel
theorem dX0_decipher_28 : decode cX0_decipher 28 = .ok (.iload_n 2, 1) := by decide +kernel
theorem dX0_decipher_29 : decode cX0_decipher 29 = .ok (.invokestatic 157, 3) := by decide +kernel
theorem dX0_decipher_32 : decode cX0_decipher 32 = .ok (.aload_n 1, 1) := by decide +kernel
theorem dX0_decipher_33 : decode cX0_decipher 33 = .ok (.iload_n 2, 1) := by decide +kernel
theorem dX0_decipher_34 : decode cX0_decipher 34 = .ok (.iload_n 3, 1) := by decide +kernel
theorem dX0_decipher_35 : decode cX0_decipher 35 = .ok (.bipush 8, 2) := by decide +kernel
theorem dX0_decipher_37 : decode cX0_decipher 37 = .ok (.irem, 1) := by decide +kernel
theorem dX0_decipher_38 : decode cX0_decipher 38 = .ok (.iconst 1, 1) := by decide +kernel
theorem dX0_decipher_39 : decode cX0_decipher 39 = .ok (.invokestatic 67, 3) := by decide +kernel
theorem dX0_decipher_42 : decode cX0_decipher 42 = .ok (.aload_n 1, 1) := by decide +kernel
theorem dX0_decipher_43 : decode cX0_decipher 43 = .ok (.iload_n 2, 1) := by decide +kernel
theorem dX0_decipher_44 : decode cX0_decipher 44 = .ok (.aload_n 0, 1) := by decide +kernel
theorem dX0_decipher_45 : decode cX0_decipher 45 = .ok (.getfield 13, 3) := by decide +kernel
theorem dX0_decipher_48 : decode cX0_decipher 48 = .ok (.iload_n 3, 1) := by decide +kernel
theorem dX0_decipher_49 : decode cX0_decipher 49 = .ok (.invokestatic 58, 3) := by decide +kernel
theorem dX0_decipher_52 : decode cX0_decipher 52 = .ok (.invokestatic 117, 3) := by decide +kernel
theorem dX0_decipher_55 : decode cX0_decipher 55 = .ok (.iinc 3 (-1), 3) := by decide +kernel
theorem dX0_decipher_58 : decode cX0_decipher 58 = .ok (.goto (-41), 3) := by decide +kernel
theorem dX0_decipher_61 : decode cX0_decipher 61 = .ok (.return_, 1) := by decide +kernel
theorem dX0_xorBlock_0 : decode cX0_xorBlock 0 = .ok (.iconst 0, 1) := by decide +kernel
theorem dX0_xorBlock_1 : decode cX0_xorBlock 1 = .ok (.istore 4, 2) := by decide +kernel
theorem dX0_xorBlock_3 : decode cX0_xorBlock 3 = .ok (.iload 4, 2) := by decide +kernel
theorem dX0_xorBlock_5 : decode cX0_xorBlock 5 = .ok (.iconst 4, 1) := by decide +kernel
theorem dX0_xorBlock_6 : decode cX0_xorBlock 6 = .ok (.if_icmp .ge 24, 3) := by decide +kernel
theorem dX0_xorBlock_9 : decode cX0_xorBlock 9 = .ok (.aload_n 0, 1) := by decide +kernel
theorem dX0_xorBlock_10 : decode cX0_xorBlock 10 = .ok (.iload_n 1, 1) := by decide +kernel
theorem dX0_xorBlock_11 : decode cX0_xorBlock 11 = .ok (.iload 4, 2) := by decide +kernel
theorem dX0_xorBlock_13 : decode cX0_xorBlock 13 = .ok (.iadd, 1) := by decide +kernel
theorem dX0_xorBlock_14 : decode cX0_xorBlock 14 = .ok (.dup2, 1) := by decide +kernel
theorem dX0_xorBlock_15 : decode cX0_xorBlock 15 = .ok (.iaload, 1) := by decide +kernel
theorem dX0_xorBlock_16 : decode cX0_xorBlock 16 = .ok (.aload_n 2, 1) := by decide +kernel
theorem dX0_xorBlock_17 : decode cX0_xorBlock 17 = .ok (.iload_n 3, 1) := by decide +kernel
theorem dX0_xorBlock_18 : decode cX0_xorBlock 18 = .ok (.iload 4, 2) := by decide +kernel
theorem dX0_xorBlock_20 : decode cX0_xorBlock 20 = .ok (.iadd, 1) := by decide +kernel
theorem dX0_xorBlock_21 : decode cX0_xorBlock 21 = .ok (.iaload, 1) := by decide +kernel
theorem dX0_xorBlock_22 : decode cX0_xorBlock 22 = .ok (.ixor, 1) := by decide +kernel
theorem dX0_xorBlock_23 : decode cX0_xorBlock 23 = .ok (.iastore, 1) := by decide +kernel
theorem dX0_xorBlock_24 : decode cX0_xorBlock 24 = .ok (.iinc 4 1, 3) := by decide +kernel
theorem dX0_xorBlock_27 : decode cX0_xorBlock 27 = .ok (.goto (-24), 3) := by decide +kernel
theorem dX0_xorBlock_30 : decode cX0_xorBlock 30 = .ok (.return_, 1) := by decide +kernel
theorem dX0_passBox_0 : decode cX0_passBox 0 = .ok (.aload_n 0, 1) := by decide +kernel
theorem dX0_passBox_1 : decode cX0_passBox 1 = .ok (.iload_n 1, 1) := by decide +kernel
theorem dX0_passBox_2 : decode cX0_passBox 2 = .ok (.iaload, 1) := by decide +kernel
theorem dX0_passBox_3 : decode cX0_passBox 3 = .ok (.istore 4, 2) := by decide +kernel
theorem dX0_passBox_5 : decode cX0_passBox 5 = .ok (.aload_n 0, 1) := by decide +kernel
theorem dX0_passBox_6 : decode cX0_passBox 6 = .ok (.iload_n 1, 1) := by decide +kernel
theorem dX0_passBox_7 : decode cX0_passBox 7 = .ok (.iconst 1, 1) := by decide +kernel
theorem dX0_passBox_8 : decode cX0_passBox 8 = .ok (.iadd, 1) := by decide +kernel
theorem dX0_passBox_9 : decode cX0_passBox 9 = .ok (.iaload, 1) := by decide +kernel
theorem dX0_passBox_10 : decode cX0_passBox 10 = .ok (.istore 5, 2) := by decide +kernel
theorem dX0_passBox_12 : decode cX0_passBox 12 = .ok (.aload_n 0, 1) := by decide +kernel
theorem dX0_passBox_13 : decode cX0_passBox 13 = .ok (.iload_n 1, 1) := by decide +kernel
theorem dX0_passBox_14 : decode cX0_passBox 14 = .ok (.iconst 2, 1) := by decide +kernel
theorem dX0_passBox_15 : decode cX0_passBox 15 = .ok (.iadd, 1) := by decide +kernel
theorem dX0_passBox_16 : decode cX0_passBox 16 = .ok (.iaload, 1) := by decide +kernel
theorem dX0_passBox_17 : decode cX0_passBox 17 = .ok (.istore 6, 2) := by decide +kernel
theorem dX0_passBox_19 : decode cX0_passBox 19 = .ok (.aload_n 0, 1) := by decide +kernel
theorem dX0_passBox_20 : decode cX0_passBox 20 = .ok (.iload_n 1, 1) := by decide +kernel
theorem dX0_passBox_21 : decode cX0_passBox 21 = .ok (.iconst 3, 1) := by decide +kernel
theorem dX0_passBox_22 : decode cX0_passBox 22 = .ok (.iadd, 1) := by decide +kernel
theorem dX0_passBox_23 : decode cX0_passBox 23 = .ok (.iaload, 1) := by decide +kernel
theorem dX0_passBox_24 : decode cX0_passBox 24 = .ok (.istore 7, 2) := by decide +kernel
theorem dX0_passBox_26 : decode cX0_passBox 26 = .ok (.iconst 0, 1) := by decide +kernel
theorem dX0_passBox_27 : decode cX0_passBox 27 = .ok (.istore 8, 2) := by decide +kernel
theorem dX0_passBox_29 : decode cX0_passBox 29 = .ok (.iconst 0, 1) := by decide +kernel
theorem dX0_passBox_30 : decode cX0_passBox 30 = .ok (.istore 9, 2) := by decide +kernel
theorem dX0_passBox_32 : decode cX0_passBox 32 = .ok (.iconst 0, 1) := by decide +kernel
theorem dX0_passBox_33 : decode cX0_passBox 33 = .ok (.istore 10, 2) := by decide +kernel
theorem dX0_passBox_35 : decode cX0_passBox 35 = .ok (.iconst 0, 1) := by decide +kernel
theorem dX0_passBox_36 : decode cX0_passBox 36 = .ok (.istore 11, 2) := by decide +kernel
theorem dX0_passBox_38 : decode cX0_passBox 38 = .ok (.iconst 0, 1) := by decide +kernel
theorem dX0_passBox_39 : decode cX0_passBox 39 = .ok (.istore 12, 2) := by decide +kernel
theorem dX0_passBox_41 : decode cX0_passBox 41 = .ok (.iload 12, 2) := by decide +kernel
theorem dX0_passBox_43 : decode cX0_passBox 43 = .ok (.bipush 16, 2) := by decide +kernel
theorem dX0_passBox_45 : decode cX0_passBox 45 = .ok (.if_icmp .ge 145, 3) := by decide +kernel
theorem dX0_passBox_48 : decode cX0_passBox 48 = .ok (.getstatic 83, 3) := by decide +kernel
theorem dX0_passBox_51 : decode cX0_passBox 51 = .ok (.iload_n 2, 1) := by decide +kernel
theorem dX0_passBox_52 : decode cX0_passBox 52 = .ok (.bipush 16, 2) := by decide +kernel
theorem dX0_passBox_54 : decode cX0_passBox 54 = .ok (.imul, 1) := by decide +kernel
theorem dX0_passBox_55 : decode cX0_passBox 55 = .ok (.iload 12, 2) := by decide +kernel
theorem dX0_passBox_57 : decode cX0_passBox 57 = .ok (.iadd, 1) := by decide +kernel
theorem dX0_passBox_58 : decode cX0_passBox 58 = .ok (.iaload, 1) := by decide +kernel
theorem dX0_passBox_59 : decode cX0_passBox 59 = .ok (.istore 13, 2) := by decide +kernel
theorem dX0_passBox_61 : decode cX0_passBox 61 = .ok (.iload_n 3, 1) := by decide +kernel
theorem dX0_passBox_62 : decode cX0_passBox 62 = .ok (.ifCond .eq 8, 3) := by decide +kernel
theorem dX0_passBox_65 : decode cX0_passBox 65 = .ok (.iload 13, 2) := by decide +kernel
theorem dX0_passBox_67 : decode cX0_passBox 67 = .ok (.goto 5, 3) := by decide +kernel
theorem dX0_passBox_70 : decode cX0_passBox 70 = .ok (.iload 12, 2) := by decide +kernel
theorem dX0_passBox_72 : decode cX0_passBox 72 = .ok (.istore 14, 2) := by decide +kernel
theorem dX0_passBox_74 : decode cX0_passBox 74 = .ok (.iload_n 3, 1) := by decide +kernel
theorem dX0_passBox_75 : decode cX0_passBox 75 = .ok (.ifCond .eq 8, 3) := by decide +kernel
theorem dX0_passBox_78 : decode cX0_passBox 78 = .ok (.iload 12, 2) := by decide +kernel
theorem dX0_passBox_80 : decode cX0_passBox 80 = .ok (.goto 5, 3) := by decide +kernel
theorem dX0_passBox_83 : decode cX0_passBox 83 = .ok (.iload 13, 2) := by decide +kernel
theorem dX0_passBox_85 : decode cX0_passBox 85 = .ok (.istore 15, 2) := by decide +kernel
theorem dX0_passBox_87 : decode cX0_passBox 87 = .ok (.iload 4, 2) := by decide +kernel
theorem dX0_passBox_89 : decode cX0_passBox 89 = .ok (.iload 14, 2) := by decide +kernel
theorem dX0_passBox_91 : decode cX0_passBox 91 = .ok (.invokestatic 160, 3) := by decide +kernel
theorem dX0_passBox_94 : decode cX0_passBox 94 = .ok (.iload 5, 2) := by decide +kernel
theorem dX0_passBox_96 : decode cX0_passBox 96 = .ok (.iload 14, 2) := by decide +kernel
theorem dX0_passBox_98 : decode cX0_passBox 98 = .ok (.iconst 1, 1) := by decide +kernel
theorem dX0_passBox_99 : decode cX0_passBox 99 = .ok (.ishr, 1) := by decide +kernel
theorem dX0_passBox_100 : decode cX0_passBox 100 = .ok (.invokestatic 160, 3) := by decide +kernel
theorem dX0_passBox_103 : decode cX0_passBox 103 = .ok (.iand, 1) := by decide +kernel
theorem dX0_passBox_104 : decode cX0_passBox 104 = .ok (.iload 6, 2) := by decide +kernel
theorem dX0_passBox_106 : decode cX0_passBox 106 = .ok (.iload 14, 2) := by decide +kernel
theorem dX0_passBox_108 : decode cX0_passBox 108 = .ok (.iconst 2, 1) := by decide +kernel
theorem dX0_passBox_109 : decode cX0_passBox 109 = .ok (.ishr, 1) := by decide +kernel
theorem dX0_passBox_110 : decode cX0_passBox 110 = .ok (.invokestatic 160, 3) := by decide +kernel
theorem dX0_passBox_113 : decode cX0_passBox 113 = .ok (.iand, 1) := by decide +kernel
theorem dX0_passBox_114 : decode cX0_passBox 114 = .ok (.iload 7, 2) := by decide +kernel
theorem dX0_passBox_116 : decode cX0_passBox 116 = .ok (.iload 14, 2) := by decide +kernel
theorem dX0_passBox_118 : decode cX0_passBox 118 = .ok (.iconst 3, 1) := by decide +kernel
theorem dX0_passBox_119 : decode cX0_passBox 119 = .ok (.ishr, 1) := by decide +kernel
theorem dX0_passBox_120 : decode cX0_passBox 120 = .ok (.invokestatic 160, 3) := by decide +kernel
theorem dX0_passBox_123 : decode cX0_passBox 123 = .ok (.iand, 1) := by decide +kernel
theorem dX0_passBox_124 : decode cX0_passBox 124 = .ok (.istore 16, 2) := by decide +kernel
theorem dX0_passBox_126 : decode cX0_passBox 126 = .ok (.iload 8, 2) := by decide +kernel
theorem dX0_passBox_128 : decode cX0_passBox 128 = .ok (.iload 16, 2) := by decide +kernel
theorem dX0_passBox_130 : decode cX0_passBox 130 = .ok (.iload 15, 2) := by decide +kernel
theorem dX0_passBox_132 : decode cX0_passBox 132 = .ok (.invokestatic 163, 3) := by decide +kernel
theorem dX0_passBox_135 : decode cX0_passBox 135 = .ok (.iand, 1) := by decide +kernel
theorem dX0_passBox_136 : decode cX0_passBox 136 = .ok (.ior, 1) := by decide +kernel
theorem dX0_passBox_137 : decode cX0_passBox 137 = .ok (.istore 8, 2) := by decide +kernel
theorem dX0_passBox_139 : decode cX0_passBox 139 = .ok (.iload 9, 2) := by decide +kernel
theorem dX0_passBox_141 : decode cX0_passBox 141 = .ok (.iload 16, 2) := by decide +kernel
theorem dX0_passBox_143 : decode cX0_passBox 143 = .ok (.iload 15, 2) := by decide +kernel
theorem dX0_passBox_145 : decode cX0_passBox 145 = .ok (.iconst 1, 1) := by decide +kernel
theorem dX0_passBox_146 : decode cX0_passBox 146 = .ok (.ishr, 1) := by decide +kernel
theorem dX0_passBox_147 : decode cX0_passBox 147 = .ok (.invokestatic 163, 3) := by decide +kernel
theorem dX0_passBox_150 : decode cX0_passBox 150 = .ok (.iand, 1) := by decide +kernel
theorem dX0_passBox_151 : decode cX0_passBox 151 = .ok (.ior, 1) := by decide +kernel
theorem dX0_passBox_152 : decode cX0_passBox 152 = .ok (.istore 9, 2) := by decide +kernel
theorem dX0_passBox_154 : decode cX0_passBox 154 = .ok (.iload 10, 2) := by decide +kernel
theorem dX0_passBox_156 : decode cX0_passBox 156 = .ok (.iload 16, 2) := by decide +kernel
theorem dX0_passBox_158 : decode cX0_passBox 158 = .ok (.iload 15, 2) := by decide +kernel
theorem dX0_passBox_160 : decode cX0_passBox 160 = .ok (.iconst 2, 1) := by decide +kernel
theorem dX0_passBox_161 : decode cX0_passBox 161 = .ok (.ishr, 1) := by decide +kernel
theorem dX0_passBox_162 : decode cX0_passBox 162 = .ok (.invokestatic 163, 3) := by decide +kernel
theorem dX0_passBox_165 : decode cX0_passBox 165 = .ok (.iand, 1) := by decide +kernel
theorem dX0_passBox_166 : decode cX0_passBox 166 = .ok (.ior, 1) := by decide +kernel
theorem dX0_passBox_167 : decode cX0_passBox 167 = .ok (.istore 10, 2) := by decide +kernel
theorem dX0_passBox_169 : decode cX0_passBox 169 = .ok (.iload 11, 2) := by decide +kernel
theorem dX0_passBox_171 : decode cX0_passBox 171 = .ok (.iload 16, 2) := by decide +kernel
theorem dX0_passBox_173 : decode cX0_passBox 173 = .ok (.iload 15, 2) := by decide +kernel
theorem dX0_passBox_175 : decode cX0_passBox 175 = .ok (.iconst 3, 1) := by decide +kernel
theorem dX0_passBox_176 : decode cX0_passBox 176 = .ok (.ishr, 1) := by decide +kernel
theorem dX0_passBox_177 : decode cX0_passBox 177 = .ok (.invokestatic 163, 3) := by decide +kernel
theorem dX0_passBox_180 : decode cX0_passBox 180 = .ok (.iand, 1) := by decide +kernel
theorem dX0_passBox_181 : decode cX0_passBox 181 = .ok (.ior, 1) := by decide +kernel
theorem dX0_passBox_182 : decode cX0_passBox 182 = .ok (.istore 11, 2) := by decide +kernel
theorem dX0_passBox_184 : decode cX0_passBox 184 = .ok (.iinc 12 1, 3) := by decide +kernel
theorem dX0_passBox_187 : decode cX0_passBox 187 = .ok (.goto (-146), 3) := by decide +kernel
theorem dX0_passBox_190 : decode cX0_passBox 190 = .ok (.aload_n 0, 1) := by decide +kernel
theorem dX0_passBox_191 : decode cX0_passBox 191 = .ok (.iload_n 1, 1) := by decide +kernel
theorem dX0_passBox_192 : decode cX0_passBox 192 = .ok (.iload 8, 2) := by decide +kernel
theorem dX0_passBox_194 : decode cX0_passBox 194 = .ok (.iastore, 1) := by decide +kernel
theorem dX0_passBox_195 : decode cX0_passBox 195 = .ok (.aload_n 0, 1) := by decide +kernel
theorem dX0_passBox_196 : decode cX0_passBox 196 = .ok (.iload_n 1, 1) := by decide +kernel
theorem dX0_passBox_197 : decode cX0_passBox 197 = .ok (.iconst 1, 1) := by decide +kernel
theorem dX0_passBox_198 : decode cX0_passBox 198 = .ok (.iadd, 1) := by decide +kernel
theorem dX0_passBox_199 : decode cX0_passBox 199 = .ok (.iload 9, 2) := by decide +kernel
theorem dX0_passBox_201 : decode cX0_passBox 201 = .ok (.iastore, 1) := by decide +kernel
theorem dX0_passBox_202 : decode cX0_passBox 202 = .ok (.aload_n 0, 1) := by decide +kernel
theorem dX0_passBox_203 : decode cX0_passBox 203 = .ok (.iload_n 1, 1) := by decide +kernel
theorem dX0_passBox_204 : decode cX0_passBox 204 = .ok (.iconst 2, 1) := by decide +kernel
theorem dX0_passBox_205 : decode cX0_passBox 205 = .ok (.iadd, 1) := by decide +kernel
theorem dX0_passBox_206 : decode cX0_passBox 206 = .ok (.iload 10, 2) := by decide +kernel
theorem dX0_passBox_208 : decode cX0_passBox 208 = .ok (.iastore, 1) := by decide +kernel
theorem dX0_passBox_209 : decode cX0_passBox 209 = .ok (.aload_n 0, 1) := by decide +kernel
theorem dX0_passBox_210 : decode cX0_passBox 210 = .ok (.iload_n 1, 1) := by decide +kernel
theorem dX0_passBox_211 : decode cX0_passBox 211 = .ok (.iconst 3, 1) := by decide +kernel
theorem dX0_passBox_212 : decode cX0_passBox 212 = .ok (.iadd, 1) := by decide +kernel
theorem dX0_passBox_213 : decode cX0_passBox 213 = .ok (.iload 11, 2) := by decide +kernel
theorem dX0_passBox_215 : decode cX0_passBox 215 = .ok (.iastore, 1) := by decide +kernel
theorem dX0_passBox_216 : decode cX0_passBox 216 = .ok (.return_, 1) := by decide +kernel
theorem dX0_placesWith_0 : decode cX0_placesWith 0 = .ok (.iload_n 0, 1) := by decide +kernel
theorem dX0_placesWith_1 : decode cX0_placesWith 1 = .ok (.iload_n 1, 1) := by decide +kernel
theorem dX0_placesWith_2 : decode cX0_placesWith 2 = .ok (.invokestatic 163, 3) := by decide +kernel
theorem dX0_placesWith_5 : decode cX0_placesWith 5 = .ok (.ixor, 1) := by decide +kernel
theorem dX0_placesWith_6 : decode cX0_placesWith 6 = .ok (.iconst (-1), 1) := by decide +kernel
theorem dX0_placesWith_7 : decode cX0_placesWith 7 = .ok (.ixor, 1) := by decide +kernel
theorem dX0_placesWith_8 : decode cX0_placesWith 8 = .ok (.ireturn, 1) := by decide +kernel
theorem dX0_lowestBitEverywhere_0 : decode cX0_lowestBitEverywhere 0 = .ok (.iload_n 0, 1) := by decide +kernel
theorem dX0_lowestBitEverywhere_1 : decode cX0_lowestBitEverywhere 1 = .ok (.iconst 1, 1) := by decide +kernel
theorem dX0_lowestBitEverywhere_2 : decode cX0_lowestBitEverywhere 2 = .ok (.iand, 1) := by decide +kernel
theorem dX0_lowestBitEverywhere_3 : decode cX0_lowestBitEverywhere 3 = .ok (.ineg, 1) := by decide +kernel
theorem dX0_lowestBitEverywhere_4 : decode cX0_lowestBitEverywhere 4 = .ok (.ireturn, 1) := by decide +kernel
theorem dX0_mix_0 : decode cX0_mix 0 = .ok (.aload_n 0, 1) := by decide +kernel
theorem dX0_mix_1 : decode cX0_mix 1 = .ok (.iload_n 1, 1) := by decide +kernel
theorem dX0_mix_2 : decode cX0_mix 2 = .ok (.iaload, 1) := by decide +kernel
theorem dX0_mix_3 : decode cX0_mix 3 = .ok (.bipush 13, 2) := by decide +kernel
theorem dX0_mix_5 : decode cX0_mix 5 = .ok (.invokestatic 133, 3) := by decide +kernel
theorem dX0_mix_8 : decode cX0_mix 8 = .ok (.istore_n 2, 1) := by decide +kernel
theorem dX0_mix_9 : decode cX0_mix 9 = .ok (.aload_n 0, 1) := by decide +kernel
theorem dX0_mix_10 : decode cX0_mix 10 = .ok (.iload_n 1, 1) := by decide +kernel
theorem dX0_mix_11 : decode cX0_mix 11 = .ok (.iconst 2, 1) := by decide +kernel
theorem dX0_mix_12 : decode cX0_mix 12 = .ok (.iadd, 1) := by decide +kernel
theorem dX0_mix_13 : decode cX0_mix 13 = .ok (.iaload, 1) := by decide +kernel
theorem dX0_mix_14 : decode cX0_mix 14 = .ok (.iconst 3, 1) := by decide +kernel
theorem dX0_mix_15 : decode cX0_mix 15 = .ok (.invokestatic 133, 3) := by decide +kernel
theorem dX0_mix_18 : decode cX0_mix 18 = .ok (.istore_n 3, 1) := by decide +kernel
theorem dX0_mix_19 : decode cX0_mix 19 = .ok (.aload_n 0, 1) := by decide +kernel
theorem dX0_mix_20 : decode cX0_mix 20 = .ok (.iload_n 1, 1) := by decide +kernel
theorem dX0_mix_21 : decode cX0_mix 21 = .ok (.iconst 1, 1) := by decide +kernel
theorem dX0_mix_22 : decode cX0_mix 22 = .ok (.iadd, 1) := by decide +kernel
theorem dX0_mix_23 : decode cX0_mix 23 = .ok (.iaload, 1) := by decide +kernel
theorem dX0_mix_24 : decode cX0_mix 24 = .ok (.iload_n 2, 1) := by decide +kernel
theorem dX0_mix_25 : decode cX0_mix 25 = .ok (.ixor, 1) := by decide +kernel
theorem dX0_mix_26 : decode cX0_mix 26 = .ok (.iload_n 3, 1) := by decide +kernel
theorem dX0_mix_27 : decode cX0_mix 27 = .ok (.ixor, 1) := by decide +kernel
theorem dX0_mix_28 : decode cX0_mix 28 = .ok (.iconst 1, 1) := by decide +kernel
theorem dX0_mix_29 : decode cX0_mix 29 = .ok (.invokestatic 133, 3) := by decide +kernel
theorem dX0_mix_32 : decode cX0_mix 32 = .ok (.istore 4, 2) := by decide +kernel
theorem dX0_mix_34 : decode cX0_mix 34 = .ok (.aload_n 0, 1) := by decide +kernel
theorem dX0_mix_35 : decode cX0_mix 35 = .ok (.iload_n 1, 1) := by decide +kernel
theorem dX0_mix_36 : decode cX0_mix 36 = .ok (.iconst 3, 1) := by decide +kernel
theorem dX0_mix_37 : decode cX0_mix 37 = .ok (.iadd, 1) := by decide +kernel
theorem dX0_mix_38 : decode cX0_mix 38 = .ok (.iaload, 1) := by decide +kernel
theorem dX0_mix_39 : decode cX0_mix 39 = .ok (.iload_n 3, 1) := by decide +kernel
theorem dX0_mix_40 : decode cX0_mix 40 = .ok (.ixor, 1) := by decide +kernel
theorem dX0_mix_41 : decode cX0_mix 41 = .ok (.iload_n 2, 1) := by decide +kernel
theorem dX0_mix_42 : decode cX0_mix 42 = .ok (.iconst 3, 1) := by decide +kernel
theorem dX0_mix_43 : decode cX0_mix 43 = .ok (.ishl, 1) := by decide +kernel
theorem dX0_mix_44 : decode cX0_mix 44 = .ok (.ixor, 1) := by decide +kernel
theorem dX0_mix_45 : decode cX0_mix 45 = .ok (.bipush 7, 2) := by decide +kernel
theorem dX0_mix_47 : decode cX0_mix 47 = .ok (.invokestatic 133, 3) := by decide +kernel
theorem dX0_mix_50 : decode cX0_mix 50 = .ok (.istore 5, 2) := by decide +kernel
theorem dX0_mix_52 : decode cX0_mix 52 = .ok (.iload_n 2, 1) := by decide +kernel
theorem dX0_mix_53 : decode cX0_mix 53 = .ok (.iload 4, 2) := by decide +kernel
theorem dX0_mix_55 : decode cX0_mix 55 = .ok (.ixor, 1) := by decide +kernel
theorem dX0_mix_56 : decode cX0_mix 56 = .ok (.iload 5, 2) := by decide +kernel
theorem dX0_mix_58 : decode cX0_mix 58 = .ok (.ixor, 1) := by decide +kernel
theorem dX0_mix_59 : decode cX0_mix 59 = .ok (.istore_n 2, 1) := by decide +kernel
theorem dX0_mix_60 : decode cX0_mix 60 = .ok (.iload_n 3, 1) := by decide +kernel
theorem dX0_mix_61 : decode cX0_mix 61 = .ok (.iload 5, 2) := by decide +kernel
theorem dX0_mix_63 : decode cX0_mix 63 = .ok (.ixor, 1) := by decide +kernel
theorem dX0_mix_64 : decode cX0_mix 64 = .ok (.iload 4, 2) := by decide +kernel
theorem dX0_mix_66 : decode cX0_mix 66 = .ok (.bipush 7, 2) := by decide +kernel
theorem dX0_mix_68 : decode cX0_mix 68 = .ok (.ishl, 1) := by decide +kernel
theorem dX0_mix_69 : decode cX0_mix 69 = .ok (.ixor, 1) := by decide +kernel
theorem dX0_mix_70 : decode cX0_mix 70 = .ok (.istore_n 3, 1) := by decide +kernel
theorem dX0_mix_71 : decode cX0_mix 71 = .ok (.aload_n 0, 1) := by decide +kernel
theorem dX0_mix_72 : decode cX0_mix 72 = .ok (.iload_n 1, 1) := by decide +kernel
theorem dX0_mix_73 : decode cX0_mix 73 = .ok (.iload_n 2, 1) := by decide +kernel
theorem dX0_mix_74 : decode cX0_mix 74 = .ok (.iconst 5, 1) := by decide +kernel
theorem dX0_mix_75 : decode cX0_mix 75 = .ok (.invokestatic 133, 3) := by decide +kernel
theorem dX0_mix_78 : decode cX0_mix 78 = .ok (.iastore, 1) := by decide +kernel
theorem dX0_mix_79 : decode cX0_mix 79 = .ok (.aload_n 0, 1) := by decide +kernel
theorem dX0_mix_80 : decode cX0_mix 80 = .ok (.iload_n 1, 1) := by decide +kernel
theorem dX0_mix_81 : decode cX0_mix 81 = .ok (.iconst 1, 1) := by decide +kernel
theorem dX0_mix_82 : decode cX0_mix 82 = .ok (.iadd, 1) := by decide +kernel
theorem dX0_mix_83 : decode cX0_mix 83 = .ok (.iload 4, 2) := by decide +kernel
theorem dX0_mix_85 : decode cX0_mix 85 = .ok (.iastore, 1) := by decide +kernel
theorem dX0_mix_86 : decode cX0_mix 86 = .ok (.aload_n 0, 1) := by decide +kernel
theorem dX0_mix_87 : decode cX0_mix 87 = .ok (.iload_n 1, 1) := by decide +kernel
theorem dX0_mix_88 : decode cX0_mix 88 = .ok (.iconst 2, 1) := by decide +kernel
theorem dX0_mix_89 : decode cX0_mix 89 = .ok (.iadd, 1) := by decide +kernel
theorem dX0_mix_90 : decode cX0_mix 90 = .ok (.iload_n 3, 1) := by decide +kernel
theorem dX0_mix_91 : decode cX0_mix 91 = .ok (.bipush 22, 2) := by decide +kernel
theorem dX0_mix_93 : decode cX0_mix 93 = .ok (.invokestatic 133, 3) := by decide +kernel
theorem dX0_mix_96 : decode cX0_mix 96 = .ok (.iastore, 1) := by decide +kernel
theorem dX0_mix_97 : decode cX0_mix 97 = .ok (.aload_n 0, 1) := by decide +kernel
theorem dX0_mix_98 : decode cX0_mix 98 = .ok (.iload_n 1, 1) := by decide +kernel
theorem dX0_mix_99 : decode cX0_mix 99 = .ok (.iconst 3, 1) := by decide +kernel
theorem dX0_mix_100 : decode cX0_mix 100 = .ok (.iadd, 1) := by decide +kernel
theorem dX0_mix_101 : decode cX0_mix 101 = .ok (.iload 5, 2) := by decide +kernel
theorem dX0_mix_103 : decode cX0_mix 103 = .ok (.iastore, 1) := by decide +kernel
theorem dX0_mix_104 : decode cX0_mix 104 = .ok (.return_, 1) := by decide +kernel
theorem dX0_unmix_0 : decode cX0_unmix 0 = .ok (.aload_n 0, 1) := by decide +kernel
theorem dX0_unmix_1 : decode cX0_unmix 1 = .ok (.iload_n 1, 1) := by decide +kernel
theorem dX0_unmix_2 : decode cX0_unmix 2 = .ok (.iconst 1, 1) := by decide +kernel
theorem dX0_unmix_3 : decode cX0_unmix 3 = .ok (.iadd, 1) := by decide +kernel
theorem dX0_unmix_4 : decode cX0_unmix 4 = .ok (.iaload, 1) := by decide +kernel
theorem dX0_unmix_5 : decode cX0_unmix 5 = .ok (.istore_n 2, 1) := by decide +kernel
theorem dX0_unmix_6 : decode cX0_unmix 6 = .ok (.aload_n 0, 1) := by decide +kernel
theorem dX0_unmix_7 : decode cX0_unmix 7 = .ok (.iload_n 1, 1) := by decide +kernel
theorem dX0_unmix_8 : decode cX0_unmix 8 = .ok (.iconst 3, 1) := by decide +kernel
theorem dX0_unmix_9 : decode cX0_unmix 9 = .ok (.iadd, 1) := by decide +kernel
theorem dX0_unmix_10 : decode cX0_unmix 10 = .ok (.iaload, 1) := by decide +kernel
theorem dX0_unmix_11 : decode cX0_unmix 11 = .ok (.istore_n 3, 1) := by decide +kernel
theorem dX0_unmix_12 : decode cX0_unmix 12 = .ok (.aload_n 0, 1) := by decide +kernel
theorem dX0_unmix_13 : decode cX0_unmix 13 = .ok (.iload_n 1, 1) := by decide +kernel
theorem dX0_unmix_14 : decode cX0_unmix 14 = .ok (.iconst 2, 1) := by decide +kernel
theorem dX0_unmix_15 : decode cX0_unmix 15 = .ok (.iadd, 1) := by decide +kernel
theorem dX0_unmix_16 : decode cX0_unmix 16 = .ok (.iaload, 1) := by decide +kernel
theorem dX0_unmix_17 : decode cX0_unmix 17 = .ok (.bipush 22, 2) := by decide +kernel
theorem dX0_unmix_19 : decode cX0_unmix 19 = .ok (.invokestatic 166, 3) := by decide +kernel
theorem dX0_unmix_22 : decode cX0_unmix 22 = .ok (.iload_n 3, 1) := by decide +kernel
theorem dX0_unmix_23 : decode cX0_unmix 23 = .ok (.ixor, 1) := by decide +kernel
theorem dX0_unmix_24 : decode cX0_unmix 24 = .ok (.iload_n 2, 1) := by decide +kernel
theorem dX0_unmix_25 : decode cX0_unmix 25 = .ok (.bipush 7, 2) := by decide +kernel
theorem dX0_unmix_27 : decode cX0_unmix 27 = .ok (.ishl, 1) := by decide +kernel
theorem dX0_unmix_28 : decode cX0_unmix 28 = .ok (.ixor, 1) := by decide +kernel
theorem dX0_unmix_29 : decode cX0_unmix 29 = .ok (.istore 4, 2) := by decide +kernel
theorem dX0_unmix_31 : decode cX0_unmix 31 = .ok (.aload_n 0, 1) := by decide +kernel
theorem dX0_unmix_32 : decode cX0_unmix 32 = .ok (.iload_n 1, 1) := by decide +kernel
theorem dX0_unmix_33 : decode cX0_unmix 33 = .ok (.iaload, 1) := by decide +kernel
theorem dX0_unmix_34 : decode cX0_unmix 34 = .ok (.iconst 5, 1) := by decide +kernel
theorem dX0_unmix_35 : decode cX0_unmix 35 = .ok (.invokestatic 166, 3) := by decide +kernel
theorem dX0_unmix_38 : decode cX0_unmix 38 = .ok (.iload_n 2, 1) := by decide +kernel
theorem dX0_unmix_39 : decode cX0_unmix 39 = .ok (.ixor, 1) := by decide +kernel
theorem dX0_unmix_40 : decode cX0_unmix 40 = .ok (.iload_n 3, 1) := by decide +kernel
theorem dX0_unmix_41 : decode cX0_unmix 41 = .ok (.ixor, 1) := by decide +kernel
theorem dX0_unmix_42 : decode cX0_unmix 42 = .ok (.istore 5, 2) := by decide +kernel
theorem dX0_unmix_44 : decode cX0_unmix 44 = .ok (.aload_n 0, 1) := by decide +kernel
theorem dX0_unmix_45 : decode cX0_unmix 45 = .ok (.iload_n 1, 1) := by decide +kernel
theorem dX0_unmix_46 : decode cX0_unmix 46 = .ok (.iload 5, 2) := by decide +kernel
theorem dX0_unmix_48 : decode cX0_unmix 48 = .ok (.bipush 13, 2) := by decide +kernel
theorem dX0_unmix_50 : decode cX0_unmix 50 = .ok (.invokestatic 166, 3) := by decide +kernel
theorem dX0_unmix_53 : decode cX0_unmix 53 = .ok (.iastore, 1) := by decide +kernel
theorem dX0_unmix_54 : decode cX0_unmix 54 = .ok (.aload_n 0, 1) := by decide +kernel
theorem dX0_unmix_55 : decode cX0_unmix 55 = .ok (.iload_n 1, 1) := by decide +kernel
theorem dX0_unmix_56 : decode cX0_unmix 56 = .ok (.iconst 1, 1) := by decide +kernel
theorem dX0_unmix_57 : decode cX0_unmix 57 = .ok (.iadd, 1) := by decide +kernel
theorem dX0_unmix_58 : decode cX0_unmix 58 = .ok (.iload_n 2, 1) := by decide +kernel
theorem dX0_unmix_59 : decode cX0_unmix 59 = .ok (.iconst 1, 1) := by decide +kernel
theorem dX0_unmix_60 : decode cX0_unmix 60 = .ok (.invokestatic 166, 3) := by decide +kernel
theorem dX0_unmix_63 : decode cX0_unmix 63 = .ok (.iload 5, 2) := by decide +kernel
theorem dX0_unmix_65 : decode cX0_unmix 65 = .ok (.ixor, 1) := by decide +kernel
theorem dX0_unmix_66 : decode cX0_unmix 66 = .ok (.iload 4, 2) := by decide +kernel
theorem dX0_unmix_68 : decode cX0_unmix 68 = .ok (.ixor, 1) := by decide +kernel
theorem dX0_unmix_69 : decode cX0_unmix 69 = .ok (.iastore, 1) := by decide +kernel
theorem dX0_unmix_70 : decode cX0_unmix 70 = .ok (.aload_n 0, 1) := by decide +kernel
theorem dX0_unmix_71 : decode cX0_unmix 71 = .ok (.iload_n 1, 1) := by decide +kernel
theorem dX0_unmix_72 : decode cX0_unmix 72 = .ok (.iconst 2, 1) := by decide +kernel
theorem dX0_unmix_73 : decode cX0_unmix 73 = .ok (.iadd, 1) := by decide +kernel
theorem dX0_unmix_74 : decode cX0_unmix 74 = .ok (.iload 4, 2) := by decide +kernel
theorem dX0_unmix_76 : decode cX0_unmix 76 = .ok (.iconst 3, 1) := by decide +kernel
theorem dX0_unmix_77 : decode cX0_unmix 77 = .ok (.invokestatic 166, 3) := by decide +kernel
theorem dX0_unmix_80 : decode cX0_unmix 80 = .ok (.iastore, 1) := by decide +kernel
theorem dX0_unmix_81 : decode cX0_unmix 81 = .ok (.aload_n 0, 1) := by decide +kernel
theorem dX0_unmix_82 : decode cX0_unmix 82 = .ok (.iload_n 1, 1) := by decide +kernel
theorem dX0_unmix_83 : decode cX0_unmix 83 = .ok (.iconst 3, 1) := by decide +kernel
theorem dX0_unmix_84 : decode cX0_unmix 84 = .ok (.iadd, 1) := by decide +kernel
theorem dX0_unmix_85 : decode cX0_unmix 85 = .ok (.iload_n 3, 1) := by decide +kernel
theorem dX0_unmix_86 : decode cX0_unmix 86 = .ok (.bipush 7, 2) := by decide +kernel
theorem dX0_unmix_88 : decode cX0_unmix 88 = .ok (.invokestatic 166, 3) := by decide +kernel
theorem dX0_unmix_91 : decode cX0_unmix 91 = .ok (.iload 4, 2) := by decide +kernel
theorem dX0_unmix_93 : decode cX0_unmix 93 = .ok (.ixor, 1) := by decide +kernel
theorem dX0_unmix_94 : decode cX0_unmix 94 = .ok (.iload 5, 2) := by decide +kernel
theorem dX0_unmix_96 : decode cX0_unmix 96 = .ok (.iconst 3, 1) := by decide +kernel
theorem dX0_unmix_97 : decode cX0_unmix 97 = .ok (.ishl, 1) := by decide +kernel
theorem dX0_unmix_98 : decode cX0_unmix 98 = .ok (.ixor, 1) := by decide +kernel
theorem dX0_unmix_99 : decode cX0_unmix 99 = .ok (.iastore, 1) := by decide +kernel
theorem dX0_unmix_100 : decode cX0_unmix 100 = .ok (.return_, 1) := by decide +kernel
theorem dJ6_rotateLeft_7cf53_0 : decode cJ6_rotateLeft_7cf53 0 = .ok (.iload_n 0, 1) := by decide +kernel
theorem dJ6_rotateLeft_7cf53_1 : decode cJ6_rotateLeft_7cf53 1 = .ok (.iload_n 1, 1) := by decide +kernel
theorem dJ6_rotateLeft_7cf53_2 : decode cJ6_rotateLeft_7cf53 2 = .ok (.ishl, 1) := by decide +kernel
theorem dJ6_rotateLeft_7cf53_3 : decode cJ6_rotateLeft_7cf53 3 = .ok (.iload_n 0, 1) := by decide +kernel
theorem dJ6_rotateLeft_7cf53_4 : decode cJ6_rotateLeft_7cf53 4 = .ok (.iload_n 1, 1) := by decide +kernel
theorem dJ6_rotateLeft_7cf53_5 : decode cJ6_rotateLeft_7cf53 5 = .ok (.ineg, 1) := by decide +kernel
theorem dJ6_rotateLeft_7cf53_6 : decode cJ6_rotateLeft_7cf53 6 = .ok (.iushr, 1) := by decide +kernel
theorem dJ6_rotateLeft_7cf53_7 : decode cJ6_rotateLeft_7cf53 7 = .ok (.ior, 1) := by decide +kernel
theorem dJ6_rotateLeft_7cf53_8 : decode cJ6_rotateLeft_7cf53 8 = .ok (.ireturn, 1) := by decide +kernel
theorem dJ6_rotateRight_7cf53_0 : decode cJ6_rotateRight_7cf53 0 = .ok (.iload_n 0, 1) := by decide +kernel
theorem dJ6_rotateRight_7cf53_1 : decode cJ6_rotateRight_7cf53 1 = .ok (.iload_n 1, 1) := by decide +kernel
theorem dJ6_rotateRight_7cf53_2 : decode cJ6_rotateRight_7cf53 2 = .ok (.iushr, 1) := by decide +kernel
theorem dJ6_rotateRight_7cf53_3 : decode cJ6_rotateRight_7cf53 3 = .ok (.iload_n 0, 1) := by decide +kernel
theorem dJ6_rotateRight_7cf53_4 : decode cJ6_rotateRight_7cf53 4 = .ok (.iload_n 1, 1) := by decide +kernel
theorem dJ6_rotateRight_7cf53_5 : decode cJ6_rotateRight_7cf53 5 = .ok (.ineg, 1) := by decide +kernel
theorem dJ6_rotateRight_7cf53_6 : decode cJ6_rotateRight_7cf53 6 = .ok (.ishl, 1) := by decide +kernel
theorem dJ6_rotateRight_7cf53_7 : decode cJ6_rotateRight_7cf53 7 = .ok (.ior, 1) := by decide +kernel
theorem dJ6_rotateRight_7cf53_8 : decode cJ6_rotateRight_7cf53 8 = .ok (.ireturn, 1) := by decide +kernel
theorem dJ9_floorMod_7cf53_0 : decode cJ9_floorMod_7cf53 0 = .ok (.iload_n 0, 1) := by decide +kernel
theorem dJ9_floorMod_7cf53_1 : decode cJ9_floorMod_7cf53 1 = .ok (.iload_n 1, 1) := by decide +kernel
theorem dJ9_floorMod_7cf53_2 : decode cJ9_floorMod_7cf53 2 = .ok (.irem, 1) := by decide +kernel
theorem dJ9_floorMod_7cf53_3 : decode cJ9_floorMod_7cf53 3 = .ok (.istore_n 2, 1) := by decide +kernel
theorem dJ9_floorMod_7cf53_4 : decode cJ9_floorMod_7cf53 4 = .ok (.iload_n 0, 1) := by decide +kernel
theorem dJ9_floorMod_7cf53_5 : decode cJ9_floorMod_7cf53 5 = .ok (.iload_n 1, 1) := by decide +kernel
theorem dJ9_floorMod_7cf53_6 : decode cJ9_floorMod_7cf53 6 = .ok (.ixor, 1) := by decide +kernel
theorem dJ9_floorMod_7cf53_7 : decode cJ9_floorMod_7cf53 7 = .ok (.ifCond .ge 11, 3) := by decide +kernel
theorem dJ9_floorMod_7cf53_10 : decode cJ9_floorMod_7cf53 10 = .ok (.iload_n 2, 1) := by decide +kernel
theorem dJ9_floorMod_7cf53_11 : decode cJ9_floorMod_7cf53 11 = .ok (.ifCond .eq 7, 3) := by decide +kernel
theorem dJ9_floorMod_7cf53_14 : decode cJ9_floorMod_7cf53 14 = .ok (.iload_n 2, 1) := by decide +kernel
theorem dJ9_floorMod_7cf53_15 : decode cJ9_floorMod_7cf53 15 = .ok (.iload_n 1, 1) := by decide +kernel
theorem dJ9_floorMod_7cf53_16 : decode cJ9_floorMod_7cf53 16 = .ok (.iadd, 1) := by decide +kernel
theorem dJ9_floorMod_7cf53_17 : decode cJ9_floorMod_7cf53 17 = .ok (.ireturn, 1) := by decide +kernel
theorem dJ9_floorMod_7cf53_18 : decode cJ9_floorMod_7cf53 18 = .ok (.iload_n 2, 1) := by decide +kernel
theorem dJ9_floorMod_7cf53_19 : decode cJ9_floorMod_7cf53 19 = .ok (.ireturn, 1) := by decide +kernel
