theorem dX1_seal_63 : decode cX1_seal 63 = .ok (.if_icmp .ge 73, 3) := by decide +kernel
theorem dX1_seal_66 : decode cX1_seal 66 = .ok (.iconst 0, 1) := by decide +kernel
theorem dX1_seal_67 : decode cX1_seal 67 = .ok (.istore_n 3, 1) := by decide +kernel
theorem dX1_seal_68 : decode cX1_seal 68 = .ok (.iload_n 3, 1) := by decide +kernel
theorem dX1_seal_69 : decode cX1_seal 69 = .ok (.iconst 4, 1) := by decide +kernel
theorem dX1_seal_70 : decode cX1_seal 70 = .ok (.if_icmp .ge 30, 3) := by decide +kernel
theorem dX1_seal_73 : decode cX1_seal 73 = .ok (.aload_n 0, 1) := by decide +kernel
theorem dX1_seal_74 : decode cX1_seal 74 = .ok (.getfield 28, 3) := by decide +kernel
theorem dX1_seal_77 : decode cX1_seal 77 = .ok (.iload_n 3, 1) := by decide +kernel
theorem dX1_seal_78 : decode cX1_seal 78 = .ok (.aload_n 0, 1) := by decide +kernel
theorem dX1_seal_79 : decode cX1_seal 79 = .ok (.getfield 22, 3) := by decide +kernel
theorem dX1_seal_82 : decode cX1_seal 82 = .ok (.iload_n 2, 1) := by decide +kernel
theorem dX1_seal_83 : decode cX1_seal 83 = .ok (.iload_n 3, 1) := by decide +kernel
theorem dX1_seal_84 : decode cX1_seal 84 = .ok (.iadd, 1) := by decide +kernel
theorem dX1_seal_85 : decode cX1_seal 85 = .ok (.iaload, 1) := by decide +kernel
theorem dX1_seal_86 : decode cX1_seal 86 = .ok (.aload_n 0, 1) := by decide +kernel
theorem dX1_seal_87 : decode cX1_seal 87 = .ok (.getfield 34, 3) := by decide +kernel
theorem dX1_seal_90 : decode cX1_seal 90 = .ok (.iload_n 3, 1) := by decide +kernel
theorem dX1_seal_91 : decode cX1_seal 91 = .ok (.iaload, 1) := by decide +kernel
theorem dX1_seal_92 : decode cX1_seal 92 = .ok (.ixor, 1) := by decide +kernel
theorem dX1_seal_93 : decode cX1_seal 93 = .ok (.iastore, 1) := by decide +kernel
theorem dX1_seal_94 : decode cX1_seal 94 = .ok (.iinc 3 1, 3) := by decide +kernel
theorem dX1_seal_97 : decode cX1_seal 97 = .ok (.goto (-29), 3) := by decide +kernel
theorem dX1_seal_100 : decode cX1_seal 100 = .ok (.aload_n 0, 1) := by decide +kernel
theorem dX1_seal_101 : decode cX1_seal 101 = .ok (.invokevirtual 94, 3) := by decide +kernel
theorem dX1_seal_104 : decode cX1_seal 104 = .ok (.iconst 0, 1) := by decide +kernel
theorem dX1_seal_105 : decode cX1_seal 105 = .ok (.istore_n 3, 1) := by decide +kernel
theorem dX1_seal_106 : decode cX1_seal 106 = .ok (.iload_n 3, 1) := by decide +kernel
theorem dX1_seal_107 : decode cX1_seal 107 = .ok (.iconst 4, 1) := by decide +kernel
theorem dX1_seal_108 : decode cX1_seal 108 = .ok (.if_icmp .ge 21, 3) := by decide +kernel
theorem dX1_seal_111 : decode cX1_seal 111 = .ok (.aload_n 0, 1) := by decide +kernel
theorem dX1_seal_112 : decode cX1_seal 112 = .ok (.getfield 34, 3) := by decide +kernel
theorem dX1_seal_115 : decode cX1_seal 115 = .ok (.iload_n 3, 1) := by decide +kernel
theorem dX1_seal_116 : decode cX1_seal 116 = .ok (.aload_n 0, 1) := by decide +kernel
theorem dX1_seal_117 : decode cX1_seal 117 = .ok (.getfield 28, 3) := by decide +kernel
theorem dX1_seal_120 : decode cX1_seal 120 = .ok (.iload_n 3, 1) := by decide +kernel
theorem dX1_seal_121 : decode cX1_seal 121 = .ok (.iaload, 1) := by decide +kernel
theorem dX1_seal_122 : decode cX1_seal 122 = .ok (.iastore, 1) := by decide +kernel
theorem dX1_seal_123 : decode cX1_seal 123 = .ok (.iinc 3 1, 3) := by decide +kernel
theorem dX1_seal_126 : decode cX1_seal 126 = .ok (.goto (-20), 3) := by decide +kernel
theorem dX1_seal_129 : decode cX1_seal 129 = .ok (.iload_n 2, 1) := by decide +kernel
theorem dX1_seal_130 : decode cX1_seal 130 = .ok (.iconst 4, 1) := by decide +kernel
theorem dX1_seal_131 : decode cX1_seal 131 = .ok (.iadd, 1) := by decide +kernel
theorem dX1_seal_132 : decode cX1_seal 132 = .ok (.istore_n 2, 1) := by decide +kernel
theorem dX1_seal_133 : decode cX1_seal 133 = .ok (.goto (-75), 3) := by decide +kernel
theorem dX1_seal_136 : decode cX1_seal 136 = .ok (.aload_n 0, 1) := by decide +kernel
theorem dX1_seal_137 : decode cX1_seal 137 = .ok (.getfield 34, 3) := by decide +kernel
theorem dX1_seal_140 : decode cX1_seal 140 = .ok (.iload_n 1, 1) := by decide +kernel
theorem dX1_seal_141 : decode cX1_seal 141 = .ok (.iaload, 1) := by decide +kernel
theorem dX1_seal_142 : decode cX1_seal 142 = .ok (.ireturn, 1) := by decide +kernel
