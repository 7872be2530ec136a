theorem dL_wires_12 : decode cL_wires 12 = .ok (.bipush (-5), 2) := by decide +kernel
theorem dL_wires_14 : decode cL_wires 14 = .ok (.if_icmp .ne 333, 3) := by decide +kernel
theorem dL_wires_17 : decode cL_wires 17 = .ok (.aload_n 0, 1) := by decide +kernel
theorem dL_wires_18 : decode cL_wires 18 = .ok (.invokevirtual 79, 3) := by decide +kernel
theorem dL_wires_21 : decode cL_wires 21 = .ok (.bipush (-5), 2) := by decide +kernel
theorem dL_wires_23 : decode cL_wires 23 = .ok (.if_icmp .ne 324, 3) := by decide +kernel
theorem dL_wires_26 : decode cL_wires 26 = .ok (.aload_n 0, 1) := by decide +kernel
theorem dL_wires_27 : decode cL_wires 27 = .ok (.invokevirtual 82, 3) := by decide +kernel
theorem dL_wires_30 : decode cL_wires 30 = .ok (.bipush (-5), 2) := by decide +kernel
theorem dL_wires_32 : decode cL_wires 32 = .ok (.if_icmp .ne 315, 3) := by decide +kernel
theorem dL_wires_35 : decode cL_wires 35 = .ok (.aload_n 0, 1) := by decide +kernel
theorem dL_wires_36 : decode cL_wires 36 = .ok (.invokevirtual 85, 3) := by decide +kernel
theorem dL_wires_39 : decode cL_wires 39 = .ok (.bipush (-5), 2) := by decide +kernel
theorem dL_wires_41 : decode cL_wires 41 = .ok (.if_icmp .ne 306, 3) := by decide +kernel
theorem dL_wires_44 : decode cL_wires 44 = .ok (.aload_n 0, 1) := by decide +kernel
theorem dL_wires_45 : decode cL_wires 45 = .ok (.iconst 1, 1) := by decide +kernel
theorem dL_wires_46 : decode cL_wires 46 = .ok (.iconst 1, 1) := by decide +kernel
theorem dL_wires_47 : decode cL_wires 47 = .ok (.invokevirtual 50, 3) := by decide +kernel
theorem dL_wires_50 : decode cL_wires 50 = .ok (.bipush (-5), 2) := by decide +kernel
theorem dL_wires_52 : decode cL_wires 52 = .ok (.if_icmp .ne 295, 3) := by decide +kernel
theorem dL_wires_55 : decode cL_wires 55 = .ok (.aload_n 0, 1) := by decide +kernel
theorem dL_wires_56 : decode cL_wires 56 = .ok (.bipush 9, 2) := by decide +kernel
theorem dL_wires_58 : decode cL_wires 58 = .ok (.invokevirtual 13, 3) := by decide +kernel
theorem dL_wires_61 : decode cL_wires 61 = .ok (.bipush (-5), 2) := by decide +kernel
theorem dL_wires_63 : decode cL_wires 63 = .ok (.if_icmp .ne 284, 3) := by decide +kernel
theorem dL_wires_66 : decode cL_wires 66 = .ok (.aload_n 0, 1) := by decide +kernel
theorem dL_wires_67 : decode cL_wires 67 = .ok (.bipush 15, 2) := by decide +kernel
theorem dL_wires_69 : decode cL_wires 69 = .ok (.iconst 0, 1) := by decide +kernel
theorem dL_wires_70 : decode cL_wires 70 = .ok (.invokevirtual 23, 3) := by decide +kernel
theorem dL_wires_73 : decode cL_wires 73 = .ok (.sipush 600, 3) := by decide +kernel
theorem dL_wires_76 : decode cL_wires 76 = .ok (.if_icmp .ne 271, 3) := by decide +kernel
theorem dL_wires_79 : decode cL_wires 79 = .ok (.aload_n 0, 1) := by decide +kernel
theorem dL_wires_80 : decode cL_wires 80 = .ok (.bipush 10, 2) := by decide +kernel
theorem dL_wires_82 : decode cL_wires 82 = .ok (.invokevirtual 26, 3) := by decide +kernel
theorem dL_wires_85 : decode cL_wires 85 = .ok (.bipush 7, 2) := by decide +kernel
theorem dL_wires_87 : decode cL_wires 87 = .ok (.if_icmp .ne 260, 3) := by decide +kernel
theorem dL_wires_90 : decode cL_wires 90 = .ok (.aload_n 0, 1) := by decide +kernel
theorem dL_wires_91 : decode cL_wires 91 = .ok (.iconst 0, 1) := by decide +kernel
theorem dL_wires_92 : decode cL_wires 92 = .ok (.iconst 0, 1) := by decide +kernel
theorem dL_wires_93 : decode cL_wires 93 = .ok (.bipush 60, 2) := by decide +kernel
theorem dL_wires_95 : decode cL_wires 95 = .ok (.invokevirtual 29, 3) := by decide +kernel
theorem dL_wires_98 : decode cL_wires 98 = .ok (.bipush 95, 2) := by decide +kernel
theorem dL_wires_100 : decode cL_wires 100 = .ok (.if_icmp .ne 247, 3) := by decide +kernel
theorem dL_wires_103 : decode cL_wires 103 = .ok (.aload_n 0, 1) := by decide +kernel
theorem dL_wires_104 : decode cL_wires 104 = .ok (.iconst 4, 1) := by decide +kernel
theorem dL_wires_105 : decode cL_wires 105 = .ok (.invokevirtual 13, 3) := by decide +kernel
theorem dL_wires_108 : decode cL_wires 108 = .ok (.iconst 3, 1) := by decide +kernel
theorem dL_wires_109 : decode cL_wires 109 = .ok (.if_icmp .ne 238, 3) := by decide +kernel
theorem dL_wires_112 : decode cL_wires 112 = .ok (.aload_n 0, 1) := by decide +kernel
theorem dL_wires_113 : decode cL_wires 113 = .ok (.iconst 0, 1) := by decide +kernel
theorem dL_wires_114 : decode cL_wires 114 = .ok (.iconst 1, 1) := by decide +kernel
theorem dL_wires_115 : decode cL_wires 115 = .ok (.bipush 60, 2) := by decide +kernel
theorem dL_wires_117 : decode cL_wires 117 = .ok (.invokevirtual 29, 3) := by decide +kernel
theorem dL_wires_120 : decode cL_wires 120 = .ok (.bipush (-4), 2) := by decide +kernel
theorem dL_wires_122 : decode cL_wires 122 = .ok (.if_icmp .ne 225, 3) := by decide +kernel
theorem dL_wires_125 : decode cL_wires 125 = .ok (.aload_n 0, 1) := by decide +kernel
theorem dL_wires_126 : decode cL_wires 126 = .ok (.iconst 1, 1) := by decide +kernel
theorem dL_wires_127 : decode cL_wires 127 = .ok (.iconst 0, 1) := by decide +kernel
theorem dL_wires_128 : decode cL_wires 128 = .ok (.bipush 60, 2) := by decide +kernel
theorem dL_wires_130 : decode cL_wires 130 = .ok (.invokevirtual 29, 3) := by decide +kernel
theorem dL_wires_133 : decode cL_wires 133 = .ok (.bipush (-4), 2) := by decide +kernel
theorem dL_wires_135 : decode cL_wires 135 = .ok (.if_icmp .ne 212, 3) := by decide +kernel
theorem dL_wires_138 : decode cL_wires 138 = .ok (.aload_n 0, 1) := by decide +kernel
theorem dL_wires_139 : decode cL_wires 139 = .ok (.bipush 12, 2) := by decide +kernel
theorem dL_wires_141 : decode cL_wires 141 = .ok (.iconst 0, 1) := by decide +kernel
theorem dL_wires_142 : decode cL_wires 142 = .ok (.iconst 5, 1) := by decide +kernel
theorem dL_wires_143 : decode cL_wires 143 = .ok (.invokevirtual 29, 3) := by decide +kernel
theorem dL_wires_146 : decode cL_wires 146 = .ok (.iconst (-1), 1) := by decide +kernel
theorem dL_wires_147 : decode cL_wires 147 = .ok (.if_icmp .ne 200, 3) := by decide +kernel
theorem dL_wires_150 : decode cL_wires 150 = .ok (.aload_n 0, 1) := by decide +kernel
