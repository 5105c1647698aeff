theorem dX3_init_0 : decode cX3_init 0 = .ok (.aload_n 0, 1) := by decide +kernel
theorem dX3_init_1 : decode cX3_init 1 = .ok (.invokespecial 1, 3) := by decide +kernel
theorem dX3_init_4 : decode cX3_init 4 = .ok (.aload_n 0, 1) := by decide +kernel
theorem dX3_init_5 : decode cX3_init 5 = .ok (.iconst 5, 1) := by decide +kernel
theorem dX3_init_6 : decode cX3_init 6 = .ok (.newarray .int, 2) := by decide +kernel
theorem dX3_init_8 : decode cX3_init 8 = .ok (.putfield 7, 3) := by decide +kernel
theorem dX3_init_11 : decode cX3_init 11 = .ok (.aload_n 0, 1) := by decide +kernel
theorem dX3_init_12 : decode cX3_init 12 = .ok (.bipush 40, 2) := by decide +kernel
theorem dX3_init_14 : decode cX3_init 14 = .ok (.newarray .int, 2) := by decide +kernel
theorem dX3_init_16 : decode cX3_init 16 = .ok (.putfield 13, 3) := by decide +kernel
theorem dX3_init_19 : decode cX3_init 19 = .ok (.aload_n 0, 1) := by decide +kernel
theorem dX3_init_20 : decode cX3_init 20 = .ok (.bipush 40, 2) := by decide +kernel
theorem dX3_init_22 : decode cX3_init 22 = .ok (.newarray .int, 2) := by decide +kernel
theorem dX3_init_24 : decode cX3_init 24 = .ok (.putfield 16, 3) := by decide +kernel
theorem dX3_init_27 : decode cX3_init 27 = .ok (.aload_n 0, 1) := by decide +kernel
theorem dX3_init_28 : decode cX3_init 28 = .ok (.bipush 33, 2) := by decide +kernel
theorem dX3_init_30 : decode cX3_init 30 = .ok (.newarray .int, 2) := by decide +kernel
theorem dX3_init_32 : decode cX3_init 32 = .ok (.putfield 19, 3) := by decide +kernel
theorem dX3_init_35 : decode cX3_init 35 = .ok (.aload_n 0, 1) := by decide +kernel
theorem dX3_init_36 : decode cX3_init 36 = .ok (.sipush 10000, 3) := by decide +kernel
theorem dX3_init_39 : decode cX3_init 39 = .ok (.putfield 22, 3) := by decide +kernel
theorem dX3_init_42 : decode cX3_init 42 = .ok (.aload_n 0, 1) := by decide +kernel
theorem dX3_init_43 : decode cX3_init 43 = .ok (.ldc 26, 2) := by decide +kernel
theorem dX3_init_45 : decode cX3_init 45 = .ok (.putfield 27, 3) := by decide +kernel
theorem dX3_init_48 : decode cX3_init 48 = .ok (.aload_n 0, 1) := by decide +kernel
theorem dX3_init_49 : decode cX3_init 49 = .ok (.bipush 70, 2) := by decide +kernel
theorem dX3_init_51 : decode cX3_init 51 = .ok (.putfield 30, 3) := by decide +kernel
theorem dX3_init_54 : decode cX3_init 54 = .ok (.aload_n 0, 1) := by decide +kernel
theorem dX3_init_55 : decode cX3_init 55 = .ok (.iconst 2, 1) := by decide +kernel
theorem dX3_init_56 : decode cX3_init 56 = .ok (.putfield 33, 3) := by decide +kernel
theorem dX3_init_59 : decode cX3_init 59 = .ok (.aload_n 0, 1) := by decide +kernel
theorem dX3_init_60 : decode cX3_init 60 = .ok (.bipush 70, 2) := by decide +kernel
theorem dX3_init_62 : decode cX3_init 62 = .ok (.newarray .int, 2) := by decide +kernel
theorem dX3_init_64 : decode cX3_init 64 = .ok (.putfield 36, 3) := by decide +kernel
theorem dX3_init_67 : decode cX3_init 67 = .ok (.aload_n 0, 1) := by decide +kernel
theorem dX3_init_68 : decode cX3_init 68 = .ok (.bipush 70, 2) := by decide +kernel
theorem dX3_init_70 : decode cX3_init 70 = .ok (.newarray .int, 2) := by decide +kernel
theorem dX3_init_72 : decode cX3_init 72 = .ok (.putfield 39, 3) := by decide +kernel
theorem dX3_init_75 : decode cX3_init 75 = .ok (.aload_n 0, 1) := by decide +kernel
theorem dX3_init_76 : decode cX3_init 76 = .ok (.sipush 200, 3) := by decide +kernel
theorem dX3_init_79 : decode cX3_init 79 = .ok (.newarray .int, 2) := by decide +kernel
theorem dX3_init_81 : decode cX3_init 81 = .ok (.putfield 42, 3) := by decide +kernel
theorem dX3_init_84 : decode cX3_init 84 = .ok (.aload_n 0, 1) := by decide +kernel
theorem dX3_init_85 : decode cX3_init 85 = .ok (.sipush 200, 3) := by decide +kernel
theorem dX3_init_88 : decode cX3_init 88 = .ok (.newarray .int, 2) := by decide +kernel
theorem dX3_init_90 : decode cX3_init 90 = .ok (.putfield 45, 3) := by decide +kernel
theorem dX3_init_93 : decode cX3_init 93 = .ok (.aload_n 0, 1) := by decide +kernel
theorem dX3_init_94 : decode cX3_init 94 = .ok (.sipush 200, 3) := by decide +kernel
theorem dX3_init_97 : decode cX3_init 97 = .ok (.newarray .int, 2) := by decide +kernel
theorem dX3_init_99 : decode cX3_init 99 = .ok (.putfield 48, 3) := by decide +kernel
theorem dX3_init_102 : decode cX3_init 102 = .ok (.aload_n 0, 1) := by decide +kernel
theorem dX3_init_103 : decode cX3_init 103 = .ok (.sipush 200, 3) := by decide +kernel
theorem dX3_init_106 : decode cX3_init 106 = .ok (.newarray .int, 2) := by decide +kernel
theorem dX3_init_108 : decode cX3_init 108 = .ok (.putfield 51, 3) := by decide +kernel
theorem dX3_init_111 : decode cX3_init 111 = .ok (.aload_n 0, 1) := by decide +kernel
theorem dX3_init_112 : decode cX3_init 112 = .ok (.sipush 200, 3) := by decide +kernel
theorem dX3_init_115 : decode cX3_init 115 = .ok (.newarray .int, 2) := by decide +kernel
theorem dX3_init_117 : decode cX3_init 117 = .ok (.putfield 54, 3) := by decide +kernel
theorem dX3_init_120 : decode cX3_init 120 = .ok (.aload_n 0, 1) := by decide +kernel
theorem dX3_init_121 : decode cX3_init 121 = .ok (.sipush 200, 3) := by decide +kernel
theorem dX3_init_124 : decode cX3_init 124 = .ok (.newarray .int, 2) := by decide +kernel
theorem dX3_init_126 : decode cX3_init 126 = .ok (.putfield 57, 3) := by decide +kernel
theorem dX3_init_129 : decode cX3_init 129 = .ok (.iconst 0, 1) := by decide +kernel
theorem dX3_init_130 : decode cX3_init 130 = .ok (.istore_n 1, 1) := by decide +kernel
theorem dX3_init_131 : decode cX3_init 131 = .ok (.iload_n 1, 1) := by decide +kernel
theorem dX3_init_132 : decode cX3_init 132 = .ok (.bipush 33, 2) := by decide +kernel
theorem dX3_init_134 : decode cX3_init 134 = .ok (.if_icmp .ge 33, 3) := by decide +kernel
theorem dX3_init_137 : decode cX3_init 137 = .ok (.aload_n 0, 1) := by decide +kernel
theorem dX3_init_138 : decode cX3_init 138 = .ok (.getfield 19, 3) := by decide +kernel
theorem dX3_init_141 : decode cX3_init 141 = .ok (.iload_n 1, 1) := by decide +kernel
theorem dX3_init_142 : decode cX3_init 142 = .ok (.iload_n 1, 1) := by decide +kernel
theorem dX3_init_143 : decode cX3_init 143 = .ok (.bipush 25, 2) := by decide +kernel
theorem dX3_init_145 : decode cX3_init 145 = .ok (.if_icmp .ge 14, 3) := by decide +kernel
theorem dX3_init_148 : decode cX3_init 148 = .ok (.sipush 1000, 3) := by decide +kernel
theorem dX3_init_151 : decode cX3_init 151 = .ok (.bipush 40, 2) := by decide +kernel
theorem dX3_init_153 : decode cX3_init 153 = .ok (.iload_n 1, 1) := by decide +kernel
theorem dX3_init_154 : decode cX3_init 154 = .ok (.imul, 1) := by decide +kernel
theorem dX3_init_155 : decode cX3_init 155 = .ok (.isub, 1) := by decide +kernel
theorem dX3_init_156 : decode cX3_init 156 = .ok (.goto 4, 3) := by decide +kernel
theorem dX3_init_159 : decode cX3_init 159 = .ok (.iconst 0, 1) := by decide +kernel
theorem dX3_init_160 : decode cX3_init 160 = .ok (.iastore, 1) := by decide +kernel
theorem dX3_init_161 : decode cX3_init 161 = .ok (.iinc 1 1, 3) := by decide +kernel
theorem dX3_init_164 : decode cX3_init 164 = .ok (.goto (-33), 3) := by decide +kernel
theorem dX3_init_167 : decode cX3_init 167 = .ok (.return_, 1) := by decide +kernel
theorem dX3_slot_0 : decode cX3_slot 0 = .ok (.iload_n 1, 1) := by decide +kernel
theorem dX3_slot_1 : decode cX3_slot 1 = .ok (.ifCond .lt 51, 3) := by decide +kernel
theorem dX3_slot_4 : decode cX3_slot 4 = .ok (.iload_n 1, 1) := by decide +kernel
theorem dX3_slot_5 : decode cX3_slot 5 = .ok (.iconst 4, 1) := by decide +kernel
theorem dX3_slot_6 : decode cX3_slot 6 = .ok (.if_icmp .gt 46, 3) := by decide +kernel
theorem dX3_slot_9 : decode cX3_slot 9 = .ok (.iload_n 2, 1) := by decide +kernel
theorem dX3_slot_10 : decode cX3_slot 10 = .ok (.ifCond .lt 42, 3) := by decide +kernel
theorem dX3_slot_13 : decode cX3_slot 13 = .ok (.iload_n 2, 1) := by decide +kernel
theorem dX3_slot_14 : decode cX3_slot 14 = .ok (.sipush 1440, 3) := by decide +kernel
theorem dX3_slot_17 : decode cX3_slot 17 = .ok (.if_icmp .ge 35, 3) := by decide +kernel
theorem dX3_slot_20 : decode cX3_slot 20 = .ok (.iload_n 3, 1) := by decide +kernel
theorem dX3_slot_21 : decode cX3_slot 21 = .ok (.iload_n 1, 1) := by decide +kernel
theorem dX3_slot_22 : decode cX3_slot 22 = .ok (.iconst 4, 1) := by decide +kernel
theorem dX3_slot_23 : decode cX3_slot 23 = .ok (.if_icmp .ne 7, 3) := by decide +kernel
theorem dX3_slot_26 : decode cX3_slot 26 = .ok (.iconst 0, 1) := by decide +kernel
theorem dX3_slot_27 : decode cX3_slot 27 = .ok (.goto 4, 3) := by decide +kernel
theorem dX3_slot_30 : decode cX3_slot 30 = .ok (.iconst 1, 1) := by decide +kernel
theorem dX3_slot_31 : decode cX3_slot 31 = .ok (.if_icmp .lt 21, 3) := by decide +kernel
theorem dX3_slot_34 : decode cX3_slot 34 = .ok (.iload_n 3, 1) := by decide +kernel
theorem dX3_slot_35 : decode cX3_slot 35 = .ok (.iload_n 1, 1) := by decide +kernel
theorem dX3_slot_36 : decode cX3_slot 36 = .ok (.iconst 4, 1) := by decide +kernel
theorem dX3_slot_37 : decode cX3_slot 37 = .ok (.if_icmp .ne 9, 3) := by decide +kernel
theorem dX3_slot_40 : decode cX3_slot 40 = .ok (.sipush 20000, 3) := by decide +kernel
theorem dX3_slot_43 : decode cX3_slot 43 = .ok (.goto 6, 3) := by decide +kernel
theorem dX3_slot_46 : decode cX3_slot 46 = .ok (.sipush 1000, 3) := by decide +kernel
theorem dX3_slot_49 : decode cX3_slot 49 = .ok (.if_icmp .le 5, 3) := by decide +kernel
theorem dX3_slot_52 : decode cX3_slot 52 = .ok (.iconst 0, 1) := by decide +kernel
theorem dX3_slot_53 : decode cX3_slot 53 = .ok (.ireturn, 1) := by decide +kernel
theorem dX3_slot_54 : decode cX3_slot 54 = .ok (.iconst 0, 1) := by decide +kernel
theorem dX3_slot_55 : decode cX3_slot 55 = .ok (.istore 4, 2) := by decide +kernel
theorem dX3_slot_57 : decode cX3_slot 57 = .ok (.iload 4, 2) := by decide +kernel
theorem dX3_slot_59 : decode cX3_slot 59 = .ok (.aload_n 0, 1) := by decide +kernel
theorem dX3_slot_60 : decode cX3_slot 60 = .ok (.getfield 7, 3) := by decide +kernel
theorem dX3_slot_63 : decode cX3_slot 63 = .ok (.iload_n 1, 1) := by decide +kernel
theorem dX3_slot_64 : decode cX3_slot 64 = .ok (.iaload, 1) := by decide +kernel
theorem dX3_slot_65 : decode cX3_slot 65 = .ok (.if_icmp .ge 25, 3) := by decide +kernel
theorem dX3_slot_68 : decode cX3_slot 68 = .ok (.aload_n 0, 1) := by decide +kernel
theorem dX3_slot_69 : decode cX3_slot 69 = .ok (.getfield 13, 3) := by decide +kernel
theorem dX3_slot_72 : decode cX3_slot 72 = .ok (.bipush 8, 2) := by decide +kernel
theorem dX3_slot_74 : decode cX3_slot 74 = .ok (.iload_n 1, 1) := by decide +kernel
theorem dX3_slot_75 : decode cX3_slot 75 = .ok (.imul, 1) := by decide +kernel
theorem dX3_slot_76 : decode cX3_slot 76 = .ok (.iload 4, 2) := by decide +kernel
theorem dX3_slot_78 : decode cX3_slot 78 = .ok (.iadd, 1) := by decide +kernel
theorem dX3_slot_79 : decode cX3_slot 79 = .ok (.iaload, 1) := by decide +kernel
theorem dX3_slot_80 : decode cX3_slot 80 = .ok (.iload_n 2, 1) := by decide +kernel
theorem dX3_slot_81 : decode cX3_slot 81 = .ok (.if_icmp .eq 9, 3) := by decide +kernel
theorem dX3_slot_84 : decode cX3_slot 84 = .ok (.iinc 4 1, 3) := by decide +kernel
theorem dX3_slot_87 : decode cX3_slot 87 = .ok (.goto (-30), 3) := by decide +kernel
theorem dX3_slot_90 : decode cX3_slot 90 = .ok (.iload 4, 2) := by decide +kernel
theorem dX3_slot_92 : decode cX3_slot 92 = .ok (.bipush 8, 2) := by decide +kernel
theorem dX3_slot_94 : decode cX3_slot 94 = .ok (.if_icmp .ne 5, 3) := by decide +kernel
theorem dX3_slot_97 : decode cX3_slot 97 = .ok (.iconst 0, 1) := by decide +kernel
theorem dX3_slot_98 : decode cX3_slot 98 = .ok (.ireturn, 1) := by decide +kernel
theorem dX3_slot_99 : decode cX3_slot 99 = .ok (.aload_n 0, 1) := by decide +kernel
theorem dX3_slot_100 : decode cX3_slot 100 = .ok (.getfield 7, 3) := by decide +kernel
theorem dX3_slot_103 : decode cX3_slot 103 = .ok (.iload_n 1, 1) := by decide +kernel
theorem dX3_slot_104 : decode cX3_slot 104 = .ok (.iload 4, 2) := by decide +kernel
theorem dX3_slot_106 : decode cX3_slot 106 = .ok (.aload_n 0, 1) := by decide +kernel
theorem dX3_slot_107 : decode cX3_slot 107 = .ok (.getfield 7, 3) := by decide +kernel
theorem dX3_slot_110 : decode cX3_slot 110 = .ok (.iload_n 1, 1) := by decide +kernel
theorem dX3_slot_111 : decode cX3_slot 111 = .ok (.iaload, 1) := by decide +kernel
theorem dX3_slot_112 : decode cX3_slot 112 = .ok (.if_icmp .ne 10, 3) := by decide +kernel
theorem dX3_slot_115 : decode cX3_slot 115 = .ok (.iload 4, 2) := by decide +kernel
theorem dX3_slot_117 : decode cX3_slot 117 = .ok (.iconst 1, 1) := by decide +kernel
theorem dX3_slot_118 : decode cX3_slot 118 = .ok (.iadd, 1) := by decide +kernel
theorem dX3_slot_119 : decode cX3_slot 119 = .ok (.goto 9, 3) := by decide +kernel
theorem dX3_slot_122 : decode cX3_slot 122 = .ok (.aload_n 0, 1) := by decide +kernel
theorem dX3_slot_123 : decode cX3_slot 123 = .ok (.getfield 7, 3) := by decide +kernel
theorem dX3_slot_126 : decode cX3_slot 126 = .ok (.iload_n 1, 1) := by decide +kernel
theorem dX3_slot_127 : decode cX3_slot 127 = .ok (.iaload, 1) := by decide +kernel
theorem dX3_slot_128 : decode cX3_slot 128 = .ok (.iastore, 1) := by decide +kernel
theorem dX3_slot_129 : decode cX3_slot 129 = .ok (.aload_n 0, 1) := by decide +kernel
theorem dX3_slot_130 : decode cX3_slot 130 = .ok (.getfield 13, 3) := by decide +kernel
theorem dX3_slot_133 : decode cX3_slot 133 = .ok (.bipush 8, 2) := by decide +kernel
theorem dX3_slot_135 : decode cX3_slot 135 = .ok (.iload_n 1, 1) := by decide +kernel
theorem dX3_slot_136 : decode cX3_slot 136 = .ok (.imul, 1) := by decide +kernel
theorem dX3_slot_137 : decode cX3_slot 137 = .ok (.iload 4, 2) := by decide +kernel
theorem dX3_slot_139 : decode cX3_slot 139 = .ok (.iadd, 1) := by decide +kernel
theorem dX3_slot_140 : decode cX3_slot 140 = .ok (.iload_n 2, 1) := by decide +kernel
theorem dX3_slot_141 : decode cX3_slot 141 = .ok (.iastore, 1) := by decide +kernel
theorem dX3_slot_142 : decode cX3_slot 142 = .ok (.aload_n 0, 1) := by decide +kernel
theorem dX3_slot_143 : decode cX3_slot 143 = .ok (.getfield 16, 3) := by decide +kernel
theorem dX3_slot_146 : decode cX3_slot 146 = .ok (.bipush 8, 2) := by decide +kernel
theorem dX3_slot_148 : decode cX3_slot 148 = .ok (.iload_n 1, 1) := by decide +kernel
theorem dX3_slot_149 : decode cX3_slot 149 = .ok (.imul, 1) := by decide +kernel
theorem dX3_slot_150 : decode cX3_slot 150 = .ok (.iload 4, 2) := by decide +kernel
theorem dX3_slot_152 : decode cX3_slot 152 = .ok (.iadd, 1) := by decide +kernel
theorem dX3_slot_153 : decode cX3_slot 153 = .ok (.iload_n 3, 1) := by decide +kernel
theorem dX3_slot_154 : decode cX3_slot 154 = .ok (.iastore, 1) := by decide +kernel
theorem dX3_slot_155 : decode cX3_slot 155 = .ok (.iconst 1, 1) := by decide +kernel
theorem dX3_slot_156 : decode cX3_slot 156 = .ok (.ireturn, 1) := by decide +kernel
theorem dX3_first_0 : decode cX3_first 0 = .ok (.iload_n 0, 1) := by decide +kernel
theorem dX3_first_1 : decode cX3_first 1 = .ok (.ifCond .ne 8, 3) := by decide +kernel
theorem dX3_first_4 : decode cX3_first 4 = .ok (.bipush 10, 2) := by decide +kernel
theorem dX3_first_6 : decode cX3_first 6 = .ok (.goto 34, 3) := by decide +kernel
theorem dX3_first_9 : decode cX3_first 9 = .ok (.iload_n 0, 1) := by decide +kernel
theorem dX3_first_10 : decode cX3_first 10 = .ok (.iconst 1, 1) := by decide +kernel
theorem dX3_first_11 : decode cX3_first 11 = .ok (.if_icmp .ne 8, 3) := by decide +kernel
theorem dX3_first_14 : decode cX3_first 14 = .ok (.bipush 50, 2) := by decide +kernel
theorem dX3_first_16 : decode cX3_first 16 = .ok (.goto 24, 3) := by decide +kernel
theorem dX3_first_19 : decode cX3_first 19 = .ok (.iload_n 0, 1) := by decide +kernel
theorem dX3_first_20 : decode cX3_first 20 = .ok (.iconst 2, 1) := by decide +kernel
theorem dX3_first_21 : decode cX3_first 21 = .ok (.if_icmp .ne 8, 3) := by decide +kernel
theorem dX3_first_24 : decode cX3_first 24 = .ok (.bipush 100, 2) := by decide +kernel
theorem dX3_first_26 : decode cX3_first 26 = .ok (.goto 14, 3) := by decide +kernel
theorem dX3_first_29 : decode cX3_first 29 = .ok (.iload_n 0, 1) := by decide +kernel
theorem dX3_first_30 : decode cX3_first 30 = .ok (.iconst 3, 1) := by decide +kernel
theorem dX3_first_31 : decode cX3_first 31 = .ok (.if_icmp .ne 8, 3) := by decide +kernel
theorem dX3_first_34 : decode cX3_first 34 = .ok (.bipush 120, 2) := by decide +kernel
theorem dX3_first_36 : decode cX3_first 36 = .ok (.goto 4, 3) := by decide +kernel
theorem dX3_first_39 : decode cX3_first 39 = .ok (.iconst 0, 1) := by decide +kernel
theorem dX3_first_40 : decode cX3_first 40 = .ok (.ireturn, 1) := by decide +kernel
theorem dX3_value_0 : decode cX3_value 0 = .ok (.iload_n 1, 1) := by decide +kernel
theorem dX3_value_1 : decode cX3_value 1 = .ok (.ifCond .lt 19, 3) := by decide +kernel
theorem dX3_value_4 : decode cX3_value 4 = .ok (.iload_n 1, 1) := by decide +kernel
theorem dX3_value_5 : decode cX3_value 5 = .ok (.iconst 4, 1) := by decide +kernel
theorem dX3_value_6 : decode cX3_value 6 = .ok (.if_icmp .gt 14, 3) := by decide +kernel
theorem dX3_value_9 : decode cX3_value 9 = .ok (.iload_n 2, 1) := by decide +kernel
theorem dX3_value_10 : decode cX3_value 10 = .ok (.ifCond .lt 10, 3) := by decide +kernel
theorem dX3_value_13 : decode cX3_value 13 = .ok (.iload_n 2, 1) := by decide +kernel
theorem dX3_value_14 : decode cX3_value 14 = .ok (.sipush 1440, 3) := by decide +kernel
theorem dX3_value_17 : decode cX3_value 17 = .ok (.if_icmp .lt 5, 3) := by decide +kernel
theorem dX3_value_20 : decode cX3_value 20 = .ok (.iconst (-1), 1) := by decide +kernel
theorem dX3_value_21 : decode cX3_value 21 = .ok (.ireturn, 1) := by decide +kernel
theorem dX3_value_22 : decode cX3_value 22 = .ok (.iconst (-1), 1) := by decide +kernel
theorem dX3_value_23 : decode cX3_value 23 = .ok (.istore_n 3, 1) := by decide +kernel
theorem dX3_value_24 : decode cX3_value 24 = .ok (.bipush 8, 2) := by decide +kernel
theorem dX3_value_26 : decode cX3_value 26 = .ok (.iload_n 1, 1) := by decide +kernel
theorem dX3_value_27 : decode cX3_value 27 = .ok (.imul, 1) := by decide +kernel
theorem dX3_value_28 : decode cX3_value 28 = .ok (.istore 4, 2) := by decide +kernel
theorem dX3_value_30 : decode cX3_value 30 = .ok (.iload 4, 2) := by decide +kernel
theorem dX3_value_32 : decode cX3_value 32 = .ok (.bipush 8, 2) := by decide +kernel
theorem dX3_value_34 : decode cX3_value 34 = .ok (.iload_n 1, 1) := by decide +kernel
theorem dX3_value_35 : decode cX3_value 35 = .ok (.imul, 1) := by decide +kernel
theorem dX3_value_36 : decode cX3_value 36 = .ok (.aload_n 0, 1) := by decide +kernel
theorem dX3_value_37 : decode cX3_value 37 = .ok (.getfield 7, 3) := by decide +kernel
theorem dX3_value_40 : decode cX3_value 40 = .ok (.iload_n 1, 1) := by decide +kernel
theorem dX3_value_41 : decode cX3_value 41 = .ok (.iaload, 1) := by decide +kernel
theorem dX3_value_42 : decode cX3_value 42 = .ok (.iadd, 1) := by decide +kernel
theorem dX3_value_43 : decode cX3_value 43 = .ok (.if_icmp .ge 61, 3) := by decide +kernel
theorem dX3_value_46 : decode cX3_value 46 = .ok (.iload_n 2, 1) := by decide +kernel
theorem dX3_value_47 : decode cX3_value 47 = .ok (.aload_n 0, 1) := by decide +kernel
theorem dX3_value_48 : decode cX3_value 48 = .ok (.getfield 13, 3) := by decide +kernel
theorem dX3_value_51 : decode cX3_value 51 = .ok (.iload 4, 2) := by decide +kernel
theorem dX3_value_53 : decode cX3_value 53 = .ok (.iaload, 1) := by decide +kernel
theorem dX3_value_54 : decode cX3_value 54 = .ok (.isub, 1) := by decide +kernel
theorem dX3_value_55 : decode cX3_value 55 = .ok (.sipush 1440, 3) := by decide +kernel
theorem dX3_value_58 : decode cX3_value 58 = .ok (.iadd, 1) := by decide +kernel
theorem dX3_value_59 : decode cX3_value 59 = .ok (.sipush 1440, 3) := by decide +kernel
theorem dX3_value_62 : decode cX3_value 62 = .ok (.irem, 1) := by decide +kernel
theorem dX3_value_63 : decode cX3_value 63 = .ok (.istore 5, 2) := by decide +kernel
theorem dX3_value_65 : decode cX3_value 65 = .ok (.iload_n 3, 1) := by decide +kernel
theorem dX3_value_66 : decode cX3_value 66 = .ok (.iconst (-1), 1) := by decide +kernel
theorem dX3_value_67 : decode cX3_value 67 = .ok (.if_icmp .eq 24, 3) := by decide +kernel
theorem dX3_value_70 : decode cX3_value 70 = .ok (.iload 5, 2) := by decide +kernel
theorem dX3_value_72 : decode cX3_value 72 = .ok (.iload_n 2, 1) := by decide +kernel
theorem dX3_value_73 : decode cX3_value 73 = .ok (.aload_n 0, 1) := by decide +kernel
theorem dX3_value_74 : decode cX3_value 74 = .ok (.getfield 13, 3) := by decide +kernel
theorem dX3_value_77 : decode cX3_value 77 = .ok (.iload_n 3, 1) := by decide +kernel
theorem dX3_value_78 : decode cX3_value 78 = .ok (.iaload, 1) := by decide +kernel
theorem dX3_value_79 : decode cX3_value 79 = .ok (.isub, 1) := by decide +kernel
theorem dX3_value_80 : decode cX3_value 80 = .ok (.sipush 1440, 3) := by decide +kernel
theorem dX3_value_83 : decode cX3_value 83 = .ok (.iadd, 1) := by decide +kernel
theorem dX3_value_84 : decode cX3_value 84 = .ok (.sipush 1440, 3) := by decide +kernel
theorem dX3_value_87 : decode cX3_value 87 = .ok (.irem, 1) := by decide +kernel
theorem dX3_value_88 : decode cX3_value 88 = .ok (.if_icmp .ge 8, 3) := by decide +kernel
theorem dX3_value_91 : decode cX3_value 91 = .ok (.iload 4, 2) := by decide +kernel
theorem dX3_value_93 : decode cX3_value 93 = .ok (.goto 4, 3) := by decide +kernel
theorem dX3_value_96 : decode cX3_value 96 = .ok (.iload_n 3, 1) := by decide +kernel
theorem dX3_value_97 : decode cX3_value 97 = .ok (.istore_n 3, 1) := by decide +kernel
theorem dX3_value_98 : decode cX3_value 98 = .ok (.iinc 4 1, 3) := by decide +kernel
theorem dX3_value_101 : decode cX3_value 101 = .ok (.goto (-71), 3) := by decide +kernel
theorem dX3_value_104 : decode cX3_value 104 = .ok (.iload_n 3, 1) := by decide +kernel
theorem dX3_value_105 : decode cX3_value 105 = .ok (.iconst (-1), 1) := by decide +kernel
theorem dX3_value_106 : decode cX3_value 106 = .ok (.if_icmp .ne 10, 3) := by decide +kernel
theorem dX3_value_109 : decode cX3_value 109 = .ok (.iload_n 1, 1) := by decide +kernel
theorem dX3_value_110 : decode cX3_value 110 = .ok (.invokestatic 60, 3) := by decide +kernel
theorem dX3_value_113 : decode cX3_value 113 = .ok (.goto 9, 3) := by decide +kernel
theorem dX3_value_116 : decode cX3_value 116 = .ok (.aload_n 0, 1) := by decide +kernel
theorem dX3_value_117 : decode cX3_value 117 = .ok (.getfield 16, 3) := by decide +kernel
theorem dX3_value_120 : decode cX3_value 120 = .ok (.iload_n 3, 1) := by decide +kernel
theorem dX3_value_121 : decode cX3_value 121 = .ok (.iaload, 1) := by decide +kernel
theorem dX3_value_122 : decode cX3_value 122 = .ok (.ireturn, 1) := by decide +kernel
theorem dX3_decay_0 : decode cX3_decay 0 = .ok (.iload_n 1, 1) := by decide +kernel
theorem dX3_decay_1 : decode cX3_decay 1 = .ok (.ifCond .lt 54, 3) := by decide +kernel
theorem dX3_decay_4 : decode cX3_decay 4 = .ok (.iload_n 1, 1) := by decide +kernel
theorem dX3_decay_5 : decode cX3_decay 5 = .ok (.bipush 32, 2) := by decide +kernel
theorem dX3_decay_7 : decode cX3_decay 7 = .ok (.if_icmp .gt 48, 3) := by decide +kernel
theorem dX3_decay_10 : decode cX3_decay 10 = .ok (.iload_n 2, 1) := by decide +kernel
theorem dX3_decay_11 : decode cX3_decay 11 = .ok (.ifCond .lt 44, 3) := by decide +kernel
theorem dX3_decay_14 : decode cX3_decay 14 = .ok (.iload_n 2, 1) := by decide +kernel
theorem dX3_decay_15 : decode cX3_decay 15 = .ok (.sipush 1000, 3) := by decide +kernel
theorem dX3_decay_18 : decode cX3_decay 18 = .ok (.if_icmp .gt 37, 3) := by decide +kernel
theorem dX3_decay_21 : decode cX3_decay 21 = .ok (.iload_n 1, 1) := by decide +kernel
theorem dX3_decay_22 : decode cX3_decay 22 = .ok (.ifCond .le 15, 3) := by decide +kernel
theorem dX3_decay_25 : decode cX3_decay 25 = .ok (.iload_n 2, 1) := by decide +kernel
theorem dX3_decay_26 : decode cX3_decay 26 = .ok (.aload_n 0, 1) := by decide +kernel
theorem dX3_decay_27 : decode cX3_decay 27 = .ok (.getfield 19, 3) := by decide +kernel
theorem dX3_decay_30 : decode cX3_decay 30 = .ok (.iload_n 1, 1) := by decide +kernel
theorem dX3_decay_31 : decode cX3_decay 31 = .ok (.iconst 1, 1) := by decide +kernel
theorem dX3_decay_32 : decode cX3_decay 32 = .ok (.isub, 1) := by decide +kernel
theorem dX3_decay_33 : decode cX3_decay 33 = .ok (.iaload, 1) := by decide +kernel
theorem dX3_decay_34 : decode cX3_decay 34 = .ok (.if_icmp .gt 21, 3) := by decide +kernel
theorem dX3_decay_37 : decode cX3_decay 37 = .ok (.iload_n 1, 1) := by decide +kernel
theorem dX3_decay_38 : decode cX3_decay 38 = .ok (.bipush 32, 2) := by decide +kernel
theorem dX3_decay_40 : decode cX3_decay 40 = .ok (.if_icmp .ge 17, 3) := by decide +kernel
theorem dX3_decay_43 : decode cX3_decay 43 = .ok (.iload_n 2, 1) := by decide +kernel
theorem dX3_decay_44 : decode cX3_decay 44 = .ok (.aload_n 0, 1) := by decide +kernel
theorem dX3_decay_45 : decode cX3_decay 45 = .ok (.getfield 19, 3) := by decide +kernel
theorem dX3_decay_48 : decode cX3_decay 48 = .ok (.iload_n 1, 1) := by decide +kernel
theorem dX3_decay_49 : decode cX3_decay 49 = .ok (.iconst 1, 1) := by decide +kernel
theorem dX3_decay_50 : decode cX3_decay 50 = .ok (.iadd, 1) := by decide +kernel
theorem dX3_decay_51 : decode cX3_decay 51 = .ok (.iaload, 1) := by decide +kernel
theorem dX3_decay_52 : decode cX3_decay 52 = .ok (.if_icmp .ge 5, 3) := by decide +kernel
theorem dX3_decay_55 : decode cX3_decay 55 = .ok (.iconst 0, 1) := by decide +kernel
theorem dX3_decay_56 : decode cX3_decay 56 = .ok (.ireturn, 1) := by decide +kernel
theorem dX3_decay_57 : decode cX3_decay 57 = .ok (.aload_n 0, 1) := by decide +kernel
theorem dX3_decay_58 : decode cX3_decay 58 = .ok (.getfield 19, 3) := by decide +kernel
theorem dX3_decay_61 : decode cX3_decay 61 = .ok (.iload_n 1, 1) := by decide +kernel
theorem dX3_decay_62 : decode cX3_decay 62 = .ok (.iload_n 2, 1) := by decide +kernel
theorem dX3_decay_63 : decode cX3_decay 63 = .ok (.iastore, 1) := by decide +kernel
theorem dX3_decay_64 : decode cX3_decay 64 = .ok (.iconst 1, 1) := by decide +kernel
theorem dX3_decay_65 : decode cX3_decay 65 = .ok (.ireturn, 1) := by decide +kernel
theorem dX3_limits_0 : decode cX3_limits 0 = .ok (.iload_n 1, 1) := by decide +kernel
theorem dX3_limits_1 : decode cX3_limits 1 = .ok (.ifCond .lt 44, 3) := by decide +kernel
theorem dX3_limits_4 : decode cX3_limits 4 = .ok (.iload_n 1, 1) := by decide +kernel
theorem dX3_limits_5 : decode cX3_limits 5 = .ok (.ldc 64, 2) := by decide +kernel
theorem dX3_limits_7 : decode cX3_limits 7 = .ok (.if_icmp .gt 38, 3) := by decide +kernel
theorem dX3_limits_10 : decode cX3_limits 10 = .ok (.iload_n 2, 1) := by decide +kernel
theorem dX3_limits_11 : decode cX3_limits 11 = .ok (.ifCond .lt 34, 3) := by decide +kernel
theorem dX3_limits_14 : decode cX3_limits 14 = .ok (.iload_n 2, 1) := by decide +kernel
theorem dX3_limits_15 : decode cX3_limits 15 = .ok (.ldc 65, 2) := by decide +kernel
theorem dX3_limits_17 : decode cX3_limits 17 = .ok (.if_icmp .gt 28, 3) := by decide +kernel
theorem dX3_limits_20 : decode cX3_limits 20 = .ok (.iload_n 3, 1) := by decide +kernel
theorem dX3_limits_21 : decode cX3_limits 21 = .ok (.iconst 1, 1) := by decide +kernel
theorem dX3_limits_22 : decode cX3_limits 22 = .ok (.if_icmp .lt 23, 3) := by decide +kernel
theorem dX3_limits_25 : decode cX3_limits 25 = .ok (.iload_n 3, 1) := by decide +kernel
theorem dX3_limits_26 : decode cX3_limits 26 = .ok (.sipush 400, 3) := by decide +kernel
theorem dX3_limits_29 : decode cX3_limits 29 = .ok (.if_icmp .gt 16, 3) := by decide +kernel
theorem dX3_limits_32 : decode cX3_limits 32 = .ok (.iload 4, 2) := by decide +kernel
theorem dX3_limits_34 : decode cX3_limits 34 = .ok (.iconst 1, 1) := by decide +kernel
theorem dX3_limits_35 : decode cX3_limits 35 = .ok (.if_icmp .lt 10, 3) := by decide +kernel
theorem dX3_limits_38 : decode cX3_limits 38 = .ok (.iload 4, 2) := by decide +kernel
theorem dX3_limits_40 : decode cX3_limits 40 = .ok (.bipush 20, 2) := by decide +kernel
theorem dX3_limits_42 : decode cX3_limits 42 = .ok (.if_icmp .le 5, 3) := by decide +kernel
theorem dX3_limits_45 : decode cX3_limits 45 = .ok (.iconst 0, 1) := by decide +kernel
theorem dX3_limits_46 : decode cX3_limits 46 = .ok (.ireturn, 1) := by decide +kernel
theorem dX3_limits_47 : decode cX3_limits 47 = .ok (.aload_n 0, 1) := by decide +kernel
theorem dX3_limits_48 : decode cX3_limits 48 = .ok (.iload_n 1, 1) := by decide +kernel
theorem dX3_limits_49 : decode cX3_limits 49 = .ok (.putfield 22, 3) := by decide +kernel
theorem dX3_limits_52 : decode cX3_limits 52 = .ok (.aload_n 0, 1) := by decide +kernel
theorem dX3_limits_53 : decode cX3_limits 53 = .ok (.iload_n 2, 1) := by decide +kernel
theorem dX3_limits_54 : decode cX3_limits 54 = .ok (.putfield 27, 3) := by decide +kernel
theorem dX3_limits_57 : decode cX3_limits 57 = .ok (.aload_n 0, 1) := by decide +kernel
theorem dX3_limits_58 : decode cX3_limits 58 = .ok (.iload_n 3, 1) := by decide +kernel
theorem dX3_limits_59 : decode cX3_limits 59 = .ok (.putfield 30, 3) := by decide +kernel
theorem dX3_limits_62 : decode cX3_limits 62 = .ok (.aload_n 0, 1) := by decide +kernel
theorem dX3_limits_63 : decode cX3_limits 63 = .ok (.iload 4, 2) := by decide +kernel
theorem dX3_limits_65 : decode cX3_limits 65 = .ok (.putfield 33, 3) := by decide +kernel
theorem dX3_limits_68 : decode cX3_limits 68 = .ok (.iconst 1, 1) := by decide +kernel
theorem dX3_limits_69 : decode cX3_limits 69 = .ok (.ireturn, 1) := by decide +kernel
theorem dX3_isMinute_0 : decode cX3_isMinute 0 = .ok (.iload_n 1, 1) := by decide +kernel
theorem dX3_isMinute_1 : decode cX3_isMinute 1 = .ok (.aload_n 0, 1) := by decide +kernel
theorem dX3_isMinute_2 : decode cX3_isMinute 2 = .ok (.getfield 66, 3) := by decide +kernel
theorem dX3_isMinute_5 : decode cX3_isMinute 5 = .ok (.if_icmp .lt 25, 3) := by decide +kernel
theorem dX3_isMinute_8 : decode cX3_isMinute 8 = .ok (.iload_n 1, 1) := by decide +kernel
theorem dX3_isMinute_9 : decode cX3_isMinute 9 = .ok (.ldc 64, 2) := by decide +kernel
theorem dX3_isMinute_11 : decode cX3_isMinute 11 = .ok (.if_icmp .gt 19, 3) := by decide +kernel
theorem dX3_isMinute_14 : decode cX3_isMinute 14 = .ok (.iload_n 1, 1) := by decide +kernel
theorem dX3_isMinute_15 : decode cX3_isMinute 15 = .ok (.aload_n 0, 1) := by decide +kernel
theorem dX3_isMinute_16 : decode cX3_isMinute 16 = .ok (.getfield 66, 3) := by decide +kernel
theorem dX3_isMinute_19 : decode cX3_isMinute 19 = .ok (.sipush 2880, 3) := by decide +kernel
theorem dX3_isMinute_22 : decode cX3_isMinute 22 = .ok (.iadd, 1) := by decide +kernel
theorem dX3_isMinute_23 : decode cX3_isMinute 23 = .ok (.if_icmp .gt 7, 3) := by decide +kernel
theorem dX3_isMinute_26 : decode cX3_isMinute 26 = .ok (.iconst 1, 1) := by decide +kernel
theorem dX3_isMinute_27 : decode cX3_isMinute 27 = .ok (.goto 4, 3) := by decide +kernel
theorem dX3_isMinute_30 : decode cX3_isMinute 30 = .ok (.iconst 0, 1) := by decide +kernel
theorem dX3_isMinute_31 : decode cX3_isMinute 31 = .ok (.ireturn, 1) := by decide +kernel
theorem dX3_goOn_0 : decode cX3_goOn 0 = .ok (.aload_n 0, 1) := by decide +kernel
theorem dX3_goOn_1 : decode cX3_goOn 1 = .ok (.getfield 66, 3) := by decide +kernel
theorem dX3_goOn_4 : decode cX3_goOn 4 = .ok (.iload_n 1, 1) := by decide +kernel
theorem dX3_goOn_5 : decode cX3_goOn 5 = .ok (.if_icmp .ge 79, 3) := by decide +kernel
theorem dX3_goOn_8 : decode cX3_goOn 8 = .ok (.aload_n 0, 1) := by decide +kernel
theorem dX3_goOn_9 : decode cX3_goOn 9 = .ok (.getfield 69, 3) := by decide +kernel
theorem dX3_goOn_12 : decode cX3_goOn 12 = .ok (.ifCond .ne 59, 3) := by decide +kernel
theorem dX3_goOn_15 : decode cX3_goOn 15 = .ok (.aload_n 0, 1) := by decide +kernel
theorem dX3_goOn_16 : decode cX3_goOn 16 = .ok (.dup, 1) := by decide +kernel
theorem dX3_goOn_17 : decode cX3_goOn 17 = .ok (.getfield 73, 3) := by decide +kernel
theorem dX3_goOn_20 : decode cX3_goOn 20 = .ok (.aload_n 0, 1) := by decide +kernel
theorem dX3_goOn_21 : decode cX3_goOn 21 = .ok (.iconst 4, 1) := by decide +kernel
theorem dX3_goOn_22 : decode cX3_goOn 22 = .ok (.aload_n 0, 1) := by decide +kernel
theorem dX3_goOn_23 : decode cX3_goOn 23 = .ok (.getfield 66, 3) := by decide +kernel
theorem dX3_goOn_26 : decode cX3_goOn 26 = .ok (.sipush 1440, 3) := by decide +kernel
theorem dX3_goOn_29 : decode cX3_goOn 29 = .ok (.irem, 1) := by decide +kernel
theorem dX3_goOn_30 : decode cX3_goOn 30 = .ok (.invokevirtual 76, 3) := by decide +kernel
theorem dX3_goOn_33 : decode cX3_goOn 33 = .ok (.iadd, 1) := by decide +kernel
theorem dX3_goOn_34 : decode cX3_goOn 34 = .ok (.putfield 73, 3) := by decide +kernel
theorem dX3_goOn_37 : decode cX3_goOn 37 = .ok (.aload_n 0, 1) := by decide +kernel
theorem dX3_goOn_38 : decode cX3_goOn 38 = .ok (.getfield 36, 3) := by decide +kernel
theorem dX3_goOn_41 : decode cX3_goOn 41 = .ok (.aload_n 0, 1) := by decide +kernel
theorem dX3_goOn_42 : decode cX3_goOn 42 = .ok (.getfield 66, 3) := by decide +kernel
theorem dX3_goOn_45 : decode cX3_goOn 45 = .ok (.sipush 1440, 3) := by decide +kernel
theorem dX3_goOn_48 : decode cX3_goOn 48 = .ok (.idiv, 1) := by decide +kernel
theorem dX3_goOn_49 : decode cX3_goOn 49 = .ok (.dup2, 1) := by decide +kernel
theorem dX3_goOn_50 : decode cX3_goOn 50 = .ok (.iaload, 1) := by decide +kernel
theorem dX3_goOn_51 : decode cX3_goOn 51 = .ok (.aload_n 0, 1) := by decide +kernel
theorem dX3_goOn_52 : decode cX3_goOn 52 = .ok (.getfield 73, 3) := by decide +kernel
theorem dX3_goOn_55 : decode cX3_goOn 55 = .ok (.bipush 60, 2) := by decide +kernel
theorem dX3_goOn_57 : decode cX3_goOn 57 = .ok (.idiv, 1) := by decide +kernel
theorem dX3_goOn_58 : decode cX3_goOn 58 = .ok (.iadd, 1) := by decide +kernel
theorem dX3_goOn_59 : decode cX3_goOn 59 = .ok (.iastore, 1) := by decide +kernel
theorem dX3_goOn_60 : decode cX3_goOn 60 = .ok (.aload_n 0, 1) := by decide +kernel
theorem dX3_goOn_61 : decode cX3_goOn 61 = .ok (.aload_n 0, 1) := by decide +kernel
theorem dX3_goOn_62 : decode cX3_goOn 62 = .ok (.getfield 73, 3) := by decide +kernel
theorem dX3_goOn_65 : decode cX3_goOn 65 = .ok (.bipush 60, 2) := by decide +kernel
theorem dX3_goOn_67 : decode cX3_goOn 67 = .ok (.irem, 1) := by decide +kernel
theorem dX3_goOn_68 : decode cX3_goOn 68 = .ok (.putfield 73, 3) := by decide +kernel
theorem dX3_goOn_71 : decode cX3_goOn 71 = .ok (.aload_n 0, 1) := by decide +kernel
theorem dX3_goOn_72 : decode cX3_goOn 72 = .ok (.dup, 1) := by decide +kernel
theorem dX3_goOn_73 : decode cX3_goOn 73 = .ok (.getfield 66, 3) := by decide +kernel
theorem dX3_goOn_76 : decode cX3_goOn 76 = .ok (.iconst 1, 1) := by decide +kernel
theorem dX3_goOn_77 : decode cX3_goOn 77 = .ok (.iadd, 1) := by decide +kernel
theorem dX3_goOn_78 : decode cX3_goOn 78 = .ok (.putfield 66, 3) := by decide +kernel
theorem dX3_goOn_81 : decode cX3_goOn 81 = .ok (.goto (-81), 3) := by decide +kernel
theorem dX3_goOn_84 : decode cX3_goOn 84 = .ok (.return_, 1) := by decide +kernel
theorem dX3_work_0 : decode cX3_work 0 = .ok (.lconst 0, 1) := by decide +kernel
theorem dX3_work_1 : decode cX3_work 1 = .ok (.lstore_n 1, 1) := by decide +kernel
theorem dX3_work_2 : decode cX3_work 2 = .ok (.iconst 0, 1) := by decide +kernel
theorem dX3_work_3 : decode cX3_work 3 = .ok (.istore_n 3, 1) := by decide +kernel
theorem dX3_work_4 : decode cX3_work 4 = .ok (.iload_n 3, 1) := by decide +kernel
theorem dX3_work_5 : decode cX3_work 5 = .ok (.aload_n 0, 1) := by decide +kernel
theorem dX3_work_6 : decode cX3_work 6 = .ok (.getfield 80, 3) := by decide +kernel
theorem dX3_work_9 : decode cX3_work 9 = .ok (.if_icmp .ge 59, 3) := by decide +kernel
theorem dX3_work_12 : decode cX3_work 12 = .ok (.aload_n 0, 1) := by decide +kernel
theorem dX3_work_13 : decode cX3_work 13 = .ok (.getfield 66, 3) := by decide +kernel
theorem dX3_work_16 : decode cX3_work 16 = .ok (.aload_n 0, 1) := by decide +kernel
theorem dX3_work_17 : decode cX3_work 17 = .ok (.getfield 42, 3) := by decide +kernel
theorem dX3_work_20 : decode cX3_work 20 = .ok (.iload_n 3, 1) := by decide +kernel
theorem dX3_work_21 : decode cX3_work 21 = .ok (.iaload, 1) := by decide +kernel
theorem dX3_work_22 : decode cX3_work 22 = .ok (.isub, 1) := by decide +kernel
theorem dX3_work_23 : decode cX3_work 23 = .ok (.bipush 15, 2) := by decide +kernel
theorem dX3_work_25 : decode cX3_work 25 = .ok (.idiv, 1) := by decide +kernel
theorem dX3_work_26 : decode cX3_work 26 = .ok (.istore 4, 2) := by decide +kernel
theorem dX3_work_28 : decode cX3_work 28 = .ok (.lload_n 1, 1) := by decide +kernel
theorem dX3_work_29 : decode cX3_work 29 = .ok (.iload 4, 2) := by decide +kernel
theorem dX3_work_31 : decode cX3_work 31 = .ok (.bipush 32, 2) := by decide +kernel
theorem dX3_work_33 : decode cX3_work 33 = .ok (.if_icmp .le 7, 3) := by decide +kernel
theorem dX3_work_36 : decode cX3_work 36 = .ok (.lconst 0, 1) := by decide +kernel
theorem dX3_work_37 : decode cX3_work 37 = .ok (.goto 23, 3) := by decide +kernel
theorem dX3_work_40 : decode cX3_work 40 = .ok (.aload_n 0, 1) := by decide +kernel
theorem dX3_work_41 : decode cX3_work 41 = .ok (.getfield 45, 3) := by decide +kernel
theorem dX3_work_44 : decode cX3_work 44 = .ok (.iload_n 3, 1) := by decide +kernel
theorem dX3_work_45 : decode cX3_work 45 = .ok (.iaload, 1) := by decide +kernel
theorem dX3_work_46 : decode cX3_work 46 = .ok (.i2l, 1) := by decide +kernel
theorem dX3_work_47 : decode cX3_work 47 = .ok (.aload_n 0, 1) := by decide +kernel
theorem dX3_work_48 : decode cX3_work 48 = .ok (.getfield 19, 3) := by decide +kernel
theorem dX3_work_51 : decode cX3_work 51 = .ok (.iload 4, 2) := by decide +kernel
theorem dX3_work_53 : decode cX3_work 53 = .ok (.iaload, 1) := by decide +kernel
theorem dX3_work_54 : decode cX3_work 54 = .ok (.i2l, 1) := by decide +kernel
theorem dX3_work_55 : decode cX3_work 55 = .ok (.lmul, 1) := by decide +kernel
theorem dX3_work_56 : decode cX3_work 56 = .ok (.ldc2_w 83, 3) := by decide +kernel
theorem dX3_work_59 : decode cX3_work 59 = .ok (.ldiv, 1) := by decide +kernel
theorem dX3_work_60 : decode cX3_work 60 = .ok (.ladd, 1) := by decide +kernel
theorem dX3_work_61 : decode cX3_work 61 = .ok (.lstore_n 1, 1) := by decide +kernel
theorem dX3_work_62 : decode cX3_work 62 = .ok (.iinc 3 1, 3) := by decide +kernel
theorem dX3_work_65 : decode cX3_work 65 = .ok (.goto (-61), 3) := by decide +kernel
theorem dX3_work_68 : decode cX3_work 68 = .ok (.lload_n 1, 1) := by decide +kernel
theorem dX3_work_69 : decode cX3_work 69 = .ok (.lreturn, 1) := by decide +kernel
theorem dX3_reading_0 : decode cX3_reading 0 = .ok (.aload_n 0, 1) := by decide +kernel
theorem dX3_reading_1 : decode cX3_reading 1 = .ok (.iload_n 1, 1) := by decide +kernel
theorem dX3_reading_2 : decode cX3_reading 2 = .ok (.invokevirtual 85, 3) := by decide +kernel
theorem dX3_reading_5 : decode cX3_reading 5 = .ok (.ifCond .eq 15, 3) := by decide +kernel
theorem dX3_reading_8 : decode cX3_reading 8 = .ok (.iload_n 2, 1) := by decide +kernel
theorem dX3_reading_9 : decode cX3_reading 9 = .ok (.iconst 1, 1) := by decide +kernel
theorem dX3_reading_10 : decode cX3_reading 10 = .ok (.if_icmp .lt 10, 3) := by decide +kernel
theorem dX3_reading_13 : decode cX3_reading 13 = .ok (.iload_n 2, 1) := by decide +kernel
theorem dX3_reading_14 : decode cX3_reading 14 = .ok (.sipush 1000, 3) := by decide +kernel
theorem dX3_reading_17 : decode cX3_reading 17 = .ok (.if_icmp .le 5, 3) := by decide +kernel
theorem dX3_reading_20 : decode cX3_reading 20 = .ok (.iconst (-1), 1) := by decide +kernel
theorem dX3_reading_21 : decode cX3_reading 21 = .ok (.ireturn, 1) := by decide +kernel
theorem dX3_reading_22 : decode cX3_reading 22 = .ok (.aload_n 0, 1) := by decide +kernel
theorem dX3_reading_23 : decode cX3_reading 23 = .ok (.iload_n 1, 1) := by decide +kernel
theorem dX3_reading_24 : decode cX3_reading 24 = .ok (.invokevirtual 89, 3) := by decide +kernel
theorem dX3_reading_27 : decode cX3_reading 27 = .ok (.aload_n 0, 1) := by decide +kernel
theorem dX3_reading_28 : decode cX3_reading 28 = .ok (.iconst 1, 1) := by decide +kernel
theorem dX3_reading_29 : decode cX3_reading 29 = .ok (.putfield 93, 3) := by decide +kernel
theorem dX3_reading_32 : decode cX3_reading 32 = .ok (.aload_n 0, 1) := by decide +kernel
theorem dX3_reading_33 : decode cX3_reading 33 = .ok (.iload_n 2, 1) := by decide +kernel
theorem dX3_reading_34 : decode cX3_reading 34 = .ok (.putfield 96, 3) := by decide +kernel
theorem dX3_reading_37 : decode cX3_reading 37 = .ok (.aload_n 0, 1) := by decide +kernel
theorem dX3_reading_38 : decode cX3_reading 38 = .ok (.iload_n 1, 1) := by decide +kernel
theorem dX3_reading_39 : decode cX3_reading 39 = .ok (.putfield 99, 3) := by decide +kernel
theorem dX3_reading_42 : decode cX3_reading 42 = .ok (.iload_n 2, 1) := by decide +kernel
theorem dX3_reading_43 : decode cX3_reading 43 = .ok (.aload_n 0, 1) := by decide +kernel
theorem dX3_reading_44 : decode cX3_reading 44 = .ok (.getfield 30, 3) := by decide +kernel
theorem dX3_reading_47 : decode cX3_reading 47 = .ok (.if_icmp .gt 16, 3) := by decide +kernel
theorem dX3_reading_50 : decode cX3_reading 50 = .ok (.aload_n 0, 1) := by decide +kernel
theorem dX3_reading_51 : decode cX3_reading 51 = .ok (.iconst 1, 1) := by decide +kernel
theorem dX3_reading_52 : decode cX3_reading 52 = .ok (.putfield 69, 3) := by decide +kernel
theorem dX3_reading_55 : decode cX3_reading 55 = .ok (.aload_n 0, 1) := by decide +kernel
theorem dX3_reading_56 : decode cX3_reading 56 = .ok (.iconst 0, 1) := by decide +kernel
theorem dX3_reading_57 : decode cX3_reading 57 = .ok (.putfield 102, 3) := by decide +kernel
theorem dX3_reading_60 : decode cX3_reading 60 = .ok (.goto 41, 3) := by decide +kernel
theorem dX3_reading_63 : decode cX3_reading 63 = .ok (.aload_n 0, 1) := by decide +kernel
theorem dX3_reading_64 : decode cX3_reading 64 = .ok (.getfield 69, 3) := by decide +kernel
theorem dX3_reading_67 : decode cX3_reading 67 = .ok (.ifCond .eq 34, 3) := by decide +kernel
theorem dX3_reading_70 : decode cX3_reading 70 = .ok (.aload_n 0, 1) := by decide +kernel
theorem dX3_reading_71 : decode cX3_reading 71 = .ok (.dup, 1) := by decide +kernel
theorem dX3_reading_72 : decode cX3_reading 72 = .ok (.getfield 102, 3) := by decide +kernel
theorem dX3_reading_75 : decode cX3_reading 75 = .ok (.iconst 1, 1) := by decide +kernel
theorem dX3_reading_76 : decode cX3_reading 76 = .ok (.iadd, 1) := by decide +kernel
theorem dX3_reading_77 : decode cX3_reading 77 = .ok (.putfield 102, 3) := by decide +kernel
theorem dX3_reading_80 : decode cX3_reading 80 = .ok (.aload_n 0, 1) := by decide +kernel
theorem dX3_reading_81 : decode cX3_reading 81 = .ok (.getfield 102, 3) := by decide +kernel
theorem dX3_reading_84 : decode cX3_reading 84 = .ok (.aload_n 0, 1) := by decide +kernel
theorem dX3_reading_85 : decode cX3_reading 85 = .ok (.getfield 33, 3) := by decide +kernel
theorem dX3_reading_88 : decode cX3_reading 88 = .ok (.if_icmp .lt 13, 3) := by decide +kernel
theorem dX3_reading_91 : decode cX3_reading 91 = .ok (.aload_n 0, 1) := by decide +kernel
theorem dX3_reading_92 : decode cX3_reading 92 = .ok (.iconst 0, 1) := by decide +kernel
theorem dX3_reading_93 : decode cX3_reading 93 = .ok (.putfield 69, 3) := by decide +kernel
theorem dX3_reading_96 : decode cX3_reading 96 = .ok (.aload_n 0, 1) := by decide +kernel
theorem dX3_reading_97 : decode cX3_reading 97 = .ok (.iconst 0, 1) := by decide +kernel
theorem dX3_reading_98 : decode cX3_reading 98 = .ok (.putfield 102, 3) := by decide +kernel
theorem dX3_reading_101 : decode cX3_reading 101 = .ok (.aload_n 0, 1) := by decide +kernel
theorem dX3_reading_102 : decode cX3_reading 102 = .ok (.getfield 69, 3) := by decide +kernel
theorem dX3_reading_105 : decode cX3_reading 105 = .ok (.ifCond .eq 7, 3) := by decide +kernel
theorem dX3_reading_108 : decode cX3_reading 108 = .ok (.iconst 1, 1) := by decide +kernel
theorem dX3_reading_109 : decode cX3_reading 109 = .ok (.goto 4, 3) := by decide +kernel
theorem dX3_reading_112 : decode cX3_reading 112 = .ok (.iconst 0, 1) := by decide +kernel
theorem dX3_reading_113 : decode cX3_reading 113 = .ok (.ireturn, 1) := by decide +kernel
theorem dX3_wanted_0 : decode cX3_wanted 0 = .ok (.aload_n 0, 1) := by decide +kernel
theorem dX3_wanted_1 : decode cX3_wanted 1 = .ok (.getfield 66, 3) := by decide +kernel
theorem dX3_wanted_4 : decode cX3_wanted 4 = .ok (.sipush 1440, 3) := by decide +kernel
theorem dX3_wanted_7 : decode cX3_wanted 7 = .ok (.irem, 1) := by decide +kernel
theorem dX3_wanted_8 : decode cX3_wanted 8 = .ok (.istore_n 2, 1) := by decide +kernel
theorem dX3_wanted_9 : decode cX3_wanted 9 = .ok (.aload_n 0, 1) := by decide +kernel
theorem dX3_wanted_10 : decode cX3_wanted 10 = .ok (.iload_n 1, 1) := by decide +kernel
theorem dX3_wanted_11 : decode cX3_wanted 11 = .ok (.sipush 1000, 3) := by decide +kernel
theorem dX3_wanted_14 : decode cX3_wanted 14 = .ok (.imul, 1) := by decide +kernel
theorem dX3_wanted_15 : decode cX3_wanted 15 = .ok (.aload_n 0, 1) := by decide +kernel
theorem dX3_wanted_16 : decode cX3_wanted 16 = .ok (.iconst 0, 1) := by decide +kernel
theorem dX3_wanted_17 : decode cX3_wanted 17 = .ok (.iload_n 2, 1) := by decide +kernel
theorem dX3_wanted_18 : decode cX3_wanted 18 = .ok (.invokevirtual 76, 3) := by decide +kernel
theorem dX3_wanted_21 : decode cX3_wanted 21 = .ok (.idiv, 1) := by decide +kernel
theorem dX3_wanted_22 : decode cX3_wanted 22 = .ok (.putfield 105, 3) := by decide +kernel
theorem dX3_wanted_25 : decode cX3_wanted 25 = .ok (.aload_n 0, 1) := by decide +kernel
theorem dX3_wanted_26 : decode cX3_wanted 26 = .ok (.iconst 0, 1) := by decide +kernel
theorem dX3_wanted_27 : decode cX3_wanted 27 = .ok (.putfield 108, 3) := by decide +kernel
theorem dX3_wanted_30 : decode cX3_wanted 30 = .ok (.aload_n 0, 1) := by decide +kernel
theorem dX3_wanted_31 : decode cX3_wanted 31 = .ok (.iconst 0, 1) := by decide +kernel
theorem dX3_wanted_32 : decode cX3_wanted 32 = .ok (.putfield 111, 3) := by decide +kernel
theorem dX3_wanted_35 : decode cX3_wanted 35 = .ok (.aload_n 0, 1) := by decide +kernel
theorem dX3_wanted_36 : decode cX3_wanted 36 = .ok (.getfield 93, 3) := by decide +kernel
theorem dX3_wanted_39 : decode cX3_wanted 39 = .ok (.ifCond .eq 122, 3) := by decide +kernel
theorem dX3_wanted_42 : decode cX3_wanted 42 = .ok (.aload_n 0, 1) := by decide +kernel
theorem dX3_wanted_43 : decode cX3_wanted 43 = .ok (.getfield 66, 3) := by decide +kernel
theorem dX3_wanted_46 : decode cX3_wanted 46 = .ok (.aload_n 0, 1) := by decide +kernel
theorem dX3_wanted_47 : decode cX3_wanted 47 = .ok (.getfield 99, 3) := by decide +kernel
theorem dX3_wanted_50 : decode cX3_wanted 50 = .ok (.isub, 1) := by decide +kernel
theorem dX3_wanted_51 : decode cX3_wanted 51 = .ok (.bipush 15, 2) := by decide +kernel
theorem dX3_wanted_53 : decode cX3_wanted 53 = .ok (.if_icmp .gt 108, 3) := by decide +kernel
theorem dX3_wanted_56 : decode cX3_wanted 56 = .ok (.aload_n 0, 1) := by decide +kernel
theorem dX3_wanted_57 : decode cX3_wanted 57 = .ok (.iconst 1, 1) := by decide +kernel
theorem dX3_wanted_58 : decode cX3_wanted 58 = .ok (.iload_n 2, 1) := by decide +kernel
theorem dX3_wanted_59 : decode cX3_wanted 59 = .ok (.invokevirtual 76, 3) := by decide +kernel
theorem dX3_wanted_62 : decode cX3_wanted 62 = .ok (.istore_n 3, 1) := by decide +kernel
theorem dX3_wanted_63 : decode cX3_wanted 63 = .ok (.aload_n 0, 1) := by decide +kernel
theorem dX3_wanted_64 : decode cX3_wanted 64 = .ok (.getfield 96, 3) := by decide +kernel
theorem dX3_wanted_67 : decode cX3_wanted 67 = .ok (.aload_n 0, 1) := by decide +kernel
theorem dX3_wanted_68 : decode cX3_wanted 68 = .ok (.iconst 3, 1) := by decide +kernel
theorem dX3_wanted_69 : decode cX3_wanted 69 = .ok (.iload_n 2, 1) := by decide +kernel
theorem dX3_wanted_70 : decode cX3_wanted 70 = .ok (.invokevirtual 76, 3) := by decide +kernel
theorem dX3_wanted_73 : decode cX3_wanted 73 = .ok (.if_icmp .le 49, 3) := by decide +kernel
theorem dX3_wanted_76 : decode cX3_wanted 76 = .ok (.aload_n 0, 1) := by decide +kernel
theorem dX3_wanted_77 : decode cX3_wanted 77 = .ok (.getfield 96, 3) := by decide +kernel
theorem dX3_wanted_80 : decode cX3_wanted 80 = .ok (.aload_n 0, 1) := by decide +kernel
theorem dX3_wanted_81 : decode cX3_wanted 81 = .ok (.iconst 3, 1) := by decide +kernel
theorem dX3_wanted_82 : decode cX3_wanted 82 = .ok (.iload_n 2, 1) := by decide +kernel
theorem dX3_wanted_83 : decode cX3_wanted 83 = .ok (.invokevirtual 76, 3) := by decide +kernel
theorem dX3_wanted_86 : decode cX3_wanted 86 = .ok (.isub, 1) := by decide +kernel
theorem dX3_wanted_87 : decode cX3_wanted 87 = .ok (.sipush 1000, 3) := by decide +kernel
theorem dX3_wanted_90 : decode cX3_wanted 90 = .ok (.imul, 1) := by decide +kernel
theorem dX3_wanted_91 : decode cX3_wanted 91 = .ok (.iload_n 3, 1) := by decide +kernel
theorem dX3_wanted_92 : decode cX3_wanted 92 = .ok (.idiv, 1) := by decide +kernel
theorem dX3_wanted_93 : decode cX3_wanted 93 = .ok (.i2l, 1) := by decide +kernel
theorem dX3_wanted_94 : decode cX3_wanted 94 = .ok (.aload_n 0, 1) := by decide +kernel
theorem dX3_wanted_95 : decode cX3_wanted 95 = .ok (.invokevirtual 114, 3) := by decide +kernel
theorem dX3_wanted_98 : decode cX3_wanted 98 = .ok (.lsub, 1) := by decide +kernel
theorem dX3_wanted_99 : decode cX3_wanted 99 = .ok (.lstore 4, 2) := by decide +kernel
theorem dX3_wanted_101 : decode cX3_wanted 101 = .ok (.aload_n 0, 1) := by decide +kernel
theorem dX3_wanted_102 : decode cX3_wanted 102 = .ok (.lload 4, 2) := by decide +kernel
theorem dX3_wanted_104 : decode cX3_wanted 104 = .ok (.lconst 0, 1) := by decide +kernel
theorem dX3_wanted_105 : decode cX3_wanted 105 = .ok (.lcmp, 1) := by decide +kernel
theorem dX3_wanted_106 : decode cX3_wanted 106 = .ok (.ifCond .ge 7, 3) := by decide +kernel
theorem dX3_wanted_109 : decode cX3_wanted 109 = .ok (.iconst 0, 1) := by decide +kernel
theorem dX3_wanted_110 : decode cX3_wanted 110 = .ok (.goto 6, 3) := by decide +kernel
theorem dX3_wanted_113 : decode cX3_wanted 113 = .ok (.lload 4, 2) := by decide +kernel
theorem dX3_wanted_115 : decode cX3_wanted 115 = .ok (.l2i, 1) := by decide +kernel
theorem dX3_wanted_116 : decode cX3_wanted 116 = .ok (.putfield 108, 3) := by decide +kernel
theorem dX3_wanted_119 : decode cX3_wanted 119 = .ok (.goto 42, 3) := by decide +kernel
theorem dX3_wanted_122 : decode cX3_wanted 122 = .ok (.aload_n 0, 1) := by decide +kernel
theorem dX3_wanted_123 : decode cX3_wanted 123 = .ok (.getfield 96, 3) := by decide +kernel
theorem dX3_wanted_126 : decode cX3_wanted 126 = .ok (.aload_n 0, 1) := by decide +kernel
theorem dX3_wanted_127 : decode cX3_wanted 127 = .ok (.iconst 2, 1) := by decide +kernel
theorem dX3_wanted_128 : decode cX3_wanted 128 = .ok (.iload_n 2, 1) := by decide +kernel
theorem dX3_wanted_129 : decode cX3_wanted 129 = .ok (.invokevirtual 76, 3) := by decide +kernel
theorem dX3_wanted_132 : decode cX3_wanted 132 = .ok (.if_icmp .ge 29, 3) := by decide +kernel
theorem dX3_wanted_135 : decode cX3_wanted 135 = .ok (.aload_n 0, 1) := by decide +kernel
theorem dX3_wanted_136 : decode cX3_wanted 136 = .ok (.aload_n 0, 1) := by decide +kernel
theorem dX3_wanted_137 : decode cX3_wanted 137 = .ok (.iconst 2, 1) := by decide +kernel
theorem dX3_wanted_138 : decode cX3_wanted 138 = .ok (.iload_n 2, 1) := by decide +kernel
theorem dX3_wanted_139 : decode cX3_wanted 139 = .ok (.invokevirtual 76, 3) := by decide +kernel
theorem dX3_wanted_142 : decode cX3_wanted 142 = .ok (.aload_n 0, 1) := by decide +kernel
theorem dX3_wanted_143 : decode cX3_wanted 143 = .ok (.getfield 96, 3) := by decide +kernel
theorem dX3_wanted_146 : decode cX3_wanted 146 = .ok (.isub, 1) := by decide +kernel
theorem dX3_wanted_147 : decode cX3_wanted 147 = .ok (.sipush 1000, 3) := by decide +kernel
theorem dX3_wanted_150 : decode cX3_wanted 150 = .ok (.imul, 1) := by decide +kernel
theorem dX3_wanted_151 : decode cX3_wanted 151 = .ok (.iload_n 3, 1) := by decide +kernel
theorem dX3_wanted_152 : decode cX3_wanted 152 = .ok (.iadd, 1) := by decide +kernel
theorem dX3_wanted_153 : decode cX3_wanted 153 = .ok (.iconst 1, 1) := by decide +kernel
theorem dX3_wanted_154 : decode cX3_wanted 154 = .ok (.isub, 1) := by decide +kernel
theorem dX3_wanted_155 : decode cX3_wanted 155 = .ok (.iload_n 3, 1) := by decide +kernel
theorem dX3_wanted_156 : decode cX3_wanted 156 = .ok (.idiv, 1) := by decide +kernel
theorem dX3_wanted_157 : decode cX3_wanted 157 = .ok (.ineg, 1) := by decide +kernel
theorem dX3_wanted_158 : decode cX3_wanted 158 = .ok (.putfield 108, 3) := by decide +kernel
theorem dX3_wanted_161 : decode cX3_wanted 161 = .ok (.aload_n 0, 1) := by decide +kernel
theorem dX3_wanted_162 : decode cX3_wanted 162 = .ok (.getfield 105, 3) := by decide +kernel
theorem dX3_wanted_165 : decode cX3_wanted 165 = .ok (.aload_n 0, 1) := by decide +kernel
theorem dX3_wanted_166 : decode cX3_wanted 166 = .ok (.getfield 108, 3) := by decide +kernel
theorem dX3_wanted_169 : decode cX3_wanted 169 = .ok (.iadd, 1) := by decide +kernel
theorem dX3_wanted_170 : decode cX3_wanted 170 = .ok (.istore_n 3, 1) := by decide +kernel
theorem dX3_wanted_171 : decode cX3_wanted 171 = .ok (.iload_n 3, 1) := by decide +kernel
theorem dX3_wanted_172 : decode cX3_wanted 172 = .ok (.ifCond .ge 7, 3) := by decide +kernel
theorem dX3_wanted_175 : decode cX3_wanted 175 = .ok (.iconst 0, 1) := by decide +kernel
theorem dX3_wanted_176 : decode cX3_wanted 176 = .ok (.goto 4, 3) := by decide +kernel
theorem dX3_wanted_179 : decode cX3_wanted 179 = .ok (.iload_n 3, 1) := by decide +kernel
theorem dX3_wanted_180 : decode cX3_wanted 180 = .ok (.istore_n 3, 1) := by decide +kernel
theorem dX3_wanted_181 : decode cX3_wanted 181 = .ok (.iload_n 3, 1) := by decide +kernel
theorem dX3_wanted_182 : decode cX3_wanted 182 = .ok (.aload_n 0, 1) := by decide +kernel
theorem dX3_wanted_183 : decode cX3_wanted 183 = .ok (.getfield 22, 3) := by decide +kernel
theorem dX3_wanted_186 : decode cX3_wanted 186 = .ok (.if_icmp .le 13, 3) := by decide +kernel
theorem dX3_wanted_189 : decode cX3_wanted 189 = .ok (.aload_n 0, 1) := by decide +kernel
theorem dX3_wanted_190 : decode cX3_wanted 190 = .ok (.getfield 22, 3) := by decide +kernel
theorem dX3_wanted_193 : decode cX3_wanted 193 = .ok (.istore_n 3, 1) := by decide +kernel
theorem dX3_wanted_194 : decode cX3_wanted 194 = .ok (.aload_n 0, 1) := by decide +kernel
theorem dX3_wanted_195 : decode cX3_wanted 195 = .ok (.iconst 1, 1) := by decide +kernel
theorem dX3_wanted_196 : decode cX3_wanted 196 = .ok (.putfield 111, 3) := by decide +kernel
theorem dX3_wanted_199 : decode cX3_wanted 199 = .ok (.aload_n 0, 1) := by decide +kernel
theorem dX3_wanted_200 : decode cX3_wanted 200 = .ok (.getfield 27, 3) := by decide +kernel
theorem dX3_wanted_203 : decode cX3_wanted 203 = .ok (.aload_n 0, 1) := by decide +kernel
theorem dX3_wanted_204 : decode cX3_wanted 204 = .ok (.aload_n 0, 1) := by decide +kernel
theorem dX3_wanted_205 : decode cX3_wanted 205 = .ok (.getfield 66, 3) := by decide +kernel
theorem dX3_wanted_208 : decode cX3_wanted 208 = .ok (.sipush 1440, 3) := by decide +kernel
theorem dX3_wanted_211 : decode cX3_wanted 211 = .ok (.idiv, 1) := by decide +kernel
theorem dX3_wanted_212 : decode cX3_wanted 212 = .ok (.iconst 2, 1) := by decide +kernel
theorem dX3_wanted_213 : decode cX3_wanted 213 = .ok (.invokevirtual 118, 3) := by decide +kernel
theorem dX3_wanted_216 : decode cX3_wanted 216 = .ok (.isub, 1) := by decide +kernel
theorem dX3_wanted_217 : decode cX3_wanted 217 = .ok (.istore 4, 2) := by decide +kernel
theorem dX3_wanted_219 : decode cX3_wanted 219 = .ok (.iload 4, 2) := by decide +kernel
theorem dX3_wanted_221 : decode cX3_wanted 221 = .ok (.ifCond .ge 7, 3) := by decide +kernel
theorem dX3_wanted_224 : decode cX3_wanted 224 = .ok (.iconst 0, 1) := by decide +kernel
theorem dX3_wanted_225 : decode cX3_wanted 225 = .ok (.goto 5, 3) := by decide +kernel
theorem dX3_wanted_228 : decode cX3_wanted 228 = .ok (.iload 4, 2) := by decide +kernel
theorem dX3_wanted_230 : decode cX3_wanted 230 = .ok (.istore 4, 2) := by decide +kernel
theorem dX3_wanted_232 : decode cX3_wanted 232 = .ok (.iload_n 3, 1) := by decide +kernel
theorem dX3_wanted_233 : decode cX3_wanted 233 = .ok (.iload 4, 2) := by decide +kernel
theorem dX3_wanted_235 : decode cX3_wanted 235 = .ok (.if_icmp .le 11, 3) := by decide +kernel
theorem dX3_wanted_238 : decode cX3_wanted 238 = .ok (.iload 4, 2) := by decide +kernel
theorem dX3_wanted_240 : decode cX3_wanted 240 = .ok (.istore_n 3, 1) := by decide +kernel
theorem dX3_wanted_241 : decode cX3_wanted 241 = .ok (.aload_n 0, 1) := by decide +kernel
theorem dX3_wanted_242 : decode cX3_wanted 242 = .ok (.iconst 2, 1) := by decide +kernel
theorem dX3_wanted_243 : decode cX3_wanted 243 = .ok (.putfield 111, 3) := by decide +kernel
theorem dX3_wanted_246 : decode cX3_wanted 246 = .ok (.aload_n 0, 1) := by decide +kernel
theorem dX3_wanted_247 : decode cX3_wanted 247 = .ok (.getfield 69, 3) := by decide +kernel
theorem dX3_wanted_250 : decode cX3_wanted 250 = .ok (.ifCond .eq 10, 3) := by decide +kernel
theorem dX3_wanted_253 : decode cX3_wanted 253 = .ok (.iconst 0, 1) := by decide +kernel
theorem dX3_wanted_254 : decode cX3_wanted 254 = .ok (.istore_n 3, 1) := by decide +kernel
theorem dX3_wanted_255 : decode cX3_wanted 255 = .ok (.aload_n 0, 1) := by decide +kernel
theorem dX3_wanted_256 : decode cX3_wanted 256 = .ok (.iconst 3, 1) := by decide +kernel
theorem dX3_wanted_257 : decode cX3_wanted 257 = .ok (.putfield 111, 3) := by decide +kernel
theorem dX3_wanted_260 : decode cX3_wanted 260 = .ok (.iload_n 3, 1) := by decide +kernel
theorem dX3_wanted_261 : decode cX3_wanted 261 = .ok (.iload_n 3, 1) := by decide +kernel
theorem dX3_wanted_262 : decode cX3_wanted 262 = .ok (.bipush 50, 2) := by decide +kernel
theorem dX3_wanted_264 : decode cX3_wanted 264 = .ok (.irem, 1) := by decide +kernel
theorem dX3_wanted_265 : decode cX3_wanted 265 = .ok (.isub, 1) := by decide +kernel
theorem dX3_wanted_266 : decode cX3_wanted 266 = .ok (.ireturn, 1) := by decide +kernel
theorem dX3_ask_0 : decode cX3_ask 0 = .ok (.aload_n 0, 1) := by decide +kernel
theorem dX3_ask_1 : decode cX3_ask 1 = .ok (.iload_n 1, 1) := by decide +kernel
theorem dX3_ask_2 : decode cX3_ask 2 = .ok (.invokevirtual 85, 3) := by decide +kernel
theorem dX3_ask_5 : decode cX3_ask 5 = .ok (.ifCond .eq 14, 3) := by decide +kernel
theorem dX3_ask_8 : decode cX3_ask 8 = .ok (.iload_n 2, 1) := by decide +kernel
theorem dX3_ask_9 : decode cX3_ask 9 = .ok (.ifCond .lt 10, 3) := by decide +kernel
theorem dX3_ask_12 : decode cX3_ask 12 = .ok (.iload_n 2, 1) := by decide +kernel
theorem dX3_ask_13 : decode cX3_ask 13 = .ok (.sipush 1000, 3) := by decide +kernel
theorem dX3_ask_16 : decode cX3_ask 16 = .ok (.if_icmp .le 5, 3) := by decide +kernel
theorem dX3_ask_19 : decode cX3_ask 19 = .ok (.iconst (-1), 1) := by decide +kernel
theorem dX3_ask_20 : decode cX3_ask 20 = .ok (.ireturn, 1) := by decide +kernel
theorem dX3_ask_21 : decode cX3_ask 21 = .ok (.aload_n 0, 1) := by decide +kernel
theorem dX3_ask_22 : decode cX3_ask 22 = .ok (.iload_n 1, 1) := by decide +kernel
theorem dX3_ask_23 : decode cX3_ask 23 = .ok (.invokevirtual 89, 3) := by decide +kernel
theorem dX3_ask_26 : decode cX3_ask 26 = .ok (.aload_n 0, 1) := by decide +kernel
theorem dX3_ask_27 : decode cX3_ask 27 = .ok (.iload_n 2, 1) := by decide +kernel
theorem dX3_ask_28 : decode cX3_ask 28 = .ok (.invokevirtual 121, 3) := by decide +kernel
theorem dX3_ask_31 : decode cX3_ask 31 = .ok (.ireturn, 1) := by decide +kernel
theorem dX3_give_0 : decode cX3_give 0 = .ok (.aload_n 0, 1) := by decide +kernel
theorem dX3_give_1 : decode cX3_give 1 = .ok (.iload_n 1, 1) := by decide +kernel
theorem dX3_give_2 : decode cX3_give 2 = .ok (.invokevirtual 85, 3) := by decide +kernel
theorem dX3_give_5 : decode cX3_give 5 = .ok (.ifCond .eq 24, 3) := by decide +kernel
theorem dX3_give_8 : decode cX3_give 8 = .ok (.iload_n 2, 1) := by decide +kernel
theorem dX3_give_9 : decode cX3_give 9 = .ok (.ifCond .lt 20, 3) := by decide +kernel
theorem dX3_give_12 : decode cX3_give 12 = .ok (.iload_n 2, 1) := by decide +kernel
theorem dX3_give_13 : decode cX3_give 13 = .ok (.sipush 1000, 3) := by decide +kernel
theorem dX3_give_16 : decode cX3_give 16 = .ok (.if_icmp .gt 13, 3) := by decide +kernel
theorem dX3_give_19 : decode cX3_give 19 = .ok (.aload_n 0, 1) := by decide +kernel
theorem dX3_give_20 : decode cX3_give 20 = .ok (.getfield 80, 3) := by decide +kernel
theorem dX3_give_23 : decode cX3_give 23 = .ok (.sipush 200, 3) := by decide +kernel
theorem dX3_give_26 : decode cX3_give 26 = .ok (.if_icmp .ne 5, 3) := by decide +kernel
theorem dX3_give_29 : decode cX3_give 29 = .ok (.iconst (-1), 1) := by decide +kernel
theorem dX3_give_30 : decode cX3_give 30 = .ok (.ireturn, 1) := by decide +kernel
theorem dX3_give_31 : decode cX3_give 31 = .ok (.aload_n 0, 1) := by decide +kernel
theorem dX3_give_32 : decode cX3_give 32 = .ok (.iload_n 1, 1) := by decide +kernel
theorem dX3_give_33 : decode cX3_give 33 = .ok (.invokevirtual 89, 3) := by decide +kernel
theorem dX3_give_36 : decode cX3_give 36 = .ok (.aload_n 0, 1) := by decide +kernel
theorem dX3_give_37 : decode cX3_give 37 = .ok (.iload_n 2, 1) := by decide +kernel
theorem dX3_give_38 : decode cX3_give 38 = .ok (.invokevirtual 121, 3) := by decide +kernel
theorem dX3_give_41 : decode cX3_give 41 = .ok (.istore_n 3, 1) := by decide +kernel
theorem dX3_give_42 : decode cX3_give 42 = .ok (.aload_n 0, 1) := by decide +kernel
theorem dX3_give_43 : decode cX3_give 43 = .ok (.getfield 42, 3) := by decide +kernel
theorem dX3_give_46 : decode cX3_give 46 = .ok (.aload_n 0, 1) := by decide +kernel
theorem dX3_give_47 : decode cX3_give 47 = .ok (.getfield 80, 3) := by decide +kernel
theorem dX3_give_50 : decode cX3_give 50 = .ok (.aload_n 0, 1) := by decide +kernel
theorem dX3_give_51 : decode cX3_give 51 = .ok (.getfield 66, 3) := by decide +kernel
theorem dX3_give_54 : decode cX3_give 54 = .ok (.iastore, 1) := by decide +kernel
theorem dX3_give_55 : decode cX3_give 55 = .ok (.aload_n 0, 1) := by decide +kernel
theorem dX3_give_56 : decode cX3_give 56 = .ok (.getfield 45, 3) := by decide +kernel
theorem dX3_give_59 : decode cX3_give 59 = .ok (.aload_n 0, 1) := by decide +kernel
theorem dX3_give_60 : decode cX3_give 60 = .ok (.getfield 80, 3) := by decide +kernel
theorem dX3_give_63 : decode cX3_give 63 = .ok (.iload_n 3, 1) := by decide +kernel
theorem dX3_give_64 : decode cX3_give 64 = .ok (.iastore, 1) := by decide +kernel
theorem dX3_give_65 : decode cX3_give 65 = .ok (.aload_n 0, 1) := by decide +kernel
theorem dX3_give_66 : decode cX3_give 66 = .ok (.getfield 48, 3) := by decide +kernel
theorem dX3_give_69 : decode cX3_give 69 = .ok (.aload_n 0, 1) := by decide +kernel
theorem dX3_give_70 : decode cX3_give 70 = .ok (.getfield 80, 3) := by decide +kernel
theorem dX3_give_73 : decode cX3_give 73 = .ok (.aload_n 0, 1) := by decide +kernel
theorem dX3_give_74 : decode cX3_give 74 = .ok (.getfield 105, 3) := by decide +kernel
theorem dX3_give_77 : decode cX3_give 77 = .ok (.iastore, 1) := by decide +kernel
theorem dX3_give_78 : decode cX3_give 78 = .ok (.aload_n 0, 1) := by decide +kernel
theorem dX3_give_79 : decode cX3_give 79 = .ok (.getfield 51, 3) := by decide +kernel
theorem dX3_give_82 : decode cX3_give 82 = .ok (.aload_n 0, 1) := by decide +kernel
theorem dX3_give_83 : decode cX3_give 83 = .ok (.getfield 80, 3) := by decide +kernel
theorem dX3_give_86 : decode cX3_give 86 = .ok (.aload_n 0, 1) := by decide +kernel
theorem dX3_give_87 : decode cX3_give 87 = .ok (.getfield 108, 3) := by decide +kernel
theorem dX3_give_90 : decode cX3_give 90 = .ok (.iastore, 1) := by decide +kernel
theorem dX3_give_91 : decode cX3_give 91 = .ok (.aload_n 0, 1) := by decide +kernel
theorem dX3_give_92 : decode cX3_give 92 = .ok (.getfield 54, 3) := by decide +kernel
theorem dX3_give_95 : decode cX3_give 95 = .ok (.aload_n 0, 1) := by decide +kernel
theorem dX3_give_96 : decode cX3_give 96 = .ok (.getfield 80, 3) := by decide +kernel
theorem dX3_give_99 : decode cX3_give 99 = .ok (.aload_n 0, 1) := by decide +kernel
theorem dX3_give_100 : decode cX3_give 100 = .ok (.invokevirtual 114, 3) := by decide +kernel
theorem dX3_give_103 : decode cX3_give 103 = .ok (.l2i, 1) := by decide +kernel
theorem dX3_give_104 : decode cX3_give 104 = .ok (.iastore, 1) := by decide +kernel
theorem dX3_give_105 : decode cX3_give 105 = .ok (.aload_n 0, 1) := by decide +kernel
theorem dX3_give_106 : decode cX3_give 106 = .ok (.getfield 57, 3) := by decide +kernel
theorem dX3_give_109 : decode cX3_give 109 = .ok (.aload_n 0, 1) := by decide +kernel
theorem dX3_give_110 : decode cX3_give 110 = .ok (.getfield 80, 3) := by decide +kernel
theorem dX3_give_113 : decode cX3_give 113 = .ok (.aload_n 0, 1) := by decide +kernel
theorem dX3_give_114 : decode cX3_give 114 = .ok (.getfield 111, 3) := by decide +kernel
theorem dX3_give_117 : decode cX3_give 117 = .ok (.iastore, 1) := by decide +kernel
theorem dX3_give_118 : decode cX3_give 118 = .ok (.aload_n 0, 1) := by decide +kernel
theorem dX3_give_119 : decode cX3_give 119 = .ok (.dup, 1) := by decide +kernel
theorem dX3_give_120 : decode cX3_give 120 = .ok (.getfield 80, 3) := by decide +kernel
theorem dX3_give_123 : decode cX3_give 123 = .ok (.iconst 1, 1) := by decide +kernel
theorem dX3_give_124 : decode cX3_give 124 = .ok (.iadd, 1) := by decide +kernel
theorem dX3_give_125 : decode cX3_give 125 = .ok (.putfield 80, 3) := by decide +kernel
theorem dX3_give_128 : decode cX3_give 128 = .ok (.aload_n 0, 1) := by decide +kernel
theorem dX3_give_129 : decode cX3_give 129 = .ok (.getfield 39, 3) := by decide +kernel
theorem dX3_give_132 : decode cX3_give 132 = .ok (.aload_n 0, 1) := by decide +kernel
theorem dX3_give_133 : decode cX3_give 133 = .ok (.getfield 66, 3) := by decide +kernel
theorem dX3_give_136 : decode cX3_give 136 = .ok (.sipush 1440, 3) := by decide +kernel
theorem dX3_give_139 : decode cX3_give 139 = .ok (.idiv, 1) := by decide +kernel
theorem dX3_give_140 : decode cX3_give 140 = .ok (.dup2, 1) := by decide +kernel
theorem dX3_give_141 : decode cX3_give 141 = .ok (.iaload, 1) := by decide +kernel
theorem dX3_give_142 : decode cX3_give 142 = .ok (.iload_n 3, 1) := by decide +kernel
theorem dX3_give_143 : decode cX3_give 143 = .ok (.iadd, 1) := by decide +kernel
theorem dX3_give_144 : decode cX3_give 144 = .ok (.iastore, 1) := by decide +kernel
theorem dX3_give_145 : decode cX3_give 145 = .ok (.iload_n 3, 1) := by decide +kernel
theorem dX3_give_146 : decode cX3_give 146 = .ok (.ireturn, 1) := by decide +kernel
theorem dX3_now_0 : decode cX3_now 0 = .ok (.aload_n 0, 1) := by decide +kernel
theorem dX3_now_1 : decode cX3_now 1 = .ok (.getfield 66, 3) := by decide +kernel
theorem dX3_now_4 : decode cX3_now 4 = .ok (.ireturn, 1) := by decide +kernel
theorem dX3_spent_0 : decode cX3_spent 0 = .ok (.iload_n 1, 1) := by decide +kernel
theorem dX3_spent_1 : decode cX3_spent 1 = .ok (.ifCond .lt 9, 3) := by decide +kernel
theorem dX3_spent_4 : decode cX3_spent 4 = .ok (.iload_n 1, 1) := by decide +kernel
theorem dX3_spent_5 : decode cX3_spent 5 = .ok (.bipush 69, 2) := by decide +kernel
theorem dX3_spent_7 : decode cX3_spent 7 = .ok (.if_icmp .le 7, 3) := by decide +kernel
theorem dX3_spent_10 : decode cX3_spent 10 = .ok (.iconst (-1), 1) := by decide +kernel
theorem dX3_spent_11 : decode cX3_spent 11 = .ok (.goto 52, 3) := by decide +kernel
theorem dX3_spent_14 : decode cX3_spent 14 = .ok (.iload_n 2, 1) := by decide +kernel
theorem dX3_spent_15 : decode cX3_spent 15 = .ok (.ifCond .ne 12, 3) := by decide +kernel
theorem dX3_spent_18 : decode cX3_spent 18 = .ok (.aload_n 0, 1) := by decide +kernel
theorem dX3_spent_19 : decode cX3_spent 19 = .ok (.getfield 36, 3) := by decide +kernel
theorem dX3_spent_22 : decode cX3_spent 22 = .ok (.iload_n 1, 1) := by decide +kernel
theorem dX3_spent_23 : decode cX3_spent 23 = .ok (.iaload, 1) := by decide +kernel
theorem dX3_spent_24 : decode cX3_spent 24 = .ok (.goto 39, 3) := by decide +kernel
theorem dX3_spent_27 : decode cX3_spent 27 = .ok (.iload_n 2, 1) := by decide +kernel
theorem dX3_spent_28 : decode cX3_spent 28 = .ok (.iconst 1, 1) := by decide +kernel
theorem dX3_spent_29 : decode cX3_spent 29 = .ok (.if_icmp .ne 12, 3) := by decide +kernel
theorem dX3_spent_32 : decode cX3_spent 32 = .ok (.aload_n 0, 1) := by decide +kernel
theorem dX3_spent_33 : decode cX3_spent 33 = .ok (.getfield 39, 3) := by decide +kernel
theorem dX3_spent_36 : decode cX3_spent 36 = .ok (.iload_n 1, 1) := by decide +kernel
theorem dX3_spent_37 : decode cX3_spent 37 = .ok (.iaload, 1) := by decide +kernel
theorem dX3_spent_38 : decode cX3_spent 38 = .ok (.goto 25, 3) := by decide +kernel
theorem dX3_spent_41 : decode cX3_spent 41 = .ok (.iload_n 2, 1) := by decide +kernel
theorem dX3_spent_42 : decode cX3_spent 42 = .ok (.iconst 2, 1) := by decide +kernel
theorem dX3_spent_43 : decode cX3_spent 43 = .ok (.if_icmp .ne 19, 3) := by decide +kernel
theorem dX3_spent_46 : decode cX3_spent 46 = .ok (.aload_n 0, 1) := by decide +kernel
theorem dX3_spent_47 : decode cX3_spent 47 = .ok (.getfield 36, 3) := by decide +kernel
theorem dX3_spent_50 : decode cX3_spent 50 = .ok (.iload_n 1, 1) := by decide +kernel
theorem dX3_spent_51 : decode cX3_spent 51 = .ok (.iaload, 1) := by decide +kernel
theorem dX3_spent_52 : decode cX3_spent 52 = .ok (.aload_n 0, 1) := by decide +kernel
theorem dX3_spent_53 : decode cX3_spent 53 = .ok (.getfield 39, 3) := by decide +kernel
theorem dX3_spent_56 : decode cX3_spent 56 = .ok (.iload_n 1, 1) := by decide +kernel
theorem dX3_spent_57 : decode cX3_spent 57 = .ok (.iaload, 1) := by decide +kernel
theorem dX3_spent_58 : decode cX3_spent 58 = .ok (.iadd, 1) := by decide +kernel
theorem dX3_spent_59 : decode cX3_spent 59 = .ok (.goto 4, 3) := by decide +kernel
theorem dX3_spent_62 : decode cX3_spent 62 = .ok (.iconst (-1), 1) := by decide +kernel
theorem dX3_spent_63 : decode cX3_spent 63 = .ok (.ireturn, 1) := by decide +kernel
theorem dX3_held_0 : decode cX3_held 0 = .ok (.aload_n 0, 1) := by decide +kernel
theorem dX3_held_1 : decode cX3_held 1 = .ok (.getfield 69, 3) := by decide +kernel
theorem dX3_held_4 : decode cX3_held 4 = .ok (.ireturn, 1) := by decide +kernel
theorem dX3_ticks_0 : decode cX3_ticks 0 = .ok (.aload_n 0, 1) := by decide +kernel
theorem dX3_ticks_1 : decode cX3_ticks 1 = .ok (.getfield 102, 3) := by decide +kernel
theorem dX3_ticks_4 : decode cX3_ticks 4 = .ok (.ireturn, 1) := by decide +kernel
theorem dX3_dose_0 : decode cX3_dose 0 = .ok (.iload_n 1, 1) := by decide +kernel
theorem dX3_dose_1 : decode cX3_dose 1 = .ok (.ifCond .lt 11, 3) := by decide +kernel
theorem dX3_dose_4 : decode cX3_dose 4 = .ok (.iload_n 1, 1) := by decide +kernel
theorem dX3_dose_5 : decode cX3_dose 5 = .ok (.aload_n 0, 1) := by decide +kernel
theorem dX3_dose_6 : decode cX3_dose 6 = .ok (.getfield 80, 3) := by decide +kernel
theorem dX3_dose_9 : decode cX3_dose 9 = .ok (.if_icmp .lt 5, 3) := by decide +kernel
theorem dX3_dose_12 : decode cX3_dose 12 = .ok (.iconst (-1), 1) := by decide +kernel
theorem dX3_dose_13 : decode cX3_dose 13 = .ok (.ireturn, 1) := by decide +kernel
theorem dX3_dose_14 : decode cX3_dose 14 = .ok (.iload_n 2, 1) := by decide +kernel
theorem dX3_dose_15 : decode cX3_dose 15 = .ok (.ifCond .ne 12, 3) := by decide +kernel
theorem dX3_dose_18 : decode cX3_dose 18 = .ok (.aload_n 0, 1) := by decide +kernel
theorem dX3_dose_19 : decode cX3_dose 19 = .ok (.getfield 42, 3) := by decide +kernel
theorem dX3_dose_22 : decode cX3_dose 22 = .ok (.iload_n 1, 1) := by decide +kernel
theorem dX3_dose_23 : decode cX3_dose 23 = .ok (.iaload, 1) := by decide +kernel
theorem dX3_dose_24 : decode cX3_dose 24 = .ok (.goto 74, 3) := by decide +kernel
theorem dX3_dose_27 : decode cX3_dose 27 = .ok (.iload_n 2, 1) := by decide +kernel
theorem dX3_dose_28 : decode cX3_dose 28 = .ok (.iconst 1, 1) := by decide +kernel
theorem dX3_dose_29 : decode cX3_dose 29 = .ok (.if_icmp .ne 12, 3) := by decide +kernel
theorem dX3_dose_32 : decode cX3_dose 32 = .ok (.aload_n 0, 1) := by decide +kernel
theorem dX3_dose_33 : decode cX3_dose 33 = .ok (.getfield 45, 3) := by decide +kernel
theorem dX3_dose_36 : decode cX3_dose 36 = .ok (.iload_n 1, 1) := by decide +kernel
theorem dX3_dose_37 : decode cX3_dose 37 = .ok (.iaload, 1) := by decide +kernel
theorem dX3_dose_38 : decode cX3_dose 38 = .ok (.goto 60, 3) := by decide +kernel
theorem dX3_dose_41 : decode cX3_dose 41 = .ok (.iload_n 2, 1) := by decide +kernel
theorem dX3_dose_42 : decode cX3_dose 42 = .ok (.iconst 2, 1) := by decide +kernel
theorem dX3_dose_43 : decode cX3_dose 43 = .ok (.if_icmp .ne 12, 3) := by decide +kernel
theorem dX3_dose_46 : decode cX3_dose 46 = .ok (.aload_n 0, 1) := by decide +kernel
theorem dX3_dose_47 : decode cX3_dose 47 = .ok (.getfield 48, 3) := by decide +kernel
theorem dX3_dose_50 : decode cX3_dose 50 = .ok (.iload_n 1, 1) := by decide +kernel
theorem dX3_dose_51 : decode cX3_dose 51 = .ok (.iaload, 1) := by decide +kernel
theorem dX3_dose_52 : decode cX3_dose 52 = .ok (.goto 46, 3) := by decide +kernel
theorem dX3_dose_55 : decode cX3_dose 55 = .ok (.iload_n 2, 1) := by decide +kernel
theorem dX3_dose_56 : decode cX3_dose 56 = .ok (.iconst 3, 1) := by decide +kernel
theorem dX3_dose_57 : decode cX3_dose 57 = .ok (.if_icmp .ne 12, 3) := by decide +kernel
theorem dX3_dose_60 : decode cX3_dose 60 = .ok (.aload_n 0, 1) := by decide +kernel
theorem dX3_dose_61 : decode cX3_dose 61 = .ok (.getfield 51, 3) := by decide +kernel
theorem dX3_dose_64 : decode cX3_dose 64 = .ok (.iload_n 1, 1) := by decide +kernel
theorem dX3_dose_65 : decode cX3_dose 65 = .ok (.iaload, 1) := by decide +kernel
theorem dX3_dose_66 : decode cX3_dose 66 = .ok (.goto 32, 3) := by decide +kernel
theorem dX3_dose_69 : decode cX3_dose 69 = .ok (.iload_n 2, 1) := by decide +kernel
theorem dX3_dose_70 : decode cX3_dose 70 = .ok (.iconst 4, 1) := by decide +kernel
theorem dX3_dose_71 : decode cX3_dose 71 = .ok (.if_icmp .ne 12, 3) := by decide +kernel
theorem dX3_dose_74 : decode cX3_dose 74 = .ok (.aload_n 0, 1) := by decide +kernel
theorem dX3_dose_75 : decode cX3_dose 75 = .ok (.getfield 54, 3) := by decide +kernel
theorem dX3_dose_78 : decode cX3_dose 78 = .ok (.iload_n 1, 1) := by decide +kernel
theorem dX3_dose_79 : decode cX3_dose 79 = .ok (.iaload, 1) := by decide +kernel
theorem dX3_dose_80 : decode cX3_dose 80 = .ok (.goto 18, 3) := by decide +kernel
theorem dX3_dose_83 : decode cX3_dose 83 = .ok (.iload_n 2, 1) := by decide +kernel
theorem dX3_dose_84 : decode cX3_dose 84 = .ok (.iconst 5, 1) := by decide +kernel
theorem dX3_dose_85 : decode cX3_dose 85 = .ok (.if_icmp .ne 12, 3) := by decide +kernel
theorem dX3_dose_88 : decode cX3_dose 88 = .ok (.aload_n 0, 1) := by decide +kernel
theorem dX3_dose_89 : decode cX3_dose 89 = .ok (.getfield 57, 3) := by decide +kernel
theorem dX3_dose_92 : decode cX3_dose 92 = .ok (.iload_n 1, 1) := by decide +kernel
theorem dX3_dose_93 : decode cX3_dose 93 = .ok (.iaload, 1) := by decide +kernel
theorem dX3_dose_94 : decode cX3_dose 94 = .ok (.goto 4, 3) := by decide +kernel
theorem dX3_dose_97 : decode cX3_dose 97 = .ok (.iconst (-1), 1) := by decide +kernel
theorem dX3_dose_98 : decode cX3_dose 98 = .ok (.ireturn, 1) := by decide +kernel
theorem dX3_doses_0 : decode cX3_doses 0 = .ok (.aload_n 0, 1) := by decide +kernel
theorem dX3_doses_1 : decode cX3_doses 1 = .ok (.getfield 80, 3) := by decide +kernel
theorem dX3_doses_4 : decode cX3_doses 4 = .ok (.ireturn, 1) := by decide +kernel
theorem dX3_last_0 : decode cX3_last 0 = .ok (.aload_n 0, 1) := by decide +kernel
theorem dX3_last_1 : decode cX3_last 1 = .ok (.getfield 93, 3) := by decide +kernel
theorem dX3_last_4 : decode cX3_last 4 = .ok (.ifCond .ne 7, 3) := by decide +kernel
theorem dX3_last_7 : decode cX3_last 7 = .ok (.iconst (-1), 1) := by decide +kernel
theorem dX3_last_8 : decode cX3_last 8 = .ok (.goto 27, 3) := by decide +kernel
theorem dX3_last_11 : decode cX3_last 11 = .ok (.iload_n 1, 1) := by decide +kernel
theorem dX3_last_12 : decode cX3_last 12 = .ok (.ifCond .ne 10, 3) := by decide +kernel
theorem dX3_last_15 : decode cX3_last 15 = .ok (.aload_n 0, 1) := by decide +kernel
theorem dX3_last_16 : decode cX3_last 16 = .ok (.getfield 96, 3) := by decide +kernel
theorem dX3_last_19 : decode cX3_last 19 = .ok (.goto 16, 3) := by decide +kernel
theorem dX3_last_22 : decode cX3_last 22 = .ok (.iload_n 1, 1) := by decide +kernel
theorem dX3_last_23 : decode cX3_last 23 = .ok (.iconst 1, 1) := by decide +kernel
theorem dX3_last_24 : decode cX3_last 24 = .ok (.if_icmp .ne 10, 3) := by decide +kernel
theorem dX3_last_27 : decode cX3_last 27 = .ok (.aload_n 0, 1) := by decide +kernel
theorem dX3_last_28 : decode cX3_last 28 = .ok (.getfield 99, 3) := by decide +kernel
theorem dX3_last_31 : decode cX3_last 31 = .ok (.goto 4, 3) := by decide +kernel
theorem dX3_last_34 : decode cX3_last 34 = .ok (.iconst (-1), 1) := by decide +kernel
theorem dX3_last_35 : decode cX3_last 35 = .ok (.ireturn, 1) := by decide +kernel
