theorem dL_tryBack_0 : decode cL_tryBack 0 = .ok (.aload_n 0, 1) := by decide +kernel
theorem dL_tryBack_1 : decode cL_tryBack 1 = .ok (.iload_n 1, 1) := by decide +kernel
theorem dL_tryBack_2 : decode cL_tryBack 2 = .ok (.invokevirtual 82, 3) := by decide +kernel
theorem dL_tryBack_5 : decode cL_tryBack 5 = .ok (.ireturn, 1) := by decide +kernel
theorem dL_tryBack_6 : decode cL_tryBack 6 = .ok (.astore_n 2, 1) := by decide +kernel
theorem dL_tryBack_7 : decode cL_tryBack 7 = .ok (.ldc 15, 2) := by decide +kernel
theorem dL_tryBack_9 : decode cL_tryBack 9 = .ok (.ireturn, 1) := by decide +kernel
theorem dL_tryBack_10 : decode cL_tryBack 10 = .ok (.astore_n 2, 1) := by decide +kernel
theorem dL_tryBack_11 : decode cL_tryBack 11 = .ok (.ldc 33, 2) := by decide +kernel
theorem dL_tryBack_13 : decode cL_tryBack 13 = .ok (.ireturn, 1) := by decide +kernel
theorem dL_call_0 : decode cL_call 0 = .ok (.iload_n 1, 1) := by decide +kernel
theorem dL_call_1 : decode cL_call 1 = .ok (.tableswitch 181 0 15 #[79, 85, 90, 96, 102, 108, 115, 122, 129, 136, 142, 147, 152, 161, 168, 175], 79) := by decide +kernel
theorem dL_call_80 : decode cL_call 80 = .ok (.aload_n 0, 1) := by decide +kernel
theorem dL_call_81 : decode cL_call 81 = .ok (.iload_n 2, 1) := by decide +kernel
theorem dL_call_82 : decode cL_call 82 = .ok (.invokestatic 85, 3) := by decide +kernel
theorem dL_call_85 : decode cL_call 85 = .ok (.ireturn, 1) := by decide +kernel
theorem dL_call_86 : decode cL_call 86 = .ok (.aload_n 0, 1) := by decide +kernel
theorem dL_call_87 : decode cL_call 87 = .ok (.invokestatic 91, 3) := by decide +kernel
theorem dL_call_90 : decode cL_call 90 = .ok (.ireturn, 1) := by decide +kernel
theorem dL_call_91 : decode cL_call 91 = .ok (.aload_n 0, 1) := by decide +kernel
theorem dL_call_92 : decode cL_call 92 = .ok (.iload_n 2, 1) := by decide +kernel
theorem dL_call_93 : decode cL_call 93 = .ok (.invokestatic 95, 3) := by decide +kernel
theorem dL_call_96 : decode cL_call 96 = .ok (.ireturn, 1) := by decide +kernel
theorem dL_call_97 : decode cL_call 97 = .ok (.aload_n 0, 1) := by decide +kernel
theorem dL_call_98 : decode cL_call 98 = .ok (.iload_n 2, 1) := by decide +kernel
theorem dL_call_99 : decode cL_call 99 = .ok (.invokestatic 98, 3) := by decide +kernel
theorem dL_call_102 : decode cL_call 102 = .ok (.ireturn, 1) := by decide +kernel
theorem dL_call_103 : decode cL_call 103 = .ok (.aload_n 0, 1) := by decide +kernel
theorem dL_call_104 : decode cL_call 104 = .ok (.iload_n 2, 1) := by decide +kernel
theorem dL_call_105 : decode cL_call 105 = .ok (.invokestatic 101, 3) := by decide +kernel
theorem dL_call_108 : decode cL_call 108 = .ok (.ireturn, 1) := by decide +kernel
theorem dL_call_109 : decode cL_call 109 = .ok (.aload_n 0, 1) := by decide +kernel
theorem dL_call_110 : decode cL_call 110 = .ok (.iload_n 2, 1) := by decide +kernel
theorem dL_call_111 : decode cL_call 111 = .ok (.iload_n 3, 1) := by decide +kernel
theorem dL_call_112 : decode cL_call 112 = .ok (.invokestatic 104, 3) := by decide +kernel
theorem dL_call_115 : decode cL_call 115 = .ok (.ireturn, 1) := by decide +kernel
theorem dL_call_116 : decode cL_call 116 = .ok (.aload_n 0, 1) := by decide +kernel
theorem dL_call_117 : decode cL_call 117 = .ok (.iload_n 2, 1) := by decide +kernel
theorem dL_call_118 : decode cL_call 118 = .ok (.iload_n 3, 1) := by decide +kernel
theorem dL_call_119 : decode cL_call 119 = .ok (.invokestatic 108, 3) := by decide +kernel
theorem dL_call_122 : decode cL_call 122 = .ok (.ireturn, 1) := by decide +kernel
theorem dL_call_123 : decode cL_call 123 = .ok (.aload_n 0, 1) := by decide +kernel
theorem dL_call_124 : decode cL_call 124 = .ok (.iload_n 2, 1) := by decide +kernel
theorem dL_call_125 : decode cL_call 125 = .ok (.iload_n 3, 1) := by decide +kernel
theorem dL_call_126 : decode cL_call 126 = .ok (.invokestatic 111, 3) := by decide +kernel
theorem dL_call_129 : decode cL_call 129 = .ok (.ireturn, 1) := by decide +kernel
theorem dL_call_130 : decode cL_call 130 = .ok (.aload_n 0, 1) := by decide +kernel
theorem dL_call_131 : decode cL_call 131 = .ok (.iload_n 2, 1) := by decide +kernel
theorem dL_call_132 : decode cL_call 132 = .ok (.iload_n 3, 1) := by decide +kernel
theorem dL_call_133 : decode cL_call 133 = .ok (.invokestatic 114, 3) := by decide +kernel
theorem dL_call_136 : decode cL_call 136 = .ok (.ireturn, 1) := by decide +kernel
theorem dL_call_137 : decode cL_call 137 = .ok (.aload_n 0, 1) := by decide +kernel
theorem dL_call_138 : decode cL_call 138 = .ok (.iload_n 2, 1) := by decide +kernel
theorem dL_call_139 : decode cL_call 139 = .ok (.invokestatic 117, 3) := by decide +kernel
theorem dL_call_142 : decode cL_call 142 = .ok (.ireturn, 1) := by decide +kernel
theorem dL_call_143 : decode cL_call 143 = .ok (.aload_n 0, 1) := by decide +kernel
theorem dL_call_144 : decode cL_call 144 = .ok (.invokestatic 120, 3) := by decide +kernel
theorem dL_call_147 : decode cL_call 147 = .ok (.ireturn, 1) := by decide +kernel
theorem dL_call_148 : decode cL_call 148 = .ok (.aload_n 0, 1) := by decide +kernel
theorem dL_call_149 : decode cL_call 149 = .ok (.invokestatic 123, 3) := by decide +kernel
theorem dL_call_152 : decode cL_call 152 = .ok (.ireturn, 1) := by decide +kernel
theorem dL_call_153 : decode cL_call 153 = .ok (.aload_n 0, 1) := by decide +kernel
theorem dL_call_154 : decode cL_call 154 = .ok (.iload_n 2, 1) := by decide +kernel
theorem dL_call_155 : decode cL_call 155 = .ok (.iload_n 3, 1) := by decide +kernel
theorem dL_call_156 : decode cL_call 156 = .ok (.iload 4, 2) := by decide +kernel
theorem dL_call_158 : decode cL_call 158 = .ok (.invokestatic 126, 3) := by decide +kernel
theorem dL_call_161 : decode cL_call 161 = .ok (.ireturn, 1) := by decide +kernel
theorem dL_call_162 : decode cL_call 162 = .ok (.aload_n 0, 1) := by decide +kernel
theorem dL_call_163 : decode cL_call 163 = .ok (.iload_n 2, 1) := by decide +kernel
theorem dL_call_164 : decode cL_call 164 = .ok (.iload_n 3, 1) := by decide +kernel
theorem dL_call_165 : decode cL_call 165 = .ok (.invokestatic 130, 3) := by decide +kernel
theorem dL_call_168 : decode cL_call 168 = .ok (.ireturn, 1) := by decide +kernel
theorem dL_call_169 : decode cL_call 169 = .ok (.aload_n 0, 1) := by decide +kernel
theorem dL_call_170 : decode cL_call 170 = .ok (.iload_n 2, 1) := by decide +kernel
theorem dL_call_171 : decode cL_call 171 = .ok (.iload_n 3, 1) := by decide +kernel
theorem dL_call_172 : decode cL_call 172 = .ok (.invokestatic 133, 3) := by decide +kernel
theorem dL_call_175 : decode cL_call 175 = .ok (.ireturn, 1) := by decide +kernel
theorem dL_call_176 : decode cL_call 176 = .ok (.aload_n 0, 1) := by decide +kernel
theorem dL_call_177 : decode cL_call 177 = .ok (.iload_n 2, 1) := by decide +kernel
theorem dL_call_178 : decode cL_call 178 = .ok (.invokestatic 136, 3) := by decide +kernel
theorem dL_call_181 : decode cL_call 181 = .ok (.ireturn, 1) := by decide +kernel
theorem dL_call_182 : decode cL_call 182 = .ok (.aload_n 0, 1) := by decide +kernel
theorem dL_call_183 : decode cL_call 183 = .ok (.iload_n 2, 1) := by decide +kernel
theorem dL_call_184 : decode cL_call 184 = .ok (.invokestatic 139, 3) := by decide +kernel
theorem dL_call_187 : decode cL_call 187 = .ok (.ireturn, 1) := by decide +kernel
theorem dL_cell_0 : decode cL_cell 0 = .ok (.iload_n 1, 1) := by decide +kernel
theorem dL_cell_1 : decode cL_cell 1 = .ok (.aload_n 0, 1) := by decide +kernel
theorem dL_cell_2 : decode cL_cell 2 = .ok (.arraylength, 1) := by decide +kernel
theorem dL_cell_3 : decode cL_cell 3 = .ok (.if_icmp .ge 9, 3) := by decide +kernel
theorem dL_cell_6 : decode cL_cell 6 = .ok (.aload_n 0, 1) := by decide +kernel
theorem dL_cell_7 : decode cL_cell 7 = .ok (.iload_n 1, 1) := by decide +kernel
theorem dL_cell_8 : decode cL_cell 8 = .ok (.iaload, 1) := by decide +kernel
theorem dL_cell_9 : decode cL_cell 9 = .ok (.goto 13, 3) := by decide +kernel
theorem dL_cell_12 : decode cL_cell 12 = .ok (.ldc 142, 2) := by decide +kernel
theorem dL_cell_14 : decode cL_cell 14 = .ok (.iload_n 1, 1) := by decide +kernel
theorem dL_cell_15 : decode cL_cell 15 = .ok (.iconst 3, 1) := by decide +kernel
theorem dL_cell_16 : decode cL_cell 16 = .ok (.iadd, 1) := by decide +kernel
theorem dL_cell_17 : decode cL_cell 17 = .ok (.imul, 1) := by decide +kernel
theorem dL_cell_18 : decode cL_cell 18 = .ok (.sipush 11411, 3) := by decide +kernel
theorem dL_cell_21 : decode cL_cell 21 = .ok (.iadd, 1) := by decide +kernel
theorem dL_cell_22 : decode cL_cell 22 = .ok (.ldc 143, 2) := by decide +kernel
theorem dL_cell_24 : decode cL_cell 24 = .ok (.iand, 1) := by decide +kernel
theorem dL_cell_25 : decode cL_cell 25 = .ok (.ireturn, 1) := by decide +kernel
theorem dL_thrown_0 : decode cL_thrown 0 = .ok (.iload_n 0, 1) := by decide +kernel
theorem dL_thrown_1 : decode cL_thrown 1 = .ok (.ldc 15, 2) := by decide +kernel
theorem dL_thrown_3 : decode cL_thrown 3 = .ok (.if_icmp .eq 15, 3) := by decide +kernel
theorem dL_thrown_6 : decode cL_thrown 6 = .ok (.iload_n 0, 1) := by decide +kernel
theorem dL_thrown_7 : decode cL_thrown 7 = .ok (.ldc 22, 2) := by decide +kernel
theorem dL_thrown_9 : decode cL_thrown 9 = .ok (.if_icmp .eq 9, 3) := by decide +kernel
theorem dL_thrown_12 : decode cL_thrown 12 = .ok (.iload_n 0, 1) := by decide +kernel
theorem dL_thrown_13 : decode cL_thrown 13 = .ok (.ldc 33, 2) := by decide +kernel
theorem dL_thrown_15 : decode cL_thrown 15 = .ok (.if_icmp .ne 7, 3) := by decide +kernel
theorem dL_thrown_18 : decode cL_thrown 18 = .ok (.iconst 1, 1) := by decide +kernel
theorem dL_thrown_19 : decode cL_thrown 19 = .ok (.goto 4, 3) := by decide +kernel
theorem dL_thrown_22 : decode cL_thrown 22 = .ok (.iconst 0, 1) := by decide +kernel
theorem dL_thrown_23 : decode cL_thrown 23 = .ok (.ireturn, 1) := by decide +kernel
theorem dL_refuses_0 : decode cL_refuses 0 = .ok (.aload_n 0, 1) := by decide +kernel
theorem dL_refuses_1 : decode cL_refuses 1 = .ok (.iconst 2, 1) := by decide +kernel
theorem dL_refuses_2 : decode cL_refuses 2 = .ok (.iconst 0, 1) := by decide +kernel
theorem dL_refuses_3 : decode cL_refuses 3 = .ok (.iconst 0, 1) := by decide +kernel
theorem dL_refuses_4 : decode cL_refuses 4 = .ok (.iconst 0, 1) := by decide +kernel
theorem dL_refuses_5 : decode cL_refuses 5 = .ok (.invokestatic 144, 3) := by decide +kernel
theorem dL_refuses_8 : decode cL_refuses 8 = .ok (.istore_n 2, 1) := by decide +kernel
theorem dL_refuses_9 : decode cL_refuses 9 = .ok (.iload_n 1, 1) := by decide +kernel
theorem dL_refuses_10 : decode cL_refuses 10 = .ok (.iconst 2, 1) := by decide +kernel
theorem dL_refuses_11 : decode cL_refuses 11 = .ok (.irem, 1) := by decide +kernel
theorem dL_refuses_12 : decode cL_refuses 12 = .ok (.ifCond .ne 12, 3) := by decide +kernel
theorem dL_refuses_15 : decode cL_refuses 15 = .ok (.iconst (-1), 1) := by decide +kernel
theorem dL_refuses_16 : decode cL_refuses 16 = .ok (.iload_n 1, 1) := by decide +kernel
theorem dL_refuses_17 : decode cL_refuses 17 = .ok (.bipush 99, 2) := by decide +kernel
theorem dL_refuses_19 : decode cL_refuses 19 = .ok (.irem, 1) := by decide +kernel
theorem dL_refuses_20 : decode cL_refuses 20 = .ok (.isub, 1) := by decide +kernel
theorem dL_refuses_21 : decode cL_refuses 21 = .ok (.goto 9, 3) := by decide +kernel
theorem dL_refuses_24 : decode cL_refuses 24 = .ok (.iload_n 2, 1) := by decide +kernel
theorem dL_refuses_25 : decode cL_refuses 25 = .ok (.iload_n 1, 1) := by decide +kernel
theorem dL_refuses_26 : decode cL_refuses 26 = .ok (.bipush 99, 2) := by decide +kernel
theorem dL_refuses_28 : decode cL_refuses 28 = .ok (.irem, 1) := by decide +kernel
theorem dL_refuses_29 : decode cL_refuses 29 = .ok (.iadd, 1) := by decide +kernel
theorem dL_refuses_30 : decode cL_refuses 30 = .ok (.istore_n 3, 1) := by decide +kernel
theorem dL_refuses_31 : decode cL_refuses 31 = .ok (.iload_n 1, 1) := by decide +kernel
theorem dL_refuses_32 : decode cL_refuses 32 = .ok (.iconst 2, 1) := by decide +kernel
theorem dL_refuses_33 : decode cL_refuses 33 = .ok (.irem, 1) := by decide +kernel
theorem dL_refuses_34 : decode cL_refuses 34 = .ok (.ifCond .ne 12, 3) := by decide +kernel
theorem dL_refuses_37 : decode cL_refuses 37 = .ok (.iconst (-1), 1) := by decide +kernel
theorem dL_refuses_38 : decode cL_refuses 38 = .ok (.iload_n 1, 1) := by decide +kernel
theorem dL_refuses_39 : decode cL_refuses 39 = .ok (.bipush 99, 2) := by decide +kernel
theorem dL_refuses_41 : decode cL_refuses 41 = .ok (.irem, 1) := by decide +kernel
theorem dL_refuses_42 : decode cL_refuses 42 = .ok (.isub, 1) := by decide +kernel
theorem dL_refuses_43 : decode cL_refuses 43 = .ok (.goto 6, 3) := by decide +kernel
theorem dL_refuses_46 : decode cL_refuses 46 = .ok (.iconst 1, 1) := by decide +kernel
theorem dL_refuses_47 : decode cL_refuses 47 = .ok (.iload_n 2, 1) := by decide +kernel
theorem dL_refuses_48 : decode cL_refuses 48 = .ok (.ishl, 1) := by decide +kernel
theorem dL_refuses_49 : decode cL_refuses 49 = .ok (.istore 4, 2) := by decide +kernel
theorem dL_refuses_51 : decode cL_refuses 51 = .ok (.iconst 1, 1) := by decide +kernel
theorem dL_refuses_52 : decode cL_refuses 52 = .ok (.iload_n 1, 1) := by decide +kernel
theorem dL_refuses_53 : decode cL_refuses 53 = .ok (.iconst 1, 1) := by decide +kernel
theorem dL_refuses_54 : decode cL_refuses 54 = .ok (.iload_n 2, 1) := by decide +kernel
theorem dL_refuses_55 : decode cL_refuses 55 = .ok (.ishl, 1) := by decide +kernel
theorem dL_refuses_56 : decode cL_refuses 56 = .ok (.iconst 1, 1) := by decide +kernel
theorem dL_refuses_57 : decode cL_refuses 57 = .ok (.isub, 1) := by decide +kernel
theorem dL_refuses_58 : decode cL_refuses 58 = .ok (.irem, 1) := by decide +kernel
theorem dL_refuses_59 : decode cL_refuses 59 = .ok (.iadd, 1) := by decide +kernel
theorem dL_refuses_60 : decode cL_refuses 60 = .ok (.istore 5, 2) := by decide +kernel
theorem dL_refuses_62 : decode cL_refuses 62 = .ok (.aload_n 0, 1) := by decide +kernel
theorem dL_refuses_63 : decode cL_refuses 63 = .ok (.iconst 0, 1) := by decide +kernel
theorem dL_refuses_64 : decode cL_refuses 64 = .ok (.iload_n 1, 1) := by decide +kernel
theorem dL_refuses_65 : decode cL_refuses 65 = .ok (.iconst 2, 1) := by decide +kernel
theorem dL_refuses_66 : decode cL_refuses 66 = .ok (.irem, 1) := by decide +kernel
theorem dL_refuses_67 : decode cL_refuses 67 = .ok (.ifCond .ne 12, 3) := by decide +kernel
theorem dL_refuses_70 : decode cL_refuses 70 = .ok (.iconst (-1), 1) := by decide +kernel
theorem dL_refuses_71 : decode cL_refuses 71 = .ok (.iload_n 1, 1) := by decide +kernel
theorem dL_refuses_72 : decode cL_refuses 72 = .ok (.bipush 9, 2) := by decide +kernel
theorem dL_refuses_74 : decode cL_refuses 74 = .ok (.irem, 1) := by decide +kernel
theorem dL_refuses_75 : decode cL_refuses 75 = .ok (.isub, 1) := by decide +kernel
theorem dL_refuses_76 : decode cL_refuses 76 = .ok (.goto 11, 3) := by decide +kernel
theorem dL_refuses_79 : decode cL_refuses 79 = .ok (.sipush 256, 3) := by decide +kernel
theorem dL_refuses_82 : decode cL_refuses 82 = .ok (.iload_n 1, 1) := by decide +kernel
theorem dL_refuses_83 : decode cL_refuses 83 = .ok (.bipush 9, 2) := by decide +kernel
theorem dL_refuses_85 : decode cL_refuses 85 = .ok (.irem, 1) := by decide +kernel
theorem dL_refuses_86 : decode cL_refuses 86 = .ok (.iadd, 1) := by decide +kernel
theorem dL_refuses_87 : decode cL_refuses 87 = .ok (.iconst 0, 1) := by decide +kernel
theorem dL_refuses_88 : decode cL_refuses 88 = .ok (.iconst 0, 1) := by decide +kernel
theorem dL_refuses_89 : decode cL_refuses 89 = .ok (.invokestatic 144, 3) := by decide +kernel
theorem dL_refuses_92 : decode cL_refuses 92 = .ok (.ldc 22, 2) := by decide +kernel
theorem dL_refuses_94 : decode cL_refuses 94 = .ok (.if_icmp .ne 511, 3) := by decide +kernel
theorem dL_refuses_97 : decode cL_refuses 97 = .ok (.aload_n 0, 1) := by decide +kernel
theorem dL_refuses_98 : decode cL_refuses 98 = .ok (.iconst 2, 1) := by decide +kernel
theorem dL_refuses_99 : decode cL_refuses 99 = .ok (.bipush 9, 2) := by decide +kernel
theorem dL_refuses_101 : decode cL_refuses 101 = .ok (.iload_n 1, 1) := by decide +kernel
theorem dL_refuses_102 : decode cL_refuses 102 = .ok (.bipush 50, 2) := by decide +kernel
theorem dL_refuses_104 : decode cL_refuses 104 = .ok (.irem, 1) := by decide +kernel
theorem dL_refuses_105 : decode cL_refuses 105 = .ok (.iadd, 1) := by decide +kernel
theorem dL_refuses_106 : decode cL_refuses 106 = .ok (.iconst 0, 1) := by decide +kernel
theorem dL_refuses_107 : decode cL_refuses 107 = .ok (.iconst 0, 1) := by decide +kernel
theorem dL_refuses_108 : decode cL_refuses 108 = .ok (.invokestatic 144, 3) := by decide +kernel
theorem dL_refuses_111 : decode cL_refuses 111 = .ok (.ldc 22, 2) := by decide +kernel
theorem dL_refuses_113 : decode cL_refuses 113 = .ok (.if_icmp .ne 492, 3) := by decide +kernel
theorem dL_refuses_116 : decode cL_refuses 116 = .ok (.aload_n 0, 1) := by decide +kernel
theorem dL_refuses_117 : decode cL_refuses 117 = .ok (.iconst 3, 1) := by decide +kernel
theorem dL_refuses_118 : decode cL_refuses 118 = .ok (.iload_n 3, 1) := by decide +kernel
theorem dL_refuses_119 : decode cL_refuses 119 = .ok (.iconst 0, 1) := by decide +kernel
theorem dL_refuses_120 : decode cL_refuses 120 = .ok (.iconst 0, 1) := by decide +kernel
theorem dL_refuses_121 : decode cL_refuses 121 = .ok (.invokestatic 144, 3) := by decide +kernel
theorem dL_refuses_124 : decode cL_refuses 124 = .ok (.ldc 15, 2) := by decide +kernel
theorem dL_refuses_126 : decode cL_refuses 126 = .ok (.if_icmp .ne 479, 3) := by decide +kernel
theorem dL_refuses_129 : decode cL_refuses 129 = .ok (.aload_n 0, 1) := by decide +kernel
theorem dL_refuses_130 : decode cL_refuses 130 = .ok (.iconst 4, 1) := by decide +kernel
theorem dL_refuses_131 : decode cL_refuses 131 = .ok (.bipush 6, 2) := by decide +kernel
theorem dL_refuses_133 : decode cL_refuses 133 = .ok (.iload_n 2, 1) := by decide +kernel
theorem dL_refuses_134 : decode cL_refuses 134 = .ok (.imul, 1) := by decide +kernel
theorem dL_refuses_135 : decode cL_refuses 135 = .ok (.iconst 3, 1) := by decide +kernel
theorem dL_refuses_136 : decode cL_refuses 136 = .ok (.iadd, 1) := by decide +kernel
theorem dL_refuses_137 : decode cL_refuses 137 = .ok (.iload_n 1, 1) := by decide +kernel
theorem dL_refuses_138 : decode cL_refuses 138 = .ok (.bipush 99, 2) := by decide +kernel
theorem dL_refuses_140 : decode cL_refuses 140 = .ok (.irem, 1) := by decide +kernel
theorem dL_refuses_141 : decode cL_refuses 141 = .ok (.iadd, 1) := by decide +kernel
theorem dL_refuses_142 : decode cL_refuses 142 = .ok (.iconst 0, 1) := by decide +kernel
theorem dL_refuses_143 : decode cL_refuses 143 = .ok (.iconst 0, 1) := by decide +kernel
theorem dL_refuses_144 : decode cL_refuses 144 = .ok (.invokestatic 144, 3) := by decide +kernel
theorem dL_refuses_147 : decode cL_refuses 147 = .ok (.ldc 15, 2) := by decide +kernel
theorem dL_refuses_149 : decode cL_refuses 149 = .ok (.if_icmp .ne 456, 3) := by decide +kernel
theorem dL_refuses_152 : decode cL_refuses 152 = .ok (.aload_n 0, 1) := by decide +kernel
theorem dL_refuses_153 : decode cL_refuses 153 = .ok (.iconst 5, 1) := by decide +kernel
theorem dL_refuses_154 : decode cL_refuses 154 = .ok (.aload_n 0, 1) := by decide +kernel
theorem dL_refuses_155 : decode cL_refuses 155 = .ok (.iconst 2, 1) := by decide +kernel
theorem dL_refuses_156 : decode cL_refuses 156 = .ok (.iconst 3, 1) := by decide +kernel
theorem dL_refuses_157 : decode cL_refuses 157 = .ok (.iconst 0, 1) := by decide +kernel
theorem dL_refuses_158 : decode cL_refuses 158 = .ok (.iconst 0, 1) := by decide +kernel
theorem dL_refuses_159 : decode cL_refuses 159 = .ok (.invokestatic 144, 3) := by decide +kernel
theorem dL_refuses_162 : decode cL_refuses 162 = .ok (.iload_n 1, 1) := by decide +kernel
theorem dL_refuses_163 : decode cL_refuses 163 = .ok (.bipush 9, 2) := by decide +kernel
theorem dL_refuses_165 : decode cL_refuses 165 = .ok (.irem, 1) := by decide +kernel
theorem dL_refuses_166 : decode cL_refuses 166 = .ok (.iadd, 1) := by decide +kernel
theorem dL_refuses_167 : decode cL_refuses 167 = .ok (.bipush 9, 2) := by decide +kernel
theorem dL_refuses_169 : decode cL_refuses 169 = .ok (.iconst 0, 1) := by decide +kernel
theorem dL_refuses_170 : decode cL_refuses 170 = .ok (.invokestatic 144, 3) := by decide +kernel
theorem dL_refuses_173 : decode cL_refuses 173 = .ok (.ldc 15, 2) := by decide +kernel
theorem dL_refuses_175 : decode cL_refuses 175 = .ok (.if_icmp .ne 430, 3) := by decide +kernel
theorem dL_refuses_178 : decode cL_refuses 178 = .ok (.aload_n 0, 1) := by decide +kernel
theorem dL_refuses_179 : decode cL_refuses 179 = .ok (.bipush 6, 2) := by decide +kernel
theorem dL_refuses_181 : decode cL_refuses 181 = .ok (.iload_n 1, 1) := by decide +kernel
theorem dL_refuses_182 : decode cL_refuses 182 = .ok (.iconst 2, 1) := by decide +kernel
theorem dL_refuses_183 : decode cL_refuses 183 = .ok (.irem, 1) := by decide +kernel
theorem dL_refuses_184 : decode cL_refuses 184 = .ok (.ifCond .ne 12, 3) := by decide +kernel
theorem dL_refuses_187 : decode cL_refuses 187 = .ok (.iconst 2, 1) := by decide +kernel
theorem dL_refuses_188 : decode cL_refuses 188 = .ok (.iload_n 1, 1) := by decide +kernel
theorem dL_refuses_189 : decode cL_refuses 189 = .ok (.bipush 99, 2) := by decide +kernel
theorem dL_refuses_191 : decode cL_refuses 191 = .ok (.irem, 1) := by decide +kernel
theorem dL_refuses_192 : decode cL_refuses 192 = .ok (.isub, 1) := by decide +kernel
theorem dL_refuses_193 : decode cL_refuses 193 = .ok (.goto 10, 3) := by decide +kernel
theorem dL_refuses_196 : decode cL_refuses 196 = .ok (.bipush 13, 2) := by decide +kernel
theorem dL_refuses_198 : decode cL_refuses 198 = .ok (.iload_n 1, 1) := by decide +kernel
theorem dL_refuses_199 : decode cL_refuses 199 = .ok (.bipush 99, 2) := by decide +kernel
theorem dL_refuses_201 : decode cL_refuses 201 = .ok (.irem, 1) := by decide +kernel
theorem dL_refuses_202 : decode cL_refuses 202 = .ok (.iadd, 1) := by decide +kernel
theorem dL_refuses_203 : decode cL_refuses 203 = .ok (.iconst (-1), 1) := by decide +kernel
theorem dL_refuses_204 : decode cL_refuses 204 = .ok (.iconst 0, 1) := by decide +kernel
theorem dL_refuses_205 : decode cL_refuses 205 = .ok (.invokestatic 144, 3) := by decide +kernel
theorem dL_refuses_208 : decode cL_refuses 208 = .ok (.ldc 22, 2) := by decide +kernel
theorem dL_refuses_210 : decode cL_refuses 210 = .ok (.if_icmp .ne 395, 3) := by decide +kernel
theorem dL_refuses_213 : decode cL_refuses 213 = .ok (.aload_n 0, 1) := by decide +kernel
theorem dL_refuses_214 : decode cL_refuses 214 = .ok (.bipush 6, 2) := by decide +kernel
theorem dL_refuses_216 : decode cL_refuses 216 = .ok (.iconst 3, 1) := by decide +kernel
theorem dL_refuses_217 : decode cL_refuses 217 = .ok (.iload_n 1, 1) := by decide +kernel
theorem dL_refuses_218 : decode cL_refuses 218 = .ok (.bipush 10, 2) := by decide +kernel
theorem dL_refuses_220 : decode cL_refuses 220 = .ok (.irem, 1) := by decide +kernel
theorem dL_refuses_221 : decode cL_refuses 221 = .ok (.iadd, 1) := by decide +kernel
theorem dL_refuses_222 : decode cL_refuses 222 = .ok (.iload_n 1, 1) := by decide +kernel
theorem dL_refuses_223 : decode cL_refuses 223 = .ok (.iconst 2, 1) := by decide +kernel
theorem dL_refuses_224 : decode cL_refuses 224 = .ok (.irem, 1) := by decide +kernel
theorem dL_refuses_225 : decode cL_refuses 225 = .ok (.ifCond .ne 9, 3) := by decide +kernel
theorem dL_refuses_228 : decode cL_refuses 228 = .ok (.iconst (-1), 1) := by decide +kernel
theorem dL_refuses_229 : decode cL_refuses 229 = .ok (.iload_n 1, 1) := by decide +kernel
theorem dL_refuses_230 : decode cL_refuses 230 = .ok (.isub, 1) := by decide +kernel
theorem dL_refuses_231 : decode cL_refuses 231 = .ok (.goto 7, 3) := by decide +kernel
theorem dL_refuses_234 : decode cL_refuses 234 = .ok (.bipush 75, 2) := by decide +kernel
theorem dL_refuses_236 : decode cL_refuses 236 = .ok (.iload_n 1, 1) := by decide +kernel
theorem dL_refuses_237 : decode cL_refuses 237 = .ok (.iadd, 1) := by decide +kernel
theorem dL_refuses_238 : decode cL_refuses 238 = .ok (.iconst 0, 1) := by decide +kernel
theorem dL_refuses_239 : decode cL_refuses 239 = .ok (.invokestatic 144, 3) := by decide +kernel
theorem dL_refuses_242 : decode cL_refuses 242 = .ok (.ldc 15, 2) := by decide +kernel
theorem dL_refuses_244 : decode cL_refuses 244 = .ok (.if_icmp .ne 361, 3) := by decide +kernel
theorem dL_refuses_247 : decode cL_refuses 247 = .ok (.aload_n 0, 1) := by decide +kernel
theorem dL_refuses_248 : decode cL_refuses 248 = .ok (.bipush 7, 2) := by decide +kernel
theorem dL_refuses_250 : decode cL_refuses 250 = .ok (.iload_n 1, 1) := by decide +kernel
theorem dL_refuses_251 : decode cL_refuses 251 = .ok (.iconst 2, 1) := by decide +kernel
theorem dL_refuses_252 : decode cL_refuses 252 = .ok (.irem, 1) := by decide +kernel
theorem dL_refuses_253 : decode cL_refuses 253 = .ok (.ifCond .ne 7, 3) := by decide +kernel
theorem dL_refuses_256 : decode cL_refuses 256 = .ok (.iconst 0, 1) := by decide +kernel
theorem dL_refuses_257 : decode cL_refuses 257 = .ok (.goto 10, 3) := by decide +kernel
theorem dL_refuses_260 : decode cL_refuses 260 = .ok (.bipush 21, 2) := by decide +kernel
theorem dL_refuses_262 : decode cL_refuses 262 = .ok (.iload_n 1, 1) := by decide +kernel
theorem dL_refuses_263 : decode cL_refuses 263 = .ok (.bipush 9, 2) := by decide +kernel
theorem dL_refuses_265 : decode cL_refuses 265 = .ok (.irem, 1) := by decide +kernel
theorem dL_refuses_266 : decode cL_refuses 266 = .ok (.iadd, 1) := by decide +kernel
theorem dL_refuses_267 : decode cL_refuses 267 = .ok (.iconst 5, 1) := by decide +kernel
theorem dL_refuses_268 : decode cL_refuses 268 = .ok (.iconst 0, 1) := by decide +kernel
theorem dL_refuses_269 : decode cL_refuses 269 = .ok (.invokestatic 144, 3) := by decide +kernel
theorem dL_refuses_272 : decode cL_refuses 272 = .ok (.ldc 22, 2) := by decide +kernel
theorem dL_refuses_274 : decode cL_refuses 274 = .ok (.if_icmp .ne 331, 3) := by decide +kernel
theorem dL_refuses_277 : decode cL_refuses 277 = .ok (.aload_n 0, 1) := by decide +kernel
theorem dL_refuses_278 : decode cL_refuses 278 = .ok (.bipush 7, 2) := by decide +kernel
theorem dL_refuses_280 : decode cL_refuses 280 = .ok (.iconst 5, 1) := by decide +kernel
theorem dL_refuses_281 : decode cL_refuses 281 = .ok (.iload_n 1, 1) := by decide +kernel
theorem dL_refuses_282 : decode cL_refuses 282 = .ok (.iconst 2, 1) := by decide +kernel
theorem dL_refuses_283 : decode cL_refuses 283 = .ok (.irem, 1) := by decide +kernel
theorem dL_refuses_284 : decode cL_refuses 284 = .ok (.ifCond .ne 8, 3) := by decide +kernel
theorem dL_refuses_287 : decode cL_refuses 287 = .ok (.iload_n 1, 1) := by decide +kernel
theorem dL_refuses_288 : decode cL_refuses 288 = .ok (.ineg, 1) := by decide +kernel
theorem dL_refuses_289 : decode cL_refuses 289 = .ok (.goto 10, 3) := by decide +kernel
theorem dL_refuses_292 : decode cL_refuses 292 = .ok (.bipush 21, 2) := by decide +kernel
theorem dL_refuses_294 : decode cL_refuses 294 = .ok (.iload_n 1, 1) := by decide +kernel
theorem dL_refuses_295 : decode cL_refuses 295 = .ok (.bipush 9, 2) := by decide +kernel
theorem dL_refuses_297 : decode cL_refuses 297 = .ok (.irem, 1) := by decide +kernel
theorem dL_refuses_298 : decode cL_refuses 298 = .ok (.iadd, 1) := by decide +kernel
theorem dL_refuses_299 : decode cL_refuses 299 = .ok (.iconst 0, 1) := by decide +kernel
theorem dL_refuses_300 : decode cL_refuses 300 = .ok (.invokestatic 144, 3) := by decide +kernel
theorem dL_refuses_303 : decode cL_refuses 303 = .ok (.ldc 22, 2) := by decide +kernel
theorem dL_refuses_305 : decode cL_refuses 305 = .ok (.if_icmp .ne 300, 3) := by decide +kernel
theorem dL_refuses_308 : decode cL_refuses 308 = .ok (.aload_n 0, 1) := by decide +kernel
theorem dL_refuses_309 : decode cL_refuses 309 = .ok (.bipush 8, 2) := by decide +kernel
theorem dL_refuses_311 : decode cL_refuses 311 = .ok (.iload 4, 2) := by decide +kernel
theorem dL_refuses_313 : decode cL_refuses 313 = .ok (.iconst 0, 1) := by decide +kernel
theorem dL_refuses_314 : decode cL_refuses 314 = .ok (.iconst 0, 1) := by decide +kernel
theorem dL_refuses_315 : decode cL_refuses 315 = .ok (.invokestatic 144, 3) := by decide +kernel
theorem dL_refuses_318 : decode cL_refuses 318 = .ok (.ldc 22, 2) := by decide +kernel
theorem dL_refuses_320 : decode cL_refuses 320 = .ok (.if_icmp .ne 285, 3) := by decide +kernel
theorem dL_refuses_323 : decode cL_refuses 323 = .ok (.aload_n 0, 1) := by decide +kernel
theorem dL_refuses_324 : decode cL_refuses 324 = .ok (.bipush 8, 2) := by decide +kernel
theorem dL_refuses_326 : decode cL_refuses 326 = .ok (.iconst 0, 1) := by decide +kernel
theorem dL_refuses_327 : decode cL_refuses 327 = .ok (.iload 4, 2) := by decide +kernel
theorem dL_refuses_329 : decode cL_refuses 329 = .ok (.iconst 0, 1) := by decide +kernel
theorem dL_refuses_330 : decode cL_refuses 330 = .ok (.invokestatic 144, 3) := by decide +kernel
theorem dL_refuses_333 : decode cL_refuses 333 = .ok (.ldc 22, 2) := by decide +kernel
theorem dL_refuses_335 : decode cL_refuses 335 = .ok (.if_icmp .ne 270, 3) := by decide +kernel
theorem dL_refuses_338 : decode cL_refuses 338 = .ok (.aload_n 0, 1) := by decide +kernel
theorem dL_refuses_339 : decode cL_refuses 339 = .ok (.bipush 8, 2) := by decide +kernel
theorem dL_refuses_341 : decode cL_refuses 341 = .ok (.iconst 0, 1) := by decide +kernel
theorem dL_refuses_342 : decode cL_refuses 342 = .ok (.iconst 0, 1) := by decide +kernel
theorem dL_refuses_343 : decode cL_refuses 343 = .ok (.iconst 0, 1) := by decide +kernel
theorem dL_refuses_344 : decode cL_refuses 344 = .ok (.invokestatic 144, 3) := by decide +kernel
theorem dL_refuses_347 : decode cL_refuses 347 = .ok (.ldc 22, 2) := by decide +kernel
theorem dL_refuses_349 : decode cL_refuses 349 = .ok (.if_icmp .ne 256, 3) := by decide +kernel
theorem dL_refuses_352 : decode cL_refuses 352 = .ok (.aload_n 0, 1) := by decide +kernel
theorem dL_refuses_353 : decode cL_refuses 353 = .ok (.bipush 8, 2) := by decide +kernel
theorem dL_refuses_355 : decode cL_refuses 355 = .ok (.iload 5, 2) := by decide +kernel
theorem dL_refuses_357 : decode cL_refuses 357 = .ok (.iload 5, 2) := by decide +kernel
theorem dL_refuses_359 : decode cL_refuses 359 = .ok (.iconst 0, 1) := by decide +kernel
theorem dL_refuses_360 : decode cL_refuses 360 = .ok (.invokestatic 144, 3) := by decide +kernel
theorem dL_refuses_363 : decode cL_refuses 363 = .ok (.ldc 22, 2) := by decide +kernel
theorem dL_refuses_365 : decode cL_refuses 365 = .ok (.if_icmp .ne 240, 3) := by decide +kernel
theorem dL_refuses_368 : decode cL_refuses 368 = .ok (.aload_n 0, 1) := by decide +kernel
theorem dL_refuses_369 : decode cL_refuses 369 = .ok (.iload_n 3, 1) := by decide +kernel
theorem dL_refuses_370 : decode cL_refuses 370 = .ok (.iconst 1, 1) := by decide +kernel
theorem dL_refuses_371 : decode cL_refuses 371 = .ok (.invokestatic 148, 3) := by decide +kernel
theorem dL_refuses_374 : decode cL_refuses 374 = .ok (.ldc 15, 2) := by decide +kernel
theorem dL_refuses_376 : decode cL_refuses 376 = .ok (.if_icmp .ne 229, 3) := by decide +kernel
theorem dL_refuses_379 : decode cL_refuses 379 = .ok (.aload_n 0, 1) := by decide +kernel
theorem dL_refuses_380 : decode cL_refuses 380 = .ok (.bipush 9, 2) := by decide +kernel
theorem dL_refuses_382 : decode cL_refuses 382 = .ok (.iconst 3, 1) := by decide +kernel
theorem dL_refuses_383 : decode cL_refuses 383 = .ok (.iload_n 1, 1) := by decide +kernel
theorem dL_refuses_384 : decode cL_refuses 384 = .ok (.bipush 9, 2) := by decide +kernel
theorem dL_refuses_386 : decode cL_refuses 386 = .ok (.irem, 1) := by decide +kernel
theorem dL_refuses_387 : decode cL_refuses 387 = .ok (.iadd, 1) := by decide +kernel
theorem dL_refuses_388 : decode cL_refuses 388 = .ok (.iconst 0, 1) := by decide +kernel
theorem dL_refuses_389 : decode cL_refuses 389 = .ok (.iconst 0, 1) := by decide +kernel
theorem dL_refuses_390 : decode cL_refuses 390 = .ok (.invokestatic 144, 3) := by decide +kernel
theorem dL_refuses_393 : decode cL_refuses 393 = .ok (.ldc 22, 2) := by decide +kernel
theorem dL_refuses_395 : decode cL_refuses 395 = .ok (.if_icmp .ne 210, 3) := by decide +kernel
theorem dL_refuses_398 : decode cL_refuses 398 = .ok (.aload_n 0, 1) := by decide +kernel
theorem dL_refuses_399 : decode cL_refuses 399 = .ok (.bipush 12, 2) := by decide +kernel
theorem dL_refuses_401 : decode cL_refuses 401 = .ok (.iconst 0, 1) := by decide +kernel
theorem dL_refuses_402 : decode cL_refuses 402 = .ok (.iconst 0, 1) := by decide +kernel
theorem dL_refuses_403 : decode cL_refuses 403 = .ok (.iconst 3, 1) := by decide +kernel
theorem dL_refuses_404 : decode cL_refuses 404 = .ok (.iload_n 1, 1) := by decide +kernel
theorem dL_refuses_405 : decode cL_refuses 405 = .ok (.bipush 9, 2) := by decide +kernel
theorem dL_refuses_407 : decode cL_refuses 407 = .ok (.irem, 1) := by decide +kernel
theorem dL_refuses_408 : decode cL_refuses 408 = .ok (.iadd, 1) := by decide +kernel
theorem dL_refuses_409 : decode cL_refuses 409 = .ok (.invokestatic 144, 3) := by decide +kernel
theorem dL_refuses_412 : decode cL_refuses 412 = .ok (.ldc 15, 2) := by decide +kernel
theorem dL_refuses_414 : decode cL_refuses 414 = .ok (.if_icmp .ne 191, 3) := by decide +kernel
theorem dL_refuses_417 : decode cL_refuses 417 = .ok (.aload_n 0, 1) := by decide +kernel
theorem dL_refuses_418 : decode cL_refuses 418 = .ok (.bipush 12, 2) := by decide +kernel
theorem dL_refuses_420 : decode cL_refuses 420 = .ok (.iload 5, 2) := by decide +kernel
theorem dL_refuses_422 : decode cL_refuses 422 = .ok (.iload 5, 2) := by decide +kernel
theorem dL_refuses_424 : decode cL_refuses 424 = .ok (.iload_n 1, 1) := by decide +kernel
theorem dL_refuses_425 : decode cL_refuses 425 = .ok (.iconst 3, 1) := by decide +kernel
theorem dL_refuses_426 : decode cL_refuses 426 = .ok (.irem, 1) := by decide +kernel
theorem dL_refuses_427 : decode cL_refuses 427 = .ok (.invokestatic 144, 3) := by decide +kernel
theorem dL_refuses_430 : decode cL_refuses 430 = .ok (.ldc 22, 2) := by decide +kernel
theorem dL_refuses_432 : decode cL_refuses 432 = .ok (.if_icmp .ne 173, 3) := by decide +kernel
theorem dL_refuses_435 : decode cL_refuses 435 = .ok (.aload_n 0, 1) := by decide +kernel
theorem dL_refuses_436 : decode cL_refuses 436 = .ok (.bipush 13, 2) := by decide +kernel
theorem dL_refuses_438 : decode cL_refuses 438 = .ok (.iload_n 1, 1) := by decide +kernel
theorem dL_refuses_439 : decode cL_refuses 439 = .ok (.iconst 2, 1) := by decide +kernel
theorem dL_refuses_440 : decode cL_refuses 440 = .ok (.irem, 1) := by decide +kernel
theorem dL_refuses_441 : decode cL_refuses 441 = .ok (.ifCond .ne 7, 3) := by decide +kernel
theorem dL_refuses_444 : decode cL_refuses 444 = .ok (.iconst 0, 1) := by decide +kernel
theorem dL_refuses_445 : decode cL_refuses 445 = .ok (.goto 9, 3) := by decide +kernel
theorem dL_refuses_448 : decode cL_refuses 448 = .ok (.iconst 3, 1) := by decide +kernel
theorem dL_refuses_449 : decode cL_refuses 449 = .ok (.iload_n 1, 1) := by decide +kernel
theorem dL_refuses_450 : decode cL_refuses 450 = .ok (.bipush 9, 2) := by decide +kernel
theorem dL_refuses_452 : decode cL_refuses 452 = .ok (.irem, 1) := by decide +kernel
theorem dL_refuses_453 : decode cL_refuses 453 = .ok (.iadd, 1) := by decide +kernel
theorem dL_refuses_454 : decode cL_refuses 454 = .ok (.iconst 0, 1) := by decide +kernel
theorem dL_refuses_455 : decode cL_refuses 455 = .ok (.iconst 0, 1) := by decide +kernel
theorem dL_refuses_456 : decode cL_refuses 456 = .ok (.invokestatic 144, 3) := by decide +kernel
theorem dL_refuses_459 : decode cL_refuses 459 = .ok (.ldc 22, 2) := by decide +kernel
theorem dL_refuses_461 : decode cL_refuses 461 = .ok (.if_icmp .ne 144, 3) := by decide +kernel
theorem dL_refuses_464 : decode cL_refuses 464 = .ok (.aload_n 0, 1) := by decide +kernel
theorem dL_refuses_465 : decode cL_refuses 465 = .ok (.bipush 13, 2) := by decide +kernel
theorem dL_refuses_467 : decode cL_refuses 467 = .ok (.iconst 1, 1) := by decide +kernel
theorem dL_refuses_468 : decode cL_refuses 468 = .ok (.iload_n 1, 1) := by decide +kernel
theorem dL_refuses_469 : decode cL_refuses 469 = .ok (.iconst 2, 1) := by decide +kernel
theorem dL_refuses_470 : decode cL_refuses 470 = .ok (.irem, 1) := by decide +kernel
theorem dL_refuses_471 : decode cL_refuses 471 = .ok (.iadd, 1) := by decide +kernel
theorem dL_refuses_472 : decode cL_refuses 472 = .ok (.iconst 3, 1) := by decide +kernel
theorem dL_refuses_473 : decode cL_refuses 473 = .ok (.iload_n 1, 1) := by decide +kernel
theorem dL_refuses_474 : decode cL_refuses 474 = .ok (.bipush 9, 2) := by decide +kernel
theorem dL_refuses_476 : decode cL_refuses 476 = .ok (.irem, 1) := by decide +kernel
theorem dL_refuses_477 : decode cL_refuses 477 = .ok (.iadd, 1) := by decide +kernel
theorem dL_refuses_478 : decode cL_refuses 478 = .ok (.iconst 0, 1) := by decide +kernel
theorem dL_refuses_479 : decode cL_refuses 479 = .ok (.invokestatic 144, 3) := by decide +kernel
theorem dL_refuses_482 : decode cL_refuses 482 = .ok (.ldc 22, 2) := by decide +kernel
theorem dL_refuses_484 : decode cL_refuses 484 = .ok (.if_icmp .ne 121, 3) := by decide +kernel
theorem dL_refuses_487 : decode cL_refuses 487 = .ok (.aload_n 0, 1) := by decide +kernel
theorem dL_refuses_488 : decode cL_refuses 488 = .ok (.bipush 14, 2) := by decide +kernel
theorem dL_refuses_490 : decode cL_refuses 490 = .ok (.iload 4, 2) := by decide +kernel
theorem dL_refuses_492 : decode cL_refuses 492 = .ok (.iconst 0, 1) := by decide +kernel
theorem dL_refuses_493 : decode cL_refuses 493 = .ok (.iconst 0, 1) := by decide +kernel
theorem dL_refuses_494 : decode cL_refuses 494 = .ok (.invokestatic 144, 3) := by decide +kernel
theorem dL_refuses_497 : decode cL_refuses 497 = .ok (.ldc 22, 2) := by decide +kernel
theorem dL_refuses_499 : decode cL_refuses 499 = .ok (.if_icmp .ne 106, 3) := by decide +kernel
theorem dL_refuses_502 : decode cL_refuses 502 = .ok (.aload_n 0, 1) := by decide +kernel
theorem dL_refuses_503 : decode cL_refuses 503 = .ok (.bipush 14, 2) := by decide +kernel
theorem dL_refuses_505 : decode cL_refuses 505 = .ok (.iload 5, 2) := by decide +kernel
theorem dL_refuses_507 : decode cL_refuses 507 = .ok (.iload 5, 2) := by decide +kernel
theorem dL_refuses_509 : decode cL_refuses 509 = .ok (.iconst 0, 1) := by decide +kernel
theorem dL_refuses_510 : decode cL_refuses 510 = .ok (.invokestatic 144, 3) := by decide +kernel
theorem dL_refuses_513 : decode cL_refuses 513 = .ok (.ldc 22, 2) := by decide +kernel
theorem dL_refuses_515 : decode cL_refuses 515 = .ok (.if_icmp .ne 90, 3) := by decide +kernel
theorem dL_refuses_518 : decode cL_refuses 518 = .ok (.aload_n 0, 1) := by decide +kernel
theorem dL_refuses_519 : decode cL_refuses 519 = .ok (.bipush 15, 2) := by decide +kernel
theorem dL_refuses_521 : decode cL_refuses 521 = .ok (.iconst 2, 1) := by decide +kernel
theorem dL_refuses_522 : decode cL_refuses 522 = .ok (.iload_n 1, 1) := by decide +kernel
theorem dL_refuses_523 : decode cL_refuses 523 = .ok (.bipush 50, 2) := by decide +kernel
theorem dL_refuses_525 : decode cL_refuses 525 = .ok (.irem, 1) := by decide +kernel
theorem dL_refuses_526 : decode cL_refuses 526 = .ok (.iadd, 1) := by decide +kernel
theorem dL_refuses_527 : decode cL_refuses 527 = .ok (.iconst 0, 1) := by decide +kernel
theorem dL_refuses_528 : decode cL_refuses 528 = .ok (.iconst 0, 1) := by decide +kernel
theorem dL_refuses_529 : decode cL_refuses 529 = .ok (.invokestatic 144, 3) := by decide +kernel
theorem dL_refuses_532 : decode cL_refuses 532 = .ok (.ldc 15, 2) := by decide +kernel
theorem dL_refuses_534 : decode cL_refuses 534 = .ok (.if_icmp .ne 71, 3) := by decide +kernel
theorem dL_refuses_537 : decode cL_refuses 537 = .ok (.aload_n 0, 1) := by decide +kernel
theorem dL_refuses_538 : decode cL_refuses 538 = .ok (.bipush 16, 2) := by decide +kernel
theorem dL_refuses_540 : decode cL_refuses 540 = .ok (.iconst (-1), 1) := by decide +kernel
theorem dL_refuses_541 : decode cL_refuses 541 = .ok (.iload_n 1, 1) := by decide +kernel
theorem dL_refuses_542 : decode cL_refuses 542 = .ok (.bipush 9, 2) := by decide +kernel
theorem dL_refuses_544 : decode cL_refuses 544 = .ok (.irem, 1) := by decide +kernel
theorem dL_refuses_545 : decode cL_refuses 545 = .ok (.isub, 1) := by decide +kernel
theorem dL_refuses_546 : decode cL_refuses 546 = .ok (.iconst 0, 1) := by decide +kernel
theorem dL_refuses_547 : decode cL_refuses 547 = .ok (.iconst 0, 1) := by decide +kernel
theorem dL_refuses_548 : decode cL_refuses 548 = .ok (.invokestatic 144, 3) := by decide +kernel
theorem dL_refuses_551 : decode cL_refuses 551 = .ok (.ldc 15, 2) := by decide +kernel
theorem dL_refuses_553 : decode cL_refuses 553 = .ok (.if_icmp .ne 52, 3) := by decide +kernel
theorem dL_refuses_556 : decode cL_refuses 556 = .ok (.aload_n 0, 1) := by decide +kernel
theorem dL_refuses_557 : decode cL_refuses 557 = .ok (.iconst 0, 1) := by decide +kernel
theorem dL_refuses_558 : decode cL_refuses 558 = .ok (.lconst 0, 1) := by decide +kernel
theorem dL_refuses_559 : decode cL_refuses 559 = .ok (.invokestatic 152, 3) := by decide +kernel
theorem dL_refuses_562 : decode cL_refuses 562 = .ok (.ldc 22, 2) := by decide +kernel
theorem dL_refuses_564 : decode cL_refuses 564 = .ok (.if_icmp .ne 41, 3) := by decide +kernel
theorem dL_refuses_567 : decode cL_refuses 567 = .ok (.aload_n 0, 1) := by decide +kernel
theorem dL_refuses_568 : decode cL_refuses 568 = .ok (.iconst 1, 1) := by decide +kernel
theorem dL_refuses_569 : decode cL_refuses 569 = .ok (.ldc2_w 156, 3) := by decide +kernel
theorem dL_refuses_572 : decode cL_refuses 572 = .ok (.iload_n 1, 1) := by decide +kernel
theorem dL_refuses_573 : decode cL_refuses 573 = .ok (.i2l, 1) := by decide +kernel
theorem dL_refuses_574 : decode cL_refuses 574 = .ok (.ladd, 1) := by decide +kernel
theorem dL_refuses_575 : decode cL_refuses 575 = .ok (.invokestatic 152, 3) := by decide +kernel
theorem dL_refuses_578 : decode cL_refuses 578 = .ok (.ldc 22, 2) := by decide +kernel
theorem dL_refuses_580 : decode cL_refuses 580 = .ok (.if_icmp .ne 25, 3) := by decide +kernel
theorem dL_refuses_583 : decode cL_refuses 583 = .ok (.aload_n 0, 1) := by decide +kernel
theorem dL_refuses_584 : decode cL_refuses 584 = .ok (.iload_n 1, 1) := by decide +kernel
theorem dL_refuses_585 : decode cL_refuses 585 = .ok (.i2l, 1) := by decide +kernel
theorem dL_refuses_586 : decode cL_refuses 586 = .ok (.bipush 61, 2) := by decide +kernel
theorem dL_refuses_588 : decode cL_refuses 588 = .ok (.iload_n 1, 1) := by decide +kernel
theorem dL_refuses_589 : decode cL_refuses 589 = .ok (.bipush 9, 2) := by decide +kernel
theorem dL_refuses_591 : decode cL_refuses 591 = .ok (.irem, 1) := by decide +kernel
theorem dL_refuses_592 : decode cL_refuses 592 = .ok (.iadd, 1) := by decide +kernel
theorem dL_refuses_593 : decode cL_refuses 593 = .ok (.invokestatic 158, 3) := by decide +kernel
theorem dL_refuses_596 : decode cL_refuses 596 = .ok (.ldc 22, 2) := by decide +kernel
theorem dL_refuses_598 : decode cL_refuses 598 = .ok (.if_icmp .ne 7, 3) := by decide +kernel
theorem dL_refuses_601 : decode cL_refuses 601 = .ok (.iconst 1, 1) := by decide +kernel
theorem dL_refuses_602 : decode cL_refuses 602 = .ok (.goto 4, 3) := by decide +kernel
theorem dL_refuses_605 : decode cL_refuses 605 = .ok (.iconst 0, 1) := by decide +kernel
theorem dL_refuses_606 : decode cL_refuses 606 = .ok (.ireturn, 1) := by decide +kernel
theorem dL_holds_0 : decode cL_holds 0 = .ok (.aload_n 0, 1) := by decide +kernel
theorem dL_holds_1 : decode cL_holds 1 = .ok (.iconst 2, 1) := by decide +kernel
theorem dL_holds_2 : decode cL_holds 2 = .ok (.iconst 0, 1) := by decide +kernel
theorem dL_holds_3 : decode cL_holds 3 = .ok (.iconst 0, 1) := by decide +kernel
theorem dL_holds_4 : decode cL_holds 4 = .ok (.iconst 0, 1) := by decide +kernel
theorem dL_holds_5 : decode cL_holds 5 = .ok (.invokestatic 144, 3) := by decide +kernel
theorem dL_holds_8 : decode cL_holds 8 = .ok (.istore_n 2, 1) := by decide +kernel
theorem dL_holds_9 : decode cL_holds 9 = .ok (.aload_n 0, 1) := by decide +kernel
theorem dL_holds_10 : decode cL_holds 10 = .ok (.iconst 2, 1) := by decide +kernel
theorem dL_holds_11 : decode cL_holds 11 = .ok (.iconst 1, 1) := by decide +kernel
theorem dL_holds_12 : decode cL_holds 12 = .ok (.iconst 0, 1) := by decide +kernel
theorem dL_holds_13 : decode cL_holds 13 = .ok (.iconst 0, 1) := by decide +kernel
theorem dL_holds_14 : decode cL_holds 14 = .ok (.invokestatic 144, 3) := by decide +kernel
theorem dL_holds_17 : decode cL_holds 17 = .ok (.istore_n 3, 1) := by decide +kernel
theorem dL_holds_18 : decode cL_holds 18 = .ok (.aload_n 0, 1) := by decide +kernel
theorem dL_holds_19 : decode cL_holds 19 = .ok (.iconst 2, 1) := by decide +kernel
theorem dL_holds_20 : decode cL_holds 20 = .ok (.iconst 2, 1) := by decide +kernel
theorem dL_holds_21 : decode cL_holds 21 = .ok (.iconst 0, 1) := by decide +kernel
theorem dL_holds_22 : decode cL_holds 22 = .ok (.iconst 0, 1) := by decide +kernel
theorem dL_holds_23 : decode cL_holds 23 = .ok (.invokestatic 144, 3) := by decide +kernel
theorem dL_holds_26 : decode cL_holds 26 = .ok (.istore 4, 2) := by decide +kernel
theorem dL_holds_28 : decode cL_holds 28 = .ok (.aload_n 0, 1) := by decide +kernel
theorem dL_holds_29 : decode cL_holds 29 = .ok (.iconst 2, 1) := by decide +kernel
theorem dL_holds_30 : decode cL_holds 30 = .ok (.iconst 3, 1) := by decide +kernel
theorem dL_holds_31 : decode cL_holds 31 = .ok (.iconst 0, 1) := by decide +kernel
theorem dL_holds_32 : decode cL_holds 32 = .ok (.iconst 0, 1) := by decide +kernel
theorem dL_holds_33 : decode cL_holds 33 = .ok (.invokestatic 144, 3) := by decide +kernel
theorem dL_holds_36 : decode cL_holds 36 = .ok (.istore 5, 2) := by decide +kernel
theorem dL_holds_38 : decode cL_holds 38 = .ok (.iconst 0, 1) := by decide +kernel
theorem dL_holds_39 : decode cL_holds 39 = .ok (.istore 6, 2) := by decide +kernel
theorem dL_holds_41 : decode cL_holds 41 = .ok (.iconst 0, 1) := by decide +kernel
theorem dL_holds_42 : decode cL_holds 42 = .ok (.istore 7, 2) := by decide +kernel
theorem dL_holds_44 : decode cL_holds 44 = .ok (.bipush 12, 2) := by decide +kernel
theorem dL_holds_46 : decode cL_holds 46 = .ok (.newarray .int, 2) := by decide +kernel
theorem dL_holds_48 : decode cL_holds 48 = .ok (.astore 8, 2) := by decide +kernel
theorem dL_holds_50 : decode cL_holds 50 = .ok (.iload_n 3, 1) := by decide +kernel
theorem dL_holds_51 : decode cL_holds 51 = .ok (.bipush 6, 2) := by decide +kernel
theorem dL_holds_53 : decode cL_holds 53 = .ok (.iload_n 2, 1) := by decide +kernel
theorem dL_holds_54 : decode cL_holds 54 = .ok (.imul, 1) := by decide +kernel
theorem dL_holds_55 : decode cL_holds 55 = .ok (.iconst 3, 1) := by decide +kernel
theorem dL_holds_56 : decode cL_holds 56 = .ok (.iadd, 1) := by decide +kernel
theorem dL_holds_57 : decode cL_holds 57 = .ok (.if_icmp .ne 19, 3) := by decide +kernel
theorem dL_holds_60 : decode cL_holds 60 = .ok (.iload 4, 2) := by decide +kernel
theorem dL_holds_62 : decode cL_holds 62 = .ok (.ifCond .le 14, 3) := by decide +kernel
theorem dL_holds_65 : decode cL_holds 65 = .ok (.iload 5, 2) := by decide +kernel
theorem dL_holds_67 : decode cL_holds 67 = .ok (.bipush 20, 2) := by decide +kernel
theorem dL_holds_69 : decode cL_holds 69 = .ok (.if_icmp .gt 7, 3) := by decide +kernel
theorem dL_holds_72 : decode cL_holds 72 = .ok (.iconst 1, 1) := by decide +kernel
theorem dL_holds_73 : decode cL_holds 73 = .ok (.goto 4, 3) := by decide +kernel
theorem dL_holds_76 : decode cL_holds 76 = .ok (.iconst 0, 1) := by decide +kernel
theorem dL_holds_77 : decode cL_holds 77 = .ok (.istore 9, 2) := by decide +kernel
theorem dL_holds_79 : decode cL_holds 79 = .ok (.iconst 0, 1) := by decide +kernel
theorem dL_holds_80 : decode cL_holds 80 = .ok (.istore 10, 2) := by decide +kernel
theorem dL_holds_82 : decode cL_holds 82 = .ok (.iload 10, 2) := by decide +kernel
theorem dL_holds_84 : decode cL_holds 84 = .ok (.iload_n 3, 1) := by decide +kernel
theorem dL_holds_85 : decode cL_holds 85 = .ok (.if_icmp .ge 98, 3) := by decide +kernel
theorem dL_holds_88 : decode cL_holds 88 = .ok (.iload 9, 2) := by decide +kernel
theorem dL_holds_90 : decode cL_holds 90 = .ok (.ifCond .eq 93, 3) := by decide +kernel
theorem dL_holds_93 : decode cL_holds 93 = .ok (.aload_n 0, 1) := by decide +kernel
theorem dL_holds_94 : decode cL_holds 94 = .ok (.iconst 4, 1) := by decide +kernel
theorem dL_holds_95 : decode cL_holds 95 = .ok (.iload 10, 2) := by decide +kernel
theorem dL_holds_97 : decode cL_holds 97 = .ok (.iconst 0, 1) := by decide +kernel
theorem dL_holds_98 : decode cL_holds 98 = .ok (.iconst 0, 1) := by decide +kernel
theorem dL_holds_99 : decode cL_holds 99 = .ok (.invokestatic 144, 3) := by decide +kernel
theorem dL_holds_102 : decode cL_holds 102 = .ok (.istore 11, 2) := by decide +kernel
theorem dL_holds_104 : decode cL_holds 104 = .ok (.iload 6, 2) := by decide +kernel
theorem dL_holds_106 : decode cL_holds 106 = .ok (.iload 11, 2) := by decide +kernel
theorem dL_holds_108 : decode cL_holds 108 = .ok (.iadd, 1) := by decide +kernel
theorem dL_holds_109 : decode cL_holds 109 = .ok (.istore 6, 2) := by decide +kernel
theorem dL_holds_111 : decode cL_holds 111 = .ok (.iload 7, 2) := by decide +kernel
theorem dL_holds_113 : decode cL_holds 113 = .ok (.iload 11, 2) := by decide +kernel
theorem dL_holds_115 : decode cL_holds 115 = .ok (.iload 10, 2) := by decide +kernel
theorem dL_holds_117 : decode cL_holds 117 = .ok (.iconst 3, 1) := by decide +kernel
theorem dL_holds_118 : decode cL_holds 118 = .ok (.irem, 1) := by decide +kernel
theorem dL_holds_119 : decode cL_holds 119 = .ok (.ishl, 1) := by decide +kernel
theorem dL_holds_120 : decode cL_holds 120 = .ok (.ior, 1) := by decide +kernel
theorem dL_holds_121 : decode cL_holds 121 = .ok (.istore 7, 2) := by decide +kernel
theorem dL_holds_123 : decode cL_holds 123 = .ok (.iconst 0, 1) := by decide +kernel
theorem dL_holds_124 : decode cL_holds 124 = .ok (.istore 12, 2) := by decide +kernel
theorem dL_holds_126 : decode cL_holds 126 = .ok (.iload 12, 2) := by decide +kernel
theorem dL_holds_128 : decode cL_holds 128 = .ok (.iload_n 2, 1) := by decide +kernel
theorem dL_holds_129 : decode cL_holds 129 = .ok (.if_icmp .ge 48, 3) := by decide +kernel
theorem dL_holds_132 : decode cL_holds 132 = .ok (.aload 8, 2) := by decide +kernel
theorem dL_holds_134 : decode cL_holds 134 = .ok (.iload 12, 2) := by decide +kernel
theorem dL_holds_136 : decode cL_holds 136 = .ok (.dup2, 1) := by decide +kernel
theorem dL_holds_137 : decode cL_holds 137 = .ok (.iaload, 1) := by decide +kernel
theorem dL_holds_138 : decode cL_holds 138 = .ok (.iload 11, 2) := by decide +kernel
theorem dL_holds_140 : decode cL_holds 140 = .ok (.ifCond .ne 7, 3) := by decide +kernel
theorem dL_holds_143 : decode cL_holds 143 = .ok (.iconst 0, 1) := by decide +kernel
theorem dL_holds_144 : decode cL_holds 144 = .ok (.goto 25, 3) := by decide +kernel
theorem dL_holds_147 : decode cL_holds 147 = .ok (.iload 10, 2) := by decide +kernel
theorem dL_holds_149 : decode cL_holds 149 = .ok (.bipush 6, 2) := by decide +kernel
theorem dL_holds_151 : decode cL_holds 151 = .ok (.idiv, 1) := by decide +kernel
theorem dL_holds_152 : decode cL_holds 152 = .ok (.iload 12, 2) := by decide +kernel
theorem dL_holds_154 : decode cL_holds 154 = .ok (.if_icmp .ne 14, 3) := by decide +kernel
theorem dL_holds_157 : decode cL_holds 157 = .ok (.iconst 1, 1) := by decide +kernel
theorem dL_holds_158 : decode cL_holds 158 = .ok (.iload 10, 2) := by decide +kernel
theorem dL_holds_160 : decode cL_holds 160 = .ok (.iconst 3, 1) := by decide +kernel
theorem dL_holds_161 : decode cL_holds 161 = .ok (.idiv, 1) := by decide +kernel
theorem dL_holds_162 : decode cL_holds 162 = .ok (.iconst 2, 1) := by decide +kernel
theorem dL_holds_163 : decode cL_holds 163 = .ok (.irem, 1) := by decide +kernel
theorem dL_holds_164 : decode cL_holds 164 = .ok (.ishl, 1) := by decide +kernel
theorem dL_holds_165 : decode cL_holds 165 = .ok (.goto 4, 3) := by decide +kernel
theorem dL_holds_168 : decode cL_holds 168 = .ok (.iconst 4, 1) := by decide +kernel
theorem dL_holds_169 : decode cL_holds 169 = .ok (.ior, 1) := by decide +kernel
theorem dL_holds_170 : decode cL_holds 170 = .ok (.iastore, 1) := by decide +kernel
theorem dL_holds_171 : decode cL_holds 171 = .ok (.iinc 12 1, 3) := by decide +kernel
theorem dL_holds_174 : decode cL_holds 174 = .ok (.goto (-48), 3) := by decide +kernel
theorem dL_holds_177 : decode cL_holds 177 = .ok (.iinc 10 1, 3) := by decide +kernel
theorem dL_holds_180 : decode cL_holds 180 = .ok (.goto (-98), 3) := by decide +kernel
theorem dL_holds_183 : decode cL_holds 183 = .ok (.iconst 0, 1) := by decide +kernel
theorem dL_holds_184 : decode cL_holds 184 = .ok (.istore 10, 2) := by decide +kernel
theorem dL_holds_186 : decode cL_holds 186 = .ok (.iload 10, 2) := by decide +kernel
theorem dL_holds_188 : decode cL_holds 188 = .ok (.iload_n 2, 1) := by decide +kernel
theorem dL_holds_189 : decode cL_holds 189 = .ok (.if_icmp .ge 38, 3) := by decide +kernel
theorem dL_holds_192 : decode cL_holds 192 = .ok (.iload 9, 2) := by decide +kernel
theorem dL_holds_194 : decode cL_holds 194 = .ok (.ifCond .eq 33, 3) := by decide +kernel
theorem dL_holds_197 : decode cL_holds 197 = .ok (.aload_n 0, 1) := by decide +kernel
theorem dL_holds_198 : decode cL_holds 198 = .ok (.iconst 3, 1) := by decide +kernel
theorem dL_holds_199 : decode cL_holds 199 = .ok (.iload 10, 2) := by decide +kernel
theorem dL_holds_201 : decode cL_holds 201 = .ok (.iconst 0, 1) := by decide +kernel
theorem dL_holds_202 : decode cL_holds 202 = .ok (.iconst 0, 1) := by decide +kernel
theorem dL_holds_203 : decode cL_holds 203 = .ok (.invokestatic 144, 3) := by decide +kernel
theorem dL_holds_206 : decode cL_holds 206 = .ok (.aload 8, 2) := by decide +kernel
theorem dL_holds_208 : decode cL_holds 208 = .ok (.iload 10, 2) := by decide +kernel
theorem dL_holds_210 : decode cL_holds 210 = .ok (.iaload, 1) := by decide +kernel
theorem dL_holds_211 : decode cL_holds 211 = .ok (.if_icmp .ne 7, 3) := by decide +kernel
theorem dL_holds_214 : decode cL_holds 214 = .ok (.iconst 1, 1) := by decide +kernel
theorem dL_holds_215 : decode cL_holds 215 = .ok (.goto 4, 3) := by decide +kernel
theorem dL_holds_218 : decode cL_holds 218 = .ok (.iconst 0, 1) := by decide +kernel
theorem dL_holds_219 : decode cL_holds 219 = .ok (.istore 9, 2) := by decide +kernel
theorem dL_holds_221 : decode cL_holds 221 = .ok (.iinc 10 1, 3) := by decide +kernel
theorem dL_holds_224 : decode cL_holds 224 = .ok (.goto (-38), 3) := by decide +kernel
theorem dL_holds_227 : decode cL_holds 227 = .ok (.iload_n 3, 1) := by decide +kernel
theorem dL_holds_228 : decode cL_holds 228 = .ok (.istore 10, 2) := by decide +kernel
theorem dL_holds_230 : decode cL_holds 230 = .ok (.iconst 0, 1) := by decide +kernel
theorem dL_holds_231 : decode cL_holds 231 = .ok (.istore 11, 2) := by decide +kernel
theorem dL_holds_233 : decode cL_holds 233 = .ok (.iconst 0, 1) := by decide +kernel
theorem dL_holds_234 : decode cL_holds 234 = .ok (.istore 12, 2) := by decide +kernel
theorem dL_holds_236 : decode cL_holds 236 = .ok (.iload 12, 2) := by decide +kernel
theorem dL_holds_238 : decode cL_holds 238 = .ok (.iload 5, 2) := by decide +kernel
theorem dL_holds_240 : decode cL_holds 240 = .ok (.if_icmp .ge 109, 3) := by decide +kernel
theorem dL_holds_243 : decode cL_holds 243 = .ok (.iload 9, 2) := by decide +kernel
theorem dL_holds_245 : decode cL_holds 245 = .ok (.ifCond .eq 104, 3) := by decide +kernel
theorem dL_holds_248 : decode cL_holds 248 = .ok (.aload_n 0, 1) := by decide +kernel
theorem dL_holds_249 : decode cL_holds 249 = .ok (.iconst 5, 1) := by decide +kernel
theorem dL_holds_250 : decode cL_holds 250 = .ok (.iload 12, 2) := by decide +kernel
theorem dL_holds_252 : decode cL_holds 252 = .ok (.iconst 5, 1) := by decide +kernel
theorem dL_holds_253 : decode cL_holds 253 = .ok (.iconst 0, 1) := by decide +kernel
theorem dL_holds_254 : decode cL_holds 254 = .ok (.invokestatic 144, 3) := by decide +kernel
theorem dL_holds_257 : decode cL_holds 257 = .ok (.istore 13, 2) := by decide +kernel
theorem dL_holds_259 : decode cL_holds 259 = .ok (.iload 11, 2) := by decide +kernel
theorem dL_holds_261 : decode cL_holds 261 = .ok (.iload 13, 2) := by decide +kernel
theorem dL_holds_263 : decode cL_holds 263 = .ok (.iload 10, 2) := by decide +kernel
theorem dL_holds_265 : decode cL_holds 265 = .ok (.if_icmp .ne 7, 3) := by decide +kernel
theorem dL_holds_268 : decode cL_holds 268 = .ok (.iconst 1, 1) := by decide +kernel
theorem dL_holds_269 : decode cL_holds 269 = .ok (.goto 4, 3) := by decide +kernel
theorem dL_holds_272 : decode cL_holds 272 = .ok (.iconst 0, 1) := by decide +kernel
theorem dL_holds_273 : decode cL_holds 273 = .ok (.iadd, 1) := by decide +kernel
theorem dL_holds_274 : decode cL_holds 274 = .ok (.istore 11, 2) := by decide +kernel
theorem dL_holds_276 : decode cL_holds 276 = .ok (.iload 13, 2) := by decide +kernel
theorem dL_holds_278 : decode cL_holds 278 = .ok (.iload 10, 2) := by decide +kernel
theorem dL_holds_280 : decode cL_holds 280 = .ok (.if_icmp .gt 56, 3) := by decide +kernel
theorem dL_holds_283 : decode cL_holds 283 = .ok (.iload 13, 2) := by decide +kernel
theorem dL_holds_285 : decode cL_holds 285 = .ok (.ifCond .le 51, 3) := by decide +kernel
theorem dL_holds_288 : decode cL_holds 288 = .ok (.aload_n 0, 1) := by decide +kernel
theorem dL_holds_289 : decode cL_holds 289 = .ok (.iconst 5, 1) := by decide +kernel
theorem dL_holds_290 : decode cL_holds 290 = .ok (.iload 12, 2) := by decide +kernel
theorem dL_holds_292 : decode cL_holds 292 = .ok (.iconst 0, 1) := by decide +kernel
theorem dL_holds_293 : decode cL_holds 293 = .ok (.iconst 0, 1) := by decide +kernel
theorem dL_holds_294 : decode cL_holds 294 = .ok (.invokestatic 144, 3) := by decide +kernel
theorem dL_holds_297 : decode cL_holds 297 = .ok (.aload_n 0, 1) := by decide +kernel
theorem dL_holds_298 : decode cL_holds 298 = .ok (.iconst 5, 1) := by decide +kernel
theorem dL_holds_299 : decode cL_holds 299 = .ok (.iload 12, 2) := by decide +kernel
theorem dL_holds_301 : decode cL_holds 301 = .ok (.iconst 1, 1) := by decide +kernel
theorem dL_holds_302 : decode cL_holds 302 = .ok (.iconst 0, 1) := by decide +kernel
theorem dL_holds_303 : decode cL_holds 303 = .ok (.invokestatic 144, 3) := by decide +kernel
theorem dL_holds_306 : decode cL_holds 306 = .ok (.iand, 1) := by decide +kernel
theorem dL_holds_307 : decode cL_holds 307 = .ok (.ifCond .ne 29, 3) := by decide +kernel
theorem dL_holds_310 : decode cL_holds 310 = .ok (.aload_n 0, 1) := by decide +kernel
theorem dL_holds_311 : decode cL_holds 311 = .ok (.iconst 5, 1) := by decide +kernel
theorem dL_holds_312 : decode cL_holds 312 = .ok (.iload 12, 2) := by decide +kernel
theorem dL_holds_314 : decode cL_holds 314 = .ok (.iconst 0, 1) := by decide +kernel
theorem dL_holds_315 : decode cL_holds 315 = .ok (.iconst 0, 1) := by decide +kernel
theorem dL_holds_316 : decode cL_holds 316 = .ok (.invokestatic 144, 3) := by decide +kernel
theorem dL_holds_319 : decode cL_holds 319 = .ok (.aload_n 0, 1) := by decide +kernel
theorem dL_holds_320 : decode cL_holds 320 = .ok (.iconst 5, 1) := by decide +kernel
theorem dL_holds_321 : decode cL_holds 321 = .ok (.iload 12, 2) := by decide +kernel
theorem dL_holds_323 : decode cL_holds 323 = .ok (.iconst 1, 1) := by decide +kernel
theorem dL_holds_324 : decode cL_holds 324 = .ok (.iconst 0, 1) := by decide +kernel
theorem dL_holds_325 : decode cL_holds 325 = .ok (.invokestatic 144, 3) := by decide +kernel
theorem dL_holds_328 : decode cL_holds 328 = .ok (.ior, 1) := by decide +kernel
theorem dL_holds_329 : decode cL_holds 329 = .ok (.ifCond .le 7, 3) := by decide +kernel
theorem dL_holds_332 : decode cL_holds 332 = .ok (.iconst 1, 1) := by decide +kernel
theorem dL_holds_333 : decode cL_holds 333 = .ok (.goto 4, 3) := by decide +kernel
theorem dL_holds_336 : decode cL_holds 336 = .ok (.iconst 0, 1) := by decide +kernel
theorem dL_holds_337 : decode cL_holds 337 = .ok (.istore 9, 2) := by decide +kernel
theorem dL_holds_339 : decode cL_holds 339 = .ok (.iload 13, 2) := by decide +kernel
theorem dL_holds_341 : decode cL_holds 341 = .ok (.istore 10, 2) := by decide +kernel
theorem dL_holds_343 : decode cL_holds 343 = .ok (.iinc 12 1, 3) := by decide +kernel
theorem dL_holds_346 : decode cL_holds 346 = .ok (.goto (-110), 3) := by decide +kernel
theorem dL_holds_349 : decode cL_holds 349 = .ok (.aload_n 0, 1) := by decide +kernel
theorem dL_holds_350 : decode cL_holds 350 = .ok (.invokevirtual 162, 3) := by decide +kernel
theorem dL_holds_353 : decode cL_holds 353 = .ok (.istore 12, 2) := by decide +kernel
theorem dL_holds_355 : decode cL_holds 355 = .ok (.iconst 1, 1) := by decide +kernel
theorem dL_holds_356 : decode cL_holds 356 = .ok (.istore 13, 2) := by decide +kernel
theorem dL_holds_358 : decode cL_holds 358 = .ok (.iconst 0, 1) := by decide +kernel
theorem dL_holds_359 : decode cL_holds 359 = .ok (.istore 14, 2) := by decide +kernel
theorem dL_holds_361 : decode cL_holds 361 = .ok (.iload 14, 2) := by decide +kernel
theorem dL_holds_363 : decode cL_holds 363 = .ok (.iload 12, 2) := by decide +kernel
theorem dL_holds_365 : decode cL_holds 365 = .ok (.if_icmp .ge 15, 3) := by decide +kernel
theorem dL_holds_368 : decode cL_holds 368 = .ok (.iload 13, 2) := by decide +kernel
theorem dL_holds_370 : decode cL_holds 370 = .ok (.iconst 3, 1) := by decide +kernel
theorem dL_holds_371 : decode cL_holds 371 = .ok (.imul, 1) := by decide +kernel
theorem dL_holds_372 : decode cL_holds 372 = .ok (.istore 13, 2) := by decide +kernel
theorem dL_holds_374 : decode cL_holds 374 = .ok (.iinc 14 1, 3) := by decide +kernel
theorem dL_holds_377 : decode cL_holds 377 = .ok (.goto (-16), 3) := by decide +kernel
theorem dL_holds_380 : decode cL_holds 380 = .ok (.iconst 1, 1) := by decide +kernel
theorem dL_holds_381 : decode cL_holds 381 = .ok (.iload_n 1, 1) := by decide +kernel
theorem dL_holds_382 : decode cL_holds 382 = .ok (.iconst 2, 1) := by decide +kernel
theorem dL_holds_383 : decode cL_holds 383 = .ok (.irem, 1) := by decide +kernel
theorem dL_holds_384 : decode cL_holds 384 = .ok (.iadd, 1) := by decide +kernel
theorem dL_holds_385 : decode cL_holds 385 = .ok (.istore 14, 2) := by decide +kernel
theorem dL_holds_387 : decode cL_holds 387 = .ok (.aload_n 0, 1) := by decide +kernel
theorem dL_holds_388 : decode cL_holds 388 = .ok (.bipush 13, 2) := by decide +kernel
theorem dL_holds_390 : decode cL_holds 390 = .ok (.iload 14, 2) := by decide +kernel
theorem dL_holds_392 : decode cL_holds 392 = .ok (.iconst 2, 1) := by decide +kernel
theorem dL_holds_393 : decode cL_holds 393 = .ok (.iconst 0, 1) := by decide +kernel
theorem dL_holds_394 : decode cL_holds 394 = .ok (.invokestatic 144, 3) := by decide +kernel
theorem dL_holds_397 : decode cL_holds 397 = .ok (.istore 15, 2) := by decide +kernel
theorem dL_holds_399 : decode cL_holds 399 = .ok (.aload_n 0, 1) := by decide +kernel
theorem dL_holds_400 : decode cL_holds 400 = .ok (.invokevirtual 165, 3) := by decide +kernel
theorem dL_holds_403 : decode cL_holds 403 = .ok (.istore 16, 2) := by decide +kernel
theorem dL_holds_405 : decode cL_holds 405 = .ok (.iload 9, 2) := by decide +kernel
theorem dL_holds_407 : decode cL_holds 407 = .ok (.ifCond .eq 113, 3) := by decide +kernel
theorem dL_holds_410 : decode cL_holds 410 = .ok (.iload 6, 2) := by decide +kernel
theorem dL_holds_412 : decode cL_holds 412 = .ok (.iload 4, 2) := by decide +kernel
theorem dL_holds_414 : decode cL_holds 414 = .ok (.if_icmp .ne 106, 3) := by decide +kernel
theorem dL_holds_417 : decode cL_holds 417 = .ok (.aload_n 0, 1) := by decide +kernel
theorem dL_holds_418 : decode cL_holds 418 = .ok (.invokevirtual 168, 3) := by decide +kernel
theorem dL_holds_421 : decode cL_holds 421 = .ok (.iload 7, 2) := by decide +kernel
theorem dL_holds_423 : decode cL_holds 423 = .ok (.if_icmp .ne 97, 3) := by decide +kernel
theorem dL_holds_426 : decode cL_holds 426 = .ok (.iload 10, 2) := by decide +kernel
theorem dL_holds_428 : decode cL_holds 428 = .ok (.iload 4, 2) := by decide +kernel
theorem dL_holds_430 : decode cL_holds 430 = .ok (.if_icmp .ne 90, 3) := by decide +kernel
theorem dL_holds_433 : decode cL_holds 433 = .ok (.aload_n 0, 1) := by decide +kernel
theorem dL_holds_434 : decode cL_holds 434 = .ok (.iconst 2, 1) := by decide +kernel
theorem dL_holds_435 : decode cL_holds 435 = .ok (.bipush 6, 2) := by decide +kernel
theorem dL_holds_437 : decode cL_holds 437 = .ok (.iconst 0, 1) := by decide +kernel
theorem dL_holds_438 : decode cL_holds 438 = .ok (.iconst 0, 1) := by decide +kernel
theorem dL_holds_439 : decode cL_holds 439 = .ok (.invokestatic 144, 3) := by decide +kernel
theorem dL_holds_442 : decode cL_holds 442 = .ok (.iload 11, 2) := by decide +kernel
theorem dL_holds_444 : decode cL_holds 444 = .ok (.if_icmp .ne 76, 3) := by decide +kernel
theorem dL_holds_447 : decode cL_holds 447 = .ok (.iload 13, 2) := by decide +kernel
theorem dL_holds_449 : decode cL_holds 449 = .ok (.iload 4, 2) := by decide +kernel
theorem dL_holds_451 : decode cL_holds 451 = .ok (.if_icmp .lt 69, 3) := by decide +kernel
theorem dL_holds_454 : decode cL_holds 454 = .ok (.iload 12, 2) := by decide +kernel
theorem dL_holds_456 : decode cL_holds 456 = .ok (.ifCond .ne 12, 3) := by decide +kernel
theorem dL_holds_459 : decode cL_holds 459 = .ok (.iload 4, 2) := by decide +kernel
theorem dL_holds_461 : decode cL_holds 461 = .ok (.iconst 1, 1) := by decide +kernel
theorem dL_holds_462 : decode cL_holds 462 = .ok (.if_icmp .ne 58, 3) := by decide +kernel
theorem dL_holds_465 : decode cL_holds 465 = .ok (.goto 12, 3) := by decide +kernel
theorem dL_holds_468 : decode cL_holds 468 = .ok (.iload 13, 2) := by decide +kernel
theorem dL_holds_470 : decode cL_holds 470 = .ok (.iconst 3, 1) := by decide +kernel
theorem dL_holds_471 : decode cL_holds 471 = .ok (.idiv, 1) := by decide +kernel
theorem dL_holds_472 : decode cL_holds 472 = .ok (.iload 4, 2) := by decide +kernel
theorem dL_holds_474 : decode cL_holds 474 = .ok (.if_icmp .ge 46, 3) := by decide +kernel
theorem dL_holds_477 : decode cL_holds 477 = .ok (.iload 15, 2) := by decide +kernel
theorem dL_holds_479 : decode cL_holds 479 = .ok (.iconst (-1), 1) := by decide +kernel
theorem dL_holds_480 : decode cL_holds 480 = .ok (.if_icmp .ne 7, 3) := by decide +kernel
theorem dL_holds_483 : decode cL_holds 483 = .ok (.iconst 1, 1) := by decide +kernel
theorem dL_holds_484 : decode cL_holds 484 = .ok (.goto 4, 3) := by decide +kernel
theorem dL_holds_487 : decode cL_holds 487 = .ok (.iconst 0, 1) := by decide +kernel
theorem dL_holds_488 : decode cL_holds 488 = .ok (.iconst 2, 1) := by decide +kernel
theorem dL_holds_489 : decode cL_holds 489 = .ok (.iload 14, 2) := by decide +kernel
theorem dL_holds_491 : decode cL_holds 491 = .ok (.imul, 1) := by decide +kernel
theorem dL_holds_492 : decode cL_holds 492 = .ok (.iload_n 2, 1) := by decide +kernel
theorem dL_holds_493 : decode cL_holds 493 = .ok (.if_icmp .le 7, 3) := by decide +kernel
theorem dL_holds_496 : decode cL_holds 496 = .ok (.iconst 1, 1) := by decide +kernel
theorem dL_holds_497 : decode cL_holds 497 = .ok (.goto 4, 3) := by decide +kernel
theorem dL_holds_500 : decode cL_holds 500 = .ok (.iconst 0, 1) := by decide +kernel
theorem dL_holds_501 : decode cL_holds 501 = .ok (.if_icmp .ne 19, 3) := by decide +kernel
theorem dL_holds_504 : decode cL_holds 504 = .ok (.iload 4, 2) := by decide +kernel
theorem dL_holds_506 : decode cL_holds 506 = .ok (.iconst 1, 1) := by decide +kernel
theorem dL_holds_507 : decode cL_holds 507 = .ok (.if_icmp .gt 9, 3) := by decide +kernel
theorem dL_holds_510 : decode cL_holds 510 = .ok (.iload 16, 2) := by decide +kernel
theorem dL_holds_512 : decode cL_holds 512 = .ok (.iconst (-1), 1) := by decide +kernel
theorem dL_holds_513 : decode cL_holds 513 = .ok (.if_icmp .ne 7, 3) := by decide +kernel
theorem dL_holds_516 : decode cL_holds 516 = .ok (.iconst 1, 1) := by decide +kernel
theorem dL_holds_517 : decode cL_holds 517 = .ok (.goto 4, 3) := by decide +kernel
theorem dL_holds_520 : decode cL_holds 520 = .ok (.iconst 0, 1) := by decide +kernel
theorem dL_holds_521 : decode cL_holds 521 = .ok (.istore 9, 2) := by decide +kernel
theorem dL_holds_523 : decode cL_holds 523 = .ok (.iload 9, 2) := by decide +kernel
theorem dL_holds_525 : decode cL_holds 525 = .ok (.ifCond .eq 42, 3) := by decide +kernel
theorem dL_holds_528 : decode cL_holds 528 = .ok (.iload 15, 2) := by decide +kernel
theorem dL_holds_530 : decode cL_holds 530 = .ok (.iconst (-1), 1) := by decide +kernel
theorem dL_holds_531 : decode cL_holds 531 = .ok (.if_icmp .eq 32, 3) := by decide +kernel
theorem dL_holds_534 : decode cL_holds 534 = .ok (.iload 15, 2) := by decide +kernel
theorem dL_holds_536 : decode cL_holds 536 = .ok (.aload_n 0, 1) := by decide +kernel
theorem dL_holds_537 : decode cL_holds 537 = .ok (.aload_n 0, 1) := by decide +kernel
theorem dL_holds_538 : decode cL_holds 538 = .ok (.bipush 13, 2) := by decide +kernel
theorem dL_holds_540 : decode cL_holds 540 = .ok (.iload 14, 2) := by decide +kernel
theorem dL_holds_542 : decode cL_holds 542 = .ok (.iconst 0, 1) := by decide +kernel
theorem dL_holds_543 : decode cL_holds 543 = .ok (.iconst 0, 1) := by decide +kernel
theorem dL_holds_544 : decode cL_holds 544 = .ok (.invokestatic 144, 3) := by decide +kernel
theorem dL_holds_547 : decode cL_holds 547 = .ok (.aload_n 0, 1) := by decide +kernel
theorem dL_holds_548 : decode cL_holds 548 = .ok (.bipush 13, 2) := by decide +kernel
theorem dL_holds_550 : decode cL_holds 550 = .ok (.iload 14, 2) := by decide +kernel
theorem dL_holds_552 : decode cL_holds 552 = .ok (.iconst 1, 1) := by decide +kernel
theorem dL_holds_553 : decode cL_holds 553 = .ok (.iconst 0, 1) := by decide +kernel
theorem dL_holds_554 : decode cL_holds 554 = .ok (.invokestatic 144, 3) := by decide +kernel
theorem dL_holds_557 : decode cL_holds 557 = .ok (.invokestatic 171, 3) := by decide +kernel
theorem dL_holds_560 : decode cL_holds 560 = .ok (.if_icmp .ne 7, 3) := by decide +kernel
theorem dL_holds_563 : decode cL_holds 563 = .ok (.iconst 1, 1) := by decide +kernel
theorem dL_holds_564 : decode cL_holds 564 = .ok (.goto 4, 3) := by decide +kernel
theorem dL_holds_567 : decode cL_holds 567 = .ok (.iconst 0, 1) := by decide +kernel
theorem dL_holds_568 : decode cL_holds 568 = .ok (.ireturn, 1) := by decide +kernel
theorem dL_most_0 : decode cL_most 0 = .ok (.iconst 0, 1) := by decide +kernel
theorem dL_most_1 : decode cL_most 1 = .ok (.istore_n 3, 1) := by decide +kernel
theorem dL_most_2 : decode cL_most 2 = .ok (.iconst 0, 1) := by decide +kernel
theorem dL_most_3 : decode cL_most 3 = .ok (.istore 4, 2) := by decide +kernel
theorem dL_most_5 : decode cL_most 5 = .ok (.iload 4, 2) := by decide +kernel
theorem dL_most_7 : decode cL_most 7 = .ok (.iconst 3, 1) := by decide +kernel
theorem dL_most_8 : decode cL_most 8 = .ok (.if_icmp .ge 34, 3) := by decide +kernel
theorem dL_most_11 : decode cL_most 11 = .ok (.aload_n 0, 1) := by decide +kernel
theorem dL_most_12 : decode cL_most 12 = .ok (.bipush 12, 2) := by decide +kernel
theorem dL_most_14 : decode cL_most 14 = .ok (.iload_n 1, 1) := by decide +kernel
theorem dL_most_15 : decode cL_most 15 = .ok (.iload_n 2, 1) := by decide +kernel
theorem dL_most_16 : decode cL_most 16 = .ok (.iload 4, 2) := by decide +kernel
theorem dL_most_18 : decode cL_most 18 = .ok (.invokestatic 144, 3) := by decide +kernel
theorem dL_most_21 : decode cL_most 21 = .ok (.istore 5, 2) := by decide +kernel
theorem dL_most_23 : decode cL_most 23 = .ok (.iload 5, 2) := by decide +kernel
theorem dL_most_25 : decode cL_most 25 = .ok (.iload_n 3, 1) := by decide +kernel
theorem dL_most_26 : decode cL_most 26 = .ok (.if_icmp .le 8, 3) := by decide +kernel
theorem dL_most_29 : decode cL_most 29 = .ok (.iload 5, 2) := by decide +kernel
theorem dL_most_31 : decode cL_most 31 = .ok (.goto 4, 3) := by decide +kernel
theorem dL_most_34 : decode cL_most 34 = .ok (.iload_n 3, 1) := by decide +kernel
theorem dL_most_35 : decode cL_most 35 = .ok (.istore_n 3, 1) := by decide +kernel
theorem dL_most_36 : decode cL_most 36 = .ok (.iinc 4 1, 3) := by decide +kernel
theorem dL_most_39 : decode cL_most 39 = .ok (.goto (-34), 3) := by decide +kernel
theorem dL_most_42 : decode cL_most 42 = .ok (.iload_n 3, 1) := by decide +kernel
theorem dL_most_43 : decode cL_most 43 = .ok (.ireturn, 1) := by decide +kernel
theorem dL_act_0 : decode cL_act 0 = .ok (.iload_n 1, 1) := by decide +kernel
theorem dL_act_1 : decode cL_act 1 = .ok (.bipush 16, 2) := by decide +kernel
theorem dL_act_3 : decode cL_act 3 = .ok (.idiv, 1) := by decide +kernel
theorem dL_act_4 : decode cL_act 4 = .ok (.istore_n 2, 1) := by decide +kernel
theorem dL_act_5 : decode cL_act 5 = .ok (.aload_n 0, 1) := by decide +kernel
theorem dL_act_6 : decode cL_act 6 = .ok (.iconst 2, 1) := by decide +kernel
theorem dL_act_7 : decode cL_act 7 = .ok (.iconst 0, 1) := by decide +kernel
theorem dL_act_8 : decode cL_act 8 = .ok (.iconst 0, 1) := by decide +kernel
theorem dL_act_9 : decode cL_act 9 = .ok (.iconst 0, 1) := by decide +kernel
theorem dL_act_10 : decode cL_act 10 = .ok (.invokestatic 144, 3) := by decide +kernel
theorem dL_act_13 : decode cL_act 13 = .ok (.istore_n 3, 1) := by decide +kernel
theorem dL_act_14 : decode cL_act 14 = .ok (.iconst 1, 1) := by decide +kernel
theorem dL_act_15 : decode cL_act 15 = .ok (.iload_n 3, 1) := by decide +kernel
theorem dL_act_16 : decode cL_act 16 = .ok (.ishl, 1) := by decide +kernel
theorem dL_act_17 : decode cL_act 17 = .ok (.iconst 1, 1) := by decide +kernel
theorem dL_act_18 : decode cL_act 18 = .ok (.isub, 1) := by decide +kernel
theorem dL_act_19 : decode cL_act 19 = .ok (.istore 4, 2) := by decide +kernel
theorem dL_act_21 : decode cL_act 21 = .ok (.iload_n 2, 1) := by decide +kernel
theorem dL_act_22 : decode cL_act 22 = .ok (.sipush 4096, 3) := by decide +kernel
theorem dL_act_25 : decode cL_act 25 = .ok (.irem, 1) := by decide +kernel
theorem dL_act_26 : decode cL_act 26 = .ok (.iload 4, 2) := by decide +kernel
theorem dL_act_28 : decode cL_act 28 = .ok (.iand, 1) := by decide +kernel
theorem dL_act_29 : decode cL_act 29 = .ok (.istore 5, 2) := by decide +kernel
theorem dL_act_31 : decode cL_act 31 = .ok (.iload_n 1, 1) := by decide +kernel
theorem dL_act_32 : decode cL_act 32 = .ok (.bipush 16, 2) := by decide +kernel
theorem dL_act_34 : decode cL_act 34 = .ok (.irem, 1) := by decide +kernel
theorem dL_act_35 : decode cL_act 35 = .ok (.tableswitch 256 0 10 #[57, 78, 78, 125, 149, 161, 171, 197, 233, 233, 233], 57) := by decide +kernel
theorem dL_act_92 : decode cL_act 92 = .ok (.aload_n 0, 1) := by decide +kernel
theorem dL_act_93 : decode cL_act 93 = .ok (.bipush 6, 2) := by decide +kernel
theorem dL_act_95 : decode cL_act 95 = .ok (.iconst 3, 1) := by decide +kernel
theorem dL_act_96 : decode cL_act 96 = .ok (.iload_n 2, 1) := by decide +kernel
theorem dL_act_97 : decode cL_act 97 = .ok (.bipush 7, 2) := by decide +kernel
theorem dL_act_99 : decode cL_act 99 = .ok (.irem, 1) := by decide +kernel
theorem dL_act_100 : decode cL_act 100 = .ok (.iadd, 1) := by decide +kernel
theorem dL_act_101 : decode cL_act 101 = .ok (.iload_n 2, 1) := by decide +kernel
theorem dL_act_102 : decode cL_act 102 = .ok (.bipush 8, 2) := by decide +kernel
theorem dL_act_104 : decode cL_act 104 = .ok (.idiv, 1) := by decide +kernel
theorem dL_act_105 : decode cL_act 105 = .ok (.bipush 45, 2) := by decide +kernel
theorem dL_act_107 : decode cL_act 107 = .ok (.irem, 1) := by decide +kernel
theorem dL_act_108 : decode cL_act 108 = .ok (.iconst 0, 1) := by decide +kernel
theorem dL_act_109 : decode cL_act 109 = .ok (.invokestatic 144, 3) := by decide +kernel
theorem dL_act_112 : decode cL_act 112 = .ok (.ireturn, 1) := by decide +kernel
theorem dL_act_113 : decode cL_act 113 = .ok (.aload_n 0, 1) := by decide +kernel
theorem dL_act_114 : decode cL_act 114 = .ok (.bipush 7, 2) := by decide +kernel
theorem dL_act_116 : decode cL_act 116 = .ok (.iload_n 2, 1) := by decide +kernel
theorem dL_act_117 : decode cL_act 117 = .ok (.iconst 3, 1) := by decide +kernel
theorem dL_act_118 : decode cL_act 118 = .ok (.irem, 1) := by decide +kernel
theorem dL_act_119 : decode cL_act 119 = .ok (.ifCond .ne 14, 3) := by decide +kernel
theorem dL_act_122 : decode cL_act 122 = .ok (.iconst 1, 1) := by decide +kernel
theorem dL_act_123 : decode cL_act 123 = .ok (.iload_n 2, 1) := by decide +kernel
theorem dL_act_124 : decode cL_act 124 = .ok (.iconst 3, 1) := by decide +kernel
theorem dL_act_125 : decode cL_act 125 = .ok (.idiv, 1) := by decide +kernel
theorem dL_act_126 : decode cL_act 126 = .ok (.bipush 20, 2) := by decide +kernel
theorem dL_act_128 : decode cL_act 128 = .ok (.irem, 1) := by decide +kernel
theorem dL_act_129 : decode cL_act 129 = .ok (.iadd, 1) := by decide +kernel
theorem dL_act_130 : decode cL_act 130 = .ok (.goto 5, 3) := by decide +kernel
theorem dL_act_133 : decode cL_act 133 = .ok (.bipush 10, 2) := by decide +kernel
theorem dL_act_135 : decode cL_act 135 = .ok (.iload_n 2, 1) := by decide +kernel
theorem dL_act_136 : decode cL_act 136 = .ok (.iconst 3, 1) := by decide +kernel
theorem dL_act_137 : decode cL_act 137 = .ok (.irem, 1) := by decide +kernel
theorem dL_act_138 : decode cL_act 138 = .ok (.ifCond .ne 15, 3) := by decide +kernel
theorem dL_act_141 : decode cL_act 141 = .ok (.iconst 1, 1) := by decide +kernel
theorem dL_act_142 : decode cL_act 142 = .ok (.iload_n 2, 1) := by decide +kernel
theorem dL_act_143 : decode cL_act 143 = .ok (.bipush 60, 2) := by decide +kernel
theorem dL_act_145 : decode cL_act 145 = .ok (.idiv, 1) := by decide +kernel
theorem dL_act_146 : decode cL_act 146 = .ok (.bipush 20, 2) := by decide +kernel
theorem dL_act_148 : decode cL_act 148 = .ok (.irem, 1) := by decide +kernel
theorem dL_act_149 : decode cL_act 149 = .ok (.iadd, 1) := by decide +kernel
theorem dL_act_150 : decode cL_act 150 = .ok (.goto 5, 3) := by decide +kernel
theorem dL_act_153 : decode cL_act 153 = .ok (.bipush 10, 2) := by decide +kernel
theorem dL_act_155 : decode cL_act 155 = .ok (.iconst 0, 1) := by decide +kernel
theorem dL_act_156 : decode cL_act 156 = .ok (.invokestatic 144, 3) := by decide +kernel
theorem dL_act_159 : decode cL_act 159 = .ok (.ireturn, 1) := by decide +kernel
theorem dL_act_160 : decode cL_act 160 = .ok (.aload_n 0, 1) := by decide +kernel
theorem dL_act_161 : decode cL_act 161 = .ok (.iload_n 2, 1) := by decide +kernel
theorem dL_act_162 : decode cL_act 162 = .ok (.bipush 12, 2) := by decide +kernel
theorem dL_act_164 : decode cL_act 164 = .ok (.irem, 1) := by decide +kernel
theorem dL_act_165 : decode cL_act 165 = .ok (.iload_n 2, 1) := by decide +kernel
theorem dL_act_166 : decode cL_act 166 = .ok (.bipush 12, 2) := by decide +kernel
theorem dL_act_168 : decode cL_act 168 = .ok (.idiv, 1) := by decide +kernel
theorem dL_act_169 : decode cL_act 169 = .ok (.iconst 2, 1) := by decide +kernel
theorem dL_act_170 : decode cL_act 170 = .ok (.irem, 1) := by decide +kernel
theorem dL_act_171 : decode cL_act 171 = .ok (.iconst 1, 1) := by decide +kernel
theorem dL_act_172 : decode cL_act 172 = .ok (.if_icmp .ne 7, 3) := by decide +kernel
theorem dL_act_175 : decode cL_act 175 = .ok (.iconst 1, 1) := by decide +kernel
theorem dL_act_176 : decode cL_act 176 = .ok (.goto 4, 3) := by decide +kernel
theorem dL_act_179 : decode cL_act 179 = .ok (.iconst 0, 1) := by decide +kernel
theorem dL_act_180 : decode cL_act 180 = .ok (.invokestatic 148, 3) := by decide +kernel
theorem dL_act_183 : decode cL_act 183 = .ok (.ireturn, 1) := by decide +kernel
theorem dL_act_184 : decode cL_act 184 = .ok (.aload_n 0, 1) := by decide +kernel
theorem dL_act_185 : decode cL_act 185 = .ok (.bipush 9, 2) := by decide +kernel
theorem dL_act_187 : decode cL_act 187 = .ok (.iload_n 2, 1) := by decide +kernel
theorem dL_act_188 : decode cL_act 188 = .ok (.iconst 3, 1) := by decide +kernel
theorem dL_act_189 : decode cL_act 189 = .ok (.irem, 1) := by decide +kernel
theorem dL_act_190 : decode cL_act 190 = .ok (.iconst 0, 1) := by decide +kernel
theorem dL_act_191 : decode cL_act 191 = .ok (.iconst 0, 1) := by decide +kernel
theorem dL_act_192 : decode cL_act 192 = .ok (.invokestatic 144, 3) := by decide +kernel
theorem dL_act_195 : decode cL_act 195 = .ok (.ireturn, 1) := by decide +kernel
theorem dL_act_196 : decode cL_act 196 = .ok (.aload_n 0, 1) := by decide +kernel
theorem dL_act_197 : decode cL_act 197 = .ok (.bipush 10, 2) := by decide +kernel
theorem dL_act_199 : decode cL_act 199 = .ok (.iconst 0, 1) := by decide +kernel
theorem dL_act_200 : decode cL_act 200 = .ok (.iconst 0, 1) := by decide +kernel
theorem dL_act_201 : decode cL_act 201 = .ok (.iconst 0, 1) := by decide +kernel
theorem dL_act_202 : decode cL_act 202 = .ok (.invokestatic 144, 3) := by decide +kernel
theorem dL_act_205 : decode cL_act 205 = .ok (.ireturn, 1) := by decide +kernel
theorem dL_act_206 : decode cL_act 206 = .ok (.aload_n 0, 1) := by decide +kernel
theorem dL_act_207 : decode cL_act 207 = .ok (.iconst 2, 1) := by decide +kernel
theorem dL_act_208 : decode cL_act 208 = .ok (.iconst 3, 1) := by decide +kernel
theorem dL_act_209 : decode cL_act 209 = .ok (.iconst 0, 1) := by decide +kernel
theorem dL_act_210 : decode cL_act 210 = .ok (.iconst 0, 1) := by decide +kernel
theorem dL_act_211 : decode cL_act 211 = .ok (.invokestatic 144, 3) := by decide +kernel
theorem dL_act_214 : decode cL_act 214 = .ok (.iconst 2, 1) := by decide +kernel
theorem dL_act_215 : decode cL_act 215 = .ok (.if_icmp .ge 7, 3) := by decide +kernel
theorem dL_act_218 : decode cL_act 218 = .ok (.iconst (-1), 1) := by decide +kernel
theorem dL_act_219 : decode cL_act 219 = .ok (.goto 12, 3) := by decide +kernel
theorem dL_act_222 : decode cL_act 222 = .ok (.aload_n 0, 1) := by decide +kernel
theorem dL_act_223 : decode cL_act 223 = .ok (.bipush 11, 2) := by decide +kernel
theorem dL_act_225 : decode cL_act 225 = .ok (.iconst 0, 1) := by decide +kernel
theorem dL_act_226 : decode cL_act 226 = .ok (.iconst 0, 1) := by decide +kernel
theorem dL_act_227 : decode cL_act 227 = .ok (.iconst 0, 1) := by decide +kernel
theorem dL_act_228 : decode cL_act 228 = .ok (.invokestatic 144, 3) := by decide +kernel
theorem dL_act_231 : decode cL_act 231 = .ok (.ireturn, 1) := by decide +kernel
theorem dL_act_232 : decode cL_act 232 = .ok (.iload_n 2, 1) := by decide +kernel
theorem dL_act_233 : decode cL_act 233 = .ok (.iconst 2, 1) := by decide +kernel
theorem dL_act_234 : decode cL_act 234 = .ok (.irem, 1) := by decide +kernel
theorem dL_act_235 : decode cL_act 235 = .ok (.ifCond .ne 19, 3) := by decide +kernel
theorem dL_act_238 : decode cL_act 238 = .ok (.aload_n 0, 1) := by decide +kernel
theorem dL_act_239 : decode cL_act 239 = .ok (.bipush 15, 2) := by decide +kernel
theorem dL_act_241 : decode cL_act 241 = .ok (.iload_n 2, 1) := by decide +kernel
theorem dL_act_242 : decode cL_act 242 = .ok (.iconst 2, 1) := by decide +kernel
theorem dL_act_243 : decode cL_act 243 = .ok (.idiv, 1) := by decide +kernel
theorem dL_act_244 : decode cL_act 244 = .ok (.iconst 2, 1) := by decide +kernel
theorem dL_act_245 : decode cL_act 245 = .ok (.irem, 1) := by decide +kernel
theorem dL_act_246 : decode cL_act 246 = .ok (.iconst 0, 1) := by decide +kernel
theorem dL_act_247 : decode cL_act 247 = .ok (.iconst 0, 1) := by decide +kernel
theorem dL_act_248 : decode cL_act 248 = .ok (.invokestatic 144, 3) := by decide +kernel
theorem dL_act_251 : decode cL_act 251 = .ok (.goto 16, 3) := by decide +kernel
theorem dL_act_254 : decode cL_act 254 = .ok (.aload_n 0, 1) := by decide +kernel
theorem dL_act_255 : decode cL_act 255 = .ok (.bipush 16, 2) := by decide +kernel
theorem dL_act_257 : decode cL_act 257 = .ok (.iload_n 2, 1) := by decide +kernel
theorem dL_act_258 : decode cL_act 258 = .ok (.iconst 2, 1) := by decide +kernel
theorem dL_act_259 : decode cL_act 259 = .ok (.idiv, 1) := by decide +kernel
theorem dL_act_260 : decode cL_act 260 = .ok (.iconst 2, 1) := by decide +kernel
theorem dL_act_261 : decode cL_act 261 = .ok (.irem, 1) := by decide +kernel
theorem dL_act_262 : decode cL_act 262 = .ok (.iconst 0, 1) := by decide +kernel
theorem dL_act_263 : decode cL_act 263 = .ok (.iconst 0, 1) := by decide +kernel
theorem dL_act_264 : decode cL_act 264 = .ok (.invokestatic 144, 3) := by decide +kernel
theorem dL_act_267 : decode cL_act 267 = .ok (.ireturn, 1) := by decide +kernel
theorem dL_act_268 : decode cL_act 268 = .ok (.aload_n 0, 1) := by decide +kernel
theorem dL_act_269 : decode cL_act 269 = .ok (.bipush 8, 2) := by decide +kernel
theorem dL_act_271 : decode cL_act 271 = .ok (.iload 5, 2) := by decide +kernel
theorem dL_act_273 : decode cL_act 273 = .ok (.iload_n 2, 1) := by decide +kernel
theorem dL_act_274 : decode cL_act 274 = .ok (.sipush 4096, 3) := by decide +kernel
theorem dL_act_277 : decode cL_act 277 = .ok (.idiv, 1) := by decide +kernel
theorem dL_act_278 : decode cL_act 278 = .ok (.iload 4, 2) := by decide +kernel
theorem dL_act_280 : decode cL_act 280 = .ok (.iand, 1) := by decide +kernel
theorem dL_act_281 : decode cL_act 281 = .ok (.iload 5, 2) := by decide +kernel
theorem dL_act_283 : decode cL_act 283 = .ok (.iconst (-1), 1) := by decide +kernel
theorem dL_act_284 : decode cL_act 284 = .ok (.ixor, 1) := by decide +kernel
theorem dL_act_285 : decode cL_act 285 = .ok (.iand, 1) := by decide +kernel
theorem dL_act_286 : decode cL_act 286 = .ok (.iconst 0, 1) := by decide +kernel
theorem dL_act_287 : decode cL_act 287 = .ok (.invokestatic 144, 3) := by decide +kernel
theorem dL_act_290 : decode cL_act 290 = .ok (.ireturn, 1) := by decide +kernel
theorem dL_act_291 : decode cL_act 291 = .ok (.aload_n 0, 1) := by decide +kernel
theorem dL_act_292 : decode cL_act 292 = .ok (.bipush 8, 2) := by decide +kernel
theorem dL_act_294 : decode cL_act 294 = .ok (.iconst 1, 1) := by decide +kernel
theorem dL_act_295 : decode cL_act 295 = .ok (.iload_n 2, 1) := by decide +kernel
theorem dL_act_296 : decode cL_act 296 = .ok (.iload_n 3, 1) := by decide +kernel
theorem dL_act_297 : decode cL_act 297 = .ok (.irem, 1) := by decide +kernel
theorem dL_act_298 : decode cL_act 298 = .ok (.ishl, 1) := by decide +kernel
theorem dL_act_299 : decode cL_act 299 = .ok (.iconst 1, 1) := by decide +kernel
theorem dL_act_300 : decode cL_act 300 = .ok (.iload_n 2, 1) := by decide +kernel
theorem dL_act_301 : decode cL_act 301 = .ok (.iconst 1, 1) := by decide +kernel
theorem dL_act_302 : decode cL_act 302 = .ok (.iadd, 1) := by decide +kernel
theorem dL_act_303 : decode cL_act 303 = .ok (.iload_n 2, 1) := by decide +kernel
theorem dL_act_304 : decode cL_act 304 = .ok (.bipush 16, 2) := by decide +kernel
theorem dL_act_306 : decode cL_act 306 = .ok (.idiv, 1) := by decide +kernel
theorem dL_act_307 : decode cL_act 307 = .ok (.iconst 2, 1) := by decide +kernel
theorem dL_act_308 : decode cL_act 308 = .ok (.irem, 1) := by decide +kernel
theorem dL_act_309 : decode cL_act 309 = .ok (.iadd, 1) := by decide +kernel
theorem dL_act_310 : decode cL_act 310 = .ok (.iload_n 3, 1) := by decide +kernel
theorem dL_act_311 : decode cL_act 311 = .ok (.irem, 1) := by decide +kernel
theorem dL_act_312 : decode cL_act 312 = .ok (.ishl, 1) := by decide +kernel
theorem dL_act_313 : decode cL_act 313 = .ok (.iconst 0, 1) := by decide +kernel
theorem dL_act_314 : decode cL_act 314 = .ok (.invokestatic 144, 3) := by decide +kernel
theorem dL_act_317 : decode cL_act 317 = .ok (.ireturn, 1) := by decide +kernel
theorem dL_alike_0 : decode cL_alike 0 = .ok (.aload_n 0, 1) := by decide +kernel
theorem dL_alike_1 : decode cL_alike 1 = .ok (.iload_n 2, 1) := by decide +kernel
theorem dL_alike_2 : decode cL_alike 2 = .ok (.i2l, 1) := by decide +kernel
theorem dL_alike_3 : decode cL_alike 3 = .ok (.iconst 1, 1) := by decide +kernel
theorem dL_alike_4 : decode cL_alike 4 = .ok (.iload_n 2, 1) := by decide +kernel
theorem dL_alike_5 : decode cL_alike 5 = .ok (.bipush 20, 2) := by decide +kernel
theorem dL_alike_7 : decode cL_alike 7 = .ok (.irem, 1) := by decide +kernel
theorem dL_alike_8 : decode cL_alike 8 = .ok (.iadd, 1) := by decide +kernel
theorem dL_alike_9 : decode cL_alike 9 = .ok (.invokestatic 158, 3) := by decide +kernel
theorem dL_alike_12 : decode cL_alike 12 = .ok (.aload_n 1, 1) := by decide +kernel
theorem dL_alike_13 : decode cL_alike 13 = .ok (.iload_n 2, 1) := by decide +kernel
theorem dL_alike_14 : decode cL_alike 14 = .ok (.i2l, 1) := by decide +kernel
theorem dL_alike_15 : decode cL_alike 15 = .ok (.iconst 1, 1) := by decide +kernel
theorem dL_alike_16 : decode cL_alike 16 = .ok (.iload_n 2, 1) := by decide +kernel
theorem dL_alike_17 : decode cL_alike 17 = .ok (.bipush 20, 2) := by decide +kernel
theorem dL_alike_19 : decode cL_alike 19 = .ok (.irem, 1) := by decide +kernel
theorem dL_alike_20 : decode cL_alike 20 = .ok (.iadd, 1) := by decide +kernel
theorem dL_alike_21 : decode cL_alike 21 = .ok (.invokestatic 158, 3) := by decide +kernel
theorem dL_alike_24 : decode cL_alike 24 = .ok (.if_icmp .ne 29, 3) := by decide +kernel
theorem dL_alike_27 : decode cL_alike 27 = .ok (.aload_n 0, 1) := by decide +kernel
theorem dL_alike_28 : decode cL_alike 28 = .ok (.invokevirtual 168, 3) := by decide +kernel
theorem dL_alike_31 : decode cL_alike 31 = .ok (.aload_n 1, 1) := by decide +kernel
theorem dL_alike_32 : decode cL_alike 32 = .ok (.invokevirtual 168, 3) := by decide +kernel
theorem dL_alike_35 : decode cL_alike 35 = .ok (.if_icmp .ne 18, 3) := by decide +kernel
theorem dL_alike_38 : decode cL_alike 38 = .ok (.aload_n 0, 1) := by decide +kernel
theorem dL_alike_39 : decode cL_alike 39 = .ok (.invokevirtual 165, 3) := by decide +kernel
theorem dL_alike_42 : decode cL_alike 42 = .ok (.aload_n 1, 1) := by decide +kernel
theorem dL_alike_43 : decode cL_alike 43 = .ok (.invokevirtual 165, 3) := by decide +kernel
theorem dL_alike_46 : decode cL_alike 46 = .ok (.if_icmp .ne 7, 3) := by decide +kernel
theorem dL_alike_49 : decode cL_alike 49 = .ok (.iconst 1, 1) := by decide +kernel
theorem dL_alike_50 : decode cL_alike 50 = .ok (.goto 4, 3) := by decide +kernel
theorem dL_alike_53 : decode cL_alike 53 = .ok (.iconst 0, 1) := by decide +kernel
theorem dL_alike_54 : decode cL_alike 54 = .ok (.istore_n 3, 1) := by decide +kernel
theorem dL_alike_55 : decode cL_alike 55 = .ok (.iconst 0, 1) := by decide +kernel
theorem dL_alike_56 : decode cL_alike 56 = .ok (.istore 4, 2) := by decide +kernel
theorem dL_alike_58 : decode cL_alike 58 = .ok (.iload 4, 2) := by decide +kernel
theorem dL_alike_60 : decode cL_alike 60 = .ok (.bipush 20, 2) := by decide +kernel
theorem dL_alike_62 : decode cL_alike 62 = .ok (.if_icmp .ge 121, 3) := by decide +kernel
theorem dL_alike_65 : decode cL_alike 65 = .ok (.iload_n 3, 1) := by decide +kernel
theorem dL_alike_66 : decode cL_alike 66 = .ok (.ifCond .eq 117, 3) := by decide +kernel
theorem dL_alike_69 : decode cL_alike 69 = .ok (.aload_n 0, 1) := by decide +kernel
theorem dL_alike_70 : decode cL_alike 70 = .ok (.iconst 2, 1) := by decide +kernel
theorem dL_alike_71 : decode cL_alike 71 = .ok (.iload 4, 2) := by decide +kernel
theorem dL_alike_73 : decode cL_alike 73 = .ok (.iconst 0, 1) := by decide +kernel
theorem dL_alike_74 : decode cL_alike 74 = .ok (.iconst 0, 1) := by decide +kernel
theorem dL_alike_75 : decode cL_alike 75 = .ok (.invokestatic 144, 3) := by decide +kernel
theorem dL_alike_78 : decode cL_alike 78 = .ok (.aload_n 1, 1) := by decide +kernel
theorem dL_alike_79 : decode cL_alike 79 = .ok (.iconst 2, 1) := by decide +kernel
theorem dL_alike_80 : decode cL_alike 80 = .ok (.iload 4, 2) := by decide +kernel
theorem dL_alike_82 : decode cL_alike 82 = .ok (.iconst 0, 1) := by decide +kernel
theorem dL_alike_83 : decode cL_alike 83 = .ok (.iconst 0, 1) := by decide +kernel
theorem dL_alike_84 : decode cL_alike 84 = .ok (.invokestatic 144, 3) := by decide +kernel
theorem dL_alike_87 : decode cL_alike 87 = .ok (.if_icmp .ne 88, 3) := by decide +kernel
theorem dL_alike_90 : decode cL_alike 90 = .ok (.aload_n 0, 1) := by decide +kernel
theorem dL_alike_91 : decode cL_alike 91 = .ok (.iconst 3, 1) := by decide +kernel
theorem dL_alike_92 : decode cL_alike 92 = .ok (.iload 4, 2) := by decide +kernel
theorem dL_alike_94 : decode cL_alike 94 = .ok (.iconst 0, 1) := by decide +kernel
theorem dL_alike_95 : decode cL_alike 95 = .ok (.iconst 0, 1) := by decide +kernel
theorem dL_alike_96 : decode cL_alike 96 = .ok (.invokestatic 144, 3) := by decide +kernel
theorem dL_alike_99 : decode cL_alike 99 = .ok (.aload_n 1, 1) := by decide +kernel
theorem dL_alike_100 : decode cL_alike 100 = .ok (.iconst 3, 1) := by decide +kernel
theorem dL_alike_101 : decode cL_alike 101 = .ok (.iload 4, 2) := by decide +kernel
theorem dL_alike_103 : decode cL_alike 103 = .ok (.iconst 0, 1) := by decide +kernel
theorem dL_alike_104 : decode cL_alike 104 = .ok (.iconst 0, 1) := by decide +kernel
theorem dL_alike_105 : decode cL_alike 105 = .ok (.invokestatic 144, 3) := by decide +kernel
theorem dL_alike_108 : decode cL_alike 108 = .ok (.if_icmp .ne 67, 3) := by decide +kernel
theorem dL_alike_111 : decode cL_alike 111 = .ok (.aload_n 0, 1) := by decide +kernel
theorem dL_alike_112 : decode cL_alike 112 = .ok (.iconst 5, 1) := by decide +kernel
theorem dL_alike_113 : decode cL_alike 113 = .ok (.iload 4, 2) := by decide +kernel
theorem dL_alike_115 : decode cL_alike 115 = .ok (.iload_n 2, 1) := by decide +kernel
theorem dL_alike_116 : decode cL_alike 116 = .ok (.bipush 6, 2) := by decide +kernel
theorem dL_alike_118 : decode cL_alike 118 = .ok (.irem, 1) := by decide +kernel
theorem dL_alike_119 : decode cL_alike 119 = .ok (.iconst 0, 1) := by decide +kernel
theorem dL_alike_120 : decode cL_alike 120 = .ok (.invokestatic 144, 3) := by decide +kernel
theorem dL_alike_123 : decode cL_alike 123 = .ok (.aload_n 1, 1) := by decide +kernel
theorem dL_alike_124 : decode cL_alike 124 = .ok (.iconst 5, 1) := by decide +kernel
theorem dL_alike_125 : decode cL_alike 125 = .ok (.iload 4, 2) := by decide +kernel
theorem dL_alike_127 : decode cL_alike 127 = .ok (.iload_n 2, 1) := by decide +kernel
theorem dL_alike_128 : decode cL_alike 128 = .ok (.bipush 6, 2) := by decide +kernel
theorem dL_alike_130 : decode cL_alike 130 = .ok (.irem, 1) := by decide +kernel
theorem dL_alike_131 : decode cL_alike 131 = .ok (.iconst 0, 1) := by decide +kernel
theorem dL_alike_132 : decode cL_alike 132 = .ok (.invokestatic 144, 3) := by decide +kernel
theorem dL_alike_135 : decode cL_alike 135 = .ok (.if_icmp .ne 40, 3) := by decide +kernel
theorem dL_alike_138 : decode cL_alike 138 = .ok (.aload_n 0, 1) := by decide +kernel
theorem dL_alike_139 : decode cL_alike 139 = .ok (.iconst 4, 1) := by decide +kernel
theorem dL_alike_140 : decode cL_alike 140 = .ok (.iconst 4, 1) := by decide +kernel
theorem dL_alike_141 : decode cL_alike 141 = .ok (.iload 4, 2) := by decide +kernel
theorem dL_alike_143 : decode cL_alike 143 = .ok (.imul, 1) := by decide +kernel
theorem dL_alike_144 : decode cL_alike 144 = .ok (.iload_n 2, 1) := by decide +kernel
theorem dL_alike_145 : decode cL_alike 145 = .ok (.iconst 4, 1) := by decide +kernel
theorem dL_alike_146 : decode cL_alike 146 = .ok (.irem, 1) := by decide +kernel
theorem dL_alike_147 : decode cL_alike 147 = .ok (.iadd, 1) := by decide +kernel
theorem dL_alike_148 : decode cL_alike 148 = .ok (.iconst 0, 1) := by decide +kernel
theorem dL_alike_149 : decode cL_alike 149 = .ok (.iconst 0, 1) := by decide +kernel
theorem dL_alike_150 : decode cL_alike 150 = .ok (.invokestatic 144, 3) := by decide +kernel
theorem dL_alike_153 : decode cL_alike 153 = .ok (.aload_n 1, 1) := by decide +kernel
theorem dL_alike_154 : decode cL_alike 154 = .ok (.iconst 4, 1) := by decide +kernel
theorem dL_alike_155 : decode cL_alike 155 = .ok (.iconst 4, 1) := by decide +kernel
theorem dL_alike_156 : decode cL_alike 156 = .ok (.iload 4, 2) := by decide +kernel
theorem dL_alike_158 : decode cL_alike 158 = .ok (.imul, 1) := by decide +kernel
theorem dL_alike_159 : decode cL_alike 159 = .ok (.iload_n 2, 1) := by decide +kernel
theorem dL_alike_160 : decode cL_alike 160 = .ok (.iconst 4, 1) := by decide +kernel
theorem dL_alike_161 : decode cL_alike 161 = .ok (.irem, 1) := by decide +kernel
theorem dL_alike_162 : decode cL_alike 162 = .ok (.iadd, 1) := by decide +kernel
theorem dL_alike_163 : decode cL_alike 163 = .ok (.iconst 0, 1) := by decide +kernel
theorem dL_alike_164 : decode cL_alike 164 = .ok (.iconst 0, 1) := by decide +kernel
theorem dL_alike_165 : decode cL_alike 165 = .ok (.invokestatic 144, 3) := by decide +kernel
theorem dL_alike_168 : decode cL_alike 168 = .ok (.if_icmp .ne 7, 3) := by decide +kernel
theorem dL_alike_171 : decode cL_alike 171 = .ok (.iconst 1, 1) := by decide +kernel
theorem dL_alike_172 : decode cL_alike 172 = .ok (.goto 4, 3) := by decide +kernel
theorem dL_alike_175 : decode cL_alike 175 = .ok (.iconst 0, 1) := by decide +kernel
theorem dL_alike_176 : decode cL_alike 176 = .ok (.istore_n 3, 1) := by decide +kernel
theorem dL_alike_177 : decode cL_alike 177 = .ok (.iinc 4 1, 3) := by decide +kernel
theorem dL_alike_180 : decode cL_alike 180 = .ok (.goto (-122), 3) := by decide +kernel
theorem dL_alike_183 : decode cL_alike 183 = .ok (.iload_n 3, 1) := by decide +kernel
theorem dL_alike_184 : decode cL_alike 184 = .ok (.ireturn, 1) := by decide +kernel
theorem dL_law_0 : decode cL_law 0 = .ok (.new 8, 3) := by decide +kernel
theorem dL_law_3 : decode cL_law 3 = .ok (.dup, 1) := by decide +kernel
theorem dL_law_4 : decode cL_law 4 = .ok (.invokespecial 174, 3) := by decide +kernel
theorem dL_law_7 : decode cL_law 7 = .ok (.astore_n 1, 1) := by decide +kernel
theorem dL_law_8 : decode cL_law 8 = .ok (.new 8, 3) := by decide +kernel
theorem dL_law_11 : decode cL_law 11 = .ok (.dup, 1) := by decide +kernel
theorem dL_law_12 : decode cL_law 12 = .ok (.invokespecial 174, 3) := by decide +kernel
theorem dL_law_15 : decode cL_law 15 = .ok (.astore_n 2, 1) := by decide +kernel
theorem dL_law_16 : decode cL_law 16 = .ok (.bipush 8, 2) := by decide +kernel
theorem dL_law_18 : decode cL_law 18 = .ok (.aload_n 0, 1) := by decide +kernel
theorem dL_law_19 : decode cL_law 19 = .ok (.iconst 0, 1) := by decide +kernel
theorem dL_law_20 : decode cL_law 20 = .ok (.invokestatic 175, 3) := by decide +kernel
theorem dL_law_23 : decode cL_law 23 = .ok (.bipush 19, 2) := by decide +kernel
theorem dL_law_25 : decode cL_law 25 = .ok (.irem, 1) := by decide +kernel
theorem dL_law_26 : decode cL_law 26 = .ok (.iadd, 1) := by decide +kernel
theorem dL_law_27 : decode cL_law 27 = .ok (.istore_n 3, 1) := by decide +kernel
theorem dL_law_28 : decode cL_law 28 = .ok (.iconst 1, 1) := by decide +kernel
theorem dL_law_29 : decode cL_law 29 = .ok (.istore 4, 2) := by decide +kernel
theorem dL_law_31 : decode cL_law 31 = .ok (.iconst 0, 1) := by decide +kernel
theorem dL_law_32 : decode cL_law 32 = .ok (.istore 5, 2) := by decide +kernel
theorem dL_law_34 : decode cL_law 34 = .ok (.iload 5, 2) := by decide +kernel
theorem dL_law_36 : decode cL_law 36 = .ok (.iload_n 3, 1) := by decide +kernel
theorem dL_law_37 : decode cL_law 37 = .ok (.if_icmp .ge 197, 3) := by decide +kernel
theorem dL_law_40 : decode cL_law 40 = .ok (.iload 4, 2) := by decide +kernel
theorem dL_law_42 : decode cL_law 42 = .ok (.ifCond .eq 192, 3) := by decide +kernel
theorem dL_law_45 : decode cL_law 45 = .ok (.aload_n 0, 1) := by decide +kernel
theorem dL_law_46 : decode cL_law 46 = .ok (.iconst 1, 1) := by decide +kernel
theorem dL_law_47 : decode cL_law 47 = .ok (.iload 5, 2) := by decide +kernel
theorem dL_law_49 : decode cL_law 49 = .ok (.iadd, 1) := by decide +kernel
theorem dL_law_50 : decode cL_law 50 = .ok (.invokestatic 175, 3) := by decide +kernel
theorem dL_law_53 : decode cL_law 53 = .ok (.istore 6, 2) := by decide +kernel
theorem dL_law_55 : decode cL_law 55 = .ok (.aload_n 1, 1) := by decide +kernel
theorem dL_law_56 : decode cL_law 56 = .ok (.iload 6, 2) := by decide +kernel
theorem dL_law_58 : decode cL_law 58 = .ok (.invokestatic 179, 3) := by decide +kernel
theorem dL_law_61 : decode cL_law 61 = .ok (.istore 7, 2) := by decide +kernel
theorem dL_law_63 : decode cL_law 63 = .ok (.iconst 1, 1) := by decide +kernel
theorem dL_law_64 : decode cL_law 64 = .ok (.aload_n 1, 1) := by decide +kernel
theorem dL_law_65 : decode cL_law 65 = .ok (.iconst 2, 1) := by decide +kernel
theorem dL_law_66 : decode cL_law 66 = .ok (.iconst 0, 1) := by decide +kernel
theorem dL_law_67 : decode cL_law 67 = .ok (.iconst 0, 1) := by decide +kernel
theorem dL_law_68 : decode cL_law 68 = .ok (.iconst 0, 1) := by decide +kernel
theorem dL_law_69 : decode cL_law 69 = .ok (.invokestatic 144, 3) := by decide +kernel
theorem dL_law_72 : decode cL_law 72 = .ok (.ishl, 1) := by decide +kernel
theorem dL_law_73 : decode cL_law 73 = .ok (.iconst 1, 1) := by decide +kernel
theorem dL_law_74 : decode cL_law 74 = .ok (.isub, 1) := by decide +kernel
theorem dL_law_75 : decode cL_law 75 = .ok (.istore 8, 2) := by decide +kernel
theorem dL_law_77 : decode cL_law 77 = .ok (.iload 6, 2) := by decide +kernel
theorem dL_law_79 : decode cL_law 79 = .ok (.bipush 7, 2) := by decide +kernel
theorem dL_law_81 : decode cL_law 81 = .ok (.idiv, 1) := by decide +kernel
theorem dL_law_82 : decode cL_law 82 = .ok (.iload 8, 2) := by decide +kernel
theorem dL_law_84 : decode cL_law 84 = .ok (.iand, 1) := by decide +kernel
theorem dL_law_85 : decode cL_law 85 = .ok (.istore 9, 2) := by decide +kernel
theorem dL_law_87 : decode cL_law 87 = .ok (.iload 6, 2) := by decide +kernel
theorem dL_law_89 : decode cL_law 89 = .ok (.sipush 28672, 3) := by decide +kernel
theorem dL_law_92 : decode cL_law 92 = .ok (.idiv, 1) := by decide +kernel
theorem dL_law_93 : decode cL_law 93 = .ok (.iload 8, 2) := by decide +kernel
theorem dL_law_95 : decode cL_law 95 = .ok (.iand, 1) := by decide +kernel
theorem dL_law_96 : decode cL_law 96 = .ok (.iload 9, 2) := by decide +kernel
theorem dL_law_98 : decode cL_law 98 = .ok (.iconst (-1), 1) := by decide +kernel
theorem dL_law_99 : decode cL_law 99 = .ok (.ixor, 1) := by decide +kernel
theorem dL_law_100 : decode cL_law 100 = .ok (.iand, 1) := by decide +kernel
theorem dL_law_101 : decode cL_law 101 = .ok (.istore 10, 2) := by decide +kernel
theorem dL_law_103 : decode cL_law 103 = .ok (.aload_n 2, 1) := by decide +kernel
theorem dL_law_104 : decode cL_law 104 = .ok (.iload 6, 2) := by decide +kernel
theorem dL_law_106 : decode cL_law 106 = .ok (.ldc 182, 2) := by decide +kernel
theorem dL_law_108 : decode cL_law 108 = .ok (.irem, 1) := by decide +kernel
theorem dL_law_109 : decode cL_law 109 = .ok (.invokestatic 183, 3) := by decide +kernel
theorem dL_law_112 : decode cL_law 112 = .ok (.ifCond .eq 113, 3) := by decide +kernel
theorem dL_law_115 : decode cL_law 115 = .ok (.aload_n 2, 1) := by decide +kernel
theorem dL_law_116 : decode cL_law 116 = .ok (.iload 6, 2) := by decide +kernel
theorem dL_law_118 : decode cL_law 118 = .ok (.invokestatic 179, 3) := by decide +kernel
theorem dL_law_121 : decode cL_law 121 = .ok (.iload 7, 2) := by decide +kernel
theorem dL_law_123 : decode cL_law 123 = .ok (.if_icmp .ne 102, 3) := by decide +kernel
theorem dL_law_126 : decode cL_law 126 = .ok (.aload_n 2, 1) := by decide +kernel
theorem dL_law_127 : decode cL_law 127 = .ok (.iload 6, 2) := by decide +kernel
theorem dL_law_129 : decode cL_law 129 = .ok (.sipush 1000, 3) := by decide +kernel
theorem dL_law_132 : decode cL_law 132 = .ok (.irem, 1) := by decide +kernel
theorem dL_law_133 : decode cL_law 133 = .ok (.invokestatic 183, 3) := by decide +kernel
theorem dL_law_136 : decode cL_law 136 = .ok (.ifCond .eq 89, 3) := by decide +kernel
theorem dL_law_139 : decode cL_law 139 = .ok (.aload_n 1, 1) := by decide +kernel
theorem dL_law_140 : decode cL_law 140 = .ok (.aload_n 2, 1) := by decide +kernel
theorem dL_law_141 : decode cL_law 141 = .ok (.iload 6, 2) := by decide +kernel
theorem dL_law_143 : decode cL_law 143 = .ok (.sipush 5000, 3) := by decide +kernel
theorem dL_law_146 : decode cL_law 146 = .ok (.irem, 1) := by decide +kernel
theorem dL_law_147 : decode cL_law 147 = .ok (.invokestatic 187, 3) := by decide +kernel
theorem dL_law_150 : decode cL_law 150 = .ok (.ifCond .eq 75, 3) := by decide +kernel
theorem dL_law_153 : decode cL_law 153 = .ok (.iload 5, 2) := by decide +kernel
theorem dL_law_155 : decode cL_law 155 = .ok (.iconst 2, 1) := by decide +kernel
theorem dL_law_156 : decode cL_law 156 = .ok (.irem, 1) := by decide +kernel
theorem dL_law_157 : decode cL_law 157 = .ok (.ifCond .ne 17, 3) := by decide +kernel
theorem dL_law_160 : decode cL_law 160 = .ok (.aload_n 1, 1) := by decide +kernel
theorem dL_law_161 : decode cL_law 161 = .ok (.iload 6, 2) := by decide +kernel
theorem dL_law_163 : decode cL_law 163 = .ok (.iconst 3, 1) := by decide +kernel
theorem dL_law_164 : decode cL_law 164 = .ok (.idiv, 1) := by decide +kernel
theorem dL_law_165 : decode cL_law 165 = .ok (.invokestatic 191, 3) := by decide +kernel
theorem dL_law_168 : decode cL_law 168 = .ok (.ifCond .eq 57, 3) := by decide +kernel
theorem dL_law_171 : decode cL_law 171 = .ok (.goto 14, 3) := by decide +kernel
theorem dL_law_174 : decode cL_law 174 = .ok (.aload_n 2, 1) := by decide +kernel
theorem dL_law_175 : decode cL_law 175 = .ok (.iload 6, 2) := by decide +kernel
theorem dL_law_177 : decode cL_law 177 = .ok (.iconst 5, 1) := by decide +kernel
theorem dL_law_178 : decode cL_law 178 = .ok (.idiv, 1) := by decide +kernel
theorem dL_law_179 : decode cL_law 179 = .ok (.invokestatic 191, 3) := by decide +kernel
theorem dL_law_182 : decode cL_law 182 = .ok (.ifCond .eq 43, 3) := by decide +kernel
theorem dL_law_185 : decode cL_law 185 = .ok (.aload_n 1, 1) := by decide +kernel
theorem dL_law_186 : decode cL_law 186 = .ok (.aload_n 2, 1) := by decide +kernel
theorem dL_law_187 : decode cL_law 187 = .ok (.iload 9, 2) := by decide +kernel
theorem dL_law_189 : decode cL_law 189 = .ok (.iload 10, 2) := by decide +kernel
theorem dL_law_191 : decode cL_law 191 = .ok (.invokestatic 194, 3) := by decide +kernel
theorem dL_law_194 : decode cL_law 194 = .ok (.ifCond .eq 31, 3) := by decide +kernel
theorem dL_law_197 : decode cL_law 197 = .ok (.iload 5, 2) := by decide +kernel
theorem dL_law_199 : decode cL_law 199 = .ok (.iconst 4, 1) := by decide +kernel
theorem dL_law_200 : decode cL_law 200 = .ok (.irem, 1) := by decide +kernel
theorem dL_law_201 : decode cL_law 201 = .ok (.ifCond .gt 20, 3) := by decide +kernel
theorem dL_law_204 : decode cL_law 204 = .ok (.aload_n 1, 1) := by decide +kernel
theorem dL_law_205 : decode cL_law 205 = .ok (.aload_n 2, 1) := by decide +kernel
theorem dL_law_206 : decode cL_law 206 = .ok (.iload 9, 2) := by decide +kernel
theorem dL_law_208 : decode cL_law 208 = .ok (.iload 10, 2) := by decide +kernel
theorem dL_law_210 : decode cL_law 210 = .ok (.iload 6, 2) := by decide +kernel
theorem dL_law_212 : decode cL_law 212 = .ok (.bipush 11, 2) := by decide +kernel
theorem dL_law_214 : decode cL_law 214 = .ok (.idiv, 1) := by decide +kernel
theorem dL_law_215 : decode cL_law 215 = .ok (.invokestatic 198, 3) := by decide +kernel
theorem dL_law_218 : decode cL_law 218 = .ok (.ifCond .eq 7, 3) := by decide +kernel
theorem dL_law_221 : decode cL_law 221 = .ok (.iconst 1, 1) := by decide +kernel
theorem dL_law_222 : decode cL_law 222 = .ok (.goto 4, 3) := by decide +kernel
theorem dL_law_225 : decode cL_law 225 = .ok (.iconst 0, 1) := by decide +kernel
theorem dL_law_226 : decode cL_law 226 = .ok (.istore 4, 2) := by decide +kernel
theorem dL_law_228 : decode cL_law 228 = .ok (.iinc 5 1, 3) := by decide +kernel
theorem dL_law_231 : decode cL_law 231 = .ok (.goto (-197), 3) := by decide +kernel
theorem dL_law_234 : decode cL_law 234 = .ok (.iload 4, 2) := by decide +kernel
theorem dL_law_236 : decode cL_law 236 = .ok (.ireturn, 1) := by decide +kernel
theorem dL_weighs_0 : decode cL_weighs 0 = .ok (.iload_n 2, 1) := by decide +kernel
theorem dL_weighs_1 : decode cL_weighs 1 = .ok (.iload_n 3, 1) := by decide +kernel
theorem dL_weighs_2 : decode cL_weighs 2 = .ok (.ior, 1) := by decide +kernel
theorem dL_weighs_3 : decode cL_weighs 3 = .ok (.ifCond .eq 16, 3) := by decide +kernel
theorem dL_weighs_6 : decode cL_weighs 6 = .ok (.aload_n 0, 1) := by decide +kernel
theorem dL_weighs_7 : decode cL_weighs 7 = .ok (.iconst 2, 1) := by decide +kernel
theorem dL_weighs_8 : decode cL_weighs 8 = .ok (.iconst 3, 1) := by decide +kernel
theorem dL_weighs_9 : decode cL_weighs 9 = .ok (.iconst 0, 1) := by decide +kernel
theorem dL_weighs_10 : decode cL_weighs 10 = .ok (.iconst 0, 1) := by decide +kernel
theorem dL_weighs_11 : decode cL_weighs 11 = .ok (.invokestatic 144, 3) := by decide +kernel
theorem dL_weighs_14 : decode cL_weighs 14 = .ok (.bipush 20, 2) := by decide +kernel
theorem dL_weighs_16 : decode cL_weighs 16 = .ok (.if_icmp .ne 39, 3) := by decide +kernel
theorem dL_weighs_19 : decode cL_weighs 19 = .ok (.aload_n 0, 1) := by decide +kernel
theorem dL_weighs_20 : decode cL_weighs 20 = .ok (.bipush 8, 2) := by decide +kernel
theorem dL_weighs_22 : decode cL_weighs 22 = .ok (.iload_n 2, 1) := by decide +kernel
theorem dL_weighs_23 : decode cL_weighs 23 = .ok (.iload_n 3, 1) := by decide +kernel
theorem dL_weighs_24 : decode cL_weighs 24 = .ok (.iconst 0, 1) := by decide +kernel
theorem dL_weighs_25 : decode cL_weighs 25 = .ok (.invokestatic 144, 3) := by decide +kernel
theorem dL_weighs_28 : decode cL_weighs 28 = .ok (.invokestatic 201, 3) := by decide +kernel
theorem dL_weighs_31 : decode cL_weighs 31 = .ok (.ifCond .eq 22, 3) := by decide +kernel
theorem dL_weighs_34 : decode cL_weighs 34 = .ok (.aload_n 1, 1) := by decide +kernel
theorem dL_weighs_35 : decode cL_weighs 35 = .ok (.bipush 8, 2) := by decide +kernel
theorem dL_weighs_37 : decode cL_weighs 37 = .ok (.iload_n 2, 1) := by decide +kernel
theorem dL_weighs_38 : decode cL_weighs 38 = .ok (.iload_n 3, 1) := by decide +kernel
theorem dL_weighs_39 : decode cL_weighs 39 = .ok (.iconst 0, 1) := by decide +kernel
theorem dL_weighs_40 : decode cL_weighs 40 = .ok (.invokestatic 144, 3) := by decide +kernel
theorem dL_weighs_43 : decode cL_weighs 43 = .ok (.invokestatic 201, 3) := by decide +kernel
theorem dL_weighs_46 : decode cL_weighs 46 = .ok (.ifCond .eq 7, 3) := by decide +kernel
theorem dL_weighs_49 : decode cL_weighs 49 = .ok (.iconst 1, 1) := by decide +kernel
theorem dL_weighs_50 : decode cL_weighs 50 = .ok (.goto 4, 3) := by decide +kernel
theorem dL_weighs_53 : decode cL_weighs 53 = .ok (.iconst 0, 1) := by decide +kernel
theorem dL_weighs_54 : decode cL_weighs 54 = .ok (.ireturn, 1) := by decide +kernel
theorem dL_weighs_55 : decode cL_weighs 55 = .ok (.aload_n 0, 1) := by decide +kernel
theorem dL_weighs_56 : decode cL_weighs 56 = .ok (.iconst 2, 1) := by decide +kernel
theorem dL_weighs_57 : decode cL_weighs 57 = .ok (.iconst 1, 1) := by decide +kernel
theorem dL_weighs_58 : decode cL_weighs 58 = .ok (.iconst 0, 1) := by decide +kernel
theorem dL_weighs_59 : decode cL_weighs 59 = .ok (.iconst 0, 1) := by decide +kernel
theorem dL_weighs_60 : decode cL_weighs 60 = .ok (.invokestatic 144, 3) := by decide +kernel
theorem dL_weighs_63 : decode cL_weighs 63 = .ok (.istore 4, 2) := by decide +kernel
theorem dL_weighs_65 : decode cL_weighs 65 = .ok (.aload_n 0, 1) := by decide +kernel
theorem dL_weighs_66 : decode cL_weighs 66 = .ok (.iconst 2, 1) := by decide +kernel
theorem dL_weighs_67 : decode cL_weighs 67 = .ok (.iconst 2, 1) := by decide +kernel
theorem dL_weighs_68 : decode cL_weighs 68 = .ok (.iconst 0, 1) := by decide +kernel
theorem dL_weighs_69 : decode cL_weighs 69 = .ok (.iconst 0, 1) := by decide +kernel
theorem dL_weighs_70 : decode cL_weighs 70 = .ok (.invokestatic 144, 3) := by decide +kernel
theorem dL_weighs_73 : decode cL_weighs 73 = .ok (.istore 5, 2) := by decide +kernel
theorem dL_weighs_75 : decode cL_weighs 75 = .ok (.aload_n 0, 1) := by decide +kernel
theorem dL_weighs_76 : decode cL_weighs 76 = .ok (.bipush 12, 2) := by decide +kernel
theorem dL_weighs_78 : decode cL_weighs 78 = .ok (.iload_n 2, 1) := by decide +kernel
theorem dL_weighs_79 : decode cL_weighs 79 = .ok (.iload_n 3, 1) := by decide +kernel
theorem dL_weighs_80 : decode cL_weighs 80 = .ok (.iconst 0, 1) := by decide +kernel
theorem dL_weighs_81 : decode cL_weighs 81 = .ok (.invokestatic 144, 3) := by decide +kernel
theorem dL_weighs_84 : decode cL_weighs 84 = .ok (.istore 6, 2) := by decide +kernel
theorem dL_weighs_86 : decode cL_weighs 86 = .ok (.aload_n 0, 1) := by decide +kernel
theorem dL_weighs_87 : decode cL_weighs 87 = .ok (.bipush 12, 2) := by decide +kernel
theorem dL_weighs_89 : decode cL_weighs 89 = .ok (.iload_n 2, 1) := by decide +kernel
theorem dL_weighs_90 : decode cL_weighs 90 = .ok (.iload_n 3, 1) := by decide +kernel
theorem dL_weighs_91 : decode cL_weighs 91 = .ok (.iconst 1, 1) := by decide +kernel
theorem dL_weighs_92 : decode cL_weighs 92 = .ok (.invokestatic 144, 3) := by decide +kernel
theorem dL_weighs_95 : decode cL_weighs 95 = .ok (.istore 7, 2) := by decide +kernel
theorem dL_weighs_97 : decode cL_weighs 97 = .ok (.aload_n 0, 1) := by decide +kernel
theorem dL_weighs_98 : decode cL_weighs 98 = .ok (.bipush 12, 2) := by decide +kernel
theorem dL_weighs_100 : decode cL_weighs 100 = .ok (.iload_n 2, 1) := by decide +kernel
theorem dL_weighs_101 : decode cL_weighs 101 = .ok (.iload_n 3, 1) := by decide +kernel
theorem dL_weighs_102 : decode cL_weighs 102 = .ok (.iconst 2, 1) := by decide +kernel
theorem dL_weighs_103 : decode cL_weighs 103 = .ok (.invokestatic 144, 3) := by decide +kernel
theorem dL_weighs_106 : decode cL_weighs 106 = .ok (.istore 8, 2) := by decide +kernel
theorem dL_weighs_108 : decode cL_weighs 108 = .ok (.lconst 0, 1) := by decide +kernel
theorem dL_weighs_109 : decode cL_weighs 109 = .ok (.lstore 9, 2) := by decide +kernel
theorem dL_weighs_111 : decode cL_weighs 111 = .ok (.lconst 0, 1) := by decide +kernel
theorem dL_weighs_112 : decode cL_weighs 112 = .ok (.lstore 11, 2) := by decide +kernel
theorem dL_weighs_114 : decode cL_weighs 114 = .ok (.iconst 0, 1) := by decide +kernel
theorem dL_weighs_115 : decode cL_weighs 115 = .ok (.istore 13, 2) := by decide +kernel
theorem dL_weighs_117 : decode cL_weighs 117 = .ok (.iload 13, 2) := by decide +kernel
theorem dL_weighs_119 : decode cL_weighs 119 = .ok (.iload 4, 2) := by decide +kernel
theorem dL_weighs_121 : decode cL_weighs 121 = .ok (.if_icmp .ge 70, 3) := by decide +kernel
theorem dL_weighs_124 : decode cL_weighs 124 = .ok (.lload 9, 2) := by decide +kernel
theorem dL_weighs_126 : decode cL_weighs 126 = .ok (.iload 13, 2) := by decide +kernel
theorem dL_weighs_128 : decode cL_weighs 128 = .ok (.bipush 60, 2) := by decide +kernel
theorem dL_weighs_130 : decode cL_weighs 130 = .ok (.if_icmp .ge 19, 3) := by decide +kernel
theorem dL_weighs_133 : decode cL_weighs 133 = .ok (.aload_n 0, 1) := by decide +kernel
theorem dL_weighs_134 : decode cL_weighs 134 = .ok (.iconst 4, 1) := by decide +kernel
theorem dL_weighs_135 : decode cL_weighs 135 = .ok (.iload 13, 2) := by decide +kernel
theorem dL_weighs_137 : decode cL_weighs 137 = .ok (.iconst 0, 1) := by decide +kernel
theorem dL_weighs_138 : decode cL_weighs 138 = .ok (.iconst 0, 1) := by decide +kernel
theorem dL_weighs_139 : decode cL_weighs 139 = .ok (.invokestatic 144, 3) := by decide +kernel
theorem dL_weighs_142 : decode cL_weighs 142 = .ok (.i2l, 1) := by decide +kernel
theorem dL_weighs_143 : decode cL_weighs 143 = .ok (.iload 13, 2) := by decide +kernel
theorem dL_weighs_145 : decode cL_weighs 145 = .ok (.lshl, 1) := by decide +kernel
theorem dL_weighs_146 : decode cL_weighs 146 = .ok (.goto 4, 3) := by decide +kernel
theorem dL_weighs_149 : decode cL_weighs 149 = .ok (.lconst 0, 1) := by decide +kernel
theorem dL_weighs_150 : decode cL_weighs 150 = .ok (.lor, 1) := by decide +kernel
theorem dL_weighs_151 : decode cL_weighs 151 = .ok (.lstore 9, 2) := by decide +kernel
theorem dL_weighs_153 : decode cL_weighs 153 = .ok (.lload 11, 2) := by decide +kernel
theorem dL_weighs_155 : decode cL_weighs 155 = .ok (.iload 13, 2) := by decide +kernel
theorem dL_weighs_157 : decode cL_weighs 157 = .ok (.bipush 60, 2) := by decide +kernel
theorem dL_weighs_159 : decode cL_weighs 159 = .ok (.if_icmp .ge 7, 3) := by decide +kernel
theorem dL_weighs_162 : decode cL_weighs 162 = .ok (.lconst 0, 1) := by decide +kernel
theorem dL_weighs_163 : decode cL_weighs 163 = .ok (.goto 19, 3) := by decide +kernel
theorem dL_weighs_166 : decode cL_weighs 166 = .ok (.aload_n 0, 1) := by decide +kernel
theorem dL_weighs_167 : decode cL_weighs 167 = .ok (.iconst 4, 1) := by decide +kernel
theorem dL_weighs_168 : decode cL_weighs 168 = .ok (.iload 13, 2) := by decide +kernel
theorem dL_weighs_170 : decode cL_weighs 170 = .ok (.iconst 0, 1) := by decide +kernel
theorem dL_weighs_171 : decode cL_weighs 171 = .ok (.iconst 0, 1) := by decide +kernel
theorem dL_weighs_172 : decode cL_weighs 172 = .ok (.invokestatic 144, 3) := by decide +kernel
theorem dL_weighs_175 : decode cL_weighs 175 = .ok (.i2l, 1) := by decide +kernel
theorem dL_weighs_176 : decode cL_weighs 176 = .ok (.iload 13, 2) := by decide +kernel
theorem dL_weighs_178 : decode cL_weighs 178 = .ok (.bipush 60, 2) := by decide +kernel
theorem dL_weighs_180 : decode cL_weighs 180 = .ok (.isub, 1) := by decide +kernel
theorem dL_weighs_181 : decode cL_weighs 181 = .ok (.lshl, 1) := by decide +kernel
theorem dL_weighs_182 : decode cL_weighs 182 = .ok (.lor, 1) := by decide +kernel
theorem dL_weighs_183 : decode cL_weighs 183 = .ok (.lstore 11, 2) := by decide +kernel
theorem dL_weighs_185 : decode cL_weighs 185 = .ok (.iinc 13 1, 3) := by decide +kernel
theorem dL_weighs_188 : decode cL_weighs 188 = .ok (.goto (-71), 3) := by decide +kernel
theorem dL_weighs_191 : decode cL_weighs 191 = .ok (.aload_n 0, 1) := by decide +kernel
theorem dL_weighs_192 : decode cL_weighs 192 = .ok (.bipush 8, 2) := by decide +kernel
theorem dL_weighs_194 : decode cL_weighs 194 = .ok (.iload_n 2, 1) := by decide +kernel
theorem dL_weighs_195 : decode cL_weighs 195 = .ok (.iload_n 3, 1) := by decide +kernel
theorem dL_weighs_196 : decode cL_weighs 196 = .ok (.iconst 0, 1) := by decide +kernel
theorem dL_weighs_197 : decode cL_weighs 197 = .ok (.invokestatic 144, 3) := by decide +kernel
theorem dL_weighs_200 : decode cL_weighs 200 = .ok (.istore 13, 2) := by decide +kernel
theorem dL_weighs_202 : decode cL_weighs 202 = .ok (.iload 13, 2) := by decide +kernel
theorem dL_weighs_204 : decode cL_weighs 204 = .ok (.ifCond .lt 95, 3) := by decide +kernel
theorem dL_weighs_207 : decode cL_weighs 207 = .ok (.iload 13, 2) := by decide +kernel
theorem dL_weighs_209 : decode cL_weighs 209 = .ok (.iconst 3, 1) := by decide +kernel
theorem dL_weighs_210 : decode cL_weighs 210 = .ok (.if_icmp .ge 89, 3) := by decide +kernel
theorem dL_weighs_213 : decode cL_weighs 213 = .ok (.aload_n 1, 1) := by decide +kernel
theorem dL_weighs_214 : decode cL_weighs 214 = .ok (.bipush 8, 2) := by decide +kernel
theorem dL_weighs_216 : decode cL_weighs 216 = .ok (.iload_n 2, 1) := by decide +kernel
theorem dL_weighs_217 : decode cL_weighs 217 = .ok (.iload_n 3, 1) := by decide +kernel
theorem dL_weighs_218 : decode cL_weighs 218 = .ok (.iconst 0, 1) := by decide +kernel
theorem dL_weighs_219 : decode cL_weighs 219 = .ok (.invokestatic 144, 3) := by decide +kernel
theorem dL_weighs_222 : decode cL_weighs 222 = .ok (.iload 13, 2) := by decide +kernel
theorem dL_weighs_224 : decode cL_weighs 224 = .ok (.if_icmp .ne 75, 3) := by decide +kernel
theorem dL_weighs_227 : decode cL_weighs 227 = .ok (.iload 6, 2) := by decide +kernel
theorem dL_weighs_229 : decode cL_weighs 229 = .ok (.iload 7, 2) := by decide +kernel
theorem dL_weighs_231 : decode cL_weighs 231 = .ok (.iadd, 1) := by decide +kernel
theorem dL_weighs_232 : decode cL_weighs 232 = .ok (.iload 8, 2) := by decide +kernel
theorem dL_weighs_234 : decode cL_weighs 234 = .ok (.iadd, 1) := by decide +kernel
theorem dL_weighs_235 : decode cL_weighs 235 = .ok (.iload 5, 2) := by decide +kernel
theorem dL_weighs_237 : decode cL_weighs 237 = .ok (.if_icmp .ne 62, 3) := by decide +kernel
theorem dL_weighs_240 : decode cL_weighs 240 = .ok (.aload_n 0, 1) := by decide +kernel
theorem dL_weighs_241 : decode cL_weighs 241 = .ok (.iconst 2, 1) := by decide +kernel
theorem dL_weighs_242 : decode cL_weighs 242 = .ok (.iconst 2, 1) := by decide +kernel
theorem dL_weighs_243 : decode cL_weighs 243 = .ok (.iconst 0, 1) := by decide +kernel
theorem dL_weighs_244 : decode cL_weighs 244 = .ok (.iconst 0, 1) := by decide +kernel
theorem dL_weighs_245 : decode cL_weighs 245 = .ok (.invokestatic 144, 3) := by decide +kernel
theorem dL_weighs_248 : decode cL_weighs 248 = .ok (.iload 13, 2) := by decide +kernel
theorem dL_weighs_250 : decode cL_weighs 250 = .ok (.ifCond .ne 8, 3) := by decide +kernel
theorem dL_weighs_253 : decode cL_weighs 253 = .ok (.iload 6, 2) := by decide +kernel
theorem dL_weighs_255 : decode cL_weighs 255 = .ok (.goto 16, 3) := by decide +kernel
theorem dL_weighs_258 : decode cL_weighs 258 = .ok (.iload 13, 2) := by decide +kernel
theorem dL_weighs_260 : decode cL_weighs 260 = .ok (.iconst 1, 1) := by decide +kernel
theorem dL_weighs_261 : decode cL_weighs 261 = .ok (.if_icmp .ne 8, 3) := by decide +kernel
theorem dL_weighs_264 : decode cL_weighs 264 = .ok (.iload 7, 2) := by decide +kernel
theorem dL_weighs_266 : decode cL_weighs 266 = .ok (.goto 5, 3) := by decide +kernel
theorem dL_weighs_269 : decode cL_weighs 269 = .ok (.iload 8, 2) := by decide +kernel
theorem dL_weighs_271 : decode cL_weighs 271 = .ok (.if_icmp .ne 28, 3) := by decide +kernel
theorem dL_weighs_274 : decode cL_weighs 274 = .ok (.aload_n 0, 1) := by decide +kernel
theorem dL_weighs_275 : decode cL_weighs 275 = .ok (.bipush 12, 2) := by decide +kernel
theorem dL_weighs_277 : decode cL_weighs 277 = .ok (.iload_n 2, 1) := by decide +kernel
theorem dL_weighs_278 : decode cL_weighs 278 = .ok (.iload_n 3, 1) := by decide +kernel
theorem dL_weighs_279 : decode cL_weighs 279 = .ok (.iload 13, 2) := by decide +kernel
theorem dL_weighs_281 : decode cL_weighs 281 = .ok (.invokestatic 144, 3) := by decide +kernel
theorem dL_weighs_284 : decode cL_weighs 284 = .ok (.aload_n 0, 1) := by decide +kernel
theorem dL_weighs_285 : decode cL_weighs 285 = .ok (.iconst 2, 1) := by decide +kernel
theorem dL_weighs_286 : decode cL_weighs 286 = .ok (.iconst 2, 1) := by decide +kernel
theorem dL_weighs_287 : decode cL_weighs 287 = .ok (.iconst 0, 1) := by decide +kernel
theorem dL_weighs_288 : decode cL_weighs 288 = .ok (.iconst 0, 1) := by decide +kernel
theorem dL_weighs_289 : decode cL_weighs 289 = .ok (.invokestatic 144, 3) := by decide +kernel
theorem dL_weighs_292 : decode cL_weighs 292 = .ok (.if_icmp .ne 7, 3) := by decide +kernel
theorem dL_weighs_295 : decode cL_weighs 295 = .ok (.iconst 1, 1) := by decide +kernel
theorem dL_weighs_296 : decode cL_weighs 296 = .ok (.goto 4, 3) := by decide +kernel
theorem dL_weighs_299 : decode cL_weighs 299 = .ok (.iconst 0, 1) := by decide +kernel
theorem dL_weighs_300 : decode cL_weighs 300 = .ok (.istore 14, 2) := by decide +kernel
theorem dL_weighs_302 : decode cL_weighs 302 = .ok (.iconst 0, 1) := by decide +kernel
theorem dL_weighs_303 : decode cL_weighs 303 = .ok (.istore 15, 2) := by decide +kernel
theorem dL_weighs_305 : decode cL_weighs 305 = .ok (.iload 15, 2) := by decide +kernel
theorem dL_weighs_307 : decode cL_weighs 307 = .ok (.iload 4, 2) := by decide +kernel
theorem dL_weighs_309 : decode cL_weighs 309 = .ok (.if_icmp .ge 66, 3) := by decide +kernel
theorem dL_weighs_312 : decode cL_weighs 312 = .ok (.iload 14, 2) := by decide +kernel
theorem dL_weighs_314 : decode cL_weighs 314 = .ok (.ifCond .eq 61, 3) := by decide +kernel
theorem dL_weighs_317 : decode cL_weighs 317 = .ok (.iload 15, 2) := by decide +kernel
theorem dL_weighs_319 : decode cL_weighs 319 = .ok (.bipush 60, 2) := by decide +kernel
theorem dL_weighs_321 : decode cL_weighs 321 = .ok (.if_icmp .ge 13, 3) := by decide +kernel
theorem dL_weighs_324 : decode cL_weighs 324 = .ok (.lload 9, 2) := by decide +kernel
theorem dL_weighs_326 : decode cL_weighs 326 = .ok (.iload 15, 2) := by decide +kernel
theorem dL_weighs_328 : decode cL_weighs 328 = .ok (.lshr, 1) := by decide +kernel
theorem dL_weighs_329 : decode cL_weighs 329 = .ok (.lconst 1, 1) := by decide +kernel
theorem dL_weighs_330 : decode cL_weighs 330 = .ok (.land, 1) := by decide +kernel
theorem dL_weighs_331 : decode cL_weighs 331 = .ok (.goto 13, 3) := by decide +kernel
theorem dL_weighs_334 : decode cL_weighs 334 = .ok (.lload 11, 2) := by decide +kernel
theorem dL_weighs_336 : decode cL_weighs 336 = .ok (.iload 15, 2) := by decide +kernel
theorem dL_weighs_338 : decode cL_weighs 338 = .ok (.bipush 60, 2) := by decide +kernel
theorem dL_weighs_340 : decode cL_weighs 340 = .ok (.isub, 1) := by decide +kernel
theorem dL_weighs_341 : decode cL_weighs 341 = .ok (.lshr, 1) := by decide +kernel
theorem dL_weighs_342 : decode cL_weighs 342 = .ok (.lconst 1, 1) := by decide +kernel
theorem dL_weighs_343 : decode cL_weighs 343 = .ok (.land, 1) := by decide +kernel
theorem dL_weighs_344 : decode cL_weighs 344 = .ok (.lstore 16, 2) := by decide +kernel
theorem dL_weighs_346 : decode cL_weighs 346 = .ok (.aload_n 0, 1) := by decide +kernel
theorem dL_weighs_347 : decode cL_weighs 347 = .ok (.iconst 4, 1) := by decide +kernel
theorem dL_weighs_348 : decode cL_weighs 348 = .ok (.iload 15, 2) := by decide +kernel
theorem dL_weighs_350 : decode cL_weighs 350 = .ok (.iconst 0, 1) := by decide +kernel
theorem dL_weighs_351 : decode cL_weighs 351 = .ok (.iconst 0, 1) := by decide +kernel
theorem dL_weighs_352 : decode cL_weighs 352 = .ok (.invokestatic 144, 3) := by decide +kernel
theorem dL_weighs_355 : decode cL_weighs 355 = .ok (.i2l, 1) := by decide +kernel
theorem dL_weighs_356 : decode cL_weighs 356 = .ok (.lload 16, 2) := by decide +kernel
theorem dL_weighs_358 : decode cL_weighs 358 = .ok (.lcmp, 1) := by decide +kernel
theorem dL_weighs_359 : decode cL_weighs 359 = .ok (.ifCond .gt 7, 3) := by decide +kernel
theorem dL_weighs_362 : decode cL_weighs 362 = .ok (.iconst 1, 1) := by decide +kernel
theorem dL_weighs_363 : decode cL_weighs 363 = .ok (.goto 4, 3) := by decide +kernel
theorem dL_weighs_366 : decode cL_weighs 366 = .ok (.iconst 0, 1) := by decide +kernel
theorem dL_weighs_367 : decode cL_weighs 367 = .ok (.istore 14, 2) := by decide +kernel
theorem dL_weighs_369 : decode cL_weighs 369 = .ok (.iinc 15 1, 3) := by decide +kernel
theorem dL_weighs_372 : decode cL_weighs 372 = .ok (.goto (-67), 3) := by decide +kernel
theorem dL_weighs_375 : decode cL_weighs 375 = .ok (.iload 14, 2) := by decide +kernel
theorem dL_weighs_377 : decode cL_weighs 377 = .ok (.ifCond .eq 50, 3) := by decide +kernel
theorem dL_weighs_380 : decode cL_weighs 380 = .ok (.aload_n 0, 1) := by decide +kernel
theorem dL_weighs_381 : decode cL_weighs 381 = .ok (.bipush 11, 2) := by decide +kernel
theorem dL_weighs_383 : decode cL_weighs 383 = .ok (.iconst 0, 1) := by decide +kernel
theorem dL_weighs_384 : decode cL_weighs 384 = .ok (.iconst 0, 1) := by decide +kernel
theorem dL_weighs_385 : decode cL_weighs 385 = .ok (.iconst 0, 1) := by decide +kernel
theorem dL_weighs_386 : decode cL_weighs 386 = .ok (.invokestatic 144, 3) := by decide +kernel
theorem dL_weighs_389 : decode cL_weighs 389 = .ok (.invokestatic 201, 3) := by decide +kernel
theorem dL_weighs_392 : decode cL_weighs 392 = .ok (.ifCond .ne 35, 3) := by decide +kernel
theorem dL_weighs_395 : decode cL_weighs 395 = .ok (.aload_n 1, 1) := by decide +kernel
theorem dL_weighs_396 : decode cL_weighs 396 = .ok (.bipush 11, 2) := by decide +kernel
theorem dL_weighs_398 : decode cL_weighs 398 = .ok (.iconst 0, 1) := by decide +kernel
theorem dL_weighs_399 : decode cL_weighs 399 = .ok (.iconst 0, 1) := by decide +kernel
theorem dL_weighs_400 : decode cL_weighs 400 = .ok (.iconst 0, 1) := by decide +kernel
theorem dL_weighs_401 : decode cL_weighs 401 = .ok (.invokestatic 144, 3) := by decide +kernel
theorem dL_weighs_404 : decode cL_weighs 404 = .ok (.invokestatic 201, 3) := by decide +kernel
theorem dL_weighs_407 : decode cL_weighs 407 = .ok (.ifCond .ne 20, 3) := by decide +kernel
theorem dL_weighs_410 : decode cL_weighs 410 = .ok (.aload_n 0, 1) := by decide +kernel
theorem dL_weighs_411 : decode cL_weighs 411 = .ok (.iconst 2, 1) := by decide +kernel
theorem dL_weighs_412 : decode cL_weighs 412 = .ok (.iconst 2, 1) := by decide +kernel
theorem dL_weighs_413 : decode cL_weighs 413 = .ok (.iconst 0, 1) := by decide +kernel
theorem dL_weighs_414 : decode cL_weighs 414 = .ok (.iconst 0, 1) := by decide +kernel
theorem dL_weighs_415 : decode cL_weighs 415 = .ok (.invokestatic 144, 3) := by decide +kernel
theorem dL_weighs_418 : decode cL_weighs 418 = .ok (.iload 5, 2) := by decide +kernel
theorem dL_weighs_420 : decode cL_weighs 420 = .ok (.if_icmp .ne 7, 3) := by decide +kernel
theorem dL_weighs_423 : decode cL_weighs 423 = .ok (.iconst 1, 1) := by decide +kernel
theorem dL_weighs_424 : decode cL_weighs 424 = .ok (.goto 4, 3) := by decide +kernel
theorem dL_weighs_427 : decode cL_weighs 427 = .ok (.iconst 0, 1) := by decide +kernel
theorem dL_weighs_428 : decode cL_weighs 428 = .ok (.ireturn, 1) := by decide +kernel
theorem dL_arms_0 : decode cL_arms 0 = .ok (.iload_n 2, 1) := by decide +kernel
theorem dL_arms_1 : decode cL_arms 1 = .ok (.iload_n 3, 1) := by decide +kernel
theorem dL_arms_2 : decode cL_arms 2 = .ok (.ior, 1) := by decide +kernel
theorem dL_arms_3 : decode cL_arms 3 = .ok (.ifCond .ne 23, 3) := by decide +kernel
theorem dL_arms_6 : decode cL_arms 6 = .ok (.aload_n 0, 1) := by decide +kernel
theorem dL_arms_7 : decode cL_arms 7 = .ok (.bipush 14, 2) := by decide +kernel
theorem dL_arms_9 : decode cL_arms 9 = .ok (.iload_n 2, 1) := by decide +kernel
theorem dL_arms_10 : decode cL_arms 10 = .ok (.iload_n 3, 1) := by decide +kernel
theorem dL_arms_11 : decode cL_arms 11 = .ok (.iconst 0, 1) := by decide +kernel
theorem dL_arms_12 : decode cL_arms 12 = .ok (.invokestatic 144, 3) := by decide +kernel
theorem dL_arms_15 : decode cL_arms 15 = .ok (.ldc 22, 2) := by decide +kernel
theorem dL_arms_17 : decode cL_arms 17 = .ok (.if_icmp .ne 7, 3) := by decide +kernel
theorem dL_arms_20 : decode cL_arms 20 = .ok (.iconst 1, 1) := by decide +kernel
theorem dL_arms_21 : decode cL_arms 21 = .ok (.goto 4, 3) := by decide +kernel
theorem dL_arms_24 : decode cL_arms 24 = .ok (.iconst 0, 1) := by decide +kernel
theorem dL_arms_25 : decode cL_arms 25 = .ok (.ireturn, 1) := by decide +kernel
theorem dL_arms_26 : decode cL_arms 26 = .ok (.aload_n 0, 1) := by decide +kernel
theorem dL_arms_27 : decode cL_arms 27 = .ok (.bipush 14, 2) := by decide +kernel
theorem dL_arms_29 : decode cL_arms 29 = .ok (.iload_n 2, 1) := by decide +kernel
theorem dL_arms_30 : decode cL_arms 30 = .ok (.iload_n 3, 1) := by decide +kernel
theorem dL_arms_31 : decode cL_arms 31 = .ok (.iconst 0, 1) := by decide +kernel
theorem dL_arms_32 : decode cL_arms 32 = .ok (.invokestatic 144, 3) := by decide +kernel
theorem dL_arms_35 : decode cL_arms 35 = .ok (.istore 5, 2) := by decide +kernel
theorem dL_arms_37 : decode cL_arms 37 = .ok (.aload_n 0, 1) := by decide +kernel
theorem dL_arms_38 : decode cL_arms 38 = .ok (.iconst 2, 1) := by decide +kernel
theorem dL_arms_39 : decode cL_arms 39 = .ok (.iconst 4, 1) := by decide +kernel
theorem dL_arms_40 : decode cL_arms 40 = .ok (.iconst 0, 1) := by decide +kernel
theorem dL_arms_41 : decode cL_arms 41 = .ok (.iconst 0, 1) := by decide +kernel
theorem dL_arms_42 : decode cL_arms 42 = .ok (.invokestatic 144, 3) := by decide +kernel
theorem dL_arms_45 : decode cL_arms 45 = .ok (.istore 6, 2) := by decide +kernel
theorem dL_arms_47 : decode cL_arms 47 = .ok (.bipush 100, 2) := by decide +kernel
theorem dL_arms_49 : decode cL_arms 49 = .ok (.iconst 1, 1) := by decide +kernel
theorem dL_arms_50 : decode cL_arms 50 = .ok (.iload 4, 2) := by decide +kernel
theorem dL_arms_52 : decode cL_arms 52 = .ok (.bipush 20, 2) := by decide +kernel
theorem dL_arms_54 : decode cL_arms 54 = .ok (.irem, 1) := by decide +kernel
theorem dL_arms_55 : decode cL_arms 55 = .ok (.iadd, 1) := by decide +kernel
theorem dL_arms_56 : decode cL_arms 56 = .ok (.imul, 1) := by decide +kernel
theorem dL_arms_57 : decode cL_arms 57 = .ok (.iconst 1, 1) := by decide +kernel
theorem dL_arms_58 : decode cL_arms 58 = .ok (.iadd, 1) := by decide +kernel
theorem dL_arms_59 : decode cL_arms 59 = .ok (.iload 4, 2) := by decide +kernel
theorem dL_arms_61 : decode cL_arms 61 = .ok (.bipush 20, 2) := by decide +kernel
theorem dL_arms_63 : decode cL_arms 63 = .ok (.idiv, 1) := by decide +kernel
theorem dL_arms_64 : decode cL_arms 64 = .ok (.bipush 20, 2) := by decide +kernel
theorem dL_arms_66 : decode cL_arms 66 = .ok (.irem, 1) := by decide +kernel
theorem dL_arms_67 : decode cL_arms 67 = .ok (.iadd, 1) := by decide +kernel
theorem dL_arms_68 : decode cL_arms 68 = .ok (.istore 7, 2) := by decide +kernel
theorem dL_arms_70 : decode cL_arms 70 = .ok (.iload 5, 2) := by decide +kernel
theorem dL_arms_72 : decode cL_arms 72 = .ok (.bipush 101, 2) := by decide +kernel
theorem dL_arms_74 : decode cL_arms 74 = .ok (.if_icmp .lt 61, 3) := by decide +kernel
theorem dL_arms_77 : decode cL_arms 77 = .ok (.iload 5, 2) := by decide +kernel
theorem dL_arms_79 : decode cL_arms 79 = .ok (.sipush 2020, 3) := by decide +kernel
theorem dL_arms_82 : decode cL_arms 82 = .ok (.if_icmp .gt 53, 3) := by decide +kernel
theorem dL_arms_85 : decode cL_arms 85 = .ok (.aload_n 0, 1) := by decide +kernel
theorem dL_arms_86 : decode cL_arms 86 = .ok (.bipush 7, 2) := by decide +kernel
theorem dL_arms_88 : decode cL_arms 88 = .ok (.iload 5, 2) := by decide +kernel
theorem dL_arms_90 : decode cL_arms 90 = .ok (.bipush 100, 2) := by decide +kernel
theorem dL_arms_92 : decode cL_arms 92 = .ok (.idiv, 1) := by decide +kernel
theorem dL_arms_93 : decode cL_arms 93 = .ok (.iload 5, 2) := by decide +kernel
theorem dL_arms_95 : decode cL_arms 95 = .ok (.bipush 100, 2) := by decide +kernel
theorem dL_arms_97 : decode cL_arms 97 = .ok (.irem, 1) := by decide +kernel
theorem dL_arms_98 : decode cL_arms 98 = .ok (.iconst 0, 1) := by decide +kernel
theorem dL_arms_99 : decode cL_arms 99 = .ok (.invokestatic 144, 3) := by decide +kernel
theorem dL_arms_102 : decode cL_arms 102 = .ok (.invokestatic 201, 3) := by decide +kernel
theorem dL_arms_105 : decode cL_arms 105 = .ok (.ifCond .ne 30, 3) := by decide +kernel
theorem dL_arms_108 : decode cL_arms 108 = .ok (.aload_n 1, 1) := by decide +kernel
theorem dL_arms_109 : decode cL_arms 109 = .ok (.bipush 7, 2) := by decide +kernel
theorem dL_arms_111 : decode cL_arms 111 = .ok (.iload 5, 2) := by decide +kernel
theorem dL_arms_113 : decode cL_arms 113 = .ok (.bipush 100, 2) := by decide +kernel
theorem dL_arms_115 : decode cL_arms 115 = .ok (.idiv, 1) := by decide +kernel
theorem dL_arms_116 : decode cL_arms 116 = .ok (.iload 5, 2) := by decide +kernel
theorem dL_arms_118 : decode cL_arms 118 = .ok (.bipush 100, 2) := by decide +kernel
theorem dL_arms_120 : decode cL_arms 120 = .ok (.irem, 1) := by decide +kernel
theorem dL_arms_121 : decode cL_arms 121 = .ok (.iconst 0, 1) := by decide +kernel
theorem dL_arms_122 : decode cL_arms 122 = .ok (.invokestatic 144, 3) := by decide +kernel
theorem dL_arms_125 : decode cL_arms 125 = .ok (.invokestatic 201, 3) := by decide +kernel
theorem dL_arms_128 : decode cL_arms 128 = .ok (.ifCond .ne 7, 3) := by decide +kernel
theorem dL_arms_131 : decode cL_arms 131 = .ok (.iconst 1, 1) := by decide +kernel
theorem dL_arms_132 : decode cL_arms 132 = .ok (.goto 4, 3) := by decide +kernel
theorem dL_arms_135 : decode cL_arms 135 = .ok (.iconst 0, 1) := by decide +kernel
theorem dL_arms_136 : decode cL_arms 136 = .ok (.istore 8, 2) := by decide +kernel
theorem dL_arms_138 : decode cL_arms 138 = .ok (.aload_n 0, 1) := by decide +kernel
theorem dL_arms_139 : decode cL_arms 139 = .ok (.iload_n 2, 1) := by decide +kernel
theorem dL_arms_140 : decode cL_arms 140 = .ok (.iload_n 3, 1) := by decide +kernel
theorem dL_arms_141 : decode cL_arms 141 = .ok (.invokestatic 171, 3) := by decide +kernel
theorem dL_arms_144 : decode cL_arms 144 = .ok (.istore 9, 2) := by decide +kernel
theorem dL_arms_146 : decode cL_arms 146 = .ok (.iload 8, 2) := by decide +kernel
