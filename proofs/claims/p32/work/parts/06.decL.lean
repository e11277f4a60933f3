theorem dL_cell_0 : decode cL_cell 0 = .ok (.iload_n 1, 1) := by decide +kernel
theorem dL_cell_1 : decode cL_cell 1 = .ok (.aload_n 0, 1) := by decide +kernel
theorem dL_cell_2 : decode cL_cell 2 = .ok (.arraylength, 1) := by decide +kernel
theorem dL_cell_3 : decode cL_cell 3 = .ok (.if_icmp .ge 9, 3) := by decide +kernel
theorem dL_cell_6 : decode cL_cell 6 = .ok (.aload_n 0, 1) := by decide +kernel
theorem dL_cell_7 : decode cL_cell 7 = .ok (.iload_n 1, 1) := by decide +kernel
theorem dL_cell_8 : decode cL_cell 8 = .ok (.iaload, 1) := by decide +kernel
theorem dL_cell_9 : decode cL_cell 9 = .ok (.goto 11, 3) := by decide +kernel
theorem dL_cell_12 : decode cL_cell 12 = .ok (.ldc 7, 2) := by decide +kernel
theorem dL_cell_14 : decode cL_cell 14 = .ok (.iload_n 1, 1) := by decide +kernel
theorem dL_cell_15 : decode cL_cell 15 = .ok (.sipush 479, 3) := by decide +kernel
theorem dL_cell_18 : decode cL_cell 18 = .ok (.iadd, 1) := by decide +kernel
theorem dL_cell_19 : decode cL_cell 19 = .ok (.imul, 1) := by decide +kernel
theorem dL_cell_20 : decode cL_cell 20 = .ok (.ireturn, 1) := by decide +kernel
theorem dL_up_0 : decode cL_up 0 = .ok (.iload_n 0, 1) := by decide +kernel
theorem dL_up_1 : decode cL_up 1 = .ok (.ldc 8, 2) := by decide +kernel
theorem dL_up_3 : decode cL_up 3 = .ok (.iand, 1) := by decide +kernel
theorem dL_up_4 : decode cL_up 4 = .ok (.iload_n 1, 1) := by decide +kernel
theorem dL_up_5 : decode cL_up 5 = .ok (.irem, 1) := by decide +kernel
theorem dL_up_6 : decode cL_up 6 = .ok (.ireturn, 1) := by decide +kernel
theorem dL_put_0 : decode cL_put 0 = .ok (.iload_n 1, 1) := by decide +kernel
theorem dL_put_1 : decode cL_put 1 = .ok (.istore_n 3, 1) := by decide +kernel
theorem dL_put_2 : decode cL_put 2 = .ok (.iload_n 3, 1) := by decide +kernel
theorem dL_put_3 : decode cL_put 3 = .ok (.iload_n 2, 1) := by decide +kernel
theorem dL_put_4 : decode cL_put 4 = .ok (.if_icmp .ge 33, 3) := by decide +kernel
theorem dL_put_7 : decode cL_put 7 = .ok (.aload_n 0, 1) := by decide +kernel
theorem dL_put_8 : decode cL_put 8 = .ok (.bipush 62, 2) := by decide +kernel
theorem dL_put_10 : decode cL_put 10 = .ok (.iaload, 1) := by decide +kernel
theorem dL_put_11 : decode cL_put 11 = .ok (.bipush 60, 2) := by decide +kernel
theorem dL_put_13 : decode cL_put 13 = .ok (.if_icmp .ge 24, 3) := by decide +kernel
theorem dL_put_16 : decode cL_put 16 = .ok (.aload_n 0, 1) := by decide +kernel
theorem dL_put_17 : decode cL_put 17 = .ok (.aload_n 0, 1) := by decide +kernel
theorem dL_put_18 : decode cL_put 18 = .ok (.bipush 62, 2) := by decide +kernel
theorem dL_put_20 : decode cL_put 20 = .ok (.iaload, 1) := by decide +kernel
theorem dL_put_21 : decode cL_put 21 = .ok (.iload_n 3, 1) := by decide +kernel
theorem dL_put_22 : decode cL_put 22 = .ok (.iastore, 1) := by decide +kernel
theorem dL_put_23 : decode cL_put 23 = .ok (.aload_n 0, 1) := by decide +kernel
theorem dL_put_24 : decode cL_put 24 = .ok (.bipush 62, 2) := by decide +kernel
theorem dL_put_26 : decode cL_put 26 = .ok (.dup2, 1) := by decide +kernel
theorem dL_put_27 : decode cL_put 27 = .ok (.iaload, 1) := by decide +kernel
theorem dL_put_28 : decode cL_put 28 = .ok (.iconst 1, 1) := by decide +kernel
theorem dL_put_29 : decode cL_put 29 = .ok (.iadd, 1) := by decide +kernel
theorem dL_put_30 : decode cL_put 30 = .ok (.iastore, 1) := by decide +kernel
theorem dL_put_31 : decode cL_put 31 = .ok (.iinc 3 1, 3) := by decide +kernel
theorem dL_put_34 : decode cL_put 34 = .ok (.goto (-32), 3) := by decide +kernel
theorem dL_put_37 : decode cL_put 37 = .ok (.aload_n 0, 1) := by decide +kernel
theorem dL_put_38 : decode cL_put 38 = .ok (.bipush 63, 2) := by decide +kernel
theorem dL_put_40 : decode cL_put 40 = .ok (.iload_n 2, 1) := by decide +kernel
theorem dL_put_41 : decode cL_put 41 = .ok (.iastore, 1) := by decide +kernel
theorem dL_put_42 : decode cL_put 42 = .ok (.return_, 1) := by decide +kernel
theorem dL_takeOut_0 : decode cL_takeOut 0 = .ok (.iconst 0, 1) := by decide +kernel
theorem dL_takeOut_1 : decode cL_takeOut 1 = .ok (.istore 5, 2) := by decide +kernel
theorem dL_takeOut_3 : decode cL_takeOut 3 = .ok (.iconst 0, 1) := by decide +kernel
theorem dL_takeOut_4 : decode cL_takeOut 4 = .ok (.istore 6, 2) := by decide +kernel
theorem dL_takeOut_6 : decode cL_takeOut 6 = .ok (.iload 6, 2) := by decide +kernel
theorem dL_takeOut_8 : decode cL_takeOut 8 = .ok (.aload_n 1, 1) := by decide +kernel
theorem dL_takeOut_9 : decode cL_takeOut 9 = .ok (.bipush 62, 2) := by decide +kernel
theorem dL_takeOut_11 : decode cL_takeOut 11 = .ok (.iaload, 1) := by decide +kernel
theorem dL_takeOut_12 : decode cL_takeOut 12 = .ok (.if_icmp .ge 66, 3) := by decide +kernel
theorem dL_takeOut_15 : decode cL_takeOut 15 = .ok (.aload_n 1, 1) := by decide +kernel
theorem dL_takeOut_16 : decode cL_takeOut 16 = .ok (.iload 6, 2) := by decide +kernel
theorem dL_takeOut_18 : decode cL_takeOut 18 = .ok (.iaload, 1) := by decide +kernel
theorem dL_takeOut_19 : decode cL_takeOut 19 = .ok (.iload_n 3, 1) := by decide +kernel
theorem dL_takeOut_20 : decode cL_takeOut 20 = .ok (.if_icmp .eq 16, 3) := by decide +kernel
theorem dL_takeOut_23 : decode cL_takeOut 23 = .ok (.aload 4, 2) := by decide +kernel
theorem dL_takeOut_25 : decode cL_takeOut 25 = .ok (.iload 6, 2) := by decide +kernel
theorem dL_takeOut_27 : decode cL_takeOut 27 = .ok (.iaload, 1) := by decide +kernel
theorem dL_takeOut_28 : decode cL_takeOut 28 = .ok (.iload_n 2, 1) := by decide +kernel
theorem dL_takeOut_29 : decode cL_takeOut 29 = .ok (.if_icmp .lt 7, 3) := by decide +kernel
theorem dL_takeOut_32 : decode cL_takeOut 32 = .ok (.iconst 1, 1) := by decide +kernel
theorem dL_takeOut_33 : decode cL_takeOut 33 = .ok (.goto 4, 3) := by decide +kernel
theorem dL_takeOut_36 : decode cL_takeOut 36 = .ok (.iconst 0, 1) := by decide +kernel
theorem dL_takeOut_37 : decode cL_takeOut 37 = .ok (.istore 7, 2) := by decide +kernel
theorem dL_takeOut_39 : decode cL_takeOut 39 = .ok (.aload_n 1, 1) := by decide +kernel
theorem dL_takeOut_40 : decode cL_takeOut 40 = .ok (.iload 5, 2) := by decide +kernel
theorem dL_takeOut_42 : decode cL_takeOut 42 = .ok (.aload_n 1, 1) := by decide +kernel
theorem dL_takeOut_43 : decode cL_takeOut 43 = .ok (.iload 6, 2) := by decide +kernel
theorem dL_takeOut_45 : decode cL_takeOut 45 = .ok (.iaload, 1) := by decide +kernel
theorem dL_takeOut_46 : decode cL_takeOut 46 = .ok (.iastore, 1) := by decide +kernel
theorem dL_takeOut_47 : decode cL_takeOut 47 = .ok (.aload 4, 2) := by decide +kernel
theorem dL_takeOut_49 : decode cL_takeOut 49 = .ok (.iload 5, 2) := by decide +kernel
theorem dL_takeOut_51 : decode cL_takeOut 51 = .ok (.aload 4, 2) := by decide +kernel
theorem dL_takeOut_53 : decode cL_takeOut 53 = .ok (.iload 6, 2) := by decide +kernel
theorem dL_takeOut_55 : decode cL_takeOut 55 = .ok (.iaload, 1) := by decide +kernel
theorem dL_takeOut_56 : decode cL_takeOut 56 = .ok (.iastore, 1) := by decide +kernel
theorem dL_takeOut_57 : decode cL_takeOut 57 = .ok (.iload 5, 2) := by decide +kernel
theorem dL_takeOut_59 : decode cL_takeOut 59 = .ok (.iload 7, 2) := by decide +kernel
theorem dL_takeOut_61 : decode cL_takeOut 61 = .ok (.ifCond .eq 7, 3) := by decide +kernel
theorem dL_takeOut_64 : decode cL_takeOut 64 = .ok (.iconst 1, 1) := by decide +kernel
theorem dL_takeOut_65 : decode cL_takeOut 65 = .ok (.goto 4, 3) := by decide +kernel
theorem dL_takeOut_68 : decode cL_takeOut 68 = .ok (.iconst 0, 1) := by decide +kernel
theorem dL_takeOut_69 : decode cL_takeOut 69 = .ok (.iadd, 1) := by decide +kernel
theorem dL_takeOut_70 : decode cL_takeOut 70 = .ok (.istore 5, 2) := by decide +kernel
theorem dL_takeOut_72 : decode cL_takeOut 72 = .ok (.iinc 6 1, 3) := by decide +kernel
theorem dL_takeOut_75 : decode cL_takeOut 75 = .ok (.goto (-69), 3) := by decide +kernel
theorem dL_takeOut_78 : decode cL_takeOut 78 = .ok (.aload_n 1, 1) := by decide +kernel
theorem dL_takeOut_79 : decode cL_takeOut 79 = .ok (.bipush 62, 2) := by decide +kernel
theorem dL_takeOut_81 : decode cL_takeOut 81 = .ok (.iload 5, 2) := by decide +kernel
theorem dL_takeOut_83 : decode cL_takeOut 83 = .ok (.iastore, 1) := by decide +kernel
theorem dL_takeOut_84 : decode cL_takeOut 84 = .ok (.return_, 1) := by decide +kernel
theorem dL_areMeetings_0 : decode cL_areMeetings 0 = .ok (.aload_n 0, 1) := by decide +kernel
theorem dL_areMeetings_1 : decode cL_areMeetings 1 = .ok (.iconst 3, 1) := by decide +kernel
theorem dL_areMeetings_2 : decode cL_areMeetings 2 = .ok (.invokevirtual 9, 3) := by decide +kernel
theorem dL_areMeetings_5 : decode cL_areMeetings 5 = .ok (.aload_n 1, 1) := by decide +kernel
theorem dL_areMeetings_6 : decode cL_areMeetings 6 = .ok (.bipush 62, 2) := by decide +kernel
theorem dL_areMeetings_8 : decode cL_areMeetings 8 = .ok (.iaload, 1) := by decide +kernel
theorem dL_areMeetings_9 : decode cL_areMeetings 9 = .ok (.if_icmp .ne 20, 3) := by decide +kernel
theorem dL_areMeetings_12 : decode cL_areMeetings 12 = .ok (.aload_n 0, 1) := by decide +kernel
theorem dL_areMeetings_13 : decode cL_areMeetings 13 = .ok (.bipush 9, 2) := by decide +kernel
theorem dL_areMeetings_15 : decode cL_areMeetings 15 = .ok (.invokevirtual 9, 3) := by decide +kernel
theorem dL_areMeetings_18 : decode cL_areMeetings 18 = .ok (.aload_n 1, 1) := by decide +kernel
theorem dL_areMeetings_19 : decode cL_areMeetings 19 = .ok (.bipush 63, 2) := by decide +kernel
theorem dL_areMeetings_21 : decode cL_areMeetings 21 = .ok (.iaload, 1) := by decide +kernel
theorem dL_areMeetings_22 : decode cL_areMeetings 22 = .ok (.if_icmp .ne 7, 3) := by decide +kernel
theorem dL_areMeetings_25 : decode cL_areMeetings 25 = .ok (.iconst 1, 1) := by decide +kernel
theorem dL_areMeetings_26 : decode cL_areMeetings 26 = .ok (.goto 4, 3) := by decide +kernel
theorem dL_areMeetings_29 : decode cL_areMeetings 29 = .ok (.iconst 0, 1) := by decide +kernel
theorem dL_areMeetings_30 : decode cL_areMeetings 30 = .ok (.istore_n 3, 1) := by decide +kernel
theorem dL_areMeetings_31 : decode cL_areMeetings 31 = .ok (.iconst 0, 1) := by decide +kernel
theorem dL_areMeetings_32 : decode cL_areMeetings 32 = .ok (.istore 4, 2) := by decide +kernel
theorem dL_areMeetings_34 : decode cL_areMeetings 34 = .ok (.iconst 0, 1) := by decide +kernel
theorem dL_areMeetings_35 : decode cL_areMeetings 35 = .ok (.istore 5, 2) := by decide +kernel
theorem dL_areMeetings_37 : decode cL_areMeetings 37 = .ok (.iload 5, 2) := by decide +kernel
theorem dL_areMeetings_39 : decode cL_areMeetings 39 = .ok (.aload_n 1, 1) := by decide +kernel
theorem dL_areMeetings_40 : decode cL_areMeetings 40 = .ok (.bipush 62, 2) := by decide +kernel
theorem dL_areMeetings_42 : decode cL_areMeetings 42 = .ok (.iaload, 1) := by decide +kernel
theorem dL_areMeetings_43 : decode cL_areMeetings 43 = .ok (.if_icmp .ge 288, 3) := by decide +kernel
theorem dL_areMeetings_46 : decode cL_areMeetings 46 = .ok (.iload_n 3, 1) := by decide +kernel
theorem dL_areMeetings_47 : decode cL_areMeetings 47 = .ok (.ifCond .eq 284, 3) := by decide +kernel
theorem dL_areMeetings_50 : decode cL_areMeetings 50 = .ok (.aload_n 0, 1) := by decide +kernel
theorem dL_areMeetings_51 : decode cL_areMeetings 51 = .ok (.aload_n 1, 1) := by decide +kernel
theorem dL_areMeetings_52 : decode cL_areMeetings 52 = .ok (.iload 5, 2) := by decide +kernel
theorem dL_areMeetings_54 : decode cL_areMeetings 54 = .ok (.iaload, 1) := by decide +kernel
theorem dL_areMeetings_55 : decode cL_areMeetings 55 = .ok (.iconst 1, 1) := by decide +kernel
theorem dL_areMeetings_56 : decode cL_areMeetings 56 = .ok (.invokevirtual 15, 3) := by decide +kernel
theorem dL_areMeetings_59 : decode cL_areMeetings 59 = .ok (.istore 6, 2) := by decide +kernel
theorem dL_areMeetings_61 : decode cL_areMeetings 61 = .ok (.aload_n 0, 1) := by decide +kernel
theorem dL_areMeetings_62 : decode cL_areMeetings 62 = .ok (.aload_n 1, 1) := by decide +kernel
theorem dL_areMeetings_63 : decode cL_areMeetings 63 = .ok (.iload 5, 2) := by decide +kernel
theorem dL_areMeetings_65 : decode cL_areMeetings 65 = .ok (.iaload, 1) := by decide +kernel
theorem dL_areMeetings_66 : decode cL_areMeetings 66 = .ok (.iconst 5, 1) := by decide +kernel
theorem dL_areMeetings_67 : decode cL_areMeetings 67 = .ok (.invokevirtual 15, 3) := by decide +kernel
theorem dL_areMeetings_70 : decode cL_areMeetings 70 = .ok (.istore 7, 2) := by decide +kernel
theorem dL_areMeetings_72 : decode cL_areMeetings 72 = .ok (.aload_n 2, 1) := by decide +kernel
theorem dL_areMeetings_73 : decode cL_areMeetings 73 = .ok (.iload 5, 2) := by decide +kernel
theorem dL_areMeetings_75 : decode cL_areMeetings 75 = .ok (.iload 6, 2) := by decide +kernel
theorem dL_areMeetings_77 : decode cL_areMeetings 77 = .ok (.iastore, 1) := by decide +kernel
theorem dL_areMeetings_78 : decode cL_areMeetings 78 = .ok (.iload 4, 2) := by decide +kernel
theorem dL_areMeetings_80 : decode cL_areMeetings 80 = .ok (.iload 7, 2) := by decide +kernel
theorem dL_areMeetings_82 : decode cL_areMeetings 82 = .ok (.iconst 1, 1) := by decide +kernel
theorem dL_areMeetings_83 : decode cL_areMeetings 83 = .ok (.if_icmp .ne 7, 3) := by decide +kernel
theorem dL_areMeetings_86 : decode cL_areMeetings 86 = .ok (.iconst 1, 1) := by decide +kernel
theorem dL_areMeetings_87 : decode cL_areMeetings 87 = .ok (.goto 4, 3) := by decide +kernel
theorem dL_areMeetings_90 : decode cL_areMeetings 90 = .ok (.iconst 0, 1) := by decide +kernel
theorem dL_areMeetings_91 : decode cL_areMeetings 91 = .ok (.iadd, 1) := by decide +kernel
theorem dL_areMeetings_92 : decode cL_areMeetings 92 = .ok (.istore 4, 2) := by decide +kernel
theorem dL_areMeetings_94 : decode cL_areMeetings 94 = .ok (.iload 7, 2) := by decide +kernel
theorem dL_areMeetings_96 : decode cL_areMeetings 96 = .ok (.ifCond .ne 13, 3) := by decide +kernel
theorem dL_areMeetings_99 : decode cL_areMeetings 99 = .ok (.iload 6, 2) := by decide +kernel
theorem dL_areMeetings_101 : decode cL_areMeetings 101 = .ok (.aload_n 0, 1) := by decide +kernel
theorem dL_areMeetings_102 : decode cL_areMeetings 102 = .ok (.iconst 4, 1) := by decide +kernel
theorem dL_areMeetings_103 : decode cL_areMeetings 103 = .ok (.invokevirtual 9, 3) := by decide +kernel
theorem dL_areMeetings_106 : decode cL_areMeetings 106 = .ok (.if_icmp .lt 34, 3) := by decide +kernel
theorem dL_areMeetings_109 : decode cL_areMeetings 109 = .ok (.iload 7, 2) := by decide +kernel
theorem dL_areMeetings_111 : decode cL_areMeetings 111 = .ok (.ifCond .eq 13, 3) := by decide +kernel
theorem dL_areMeetings_114 : decode cL_areMeetings 114 = .ok (.iload 6, 2) := by decide +kernel
theorem dL_areMeetings_116 : decode cL_areMeetings 116 = .ok (.aload_n 0, 1) := by decide +kernel
theorem dL_areMeetings_117 : decode cL_areMeetings 117 = .ok (.iconst 4, 1) := by decide +kernel
theorem dL_areMeetings_118 : decode cL_areMeetings 118 = .ok (.invokevirtual 9, 3) := by decide +kernel
theorem dL_areMeetings_121 : decode cL_areMeetings 121 = .ok (.if_icmp .gt 19, 3) := by decide +kernel
theorem dL_areMeetings_124 : decode cL_areMeetings 124 = .ok (.iload 6, 2) := by decide +kernel
theorem dL_areMeetings_126 : decode cL_areMeetings 126 = .ok (.iconst 4, 1) := by decide +kernel
theorem dL_areMeetings_127 : decode cL_areMeetings 127 = .ok (.iadd, 1) := by decide +kernel
theorem dL_areMeetings_128 : decode cL_areMeetings 128 = .ok (.aload_n 0, 1) := by decide +kernel
theorem dL_areMeetings_129 : decode cL_areMeetings 129 = .ok (.iconst 4, 1) := by decide +kernel
theorem dL_areMeetings_130 : decode cL_areMeetings 130 = .ok (.invokevirtual 9, 3) := by decide +kernel
theorem dL_areMeetings_133 : decode cL_areMeetings 133 = .ok (.if_icmp .lt 7, 3) := by decide +kernel
theorem dL_areMeetings_136 : decode cL_areMeetings 136 = .ok (.iconst 1, 1) := by decide +kernel
theorem dL_areMeetings_137 : decode cL_areMeetings 137 = .ok (.goto 4, 3) := by decide +kernel
theorem dL_areMeetings_140 : decode cL_areMeetings 140 = .ok (.iconst 0, 1) := by decide +kernel
theorem dL_areMeetings_141 : decode cL_areMeetings 141 = .ok (.istore_n 3, 1) := by decide +kernel
theorem dL_areMeetings_142 : decode cL_areMeetings 142 = .ok (.iconst 0, 1) := by decide +kernel
theorem dL_areMeetings_143 : decode cL_areMeetings 143 = .ok (.istore 8, 2) := by decide +kernel
theorem dL_areMeetings_145 : decode cL_areMeetings 145 = .ok (.iload 8, 2) := by decide +kernel
theorem dL_areMeetings_147 : decode cL_areMeetings 147 = .ok (.iload 5, 2) := by decide +kernel
theorem dL_areMeetings_149 : decode cL_areMeetings 149 = .ok (.if_icmp .ge 176, 3) := by decide +kernel
theorem dL_areMeetings_152 : decode cL_areMeetings 152 = .ok (.iload_n 3, 1) := by decide +kernel
theorem dL_areMeetings_153 : decode cL_areMeetings 153 = .ok (.ifCond .eq 172, 3) := by decide +kernel
theorem dL_areMeetings_156 : decode cL_areMeetings 156 = .ok (.iload 7, 2) := by decide +kernel
theorem dL_areMeetings_158 : decode cL_areMeetings 158 = .ok (.iconst 2, 1) := by decide +kernel
theorem dL_areMeetings_159 : decode cL_areMeetings 159 = .ok (.if_icmp .ge 34, 3) := by decide +kernel
theorem dL_areMeetings_162 : decode cL_areMeetings 162 = .ok (.aload_n 0, 1) := by decide +kernel
theorem dL_areMeetings_163 : decode cL_areMeetings 163 = .ok (.aload_n 1, 1) := by decide +kernel
theorem dL_areMeetings_164 : decode cL_areMeetings 164 = .ok (.iload 8, 2) := by decide +kernel
theorem dL_areMeetings_166 : decode cL_areMeetings 166 = .ok (.iaload, 1) := by decide +kernel
theorem dL_areMeetings_167 : decode cL_areMeetings 167 = .ok (.iconst 5, 1) := by decide +kernel
theorem dL_areMeetings_168 : decode cL_areMeetings 168 = .ok (.invokevirtual 15, 3) := by decide +kernel
theorem dL_areMeetings_171 : decode cL_areMeetings 171 = .ok (.iconst 2, 1) := by decide +kernel
theorem dL_areMeetings_172 : decode cL_areMeetings 172 = .ok (.if_icmp .ge 21, 3) := by decide +kernel
theorem dL_areMeetings_175 : decode cL_areMeetings 175 = .ok (.aload_n 0, 1) := by decide +kernel
theorem dL_areMeetings_176 : decode cL_areMeetings 176 = .ok (.aload_n 1, 1) := by decide +kernel
theorem dL_areMeetings_177 : decode cL_areMeetings 177 = .ok (.iload 8, 2) := by decide +kernel
theorem dL_areMeetings_179 : decode cL_areMeetings 179 = .ok (.iaload, 1) := by decide +kernel
theorem dL_areMeetings_180 : decode cL_areMeetings 180 = .ok (.iconst 1, 1) := by decide +kernel
theorem dL_areMeetings_181 : decode cL_areMeetings 181 = .ok (.invokevirtual 15, 3) := by decide +kernel
theorem dL_areMeetings_184 : decode cL_areMeetings 184 = .ok (.iload 6, 2) := by decide +kernel
theorem dL_areMeetings_186 : decode cL_areMeetings 186 = .ok (.if_icmp .ne 7, 3) := by decide +kernel
theorem dL_areMeetings_189 : decode cL_areMeetings 189 = .ok (.iconst 1, 1) := by decide +kernel
theorem dL_areMeetings_190 : decode cL_areMeetings 190 = .ok (.goto 4, 3) := by decide +kernel
theorem dL_areMeetings_193 : decode cL_areMeetings 193 = .ok (.iconst 0, 1) := by decide +kernel
theorem dL_areMeetings_194 : decode cL_areMeetings 194 = .ok (.istore 9, 2) := by decide +kernel
theorem dL_areMeetings_196 : decode cL_areMeetings 196 = .ok (.aload_n 0, 1) := by decide +kernel
theorem dL_areMeetings_197 : decode cL_areMeetings 197 = .ok (.aload_n 1, 1) := by decide +kernel
theorem dL_areMeetings_198 : decode cL_areMeetings 198 = .ok (.iload 8, 2) := by decide +kernel
theorem dL_areMeetings_200 : decode cL_areMeetings 200 = .ok (.iaload, 1) := by decide +kernel
theorem dL_areMeetings_201 : decode cL_areMeetings 201 = .ok (.iconst 2, 1) := by decide +kernel
theorem dL_areMeetings_202 : decode cL_areMeetings 202 = .ok (.invokevirtual 15, 3) := by decide +kernel
theorem dL_areMeetings_205 : decode cL_areMeetings 205 = .ok (.aload_n 0, 1) := by decide +kernel
theorem dL_areMeetings_206 : decode cL_areMeetings 206 = .ok (.aload_n 1, 1) := by decide +kernel
theorem dL_areMeetings_207 : decode cL_areMeetings 207 = .ok (.iload 5, 2) := by decide +kernel
theorem dL_areMeetings_209 : decode cL_areMeetings 209 = .ok (.iaload, 1) := by decide +kernel
theorem dL_areMeetings_210 : decode cL_areMeetings 210 = .ok (.iconst 2, 1) := by decide +kernel
theorem dL_areMeetings_211 : decode cL_areMeetings 211 = .ok (.invokevirtual 15, 3) := by decide +kernel
theorem dL_areMeetings_214 : decode cL_areMeetings 214 = .ok (.if_icmp .ne 7, 3) := by decide +kernel
theorem dL_areMeetings_217 : decode cL_areMeetings 217 = .ok (.iconst 1, 1) := by decide +kernel
theorem dL_areMeetings_218 : decode cL_areMeetings 218 = .ok (.goto 4, 3) := by decide +kernel
theorem dL_areMeetings_221 : decode cL_areMeetings 221 = .ok (.iconst 0, 1) := by decide +kernel
theorem dL_areMeetings_222 : decode cL_areMeetings 222 = .ok (.istore 10, 2) := by decide +kernel
theorem dL_areMeetings_224 : decode cL_areMeetings 224 = .ok (.aload_n 0, 1) := by decide +kernel
theorem dL_areMeetings_225 : decode cL_areMeetings 225 = .ok (.aload_n 1, 1) := by decide +kernel
theorem dL_areMeetings_226 : decode cL_areMeetings 226 = .ok (.iload 8, 2) := by decide +kernel
theorem dL_areMeetings_228 : decode cL_areMeetings 228 = .ok (.iaload, 1) := by decide +kernel
theorem dL_areMeetings_229 : decode cL_areMeetings 229 = .ok (.iconst 2, 1) := by decide +kernel
theorem dL_areMeetings_230 : decode cL_areMeetings 230 = .ok (.invokevirtual 15, 3) := by decide +kernel
theorem dL_areMeetings_233 : decode cL_areMeetings 233 = .ok (.iconst 4, 1) := by decide +kernel
theorem dL_areMeetings_234 : decode cL_areMeetings 234 = .ok (.idiv, 1) := by decide +kernel
theorem dL_areMeetings_235 : decode cL_areMeetings 235 = .ok (.aload_n 0, 1) := by decide +kernel
theorem dL_areMeetings_236 : decode cL_areMeetings 236 = .ok (.aload_n 1, 1) := by decide +kernel
theorem dL_areMeetings_237 : decode cL_areMeetings 237 = .ok (.iload 5, 2) := by decide +kernel
theorem dL_areMeetings_239 : decode cL_areMeetings 239 = .ok (.iaload, 1) := by decide +kernel
theorem dL_areMeetings_240 : decode cL_areMeetings 240 = .ok (.iconst 2, 1) := by decide +kernel
theorem dL_areMeetings_241 : decode cL_areMeetings 241 = .ok (.invokevirtual 15, 3) := by decide +kernel
theorem dL_areMeetings_244 : decode cL_areMeetings 244 = .ok (.iconst 4, 1) := by decide +kernel
theorem dL_areMeetings_245 : decode cL_areMeetings 245 = .ok (.idiv, 1) := by decide +kernel
theorem dL_areMeetings_246 : decode cL_areMeetings 246 = .ok (.if_icmp .ne 7, 3) := by decide +kernel
theorem dL_areMeetings_249 : decode cL_areMeetings 249 = .ok (.iconst 1, 1) := by decide +kernel
theorem dL_areMeetings_250 : decode cL_areMeetings 250 = .ok (.goto 4, 3) := by decide +kernel
theorem dL_areMeetings_253 : decode cL_areMeetings 253 = .ok (.iconst 0, 1) := by decide +kernel
theorem dL_areMeetings_254 : decode cL_areMeetings 254 = .ok (.istore 11, 2) := by decide +kernel
theorem dL_areMeetings_256 : decode cL_areMeetings 256 = .ok (.iload 9, 2) := by decide +kernel
theorem dL_areMeetings_258 : decode cL_areMeetings 258 = .ok (.ifCond .eq 55, 3) := by decide +kernel
theorem dL_areMeetings_261 : decode cL_areMeetings 261 = .ok (.iload 10, 2) := by decide +kernel
theorem dL_areMeetings_263 : decode cL_areMeetings 263 = .ok (.ifCond .eq 24, 3) := by decide +kernel
theorem dL_areMeetings_266 : decode cL_areMeetings 266 = .ok (.aload_n 0, 1) := by decide +kernel
theorem dL_areMeetings_267 : decode cL_areMeetings 267 = .ok (.aload_n 1, 1) := by decide +kernel
theorem dL_areMeetings_268 : decode cL_areMeetings 268 = .ok (.iload 8, 2) := by decide +kernel
theorem dL_areMeetings_270 : decode cL_areMeetings 270 = .ok (.iaload, 1) := by decide +kernel
theorem dL_areMeetings_271 : decode cL_areMeetings 271 = .ok (.iconst 3, 1) := by decide +kernel
theorem dL_areMeetings_272 : decode cL_areMeetings 272 = .ok (.invokevirtual 15, 3) := by decide +kernel
theorem dL_areMeetings_275 : decode cL_areMeetings 275 = .ok (.aload_n 0, 1) := by decide +kernel
theorem dL_areMeetings_276 : decode cL_areMeetings 276 = .ok (.aload_n 1, 1) := by decide +kernel
theorem dL_areMeetings_277 : decode cL_areMeetings 277 = .ok (.iload 5, 2) := by decide +kernel
theorem dL_areMeetings_279 : decode cL_areMeetings 279 = .ok (.iaload, 1) := by decide +kernel
theorem dL_areMeetings_280 : decode cL_areMeetings 280 = .ok (.iconst 3, 1) := by decide +kernel
theorem dL_areMeetings_281 : decode cL_areMeetings 281 = .ok (.invokevirtual 15, 3) := by decide +kernel
theorem dL_areMeetings_284 : decode cL_areMeetings 284 = .ok (.if_icmp .eq 33, 3) := by decide +kernel
theorem dL_areMeetings_287 : decode cL_areMeetings 287 = .ok (.iload 11, 2) := by decide +kernel
theorem dL_areMeetings_289 : decode cL_areMeetings 289 = .ok (.ifCond .eq 24, 3) := by decide +kernel
theorem dL_areMeetings_292 : decode cL_areMeetings 292 = .ok (.aload_n 0, 1) := by decide +kernel
theorem dL_areMeetings_293 : decode cL_areMeetings 293 = .ok (.aload_n 1, 1) := by decide +kernel
theorem dL_areMeetings_294 : decode cL_areMeetings 294 = .ok (.iload 8, 2) := by decide +kernel
theorem dL_areMeetings_296 : decode cL_areMeetings 296 = .ok (.iaload, 1) := by decide +kernel
theorem dL_areMeetings_297 : decode cL_areMeetings 297 = .ok (.iconst 0, 1) := by decide +kernel
theorem dL_areMeetings_298 : decode cL_areMeetings 298 = .ok (.invokevirtual 15, 3) := by decide +kernel
theorem dL_areMeetings_301 : decode cL_areMeetings 301 = .ok (.aload_n 0, 1) := by decide +kernel
theorem dL_areMeetings_302 : decode cL_areMeetings 302 = .ok (.aload_n 1, 1) := by decide +kernel
theorem dL_areMeetings_303 : decode cL_areMeetings 303 = .ok (.iload 5, 2) := by decide +kernel
theorem dL_areMeetings_305 : decode cL_areMeetings 305 = .ok (.iaload, 1) := by decide +kernel
theorem dL_areMeetings_306 : decode cL_areMeetings 306 = .ok (.iconst 0, 1) := by decide +kernel
theorem dL_areMeetings_307 : decode cL_areMeetings 307 = .ok (.invokevirtual 15, 3) := by decide +kernel
theorem dL_areMeetings_310 : decode cL_areMeetings 310 = .ok (.if_icmp .eq 7, 3) := by decide +kernel
theorem dL_areMeetings_313 : decode cL_areMeetings 313 = .ok (.iconst 1, 1) := by decide +kernel
theorem dL_areMeetings_314 : decode cL_areMeetings 314 = .ok (.goto 4, 3) := by decide +kernel
theorem dL_areMeetings_317 : decode cL_areMeetings 317 = .ok (.iconst 0, 1) := by decide +kernel
theorem dL_areMeetings_318 : decode cL_areMeetings 318 = .ok (.istore_n 3, 1) := by decide +kernel
theorem dL_areMeetings_319 : decode cL_areMeetings 319 = .ok (.iinc 8 1, 3) := by decide +kernel
theorem dL_areMeetings_322 : decode cL_areMeetings 322 = .ok (.goto (-177), 3) := by decide +kernel
theorem dL_areMeetings_325 : decode cL_areMeetings 325 = .ok (.iinc 5 1, 3) := by decide +kernel
theorem dL_areMeetings_328 : decode cL_areMeetings 328 = .ok (.goto (-291), 3) := by decide +kernel
theorem dL_areMeetings_331 : decode cL_areMeetings 331 = .ok (.iload_n 3, 1) := by decide +kernel
theorem dL_areMeetings_332 : decode cL_areMeetings 332 = .ok (.ifCond .eq 18, 3) := by decide +kernel
theorem dL_areMeetings_335 : decode cL_areMeetings 335 = .ok (.iload 4, 2) := by decide +kernel
theorem dL_areMeetings_337 : decode cL_areMeetings 337 = .ok (.aload_n 0, 1) := by decide +kernel
theorem dL_areMeetings_338 : decode cL_areMeetings 338 = .ok (.bipush 6, 2) := by decide +kernel
theorem dL_areMeetings_340 : decode cL_areMeetings 340 = .ok (.invokevirtual 9, 3) := by decide +kernel
theorem dL_areMeetings_343 : decode cL_areMeetings 343 = .ok (.if_icmp .gt 7, 3) := by decide +kernel
theorem dL_areMeetings_346 : decode cL_areMeetings 346 = .ok (.iconst 1, 1) := by decide +kernel
theorem dL_areMeetings_347 : decode cL_areMeetings 347 = .ok (.goto 4, 3) := by decide +kernel
theorem dL_areMeetings_350 : decode cL_areMeetings 350 = .ok (.iconst 0, 1) := by decide +kernel
theorem dL_areMeetings_351 : decode cL_areMeetings 351 = .ok (.ireturn, 1) := by decide +kernel
theorem dL_areCounts_0 : decode cL_areCounts 0 = .ok (.iconst 0, 1) := by decide +kernel
theorem dL_areCounts_1 : decode cL_areCounts 1 = .ok (.istore_n 2, 1) := by decide +kernel
theorem dL_areCounts_2 : decode cL_areCounts 2 = .ok (.iconst 0, 1) := by decide +kernel
theorem dL_areCounts_3 : decode cL_areCounts 3 = .ok (.istore_n 3, 1) := by decide +kernel
theorem dL_areCounts_4 : decode cL_areCounts 4 = .ok (.iconst 0, 1) := by decide +kernel
theorem dL_areCounts_5 : decode cL_areCounts 5 = .ok (.istore 4, 2) := by decide +kernel
theorem dL_areCounts_7 : decode cL_areCounts 7 = .ok (.iconst 1, 1) := by decide +kernel
theorem dL_areCounts_8 : decode cL_areCounts 8 = .ok (.istore 5, 2) := by decide +kernel
theorem dL_areCounts_10 : decode cL_areCounts 10 = .ok (.iconst 0, 1) := by decide +kernel
theorem dL_areCounts_11 : decode cL_areCounts 11 = .ok (.istore 6, 2) := by decide +kernel
theorem dL_areCounts_13 : decode cL_areCounts 13 = .ok (.iload 6, 2) := by decide +kernel
theorem dL_areCounts_15 : decode cL_areCounts 15 = .ok (.aload_n 0, 1) := by decide +kernel
theorem dL_areCounts_16 : decode cL_areCounts 16 = .ok (.iconst 0, 1) := by decide +kernel
theorem dL_areCounts_17 : decode cL_areCounts 17 = .ok (.invokevirtual 9, 3) := by decide +kernel
theorem dL_areCounts_20 : decode cL_areCounts 20 = .ok (.if_icmp .ge 250, 3) := by decide +kernel
theorem dL_areCounts_23 : decode cL_areCounts 23 = .ok (.iload 5, 2) := by decide +kernel
theorem dL_areCounts_25 : decode cL_areCounts 25 = .ok (.ifCond .eq 245, 3) := by decide +kernel
theorem dL_areCounts_28 : decode cL_areCounts 28 = .ok (.aload_n 0, 1) := by decide +kernel
theorem dL_areCounts_29 : decode cL_areCounts 29 = .ok (.iload 6, 2) := by decide +kernel
theorem dL_areCounts_31 : decode cL_areCounts 31 = .ok (.iconst 2, 1) := by decide +kernel
theorem dL_areCounts_32 : decode cL_areCounts 32 = .ok (.invokevirtual 19, 3) := by decide +kernel
theorem dL_areCounts_35 : decode cL_areCounts 35 = .ok (.ineg, 1) := by decide +kernel
theorem dL_areCounts_36 : decode cL_areCounts 36 = .ok (.istore 7, 2) := by decide +kernel
theorem dL_areCounts_38 : decode cL_areCounts 38 = .ok (.iconst 0, 1) := by decide +kernel
theorem dL_areCounts_39 : decode cL_areCounts 39 = .ok (.istore 8, 2) := by decide +kernel
theorem dL_areCounts_41 : decode cL_areCounts 41 = .ok (.iconst 0, 1) := by decide +kernel
theorem dL_areCounts_42 : decode cL_areCounts 42 = .ok (.istore 9, 2) := by decide +kernel
theorem dL_areCounts_44 : decode cL_areCounts 44 = .ok (.iload 9, 2) := by decide +kernel
theorem dL_areCounts_46 : decode cL_areCounts 46 = .ok (.aload_n 0, 1) := by decide +kernel
theorem dL_areCounts_47 : decode cL_areCounts 47 = .ok (.iconst 4, 1) := by decide +kernel
theorem dL_areCounts_48 : decode cL_areCounts 48 = .ok (.invokevirtual 9, 3) := by decide +kernel
theorem dL_areCounts_51 : decode cL_areCounts 51 = .ok (.if_icmp .gt 22, 3) := by decide +kernel
theorem dL_areCounts_54 : decode cL_areCounts 54 = .ok (.iload 7, 2) := by decide +kernel
theorem dL_areCounts_56 : decode cL_areCounts 56 = .ok (.aload_n 0, 1) := by decide +kernel
theorem dL_areCounts_57 : decode cL_areCounts 57 = .ok (.iload 6, 2) := by decide +kernel
theorem dL_areCounts_59 : decode cL_areCounts 59 = .ok (.iload 9, 2) := by decide +kernel
theorem dL_areCounts_61 : decode cL_areCounts 61 = .ok (.invokevirtual 22, 3) := by decide +kernel
theorem dL_areCounts_64 : decode cL_areCounts 64 = .ok (.iadd, 1) := by decide +kernel
theorem dL_areCounts_65 : decode cL_areCounts 65 = .ok (.istore 7, 2) := by decide +kernel
theorem dL_areCounts_67 : decode cL_areCounts 67 = .ok (.iinc 9 1, 3) := by decide +kernel
theorem dL_areCounts_70 : decode cL_areCounts 70 = .ok (.goto (-26), 3) := by decide +kernel
theorem dL_areCounts_73 : decode cL_areCounts 73 = .ok (.iconst 0, 1) := by decide +kernel
theorem dL_areCounts_74 : decode cL_areCounts 74 = .ok (.istore 9, 2) := by decide +kernel
theorem dL_areCounts_76 : decode cL_areCounts 76 = .ok (.iload 9, 2) := by decide +kernel
theorem dL_areCounts_78 : decode cL_areCounts 78 = .ok (.aload_n 1, 1) := by decide +kernel
theorem dL_areCounts_79 : decode cL_areCounts 79 = .ok (.bipush 62, 2) := by decide +kernel
theorem dL_areCounts_81 : decode cL_areCounts 81 = .ok (.iaload, 1) := by decide +kernel
theorem dL_areCounts_82 : decode cL_areCounts 82 = .ok (.if_icmp .ge 89, 3) := by decide +kernel
theorem dL_areCounts_85 : decode cL_areCounts 85 = .ok (.aload_n 0, 1) := by decide +kernel
theorem dL_areCounts_86 : decode cL_areCounts 86 = .ok (.aload_n 1, 1) := by decide +kernel
theorem dL_areCounts_87 : decode cL_areCounts 87 = .ok (.iload 9, 2) := by decide +kernel
theorem dL_areCounts_89 : decode cL_areCounts 89 = .ok (.iaload, 1) := by decide +kernel
theorem dL_areCounts_90 : decode cL_areCounts 90 = .ok (.iconst 0, 1) := by decide +kernel
theorem dL_areCounts_91 : decode cL_areCounts 91 = .ok (.invokevirtual 15, 3) := by decide +kernel
theorem dL_areCounts_94 : decode cL_areCounts 94 = .ok (.iload 6, 2) := by decide +kernel
theorem dL_areCounts_96 : decode cL_areCounts 96 = .ok (.if_icmp .ne 19, 3) := by decide +kernel
theorem dL_areCounts_99 : decode cL_areCounts 99 = .ok (.aload_n 0, 1) := by decide +kernel
theorem dL_areCounts_100 : decode cL_areCounts 100 = .ok (.aload_n 1, 1) := by decide +kernel
theorem dL_areCounts_101 : decode cL_areCounts 101 = .ok (.iload 9, 2) := by decide +kernel
theorem dL_areCounts_103 : decode cL_areCounts 103 = .ok (.iaload, 1) := by decide +kernel
theorem dL_areCounts_104 : decode cL_areCounts 104 = .ok (.iconst 5, 1) := by decide +kernel
theorem dL_areCounts_105 : decode cL_areCounts 105 = .ok (.invokevirtual 15, 3) := by decide +kernel
theorem dL_areCounts_108 : decode cL_areCounts 108 = .ok (.ifCond .ne 7, 3) := by decide +kernel
theorem dL_areCounts_111 : decode cL_areCounts 111 = .ok (.iconst 1, 1) := by decide +kernel
theorem dL_areCounts_112 : decode cL_areCounts 112 = .ok (.goto 4, 3) := by decide +kernel
theorem dL_areCounts_115 : decode cL_areCounts 115 = .ok (.iconst 0, 1) := by decide +kernel
theorem dL_areCounts_116 : decode cL_areCounts 116 = .ok (.istore 10, 2) := by decide +kernel
theorem dL_areCounts_118 : decode cL_areCounts 118 = .ok (.iload 8, 2) := by decide +kernel
theorem dL_areCounts_120 : decode cL_areCounts 120 = .ok (.iload 10, 2) := by decide +kernel
theorem dL_areCounts_122 : decode cL_areCounts 122 = .ok (.ifCond .eq 7, 3) := by decide +kernel
theorem dL_areCounts_125 : decode cL_areCounts 125 = .ok (.iconst 1, 1) := by decide +kernel
theorem dL_areCounts_126 : decode cL_areCounts 126 = .ok (.goto 4, 3) := by decide +kernel
theorem dL_areCounts_129 : decode cL_areCounts 129 = .ok (.iconst 0, 1) := by decide +kernel
theorem dL_areCounts_130 : decode cL_areCounts 130 = .ok (.iadd, 1) := by decide +kernel
theorem dL_areCounts_131 : decode cL_areCounts 131 = .ok (.istore 8, 2) := by decide +kernel
theorem dL_areCounts_133 : decode cL_areCounts 133 = .ok (.iload 7, 2) := by decide +kernel
theorem dL_areCounts_135 : decode cL_areCounts 135 = .ok (.iload 10, 2) := by decide +kernel
theorem dL_areCounts_137 : decode cL_areCounts 137 = .ok (.ifCond .eq 24, 3) := by decide +kernel
theorem dL_areCounts_140 : decode cL_areCounts 140 = .ok (.aload_n 0, 1) := by decide +kernel
theorem dL_areCounts_141 : decode cL_areCounts 141 = .ok (.aload_n 1, 1) := by decide +kernel
theorem dL_areCounts_142 : decode cL_areCounts 142 = .ok (.iload 9, 2) := by decide +kernel
theorem dL_areCounts_144 : decode cL_areCounts 144 = .ok (.iaload, 1) := by decide +kernel
theorem dL_areCounts_145 : decode cL_areCounts 145 = .ok (.iconst 1, 1) := by decide +kernel
theorem dL_areCounts_146 : decode cL_areCounts 146 = .ok (.invokevirtual 15, 3) := by decide +kernel
theorem dL_areCounts_149 : decode cL_areCounts 149 = .ok (.aload_n 0, 1) := by decide +kernel
theorem dL_areCounts_150 : decode cL_areCounts 150 = .ok (.iconst 4, 1) := by decide +kernel
theorem dL_areCounts_151 : decode cL_areCounts 151 = .ok (.invokevirtual 9, 3) := by decide +kernel
theorem dL_areCounts_154 : decode cL_areCounts 154 = .ok (.if_icmp .gt 7, 3) := by decide +kernel
theorem dL_areCounts_157 : decode cL_areCounts 157 = .ok (.iconst 1, 1) := by decide +kernel
theorem dL_areCounts_158 : decode cL_areCounts 158 = .ok (.goto 4, 3) := by decide +kernel
theorem dL_areCounts_161 : decode cL_areCounts 161 = .ok (.iconst 0, 1) := by decide +kernel
theorem dL_areCounts_162 : decode cL_areCounts 162 = .ok (.isub, 1) := by decide +kernel
theorem dL_areCounts_163 : decode cL_areCounts 163 = .ok (.istore 7, 2) := by decide +kernel
theorem dL_areCounts_165 : decode cL_areCounts 165 = .ok (.iinc 9 1, 3) := by decide +kernel
theorem dL_areCounts_168 : decode cL_areCounts 168 = .ok (.goto (-92), 3) := by decide +kernel
theorem dL_areCounts_171 : decode cL_areCounts 171 = .ok (.aload_n 0, 1) := by decide +kernel
theorem dL_areCounts_172 : decode cL_areCounts 172 = .ok (.iload 6, 2) := by decide +kernel
theorem dL_areCounts_174 : decode cL_areCounts 174 = .ok (.iconst 5, 1) := by decide +kernel
theorem dL_areCounts_175 : decode cL_areCounts 175 = .ok (.invokevirtual 19, 3) := by decide +kernel
theorem dL_areCounts_178 : decode cL_areCounts 178 = .ok (.iload 7, 2) := by decide +kernel
theorem dL_areCounts_180 : decode cL_areCounts 180 = .ok (.ifCond .ge 7, 3) := by decide +kernel
theorem dL_areCounts_183 : decode cL_areCounts 183 = .ok (.iconst 0, 1) := by decide +kernel
theorem dL_areCounts_184 : decode cL_areCounts 184 = .ok (.goto 5, 3) := by decide +kernel
theorem dL_areCounts_187 : decode cL_areCounts 187 = .ok (.iload 7, 2) := by decide +kernel
theorem dL_areCounts_189 : decode cL_areCounts 189 = .ok (.if_icmp .ne 40, 3) := by decide +kernel
theorem dL_areCounts_192 : decode cL_areCounts 192 = .ok (.aload_n 0, 1) := by decide +kernel
theorem dL_areCounts_193 : decode cL_areCounts 193 = .ok (.iload 6, 2) := by decide +kernel
theorem dL_areCounts_195 : decode cL_areCounts 195 = .ok (.iconst 4, 1) := by decide +kernel
theorem dL_areCounts_196 : decode cL_areCounts 196 = .ok (.invokevirtual 19, 3) := by decide +kernel
theorem dL_areCounts_199 : decode cL_areCounts 199 = .ok (.iload 8, 2) := by decide +kernel
theorem dL_areCounts_201 : decode cL_areCounts 201 = .ok (.if_icmp .ne 28, 3) := by decide +kernel
theorem dL_areCounts_204 : decode cL_areCounts 204 = .ok (.aload_n 0, 1) := by decide +kernel
theorem dL_areCounts_205 : decode cL_areCounts 205 = .ok (.iload 6, 2) := by decide +kernel
theorem dL_areCounts_207 : decode cL_areCounts 207 = .ok (.aload_n 0, 1) := by decide +kernel
theorem dL_areCounts_208 : decode cL_areCounts 208 = .ok (.iconst 4, 1) := by decide +kernel
theorem dL_areCounts_209 : decode cL_areCounts 209 = .ok (.invokevirtual 9, 3) := by decide +kernel
theorem dL_areCounts_212 : decode cL_areCounts 212 = .ok (.invokevirtual 25, 3) := by decide +kernel
theorem dL_areCounts_215 : decode cL_areCounts 215 = .ok (.aload_n 0, 1) := by decide +kernel
theorem dL_areCounts_216 : decode cL_areCounts 216 = .ok (.iload 6, 2) := by decide +kernel
theorem dL_areCounts_218 : decode cL_areCounts 218 = .ok (.iconst 5, 1) := by decide +kernel
theorem dL_areCounts_219 : decode cL_areCounts 219 = .ok (.invokevirtual 19, 3) := by decide +kernel
theorem dL_areCounts_222 : decode cL_areCounts 222 = .ok (.if_icmp .ne 7, 3) := by decide +kernel
theorem dL_areCounts_225 : decode cL_areCounts 225 = .ok (.iconst 1, 1) := by decide +kernel
theorem dL_areCounts_226 : decode cL_areCounts 226 = .ok (.goto 4, 3) := by decide +kernel
theorem dL_areCounts_229 : decode cL_areCounts 229 = .ok (.iconst 0, 1) := by decide +kernel
theorem dL_areCounts_230 : decode cL_areCounts 230 = .ok (.istore 5, 2) := by decide +kernel
theorem dL_areCounts_232 : decode cL_areCounts 232 = .ok (.iload_n 2, 1) := by decide +kernel
theorem dL_areCounts_233 : decode cL_areCounts 233 = .ok (.aload_n 0, 1) := by decide +kernel
theorem dL_areCounts_234 : decode cL_areCounts 234 = .ok (.iload 6, 2) := by decide +kernel
theorem dL_areCounts_236 : decode cL_areCounts 236 = .ok (.iconst 5, 1) := by decide +kernel
theorem dL_areCounts_237 : decode cL_areCounts 237 = .ok (.invokevirtual 19, 3) := by decide +kernel
theorem dL_areCounts_240 : decode cL_areCounts 240 = .ok (.iadd, 1) := by decide +kernel
theorem dL_areCounts_241 : decode cL_areCounts 241 = .ok (.istore_n 2, 1) := by decide +kernel
theorem dL_areCounts_242 : decode cL_areCounts 242 = .ok (.iload_n 3, 1) := by decide +kernel
theorem dL_areCounts_243 : decode cL_areCounts 243 = .ok (.aload_n 0, 1) := by decide +kernel
theorem dL_areCounts_244 : decode cL_areCounts 244 = .ok (.iload 6, 2) := by decide +kernel
theorem dL_areCounts_246 : decode cL_areCounts 246 = .ok (.iconst 2, 1) := by decide +kernel
theorem dL_areCounts_247 : decode cL_areCounts 247 = .ok (.invokevirtual 19, 3) := by decide +kernel
theorem dL_areCounts_250 : decode cL_areCounts 250 = .ok (.iadd, 1) := by decide +kernel
theorem dL_areCounts_251 : decode cL_areCounts 251 = .ok (.istore_n 3, 1) := by decide +kernel
theorem dL_areCounts_252 : decode cL_areCounts 252 = .ok (.iload 4, 2) := by decide +kernel
theorem dL_areCounts_254 : decode cL_areCounts 254 = .ok (.aload_n 0, 1) := by decide +kernel
theorem dL_areCounts_255 : decode cL_areCounts 255 = .ok (.iload 6, 2) := by decide +kernel
theorem dL_areCounts_257 : decode cL_areCounts 257 = .ok (.iconst 3, 1) := by decide +kernel
theorem dL_areCounts_258 : decode cL_areCounts 258 = .ok (.invokevirtual 19, 3) := by decide +kernel
theorem dL_areCounts_261 : decode cL_areCounts 261 = .ok (.iadd, 1) := by decide +kernel
theorem dL_areCounts_262 : decode cL_areCounts 262 = .ok (.istore 4, 2) := by decide +kernel
theorem dL_areCounts_264 : decode cL_areCounts 264 = .ok (.iinc 6 1, 3) := by decide +kernel
theorem dL_areCounts_267 : decode cL_areCounts 267 = .ok (.goto (-254), 3) := by decide +kernel
theorem dL_areCounts_270 : decode cL_areCounts 270 = .ok (.iconst 0, 1) := by decide +kernel
theorem dL_areCounts_271 : decode cL_areCounts 271 = .ok (.istore 6, 2) := by decide +kernel
theorem dL_areCounts_273 : decode cL_areCounts 273 = .ok (.iload 6, 2) := by decide +kernel
theorem dL_areCounts_275 : decode cL_areCounts 275 = .ok (.aload_n 0, 1) := by decide +kernel
theorem dL_areCounts_276 : decode cL_areCounts 276 = .ok (.iconst 1, 1) := by decide +kernel
theorem dL_areCounts_277 : decode cL_areCounts 277 = .ok (.invokevirtual 9, 3) := by decide +kernel
theorem dL_areCounts_280 : decode cL_areCounts 280 = .ok (.if_icmp .ge 48, 3) := by decide +kernel
theorem dL_areCounts_283 : decode cL_areCounts 283 = .ok (.iload_n 3, 1) := by decide +kernel
theorem dL_areCounts_284 : decode cL_areCounts 284 = .ok (.aload_n 0, 1) := by decide +kernel
theorem dL_areCounts_285 : decode cL_areCounts 285 = .ok (.iload 6, 2) := by decide +kernel
theorem dL_areCounts_287 : decode cL_areCounts 287 = .ok (.iconst 3, 1) := by decide +kernel
theorem dL_areCounts_288 : decode cL_areCounts 288 = .ok (.invokevirtual 28, 3) := by decide +kernel
theorem dL_areCounts_291 : decode cL_areCounts 291 = .ok (.isub, 1) := by decide +kernel
theorem dL_areCounts_292 : decode cL_areCounts 292 = .ok (.istore_n 3, 1) := by decide +kernel
theorem dL_areCounts_293 : decode cL_areCounts 293 = .ok (.iload 5, 2) := by decide +kernel
theorem dL_areCounts_295 : decode cL_areCounts 295 = .ok (.ifCond .eq 24, 3) := by decide +kernel
theorem dL_areCounts_298 : decode cL_areCounts 298 = .ok (.aload_n 0, 1) := by decide +kernel
theorem dL_areCounts_299 : decode cL_areCounts 299 = .ok (.iload 6, 2) := by decide +kernel
theorem dL_areCounts_301 : decode cL_areCounts 301 = .ok (.iconst 2, 1) := by decide +kernel
theorem dL_areCounts_302 : decode cL_areCounts 302 = .ok (.invokevirtual 28, 3) := by decide +kernel
theorem dL_areCounts_305 : decode cL_areCounts 305 = .ok (.aload_n 0, 1) := by decide +kernel
theorem dL_areCounts_306 : decode cL_areCounts 306 = .ok (.iload 6, 2) := by decide +kernel
theorem dL_areCounts_308 : decode cL_areCounts 308 = .ok (.iconst 1, 1) := by decide +kernel
theorem dL_areCounts_309 : decode cL_areCounts 309 = .ok (.invokevirtual 28, 3) := by decide +kernel
theorem dL_areCounts_312 : decode cL_areCounts 312 = .ok (.if_icmp .gt 7, 3) := by decide +kernel
theorem dL_areCounts_315 : decode cL_areCounts 315 = .ok (.iconst 1, 1) := by decide +kernel
theorem dL_areCounts_316 : decode cL_areCounts 316 = .ok (.goto 4, 3) := by decide +kernel
theorem dL_areCounts_319 : decode cL_areCounts 319 = .ok (.iconst 0, 1) := by decide +kernel
theorem dL_areCounts_320 : decode cL_areCounts 320 = .ok (.istore 5, 2) := by decide +kernel
theorem dL_areCounts_322 : decode cL_areCounts 322 = .ok (.iinc 6 1, 3) := by decide +kernel
theorem dL_areCounts_325 : decode cL_areCounts 325 = .ok (.goto (-52), 3) := by decide +kernel
theorem dL_areCounts_328 : decode cL_areCounts 328 = .ok (.iload 5, 2) := by decide +kernel
theorem dL_areCounts_330 : decode cL_areCounts 330 = .ok (.ifCond .eq 45, 3) := by decide +kernel
theorem dL_areCounts_333 : decode cL_areCounts 333 = .ok (.aload_n 0, 1) := by decide +kernel
theorem dL_areCounts_334 : decode cL_areCounts 334 = .ok (.bipush 8, 2) := by decide +kernel
theorem dL_areCounts_336 : decode cL_areCounts 336 = .ok (.invokevirtual 9, 3) := by decide +kernel
theorem dL_areCounts_339 : decode cL_areCounts 339 = .ok (.iload_n 2, 1) := by decide +kernel
theorem dL_areCounts_340 : decode cL_areCounts 340 = .ok (.if_icmp .ne 35, 3) := by decide +kernel
theorem dL_areCounts_343 : decode cL_areCounts 343 = .ok (.iload_n 3, 1) := by decide +kernel
theorem dL_areCounts_344 : decode cL_areCounts 344 = .ok (.ifCond .ne 31, 3) := by decide +kernel
theorem dL_areCounts_347 : decode cL_areCounts 347 = .ok (.aload_n 0, 1) := by decide +kernel
theorem dL_areCounts_348 : decode cL_areCounts 348 = .ok (.bipush 7, 2) := by decide +kernel
theorem dL_areCounts_350 : decode cL_areCounts 350 = .ok (.invokevirtual 9, 3) := by decide +kernel
theorem dL_areCounts_353 : decode cL_areCounts 353 = .ok (.iload 4, 2) := by decide +kernel
theorem dL_areCounts_355 : decode cL_areCounts 355 = .ok (.if_icmp .ne 20, 3) := by decide +kernel
theorem dL_areCounts_358 : decode cL_areCounts 358 = .ok (.aload_n 0, 1) := by decide +kernel
theorem dL_areCounts_359 : decode cL_areCounts 359 = .ok (.aload_n 0, 1) := by decide +kernel
theorem dL_areCounts_360 : decode cL_areCounts 360 = .ok (.iconst 4, 1) := by decide +kernel
theorem dL_areCounts_361 : decode cL_areCounts 361 = .ok (.invokevirtual 9, 3) := by decide +kernel
theorem dL_areCounts_364 : decode cL_areCounts 364 = .ok (.invokevirtual 31, 3) := by decide +kernel
theorem dL_areCounts_367 : decode cL_areCounts 367 = .ok (.iload_n 2, 1) := by decide +kernel
theorem dL_areCounts_368 : decode cL_areCounts 368 = .ok (.if_icmp .gt 7, 3) := by decide +kernel
theorem dL_areCounts_371 : decode cL_areCounts 371 = .ok (.iconst 1, 1) := by decide +kernel
theorem dL_areCounts_372 : decode cL_areCounts 372 = .ok (.goto 4, 3) := by decide +kernel
theorem dL_areCounts_375 : decode cL_areCounts 375 = .ok (.iconst 0, 1) := by decide +kernel
theorem dL_areCounts_376 : decode cL_areCounts 376 = .ok (.ireturn, 1) := by decide +kernel
theorem dL_isStep_0 : decode cL_isStep 0 = .ok (.iload_n 3, 1) := by decide +kernel
theorem dL_isStep_1 : decode cL_isStep 1 = .ok (.iconst 4, 1) := by decide +kernel
theorem dL_isStep_2 : decode cL_isStep 2 = .ok (.ishr, 1) := by decide +kernel
theorem dL_isStep_3 : decode cL_isStep 3 = .ok (.istore 4, 2) := by decide +kernel
theorem dL_isStep_5 : decode cL_isStep 5 = .ok (.aload_n 0, 1) := by decide +kernel
theorem dL_isStep_6 : decode cL_isStep 6 = .ok (.iconst 4, 1) := by decide +kernel
theorem dL_isStep_7 : decode cL_isStep 7 = .ok (.invokevirtual 9, 3) := by decide +kernel
theorem dL_isStep_10 : decode cL_isStep 10 = .ok (.iload 4, 2) := by decide +kernel
theorem dL_isStep_12 : decode cL_isStep 12 = .ok (.iconst 3, 1) := by decide +kernel
theorem dL_isStep_13 : decode cL_isStep 13 = .ok (.invokestatic 34, 3) := by decide +kernel
theorem dL_isStep_16 : decode cL_isStep 16 = .ok (.iadd, 1) := by decide +kernel
theorem dL_isStep_17 : decode cL_isStep 17 = .ok (.bipush 19, 2) := by decide +kernel
theorem dL_isStep_19 : decode cL_isStep 19 = .ok (.if_icmp .le 8, 3) := by decide +kernel
theorem dL_isStep_22 : decode cL_isStep 22 = .ok (.bipush 19, 2) := by decide +kernel
theorem dL_isStep_24 : decode cL_isStep 24 = .ok (.goto 15, 3) := by decide +kernel
theorem dL_isStep_27 : decode cL_isStep 27 = .ok (.aload_n 0, 1) := by decide +kernel
theorem dL_isStep_28 : decode cL_isStep 28 = .ok (.iconst 4, 1) := by decide +kernel
theorem dL_isStep_29 : decode cL_isStep 29 = .ok (.invokevirtual 9, 3) := by decide +kernel
theorem dL_isStep_32 : decode cL_isStep 32 = .ok (.iload 4, 2) := by decide +kernel
theorem dL_isStep_34 : decode cL_isStep 34 = .ok (.iconst 3, 1) := by decide +kernel
theorem dL_isStep_35 : decode cL_isStep 35 = .ok (.invokestatic 34, 3) := by decide +kernel
theorem dL_isStep_38 : decode cL_isStep 38 = .ok (.iadd, 1) := by decide +kernel
theorem dL_isStep_39 : decode cL_isStep 39 = .ok (.istore 5, 2) := by decide +kernel
theorem dL_isStep_41 : decode cL_isStep 41 = .ok (.iload_n 3, 1) := by decide +kernel
theorem dL_isStep_42 : decode cL_isStep 42 = .ok (.bipush 9, 2) := by decide +kernel
theorem dL_isStep_44 : decode cL_isStep 44 = .ok (.invokestatic 34, 3) := by decide +kernel
theorem dL_isStep_47 : decode cL_isStep 47 = .ok (.tableswitch 422 0 6 #[41, 101, 101, 220, 250, 278, 278], 41) := by decide +kernel
theorem dL_isStep_88 : decode cL_isStep 88 = .ok (.aload_n 0, 1) := by decide +kernel
theorem dL_isStep_89 : decode cL_isStep 89 = .ok (.iconst 4, 1) := by decide +kernel
theorem dL_isStep_90 : decode cL_isStep 90 = .ok (.invokevirtual 9, 3) := by decide +kernel
theorem dL_isStep_93 : decode cL_isStep 93 = .ok (.bipush 19, 2) := by decide +kernel
theorem dL_isStep_95 : decode cL_isStep 95 = .ok (.if_icmp .ne 5, 3) := by decide +kernel
theorem dL_isStep_98 : decode cL_isStep 98 = .ok (.iconst 1, 1) := by decide +kernel
theorem dL_isStep_99 : decode cL_isStep 99 = .ok (.ireturn, 1) := by decide +kernel
theorem dL_isStep_100 : decode cL_isStep 100 = .ok (.aload_n 0, 1) := by decide +kernel
theorem dL_isStep_101 : decode cL_isStep 101 = .ok (.bipush 7, 2) := by decide +kernel
theorem dL_isStep_103 : decode cL_isStep 103 = .ok (.invokevirtual 9, 3) := by decide +kernel
theorem dL_isStep_106 : decode cL_isStep 106 = .ok (.istore 6, 2) := by decide +kernel
theorem dL_isStep_108 : decode cL_isStep 108 = .ok (.aload_n 0, 1) := by decide +kernel
theorem dL_isStep_109 : decode cL_isStep 109 = .ok (.invokevirtual 39, 3) := by decide +kernel
theorem dL_isStep_112 : decode cL_isStep 112 = .ok (.aload_n 0, 1) := by decide +kernel
theorem dL_isStep_113 : decode cL_isStep 113 = .ok (.bipush 7, 2) := by decide +kernel
theorem dL_isStep_115 : decode cL_isStep 115 = .ok (.invokevirtual 9, 3) := by decide +kernel
theorem dL_isStep_118 : decode cL_isStep 118 = .ok (.iload 6, 2) := by decide +kernel
theorem dL_isStep_120 : decode cL_isStep 120 = .ok (.isub, 1) := by decide +kernel
theorem dL_isStep_121 : decode cL_isStep 121 = .ok (.if_icmp .ne 7, 3) := by decide +kernel
theorem dL_isStep_124 : decode cL_isStep 124 = .ok (.iconst 1, 1) := by decide +kernel
theorem dL_isStep_125 : decode cL_isStep 125 = .ok (.goto 4, 3) := by decide +kernel
theorem dL_isStep_128 : decode cL_isStep 128 = .ok (.iconst 0, 1) := by decide +kernel
theorem dL_isStep_129 : decode cL_isStep 129 = .ok (.istore 7, 2) := by decide +kernel
theorem dL_isStep_131 : decode cL_isStep 131 = .ok (.aload_n 0, 1) := by decide +kernel
theorem dL_isStep_132 : decode cL_isStep 132 = .ok (.aload_n 1, 1) := by decide +kernel
theorem dL_isStep_133 : decode cL_isStep 133 = .ok (.aload_n 0, 1) := by decide +kernel
theorem dL_isStep_134 : decode cL_isStep 134 = .ok (.iconst 4, 1) := by decide +kernel
theorem dL_isStep_135 : decode cL_isStep 135 = .ok (.invokevirtual 9, 3) := by decide +kernel
theorem dL_isStep_138 : decode cL_isStep 138 = .ok (.iconst 4, 1) := by decide +kernel
theorem dL_isStep_139 : decode cL_isStep 139 = .ok (.isub, 1) := by decide +kernel
theorem dL_isStep_140 : decode cL_isStep 140 = .ok (.iconst (-1), 1) := by decide +kernel
theorem dL_isStep_141 : decode cL_isStep 141 = .ok (.aload_n 2, 1) := by decide +kernel
theorem dL_isStep_142 : decode cL_isStep 142 = .ok (.invokestatic 43, 3) := by decide +kernel
theorem dL_isStep_145 : decode cL_isStep 145 = .ok (.iload 7, 2) := by decide +kernel
theorem dL_isStep_147 : decode cL_isStep 147 = .ok (.ireturn, 1) := by decide +kernel
theorem dL_isStep_148 : decode cL_isStep 148 = .ok (.aload_n 0, 1) := by decide +kernel
theorem dL_isStep_149 : decode cL_isStep 149 = .ok (.iload 5, 2) := by decide +kernel
theorem dL_isStep_151 : decode cL_isStep 151 = .ok (.invokevirtual 31, 3) := by decide +kernel
theorem dL_isStep_154 : decode cL_isStep 154 = .ok (.istore 6, 2) := by decide +kernel
theorem dL_isStep_156 : decode cL_isStep 156 = .ok (.aload_n 0, 1) := by decide +kernel
theorem dL_isStep_157 : decode cL_isStep 157 = .ok (.iload 4, 2) := by decide +kernel
theorem dL_isStep_159 : decode cL_isStep 159 = .ok (.iconst 2, 1) := by decide +kernel
theorem dL_isStep_160 : decode cL_isStep 160 = .ok (.invokestatic 34, 3) := by decide +kernel
theorem dL_isStep_163 : decode cL_isStep 163 = .ok (.iload 5, 2) := by decide +kernel
theorem dL_isStep_165 : decode cL_isStep 165 = .ok (.invokevirtual 47, 3) := by decide +kernel
theorem dL_isStep_168 : decode cL_isStep 168 = .ok (.istore 7, 2) := by decide +kernel
theorem dL_isStep_170 : decode cL_isStep 170 = .ok (.aload_n 1, 1) := by decide +kernel
theorem dL_isStep_171 : decode cL_isStep 171 = .ok (.bipush 63, 2) := by decide +kernel
theorem dL_isStep_173 : decode cL_isStep 173 = .ok (.iaload, 1) := by decide +kernel
theorem dL_isStep_174 : decode cL_isStep 174 = .ok (.istore 8, 2) := by decide +kernel
theorem dL_isStep_176 : decode cL_isStep 176 = .ok (.aload_n 0, 1) := by decide +kernel
theorem dL_isStep_177 : decode cL_isStep 177 = .ok (.iload 5, 2) := by decide +kernel
theorem dL_isStep_179 : decode cL_isStep 179 = .ok (.invokevirtual 50, 3) := by decide +kernel
theorem dL_isStep_182 : decode cL_isStep 182 = .ok (.istore 9, 2) := by decide +kernel
theorem dL_isStep_184 : decode cL_isStep 184 = .ok (.iconst 0, 1) := by decide +kernel
theorem dL_isStep_185 : decode cL_isStep 185 = .ok (.istore 10, 2) := by decide +kernel
theorem dL_isStep_187 : decode cL_isStep 187 = .ok (.aload_n 1, 1) := by decide +kernel
theorem dL_isStep_188 : decode cL_isStep 188 = .ok (.iload 8, 2) := by decide +kernel
theorem dL_isStep_190 : decode cL_isStep 190 = .ok (.iload 8, 2) := by decide +kernel
theorem dL_isStep_192 : decode cL_isStep 192 = .ok (.iload 9, 2) := by decide +kernel
theorem dL_isStep_194 : decode cL_isStep 194 = .ok (.iadd, 1) := by decide +kernel
theorem dL_isStep_195 : decode cL_isStep 195 = .ok (.invokestatic 53, 3) := by decide +kernel
theorem dL_isStep_198 : decode cL_isStep 198 = .ok (.iconst 0, 1) := by decide +kernel
theorem dL_isStep_199 : decode cL_isStep 199 = .ok (.istore 11, 2) := by decide +kernel
theorem dL_isStep_201 : decode cL_isStep 201 = .ok (.iload 11, 2) := by decide +kernel
theorem dL_isStep_203 : decode cL_isStep 203 = .ok (.aload_n 0, 1) := by decide +kernel
theorem dL_isStep_204 : decode cL_isStep 204 = .ok (.iconst 0, 1) := by decide +kernel
theorem dL_isStep_205 : decode cL_isStep 205 = .ok (.invokevirtual 9, 3) := by decide +kernel
theorem dL_isStep_208 : decode cL_isStep 208 = .ok (.if_icmp .ge 22, 3) := by decide +kernel
theorem dL_isStep_211 : decode cL_isStep 211 = .ok (.iload 10, 2) := by decide +kernel
theorem dL_isStep_213 : decode cL_isStep 213 = .ok (.aload_n 0, 1) := by decide +kernel
theorem dL_isStep_214 : decode cL_isStep 214 = .ok (.iload 11, 2) := by decide +kernel
theorem dL_isStep_216 : decode cL_isStep 216 = .ok (.iload 5, 2) := by decide +kernel
theorem dL_isStep_218 : decode cL_isStep 218 = .ok (.invokevirtual 25, 3) := by decide +kernel
theorem dL_isStep_221 : decode cL_isStep 221 = .ok (.iadd, 1) := by decide +kernel
theorem dL_isStep_222 : decode cL_isStep 222 = .ok (.istore 10, 2) := by decide +kernel
theorem dL_isStep_224 : decode cL_isStep 224 = .ok (.iinc 11 1, 3) := by decide +kernel
theorem dL_isStep_227 : decode cL_isStep 227 = .ok (.goto (-26), 3) := by decide +kernel
theorem dL_isStep_230 : decode cL_isStep 230 = .ok (.iload 10, 2) := by decide +kernel
theorem dL_isStep_232 : decode cL_isStep 232 = .ok (.iload 6, 2) := by decide +kernel
theorem dL_isStep_234 : decode cL_isStep 234 = .ok (.if_icmp .ne 31, 3) := by decide +kernel
theorem dL_isStep_237 : decode cL_isStep 237 = .ok (.aload_n 0, 1) := by decide +kernel
theorem dL_isStep_238 : decode cL_isStep 238 = .ok (.iload 5, 2) := by decide +kernel
theorem dL_isStep_240 : decode cL_isStep 240 = .ok (.invokevirtual 50, 3) := by decide +kernel
theorem dL_isStep_243 : decode cL_isStep 243 = .ok (.ifCond .ne 22, 3) := by decide +kernel
theorem dL_isStep_246 : decode cL_isStep 246 = .ok (.aload_n 0, 1) := by decide +kernel
theorem dL_isStep_247 : decode cL_isStep 247 = .ok (.invokevirtual 57, 3) := by decide +kernel
theorem dL_isStep_250 : decode cL_isStep 250 = .ok (.ifCond .lt 15, 3) := by decide +kernel
theorem dL_isStep_253 : decode cL_isStep 253 = .ok (.iload 7, 2) := by decide +kernel
theorem dL_isStep_255 : decode cL_isStep 255 = .ok (.iload 9, 2) := by decide +kernel
theorem dL_isStep_257 : decode cL_isStep 257 = .ok (.iadd, 1) := by decide +kernel
theorem dL_isStep_258 : decode cL_isStep 258 = .ok (.ifCond .lt 7, 3) := by decide +kernel
theorem dL_isStep_261 : decode cL_isStep 261 = .ok (.iconst 1, 1) := by decide +kernel
theorem dL_isStep_262 : decode cL_isStep 262 = .ok (.goto 4, 3) := by decide +kernel
theorem dL_isStep_265 : decode cL_isStep 265 = .ok (.iconst 0, 1) := by decide +kernel
theorem dL_isStep_266 : decode cL_isStep 266 = .ok (.ireturn, 1) := by decide +kernel
theorem dL_isStep_267 : decode cL_isStep 267 = .ok (.aload_n 0, 1) := by decide +kernel
theorem dL_isStep_268 : decode cL_isStep 268 = .ok (.iload 4, 2) := by decide +kernel
theorem dL_isStep_270 : decode cL_isStep 270 = .ok (.iconst 3, 1) := by decide +kernel
theorem dL_isStep_271 : decode cL_isStep 271 = .ok (.invokestatic 34, 3) := by decide +kernel
theorem dL_isStep_274 : decode cL_isStep 274 = .ok (.iload 5, 2) := by decide +kernel
theorem dL_isStep_276 : decode cL_isStep 276 = .ok (.iload 4, 2) := by decide +kernel
theorem dL_isStep_278 : decode cL_isStep 278 = .ok (.iconst 4, 1) := by decide +kernel
theorem dL_isStep_279 : decode cL_isStep 279 = .ok (.ishr, 1) := by decide +kernel
theorem dL_isStep_280 : decode cL_isStep 280 = .ok (.bipush 8, 2) := by decide +kernel
theorem dL_isStep_282 : decode cL_isStep 282 = .ok (.invokestatic 34, 3) := by decide +kernel
theorem dL_isStep_285 : decode cL_isStep 285 = .ok (.invokevirtual 60, 3) := by decide +kernel
theorem dL_isStep_288 : decode cL_isStep 288 = .ok (.ifCond .lt 7, 3) := by decide +kernel
theorem dL_isStep_291 : decode cL_isStep 291 = .ok (.iconst 1, 1) := by decide +kernel
theorem dL_isStep_292 : decode cL_isStep 292 = .ok (.goto 4, 3) := by decide +kernel
theorem dL_isStep_295 : decode cL_isStep 295 = .ok (.iconst 0, 1) := by decide +kernel
theorem dL_isStep_296 : decode cL_isStep 296 = .ok (.ireturn, 1) := by decide +kernel
theorem dL_isStep_297 : decode cL_isStep 297 = .ok (.aload_n 0, 1) := by decide +kernel
theorem dL_isStep_298 : decode cL_isStep 298 = .ok (.iload 4, 2) := by decide +kernel
theorem dL_isStep_300 : decode cL_isStep 300 = .ok (.iconst 2, 1) := by decide +kernel
theorem dL_isStep_301 : decode cL_isStep 301 = .ok (.invokestatic 34, 3) := by decide +kernel
theorem dL_isStep_304 : decode cL_isStep 304 = .ok (.iload 4, 2) := by decide +kernel
theorem dL_isStep_306 : decode cL_isStep 306 = .ok (.iconst 1, 1) := by decide +kernel
theorem dL_isStep_307 : decode cL_isStep 307 = .ok (.ishr, 1) := by decide +kernel
theorem dL_isStep_308 : decode cL_isStep 308 = .ok (.ldc 64, 2) := by decide +kernel
theorem dL_isStep_310 : decode cL_isStep 310 = .ok (.invokestatic 34, 3) := by decide +kernel
theorem dL_isStep_313 : decode cL_isStep 313 = .ok (.invokevirtual 65, 3) := by decide +kernel
theorem dL_isStep_316 : decode cL_isStep 316 = .ok (.ifCond .lt 7, 3) := by decide +kernel
theorem dL_isStep_319 : decode cL_isStep 319 = .ok (.iconst 1, 1) := by decide +kernel
theorem dL_isStep_320 : decode cL_isStep 320 = .ok (.goto 4, 3) := by decide +kernel
theorem dL_isStep_323 : decode cL_isStep 323 = .ok (.iconst 0, 1) := by decide +kernel
theorem dL_isStep_324 : decode cL_isStep 324 = .ok (.ireturn, 1) := by decide +kernel
theorem dL_isStep_325 : decode cL_isStep 325 = .ok (.iload 4, 2) := by decide +kernel
theorem dL_isStep_327 : decode cL_isStep 327 = .ok (.iconst 3, 1) := by decide +kernel
theorem dL_isStep_328 : decode cL_isStep 328 = .ok (.invokestatic 34, 3) := by decide +kernel
theorem dL_isStep_331 : decode cL_isStep 331 = .ok (.istore 6, 2) := by decide +kernel
theorem dL_isStep_333 : decode cL_isStep 333 = .ok (.iload 4, 2) := by decide +kernel
theorem dL_isStep_335 : decode cL_isStep 335 = .ok (.iconst 2, 1) := by decide +kernel
theorem dL_isStep_336 : decode cL_isStep 336 = .ok (.ishr, 1) := by decide +kernel
theorem dL_isStep_337 : decode cL_isStep 337 = .ok (.bipush 28, 2) := by decide +kernel
theorem dL_isStep_339 : decode cL_isStep 339 = .ok (.invokestatic 34, 3) := by decide +kernel
theorem dL_isStep_342 : decode cL_isStep 342 = .ok (.istore 7, 2) := by decide +kernel
theorem dL_isStep_344 : decode cL_isStep 344 = .ok (.iload 4, 2) := by decide +kernel
theorem dL_isStep_346 : decode cL_isStep 346 = .ok (.bipush 7, 2) := by decide +kernel
theorem dL_isStep_348 : decode cL_isStep 348 = .ok (.ishr, 1) := by decide +kernel
theorem dL_isStep_349 : decode cL_isStep 349 = .ok (.iconst 2, 1) := by decide +kernel
theorem dL_isStep_350 : decode cL_isStep 350 = .ok (.invokestatic 34, 3) := by decide +kernel
theorem dL_isStep_353 : decode cL_isStep 353 = .ok (.istore 8, 2) := by decide +kernel
theorem dL_isStep_355 : decode cL_isStep 355 = .ok (.iload 4, 2) := by decide +kernel
theorem dL_isStep_357 : decode cL_isStep 357 = .ok (.bipush 8, 2) := by decide +kernel
theorem dL_isStep_359 : decode cL_isStep 359 = .ok (.ishr, 1) := by decide +kernel
theorem dL_isStep_360 : decode cL_isStep 360 = .ok (.iconst 2, 1) := by decide +kernel
theorem dL_isStep_361 : decode cL_isStep 361 = .ok (.invokestatic 34, 3) := by decide +kernel
theorem dL_isStep_364 : decode cL_isStep 364 = .ok (.istore 9, 2) := by decide +kernel
theorem dL_isStep_366 : decode cL_isStep 366 = .ok (.aload_n 0, 1) := by decide +kernel
theorem dL_isStep_367 : decode cL_isStep 367 = .ok (.iload 6, 2) := by decide +kernel
theorem dL_isStep_369 : decode cL_isStep 369 = .ok (.iload 5, 2) := by decide +kernel
theorem dL_isStep_371 : decode cL_isStep 371 = .ok (.invokevirtual 68, 3) := by decide +kernel
theorem dL_isStep_374 : decode cL_isStep 374 = .ok (.istore 10, 2) := by decide +kernel
theorem dL_isStep_376 : decode cL_isStep 376 = .ok (.aload_n 0, 1) := by decide +kernel
theorem dL_isStep_377 : decode cL_isStep 377 = .ok (.iload 6, 2) := by decide +kernel
theorem dL_isStep_379 : decode cL_isStep 379 = .ok (.iload 5, 2) := by decide +kernel
theorem dL_isStep_381 : decode cL_isStep 381 = .ok (.iload 7, 2) := by decide +kernel
theorem dL_isStep_383 : decode cL_isStep 383 = .ok (.iload 8, 2) := by decide +kernel
theorem dL_isStep_385 : decode cL_isStep 385 = .ok (.iload 9, 2) := by decide +kernel
theorem dL_isStep_387 : decode cL_isStep 387 = .ok (.invokevirtual 71, 3) := by decide +kernel
theorem dL_isStep_390 : decode cL_isStep 390 = .ok (.ifCond .eq 5, 3) := by decide +kernel
theorem dL_isStep_393 : decode cL_isStep 393 = .ok (.iconst 1, 1) := by decide +kernel
theorem dL_isStep_394 : decode cL_isStep 394 = .ok (.ireturn, 1) := by decide +kernel
theorem dL_isStep_395 : decode cL_isStep 395 = .ok (.aload_n 0, 1) := by decide +kernel
theorem dL_isStep_396 : decode cL_isStep 396 = .ok (.iload 6, 2) := by decide +kernel
theorem dL_isStep_398 : decode cL_isStep 398 = .ok (.iload 5, 2) := by decide +kernel
theorem dL_isStep_400 : decode cL_isStep 400 = .ok (.iload 7, 2) := by decide +kernel
theorem dL_isStep_402 : decode cL_isStep 402 = .ok (.iload 8, 2) := by decide +kernel
theorem dL_isStep_404 : decode cL_isStep 404 = .ok (.iload 9, 2) := by decide +kernel
theorem dL_isStep_406 : decode cL_isStep 406 = .ok (.invokevirtual 75, 3) := by decide +kernel
theorem dL_isStep_409 : decode cL_isStep 409 = .ok (.istore 11, 2) := by decide +kernel
theorem dL_isStep_411 : decode cL_isStep 411 = .ok (.aload_n 1, 1) := by decide +kernel
theorem dL_isStep_412 : decode cL_isStep 412 = .ok (.iload 11, 2) := by decide +kernel
theorem dL_isStep_414 : decode cL_isStep 414 = .ok (.iload 11, 2) := by decide +kernel
theorem dL_isStep_416 : decode cL_isStep 416 = .ok (.iconst 1, 1) := by decide +kernel
theorem dL_isStep_417 : decode cL_isStep 417 = .ok (.iadd, 1) := by decide +kernel
theorem dL_isStep_418 : decode cL_isStep 418 = .ok (.invokestatic 53, 3) := by decide +kernel
theorem dL_isStep_421 : decode cL_isStep 421 = .ok (.iload 10, 2) := by decide +kernel
theorem dL_isStep_423 : decode cL_isStep 423 = .ok (.ifCond .lt 44, 3) := by decide +kernel
theorem dL_isStep_426 : decode cL_isStep 426 = .ok (.iload 10, 2) := by decide +kernel
theorem dL_isStep_428 : decode cL_isStep 428 = .ok (.iload 7, 2) := by decide +kernel
theorem dL_isStep_430 : decode cL_isStep 430 = .ok (.if_icmp .gt 37, 3) := by decide +kernel
theorem dL_isStep_433 : decode cL_isStep 433 = .ok (.aload_n 0, 1) := by decide +kernel
theorem dL_isStep_434 : decode cL_isStep 434 = .ok (.iload 6, 2) := by decide +kernel
theorem dL_isStep_436 : decode cL_isStep 436 = .ok (.iload 5, 2) := by decide +kernel
theorem dL_isStep_438 : decode cL_isStep 438 = .ok (.iload 7, 2) := by decide +kernel
theorem dL_isStep_440 : decode cL_isStep 440 = .ok (.iload 8, 2) := by decide +kernel
theorem dL_isStep_442 : decode cL_isStep 442 = .ok (.iload 9, 2) := by decide +kernel
theorem dL_isStep_444 : decode cL_isStep 444 = .ok (.invokevirtual 71, 3) := by decide +kernel
theorem dL_isStep_447 : decode cL_isStep 447 = .ok (.iconst 3, 1) := by decide +kernel
theorem dL_isStep_448 : decode cL_isStep 448 = .ok (.if_icmp .ne 19, 3) := by decide +kernel
theorem dL_isStep_451 : decode cL_isStep 451 = .ok (.aload_n 0, 1) := by decide +kernel
theorem dL_isStep_452 : decode cL_isStep 452 = .ok (.iload 11, 2) := by decide +kernel
theorem dL_isStep_454 : decode cL_isStep 454 = .ok (.iconst 2, 1) := by decide +kernel
theorem dL_isStep_455 : decode cL_isStep 455 = .ok (.invokevirtual 15, 3) := by decide +kernel
theorem dL_isStep_458 : decode cL_isStep 458 = .ok (.iload 7, 2) := by decide +kernel
theorem dL_isStep_460 : decode cL_isStep 460 = .ok (.if_icmp .ne 7, 3) := by decide +kernel
theorem dL_isStep_463 : decode cL_isStep 463 = .ok (.iconst 1, 1) := by decide +kernel
theorem dL_isStep_464 : decode cL_isStep 464 = .ok (.goto 4, 3) := by decide +kernel
theorem dL_isStep_467 : decode cL_isStep 467 = .ok (.iconst 0, 1) := by decide +kernel
theorem dL_isStep_468 : decode cL_isStep 468 = .ok (.ireturn, 1) := by decide +kernel
theorem dL_isStep_469 : decode cL_isStep 469 = .ok (.aload_n 1, 1) := by decide +kernel
theorem dL_isStep_470 : decode cL_isStep 470 = .ok (.bipush 62, 2) := by decide +kernel
theorem dL_isStep_472 : decode cL_isStep 472 = .ok (.iaload, 1) := by decide +kernel
theorem dL_isStep_473 : decode cL_isStep 473 = .ok (.ifCond .ne 5, 3) := by decide +kernel
theorem dL_isStep_476 : decode cL_isStep 476 = .ok (.iconst 1, 1) := by decide +kernel
theorem dL_isStep_477 : decode cL_isStep 477 = .ok (.ireturn, 1) := by decide +kernel
theorem dL_isStep_478 : decode cL_isStep 478 = .ok (.iload 4, 2) := by decide +kernel
theorem dL_isStep_480 : decode cL_isStep 480 = .ok (.aload_n 1, 1) := by decide +kernel
theorem dL_isStep_481 : decode cL_isStep 481 = .ok (.bipush 62, 2) := by decide +kernel
theorem dL_isStep_483 : decode cL_isStep 483 = .ok (.iaload, 1) := by decide +kernel
theorem dL_isStep_484 : decode cL_isStep 484 = .ok (.invokestatic 34, 3) := by decide +kernel
theorem dL_isStep_487 : decode cL_isStep 487 = .ok (.istore 6, 2) := by decide +kernel
theorem dL_isStep_489 : decode cL_isStep 489 = .ok (.aload_n 1, 1) := by decide +kernel
theorem dL_isStep_490 : decode cL_isStep 490 = .ok (.iload 6, 2) := by decide +kernel
theorem dL_isStep_492 : decode cL_isStep 492 = .ok (.iaload, 1) := by decide +kernel
theorem dL_isStep_493 : decode cL_isStep 493 = .ok (.istore 7, 2) := by decide +kernel
theorem dL_isStep_495 : decode cL_isStep 495 = .ok (.aload_n 0, 1) := by decide +kernel
theorem dL_isStep_496 : decode cL_isStep 496 = .ok (.iload 7, 2) := by decide +kernel
theorem dL_isStep_498 : decode cL_isStep 498 = .ok (.iconst 5, 1) := by decide +kernel
theorem dL_isStep_499 : decode cL_isStep 499 = .ok (.invokevirtual 15, 3) := by decide +kernel
theorem dL_isStep_502 : decode cL_isStep 502 = .ok (.ifCond .eq 5, 3) := by decide +kernel
theorem dL_isStep_505 : decode cL_isStep 505 = .ok (.iconst 1, 1) := by decide +kernel
theorem dL_isStep_506 : decode cL_isStep 506 = .ok (.ireturn, 1) := by decide +kernel
theorem dL_isStep_507 : decode cL_isStep 507 = .ok (.aload_n 0, 1) := by decide +kernel
theorem dL_isStep_508 : decode cL_isStep 508 = .ok (.iload 7, 2) := by decide +kernel
theorem dL_isStep_510 : decode cL_isStep 510 = .ok (.iconst 1, 1) := by decide +kernel
theorem dL_isStep_511 : decode cL_isStep 511 = .ok (.invokevirtual 15, 3) := by decide +kernel
theorem dL_isStep_514 : decode cL_isStep 514 = .ok (.aload_n 0, 1) := by decide +kernel
theorem dL_isStep_515 : decode cL_isStep 515 = .ok (.iconst 4, 1) := by decide +kernel
theorem dL_isStep_516 : decode cL_isStep 516 = .ok (.invokevirtual 9, 3) := by decide +kernel
theorem dL_isStep_519 : decode cL_isStep 519 = .ok (.if_icmp .ne 71, 3) := by decide +kernel
theorem dL_isStep_522 : decode cL_isStep 522 = .ok (.iload 4, 2) := by decide +kernel
theorem dL_isStep_524 : decode cL_isStep 524 = .ok (.bipush 6, 2) := by decide +kernel
theorem dL_isStep_526 : decode cL_isStep 526 = .ok (.ishr, 1) := by decide +kernel
theorem dL_isStep_527 : decode cL_isStep 527 = .ok (.iconst 2, 1) := by decide +kernel
theorem dL_isStep_528 : decode cL_isStep 528 = .ok (.invokestatic 34, 3) := by decide +kernel
theorem dL_isStep_531 : decode cL_isStep 531 = .ok (.ifCond .ne 7, 3) := by decide +kernel
theorem dL_isStep_534 : decode cL_isStep 534 = .ok (.iconst 1, 1) := by decide +kernel
theorem dL_isStep_535 : decode cL_isStep 535 = .ok (.goto 4, 3) := by decide +kernel
theorem dL_isStep_538 : decode cL_isStep 538 = .ok (.iconst 0, 1) := by decide +kernel
theorem dL_isStep_539 : decode cL_isStep 539 = .ok (.istore 8, 2) := by decide +kernel
theorem dL_isStep_541 : decode cL_isStep 541 = .ok (.aload_n 0, 1) := by decide +kernel
theorem dL_isStep_542 : decode cL_isStep 542 = .ok (.iload 7, 2) := by decide +kernel
theorem dL_isStep_544 : decode cL_isStep 544 = .ok (.iload 8, 2) := by decide +kernel
theorem dL_isStep_546 : decode cL_isStep 546 = .ok (.invokevirtual 78, 3) := by decide +kernel
theorem dL_isStep_549 : decode cL_isStep 549 = .ok (.aload_n 0, 1) := by decide +kernel
theorem dL_isStep_550 : decode cL_isStep 550 = .ok (.aload_n 0, 1) := by decide +kernel
theorem dL_isStep_551 : decode cL_isStep 551 = .ok (.iload 7, 2) := by decide +kernel
theorem dL_isStep_553 : decode cL_isStep 553 = .ok (.iconst 0, 1) := by decide +kernel
theorem dL_isStep_554 : decode cL_isStep 554 = .ok (.invokevirtual 15, 3) := by decide +kernel
theorem dL_isStep_557 : decode cL_isStep 557 = .ok (.iconst 5, 1) := by decide +kernel
theorem dL_isStep_558 : decode cL_isStep 558 = .ok (.invokevirtual 19, 3) := by decide +kernel
theorem dL_isStep_561 : decode cL_isStep 561 = .ok (.if_icmp .ne 27, 3) := by decide +kernel
theorem dL_isStep_564 : decode cL_isStep 564 = .ok (.aload_n 0, 1) := by decide +kernel
theorem dL_isStep_565 : decode cL_isStep 565 = .ok (.iload 7, 2) := by decide +kernel
theorem dL_isStep_567 : decode cL_isStep 567 = .ok (.iconst 5, 1) := by decide +kernel
theorem dL_isStep_568 : decode cL_isStep 568 = .ok (.invokevirtual 15, 3) := by decide +kernel
theorem dL_isStep_571 : decode cL_isStep 571 = .ok (.iload 8, 2) := by decide +kernel
theorem dL_isStep_573 : decode cL_isStep 573 = .ok (.ifCond .eq 7, 3) := by decide +kernel
theorem dL_isStep_576 : decode cL_isStep 576 = .ok (.iconst 1, 1) := by decide +kernel
theorem dL_isStep_577 : decode cL_isStep 577 = .ok (.goto 4, 3) := by decide +kernel
theorem dL_isStep_580 : decode cL_isStep 580 = .ok (.iconst 2, 1) := by decide +kernel
theorem dL_isStep_581 : decode cL_isStep 581 = .ok (.if_icmp .ne 7, 3) := by decide +kernel
theorem dL_isStep_584 : decode cL_isStep 584 = .ok (.iconst 1, 1) := by decide +kernel
theorem dL_isStep_585 : decode cL_isStep 585 = .ok (.goto 4, 3) := by decide +kernel
theorem dL_isStep_588 : decode cL_isStep 588 = .ok (.iconst 0, 1) := by decide +kernel
theorem dL_isStep_589 : decode cL_isStep 589 = .ok (.ireturn, 1) := by decide +kernel
theorem dL_isStep_590 : decode cL_isStep 590 = .ok (.aload_n 0, 1) := by decide +kernel
theorem dL_isStep_591 : decode cL_isStep 591 = .ok (.iload 7, 2) := by decide +kernel
theorem dL_isStep_593 : decode cL_isStep 593 = .ok (.iconst 1, 1) := by decide +kernel
theorem dL_isStep_594 : decode cL_isStep 594 = .ok (.invokevirtual 15, 3) := by decide +kernel
theorem dL_isStep_597 : decode cL_isStep 597 = .ok (.istore 8, 2) := by decide +kernel
theorem dL_isStep_599 : decode cL_isStep 599 = .ok (.aload_n 0, 1) := by decide +kernel
theorem dL_isStep_600 : decode cL_isStep 600 = .ok (.iload 7, 2) := by decide +kernel
theorem dL_isStep_602 : decode cL_isStep 602 = .ok (.invokevirtual 82, 3) := by decide +kernel
theorem dL_isStep_605 : decode cL_isStep 605 = .ok (.iload 8, 2) := by decide +kernel
theorem dL_isStep_607 : decode cL_isStep 607 = .ok (.if_icmp .ne 7, 3) := by decide +kernel
theorem dL_isStep_610 : decode cL_isStep 610 = .ok (.iconst 1, 1) := by decide +kernel
theorem dL_isStep_611 : decode cL_isStep 611 = .ok (.goto 4, 3) := by decide +kernel
theorem dL_isStep_614 : decode cL_isStep 614 = .ok (.iconst 0, 1) := by decide +kernel
theorem dL_isStep_615 : decode cL_isStep 615 = .ok (.istore 9, 2) := by decide +kernel
theorem dL_isStep_617 : decode cL_isStep 617 = .ok (.aload_n 0, 1) := by decide +kernel
theorem dL_isStep_618 : decode cL_isStep 618 = .ok (.aload_n 1, 1) := by decide +kernel
theorem dL_isStep_619 : decode cL_isStep 619 = .ok (.iconst 0, 1) := by decide +kernel
theorem dL_isStep_620 : decode cL_isStep 620 = .ok (.iload 7, 2) := by decide +kernel
theorem dL_isStep_622 : decode cL_isStep 622 = .ok (.aload_n 2, 1) := by decide +kernel
theorem dL_isStep_623 : decode cL_isStep 623 = .ok (.invokestatic 43, 3) := by decide +kernel
theorem dL_isStep_626 : decode cL_isStep 626 = .ok (.iload 9, 2) := by decide +kernel
theorem dL_isStep_628 : decode cL_isStep 628 = .ok (.ireturn, 1) := by decide +kernel
theorem dL_law_0 : decode cL_law 0 = .ok (.new 10, 3) := by decide +kernel
theorem dL_law_3 : decode cL_law 3 = .ok (.dup, 1) := by decide +kernel
theorem dL_law_4 : decode cL_law 4 = .ok (.invokespecial 85, 3) := by decide +kernel
theorem dL_law_7 : decode cL_law 7 = .ok (.astore_n 1, 1) := by decide +kernel
theorem dL_law_8 : decode cL_law 8 = .ok (.bipush 64, 2) := by decide +kernel
theorem dL_law_10 : decode cL_law 10 = .ok (.newarray .int, 2) := by decide +kernel
theorem dL_law_12 : decode cL_law 12 = .ok (.astore_n 2, 1) := by decide +kernel
theorem dL_law_13 : decode cL_law 13 = .ok (.bipush 64, 2) := by decide +kernel
theorem dL_law_15 : decode cL_law 15 = .ok (.newarray .int, 2) := by decide +kernel
theorem dL_law_17 : decode cL_law 17 = .ok (.astore_n 3, 1) := by decide +kernel
theorem dL_law_18 : decode cL_law 18 = .ok (.aload_n 1, 1) := by decide +kernel
theorem dL_law_19 : decode cL_law 19 = .ok (.iconst 1, 1) := by decide +kernel
theorem dL_law_20 : decode cL_law 20 = .ok (.aload_n 0, 1) := by decide +kernel
theorem dL_law_21 : decode cL_law 21 = .ok (.iconst 0, 1) := by decide +kernel
theorem dL_law_22 : decode cL_law 22 = .ok (.invokestatic 86, 3) := by decide +kernel
theorem dL_law_25 : decode cL_law 25 = .ok (.iconst 3, 1) := by decide +kernel
theorem dL_law_26 : decode cL_law 26 = .ok (.invokestatic 34, 3) := by decide +kernel
theorem dL_law_29 : decode cL_law 29 = .ok (.iadd, 1) := by decide +kernel
theorem dL_law_30 : decode cL_law 30 = .ok (.invokevirtual 90, 3) := by decide +kernel
theorem dL_law_33 : decode cL_law 33 = .ok (.ifCond .ne 26, 3) := by decide +kernel
theorem dL_law_36 : decode cL_law 36 = .ok (.aload_n 1, 1) := by decide +kernel
theorem dL_law_37 : decode cL_law 37 = .ok (.iconst 1, 1) := by decide +kernel
theorem dL_law_38 : decode cL_law 38 = .ok (.aload_n 0, 1) := by decide +kernel
theorem dL_law_39 : decode cL_law 39 = .ok (.iconst 1, 1) := by decide +kernel
theorem dL_law_40 : decode cL_law 40 = .ok (.invokestatic 86, 3) := by decide +kernel
theorem dL_law_43 : decode cL_law 43 = .ok (.iconst 2, 1) := by decide +kernel
theorem dL_law_44 : decode cL_law 44 = .ok (.invokestatic 34, 3) := by decide +kernel
theorem dL_law_47 : decode cL_law 47 = .ok (.iadd, 1) := by decide +kernel
theorem dL_law_48 : decode cL_law 48 = .ok (.invokevirtual 90, 3) := by decide +kernel
theorem dL_law_51 : decode cL_law 51 = .ok (.iconst 1, 1) := by decide +kernel
theorem dL_law_52 : decode cL_law 52 = .ok (.if_icmp .ne 7, 3) := by decide +kernel
theorem dL_law_55 : decode cL_law 55 = .ok (.iconst 1, 1) := by decide +kernel
theorem dL_law_56 : decode cL_law 56 = .ok (.goto 4, 3) := by decide +kernel
theorem dL_law_59 : decode cL_law 59 = .ok (.iconst 0, 1) := by decide +kernel
theorem dL_law_60 : decode cL_law 60 = .ok (.istore 4, 2) := by decide +kernel
theorem dL_law_62 : decode cL_law 62 = .ok (.iconst 0, 1) := by decide +kernel
theorem dL_law_63 : decode cL_law 63 = .ok (.istore 5, 2) := by decide +kernel
theorem dL_law_65 : decode cL_law 65 = .ok (.iload 5, 2) := by decide +kernel
theorem dL_law_67 : decode cL_law 67 = .ok (.iconst 3, 1) := by decide +kernel
theorem dL_law_68 : decode cL_law 68 = .ok (.if_icmp .ge 58, 3) := by decide +kernel
theorem dL_law_71 : decode cL_law 71 = .ok (.iload 4, 2) := by decide +kernel
theorem dL_law_73 : decode cL_law 73 = .ok (.ifCond .eq 44, 3) := by decide +kernel
theorem dL_law_76 : decode cL_law 76 = .ok (.aload_n 1, 1) := by decide +kernel
theorem dL_law_77 : decode cL_law 77 = .ok (.aload_n 0, 1) := by decide +kernel
theorem dL_law_78 : decode cL_law 78 = .ok (.iconst 2, 1) := by decide +kernel
theorem dL_law_79 : decode cL_law 79 = .ok (.iload 5, 2) := by decide +kernel
theorem dL_law_81 : decode cL_law 81 = .ok (.iadd, 1) := by decide +kernel
theorem dL_law_82 : decode cL_law 82 = .ok (.invokestatic 86, 3) := by decide +kernel
theorem dL_law_85 : decode cL_law 85 = .ok (.iconst 4, 1) := by decide +kernel
theorem dL_law_86 : decode cL_law 86 = .ok (.invokestatic 34, 3) := by decide +kernel
theorem dL_law_89 : decode cL_law 89 = .ok (.iconst 1, 1) := by decide +kernel
theorem dL_law_90 : decode cL_law 90 = .ok (.aload_n 0, 1) := by decide +kernel
theorem dL_law_91 : decode cL_law 91 = .ok (.iconst 2, 1) := by decide +kernel
theorem dL_law_92 : decode cL_law 92 = .ok (.iload 5, 2) := by decide +kernel
theorem dL_law_94 : decode cL_law 94 = .ok (.iadd, 1) := by decide +kernel
theorem dL_law_95 : decode cL_law 95 = .ok (.invokestatic 86, 3) := by decide +kernel
theorem dL_law_98 : decode cL_law 98 = .ok (.iconst 3, 1) := by decide +kernel
theorem dL_law_99 : decode cL_law 99 = .ok (.ishr, 1) := by decide +kernel
theorem dL_law_100 : decode cL_law 100 = .ok (.iconst 3, 1) := by decide +kernel
theorem dL_law_101 : decode cL_law 101 = .ok (.invokestatic 34, 3) := by decide +kernel
theorem dL_law_104 : decode cL_law 104 = .ok (.iadd, 1) := by decide +kernel
theorem dL_law_105 : decode cL_law 105 = .ok (.invokevirtual 93, 3) := by decide +kernel
theorem dL_law_108 : decode cL_law 108 = .ok (.iload 5, 2) := by decide +kernel
theorem dL_law_110 : decode cL_law 110 = .ok (.if_icmp .ne 7, 3) := by decide +kernel
theorem dL_law_113 : decode cL_law 113 = .ok (.iconst 1, 1) := by decide +kernel
theorem dL_law_114 : decode cL_law 114 = .ok (.goto 4, 3) := by decide +kernel
theorem dL_law_117 : decode cL_law 117 = .ok (.iconst 0, 1) := by decide +kernel
theorem dL_law_118 : decode cL_law 118 = .ok (.istore 4, 2) := by decide +kernel
theorem dL_law_120 : decode cL_law 120 = .ok (.iinc 5 1, 3) := by decide +kernel
theorem dL_law_123 : decode cL_law 123 = .ok (.goto (-58), 3) := by decide +kernel
theorem dL_law_126 : decode cL_law 126 = .ok (.iconst 0, 1) := by decide +kernel
theorem dL_law_127 : decode cL_law 127 = .ok (.istore 5, 2) := by decide +kernel
theorem dL_law_129 : decode cL_law 129 = .ok (.iload 5, 2) := by decide +kernel
theorem dL_law_131 : decode cL_law 131 = .ok (.iconst 2, 1) := by decide +kernel
theorem dL_law_132 : decode cL_law 132 = .ok (.if_icmp .ge 59, 3) := by decide +kernel
theorem dL_law_135 : decode cL_law 135 = .ok (.iload 4, 2) := by decide +kernel
theorem dL_law_137 : decode cL_law 137 = .ok (.ifCond .eq 45, 3) := by decide +kernel
theorem dL_law_140 : decode cL_law 140 = .ok (.aload_n 1, 1) := by decide +kernel
theorem dL_law_141 : decode cL_law 141 = .ok (.aload_n 0, 1) := by decide +kernel
theorem dL_law_142 : decode cL_law 142 = .ok (.iconst 5, 1) := by decide +kernel
theorem dL_law_143 : decode cL_law 143 = .ok (.iload 5, 2) := by decide +kernel
theorem dL_law_145 : decode cL_law 145 = .ok (.iadd, 1) := by decide +kernel
theorem dL_law_146 : decode cL_law 146 = .ok (.invokestatic 86, 3) := by decide +kernel
theorem dL_law_149 : decode cL_law 149 = .ok (.ldc 64, 2) := by decide +kernel
theorem dL_law_151 : decode cL_law 151 = .ok (.invokestatic 34, 3) := by decide +kernel
theorem dL_law_154 : decode cL_law 154 = .ok (.iconst 1, 1) := by decide +kernel
theorem dL_law_155 : decode cL_law 155 = .ok (.aload_n 0, 1) := by decide +kernel
theorem dL_law_156 : decode cL_law 156 = .ok (.bipush 7, 2) := by decide +kernel
theorem dL_law_158 : decode cL_law 158 = .ok (.iload 5, 2) := by decide +kernel
theorem dL_law_160 : decode cL_law 160 = .ok (.iadd, 1) := by decide +kernel
theorem dL_law_161 : decode cL_law 161 = .ok (.invokestatic 86, 3) := by decide +kernel
theorem dL_law_164 : decode cL_law 164 = .ok (.bipush 6, 2) := by decide +kernel
theorem dL_law_166 : decode cL_law 166 = .ok (.invokestatic 34, 3) := by decide +kernel
theorem dL_law_169 : decode cL_law 169 = .ok (.iadd, 1) := by decide +kernel
theorem dL_law_170 : decode cL_law 170 = .ok (.invokevirtual 96, 3) := by decide +kernel
theorem dL_law_173 : decode cL_law 173 = .ok (.iload 5, 2) := by decide +kernel
theorem dL_law_175 : decode cL_law 175 = .ok (.if_icmp .ne 7, 3) := by decide +kernel
theorem dL_law_178 : decode cL_law 178 = .ok (.iconst 1, 1) := by decide +kernel
theorem dL_law_179 : decode cL_law 179 = .ok (.goto 4, 3) := by decide +kernel
theorem dL_law_182 : decode cL_law 182 = .ok (.iconst 0, 1) := by decide +kernel
theorem dL_law_183 : decode cL_law 183 = .ok (.istore 4, 2) := by decide +kernel
theorem dL_law_185 : decode cL_law 185 = .ok (.iinc 5 1, 3) := by decide +kernel
theorem dL_law_188 : decode cL_law 188 = .ok (.goto (-59), 3) := by decide +kernel
theorem dL_law_191 : decode cL_law 191 = .ok (.bipush 9, 2) := by decide +kernel
theorem dL_law_193 : decode cL_law 193 = .ok (.istore 5, 2) := by decide +kernel
theorem dL_law_195 : decode cL_law 195 = .ok (.iload 5, 2) := by decide +kernel
theorem dL_law_197 : decode cL_law 197 = .ok (.bipush 43, 2) := by decide +kernel
theorem dL_law_199 : decode cL_law 199 = .ok (.if_icmp .ge 53, 3) := by decide +kernel
theorem dL_law_202 : decode cL_law 202 = .ok (.iload 4, 2) := by decide +kernel
theorem dL_law_204 : decode cL_law 204 = .ok (.ifCond .eq 48, 3) := by decide +kernel
theorem dL_law_207 : decode cL_law 207 = .ok (.aload_n 1, 1) := by decide +kernel
theorem dL_law_208 : decode cL_law 208 = .ok (.aload_n 2, 1) := by decide +kernel
theorem dL_law_209 : decode cL_law 209 = .ok (.aload_n 3, 1) := by decide +kernel
theorem dL_law_210 : decode cL_law 210 = .ok (.aload_n 0, 1) := by decide +kernel
theorem dL_law_211 : decode cL_law 211 = .ok (.iload 5, 2) := by decide +kernel
theorem dL_law_213 : decode cL_law 213 = .ok (.invokestatic 86, 3) := by decide +kernel
theorem dL_law_216 : decode cL_law 216 = .ok (.invokestatic 99, 3) := by decide +kernel
theorem dL_law_219 : decode cL_law 219 = .ok (.ifCond .eq 24, 3) := by decide +kernel
theorem dL_law_222 : decode cL_law 222 = .ok (.aload_n 1, 1) := by decide +kernel
theorem dL_law_223 : decode cL_law 223 = .ok (.aload_n 2, 1) := by decide +kernel
theorem dL_law_224 : decode cL_law 224 = .ok (.aload_n 3, 1) := by decide +kernel
theorem dL_law_225 : decode cL_law 225 = .ok (.invokestatic 103, 3) := by decide +kernel
theorem dL_law_228 : decode cL_law 228 = .ok (.ifCond .eq 15, 3) := by decide +kernel
theorem dL_law_231 : decode cL_law 231 = .ok (.aload_n 1, 1) := by decide +kernel
theorem dL_law_232 : decode cL_law 232 = .ok (.aload_n 2, 1) := by decide +kernel
theorem dL_law_233 : decode cL_law 233 = .ok (.invokestatic 107, 3) := by decide +kernel
theorem dL_law_236 : decode cL_law 236 = .ok (.ifCond .eq 7, 3) := by decide +kernel
theorem dL_law_239 : decode cL_law 239 = .ok (.iconst 1, 1) := by decide +kernel
theorem dL_law_240 : decode cL_law 240 = .ok (.goto 4, 3) := by decide +kernel
theorem dL_law_243 : decode cL_law 243 = .ok (.iconst 0, 1) := by decide +kernel
theorem dL_law_244 : decode cL_law 244 = .ok (.istore 4, 2) := by decide +kernel
theorem dL_law_246 : decode cL_law 246 = .ok (.iinc 5 1, 3) := by decide +kernel
theorem dL_law_249 : decode cL_law 249 = .ok (.goto (-54), 3) := by decide +kernel
theorem dL_law_252 : decode cL_law 252 = .ok (.iload 4, 2) := by decide +kernel
theorem dL_law_254 : decode cL_law 254 = .ok (.ifCond .eq 16, 3) := by decide +kernel
theorem dL_law_257 : decode cL_law 257 = .ok (.aload_n 1, 1) := by decide +kernel
theorem dL_law_258 : decode cL_law 258 = .ok (.invokevirtual 111, 3) := by decide +kernel
theorem dL_law_261 : decode cL_law 261 = .ok (.bipush 20, 2) := by decide +kernel
theorem dL_law_263 : decode cL_law 263 = .ok (.if_icmp .ge 7, 3) := by decide +kernel
theorem dL_law_266 : decode cL_law 266 = .ok (.iconst 1, 1) := by decide +kernel
theorem dL_law_267 : decode cL_law 267 = .ok (.goto 4, 3) := by decide +kernel
theorem dL_law_270 : decode cL_law 270 = .ok (.iconst 0, 1) := by decide +kernel
theorem dL_law_271 : decode cL_law 271 = .ok (.ireturn, 1) := by decide +kernel
