/-! written by wip/whole/pp.py out of wip/whole/src/33.mod6.lean -/
theorem dX7_undo_0 : decode cX7_undo 0 = .ok (.aload_n 0, 1) := by decide +kernel
theorem dX7_undo_1 : decode cX7_undo 1 = .ok (.aload_n 0, 1) := by decide +kernel
theorem dX7_undo_2 : decode cX7_undo 2 = .ok (.getfield 88, 3) := by decide +kernel
theorem dX7_undo_5 : decode cX7_undo 5 = .ok (.ifCond .ne 7, 3) := by decide +kernel
theorem dX7_undo_8 : decode cX7_undo 8 = .ok (.iconst 1, 1) := by decide +kernel
theorem dX7_undo_9 : decode cX7_undo 9 = .ok (.goto 4, 3) := by decide +kernel
theorem dX7_undo_12 : decode cX7_undo 12 = .ok (.iconst 0, 1) := by decide +kernel
theorem dX7_undo_13 : decode cX7_undo 13 = .ok (.iconst 0, 1) := by decide +kernel
theorem dX7_undo_14 : decode cX7_undo 14 = .ok (.invokevirtual 124, 3) := by decide +kernel
theorem dX7_undo_17 : decode cX7_undo 17 = .ok (.ifCond .eq 5, 3) := by decide +kernel
theorem dX7_undo_20 : decode cX7_undo 20 = .ok (.iconst 0, 1) := by decide +kernel
theorem dX7_undo_21 : decode cX7_undo 21 = .ok (.ireturn, 1) := by decide +kernel
theorem dX7_undo_22 : decode cX7_undo 22 = .ok (.aload_n 0, 1) := by decide +kernel
theorem dX7_undo_23 : decode cX7_undo 23 = .ok (.dup, 1) := by decide +kernel
theorem dX7_undo_24 : decode cX7_undo 24 = .ok (.getfield 88, 3) := by decide +kernel
theorem dX7_undo_27 : decode cX7_undo 27 = .ok (.iconst 1, 1) := by decide +kernel
theorem dX7_undo_28 : decode cX7_undo 28 = .ok (.isub, 1) := by decide +kernel
theorem dX7_undo_29 : decode cX7_undo 29 = .ok (.putfield 88, 3) := by decide +kernel
theorem dX7_undo_32 : decode cX7_undo 32 = .ok (.iconst 0, 1) := by decide +kernel
theorem dX7_undo_33 : decode cX7_undo 33 = .ok (.istore_n 1, 1) := by decide +kernel
theorem dX7_undo_34 : decode cX7_undo 34 = .ok (.iload_n 1, 1) := by decide +kernel
theorem dX7_undo_35 : decode cX7_undo 35 = .ok (.bipush 10, 2) := by decide +kernel
theorem dX7_undo_37 : decode cX7_undo 37 = .ok (.if_icmp .ge 89, 3) := by decide +kernel
theorem dX7_undo_40 : decode cX7_undo 40 = .ok (.aload_n 0, 1) := by decide +kernel
theorem dX7_undo_41 : decode cX7_undo 41 = .ok (.getfield 13, 3) := by decide +kernel
theorem dX7_undo_44 : decode cX7_undo 44 = .ok (.iload_n 1, 1) := by decide +kernel
theorem dX7_undo_45 : decode cX7_undo 45 = .ok (.aload_n 0, 1) := by decide +kernel
theorem dX7_undo_46 : decode cX7_undo 46 = .ok (.getfield 48, 3) := by decide +kernel
theorem dX7_undo_49 : decode cX7_undo 49 = .ok (.bipush 10, 2) := by decide +kernel
theorem dX7_undo_51 : decode cX7_undo 51 = .ok (.aload_n 0, 1) := by decide +kernel
theorem dX7_undo_52 : decode cX7_undo 52 = .ok (.getfield 88, 3) := by decide +kernel
theorem dX7_undo_55 : decode cX7_undo 55 = .ok (.imul, 1) := by decide +kernel
theorem dX7_undo_56 : decode cX7_undo 56 = .ok (.iload_n 1, 1) := by decide +kernel
theorem dX7_undo_57 : decode cX7_undo 57 = .ok (.iadd, 1) := by decide +kernel
theorem dX7_undo_58 : decode cX7_undo 58 = .ok (.iaload, 1) := by decide +kernel
theorem dX7_undo_59 : decode cX7_undo 59 = .ok (.iastore, 1) := by decide +kernel
theorem dX7_undo_60 : decode cX7_undo 60 = .ok (.aload_n 0, 1) := by decide +kernel
theorem dX7_undo_61 : decode cX7_undo 61 = .ok (.getfield 17, 3) := by decide +kernel
theorem dX7_undo_64 : decode cX7_undo 64 = .ok (.iload_n 1, 1) := by decide +kernel
theorem dX7_undo_65 : decode cX7_undo 65 = .ok (.aload_n 0, 1) := by decide +kernel
theorem dX7_undo_66 : decode cX7_undo 66 = .ok (.getfield 51, 3) := by decide +kernel
theorem dX7_undo_69 : decode cX7_undo 69 = .ok (.bipush 10, 2) := by decide +kernel
theorem dX7_undo_71 : decode cX7_undo 71 = .ok (.aload_n 0, 1) := by decide +kernel
theorem dX7_undo_72 : decode cX7_undo 72 = .ok (.getfield 88, 3) := by decide +kernel
theorem dX7_undo_75 : decode cX7_undo 75 = .ok (.imul, 1) := by decide +kernel
theorem dX7_undo_76 : decode cX7_undo 76 = .ok (.iload_n 1, 1) := by decide +kernel
theorem dX7_undo_77 : decode cX7_undo 77 = .ok (.iadd, 1) := by decide +kernel
theorem dX7_undo_78 : decode cX7_undo 78 = .ok (.iaload, 1) := by decide +kernel
theorem dX7_undo_79 : decode cX7_undo 79 = .ok (.iastore, 1) := by decide +kernel
theorem dX7_undo_80 : decode cX7_undo 80 = .ok (.aload_n 0, 1) := by decide +kernel
theorem dX7_undo_81 : decode cX7_undo 81 = .ok (.getfield 20, 3) := by decide +kernel
theorem dX7_undo_84 : decode cX7_undo 84 = .ok (.iload_n 1, 1) := by decide +kernel
theorem dX7_undo_85 : decode cX7_undo 85 = .ok (.aload_n 0, 1) := by decide +kernel
theorem dX7_undo_86 : decode cX7_undo 86 = .ok (.getfield 54, 3) := by decide +kernel
theorem dX7_undo_89 : decode cX7_undo 89 = .ok (.bipush 10, 2) := by decide +kernel
theorem dX7_undo_91 : decode cX7_undo 91 = .ok (.aload_n 0, 1) := by decide +kernel
theorem dX7_undo_92 : decode cX7_undo 92 = .ok (.getfield 88, 3) := by decide +kernel
theorem dX7_undo_95 : decode cX7_undo 95 = .ok (.imul, 1) := by decide +kernel
theorem dX7_undo_96 : decode cX7_undo 96 = .ok (.iload_n 1, 1) := by decide +kernel
theorem dX7_undo_97 : decode cX7_undo 97 = .ok (.iadd, 1) := by decide +kernel
theorem dX7_undo_98 : decode cX7_undo 98 = .ok (.iaload, 1) := by decide +kernel
theorem dX7_undo_99 : decode cX7_undo 99 = .ok (.iastore, 1) := by decide +kernel
theorem dX7_undo_100 : decode cX7_undo 100 = .ok (.aload_n 0, 1) := by decide +kernel
theorem dX7_undo_101 : decode cX7_undo 101 = .ok (.getfield 23, 3) := by decide +kernel
theorem dX7_undo_104 : decode cX7_undo 104 = .ok (.iload_n 1, 1) := by decide +kernel
theorem dX7_undo_105 : decode cX7_undo 105 = .ok (.aload_n 0, 1) := by decide +kernel
theorem dX7_undo_106 : decode cX7_undo 106 = .ok (.getfield 57, 3) := by decide +kernel
theorem dX7_undo_109 : decode cX7_undo 109 = .ok (.bipush 10, 2) := by decide +kernel
theorem dX7_undo_111 : decode cX7_undo 111 = .ok (.aload_n 0, 1) := by decide +kernel
theorem dX7_undo_112 : decode cX7_undo 112 = .ok (.getfield 88, 3) := by decide +kernel
theorem dX7_undo_115 : decode cX7_undo 115 = .ok (.imul, 1) := by decide +kernel
theorem dX7_undo_116 : decode cX7_undo 116 = .ok (.iload_n 1, 1) := by decide +kernel
theorem dX7_undo_117 : decode cX7_undo 117 = .ok (.iadd, 1) := by decide +kernel
theorem dX7_undo_118 : decode cX7_undo 118 = .ok (.laload, 1) := by decide +kernel
theorem dX7_undo_119 : decode cX7_undo 119 = .ok (.lastore, 1) := by decide +kernel
theorem dX7_undo_120 : decode cX7_undo 120 = .ok (.iinc 1 1, 3) := by decide +kernel
theorem dX7_undo_123 : decode cX7_undo 123 = .ok (.goto (-89), 3) := by decide +kernel
theorem dX7_undo_126 : decode cX7_undo 126 = .ok (.iconst 0, 1) := by decide +kernel
theorem dX7_undo_127 : decode cX7_undo 127 = .ok (.istore_n 1, 1) := by decide +kernel
theorem dX7_undo_128 : decode cX7_undo 128 = .ok (.iload_n 1, 1) := by decide +kernel
theorem dX7_undo_129 : decode cX7_undo 129 = .ok (.bipush 6, 2) := by decide +kernel
theorem dX7_undo_131 : decode cX7_undo 131 = .ok (.if_icmp .ge 49, 3) := by decide +kernel
theorem dX7_undo_134 : decode cX7_undo 134 = .ok (.aload_n 0, 1) := by decide +kernel
theorem dX7_undo_135 : decode cX7_undo 135 = .ok (.getfield 33, 3) := by decide +kernel
theorem dX7_undo_138 : decode cX7_undo 138 = .ok (.iload_n 1, 1) := by decide +kernel
theorem dX7_undo_139 : decode cX7_undo 139 = .ok (.aload_n 0, 1) := by decide +kernel
theorem dX7_undo_140 : decode cX7_undo 140 = .ok (.getfield 63, 3) := by decide +kernel
theorem dX7_undo_143 : decode cX7_undo 143 = .ok (.bipush 6, 2) := by decide +kernel
theorem dX7_undo_145 : decode cX7_undo 145 = .ok (.aload_n 0, 1) := by decide +kernel
theorem dX7_undo_146 : decode cX7_undo 146 = .ok (.getfield 88, 3) := by decide +kernel
theorem dX7_undo_149 : decode cX7_undo 149 = .ok (.imul, 1) := by decide +kernel
theorem dX7_undo_150 : decode cX7_undo 150 = .ok (.iload_n 1, 1) := by decide +kernel
theorem dX7_undo_151 : decode cX7_undo 151 = .ok (.iadd, 1) := by decide +kernel
theorem dX7_undo_152 : decode cX7_undo 152 = .ok (.iaload, 1) := by decide +kernel
theorem dX7_undo_153 : decode cX7_undo 153 = .ok (.iastore, 1) := by decide +kernel
theorem dX7_undo_154 : decode cX7_undo 154 = .ok (.aload_n 0, 1) := by decide +kernel
theorem dX7_undo_155 : decode cX7_undo 155 = .ok (.getfield 36, 3) := by decide +kernel
theorem dX7_undo_158 : decode cX7_undo 158 = .ok (.iload_n 1, 1) := by decide +kernel
theorem dX7_undo_159 : decode cX7_undo 159 = .ok (.aload_n 0, 1) := by decide +kernel
theorem dX7_undo_160 : decode cX7_undo 160 = .ok (.getfield 66, 3) := by decide +kernel
theorem dX7_undo_163 : decode cX7_undo 163 = .ok (.bipush 6, 2) := by decide +kernel
theorem dX7_undo_165 : decode cX7_undo 165 = .ok (.aload_n 0, 1) := by decide +kernel
theorem dX7_undo_166 : decode cX7_undo 166 = .ok (.getfield 88, 3) := by decide +kernel
theorem dX7_undo_169 : decode cX7_undo 169 = .ok (.imul, 1) := by decide +kernel
theorem dX7_undo_170 : decode cX7_undo 170 = .ok (.iload_n 1, 1) := by decide +kernel
theorem dX7_undo_171 : decode cX7_undo 171 = .ok (.iadd, 1) := by decide +kernel
theorem dX7_undo_172 : decode cX7_undo 172 = .ok (.iaload, 1) := by decide +kernel
theorem dX7_undo_173 : decode cX7_undo 173 = .ok (.iastore, 1) := by decide +kernel
theorem dX7_undo_174 : decode cX7_undo 174 = .ok (.iinc 1 1, 3) := by decide +kernel
theorem dX7_undo_177 : decode cX7_undo 177 = .ok (.goto (-49), 3) := by decide +kernel
theorem dX7_undo_180 : decode cX7_undo 180 = .ok (.aload_n 0, 1) := by decide +kernel
theorem dX7_undo_181 : decode cX7_undo 181 = .ok (.aload_n 0, 1) := by decide +kernel
theorem dX7_undo_182 : decode cX7_undo 182 = .ok (.getfield 60, 3) := by decide +kernel
theorem dX7_undo_185 : decode cX7_undo 185 = .ok (.aload_n 0, 1) := by decide +kernel
theorem dX7_undo_186 : decode cX7_undo 186 = .ok (.getfield 88, 3) := by decide +kernel
theorem dX7_undo_189 : decode cX7_undo 189 = .ok (.iaload, 1) := by decide +kernel
theorem dX7_undo_190 : decode cX7_undo 190 = .ok (.putfield 82, 3) := by decide +kernel
theorem dX7_undo_193 : decode cX7_undo 193 = .ok (.aload_n 0, 1) := by decide +kernel
theorem dX7_undo_194 : decode cX7_undo 194 = .ok (.invokevirtual 136, 3) := by decide +kernel
theorem dX7_undo_197 : decode cX7_undo 197 = .ok (.aload_n 0, 1) := by decide +kernel
theorem dX7_undo_198 : decode cX7_undo 198 = .ok (.getfield 88, 3) := by decide +kernel
theorem dX7_undo_201 : decode cX7_undo 201 = .ok (.ireturn, 1) := by decide +kernel
theorem dX7_addServer_0 : decode cX7_addServer 0 = .ok (.aload_n 0, 1) := by decide +kernel
theorem dX7_addServer_1 : decode cX7_addServer 1 = .ok (.iload_n 1, 1) := by decide +kernel
theorem dX7_addServer_2 : decode cX7_addServer 2 = .ok (.invokestatic 143, 3) := by decide +kernel
theorem dX7_addServer_5 : decode cX7_addServer 5 = .ok (.ifCond .ne 10, 3) := by decide +kernel
theorem dX7_addServer_8 : decode cX7_addServer 8 = .ok (.iload_n 2, 1) := by decide +kernel
theorem dX7_addServer_9 : decode cX7_addServer 9 = .ok (.invokestatic 146, 3) := by decide +kernel
theorem dX7_addServer_12 : decode cX7_addServer 12 = .ok (.ifCond .eq 7, 3) := by decide +kernel
theorem dX7_addServer_15 : decode cX7_addServer 15 = .ok (.iconst 1, 1) := by decide +kernel
theorem dX7_addServer_16 : decode cX7_addServer 16 = .ok (.goto 4, 3) := by decide +kernel
theorem dX7_addServer_19 : decode cX7_addServer 19 = .ok (.iconst 0, 1) := by decide +kernel
theorem dX7_addServer_20 : decode cX7_addServer 20 = .ok (.aload_n 0, 1) := by decide +kernel
theorem dX7_addServer_21 : decode cX7_addServer 21 = .ok (.iload_n 1, 1) := by decide +kernel
theorem dX7_addServer_22 : decode cX7_addServer 22 = .ok (.invokevirtual 149, 3) := by decide +kernel
theorem dX7_addServer_25 : decode cX7_addServer 25 = .ok (.iconst (-1), 1) := by decide +kernel
theorem dX7_addServer_26 : decode cX7_addServer 26 = .ok (.if_icmp .ne 12, 3) := by decide +kernel
theorem dX7_addServer_29 : decode cX7_addServer 29 = .ok (.aload_n 0, 1) := by decide +kernel
theorem dX7_addServer_30 : decode cX7_addServer 30 = .ok (.invokevirtual 152, 3) := by decide +kernel
theorem dX7_addServer_33 : decode cX7_addServer 33 = .ok (.bipush 10, 2) := by decide +kernel
theorem dX7_addServer_35 : decode cX7_addServer 35 = .ok (.if_icmp .ne 7, 3) := by decide +kernel
theorem dX7_addServer_38 : decode cX7_addServer 38 = .ok (.iconst 1, 1) := by decide +kernel
theorem dX7_addServer_39 : decode cX7_addServer 39 = .ok (.goto 4, 3) := by decide +kernel
theorem dX7_addServer_42 : decode cX7_addServer 42 = .ok (.iconst 0, 1) := by decide +kernel
theorem dX7_addServer_43 : decode cX7_addServer 43 = .ok (.invokevirtual 124, 3) := by decide +kernel
theorem dX7_addServer_46 : decode cX7_addServer 46 = .ok (.ifCond .eq 5, 3) := by decide +kernel
theorem dX7_addServer_49 : decode cX7_addServer 49 = .ok (.iconst 0, 1) := by decide +kernel
theorem dX7_addServer_50 : decode cX7_addServer 50 = .ok (.ireturn, 1) := by decide +kernel
theorem dX7_addServer_51 : decode cX7_addServer 51 = .ok (.aload_n 0, 1) := by decide +kernel
theorem dX7_addServer_52 : decode cX7_addServer 52 = .ok (.invokevirtual 155, 3) := by decide +kernel
theorem dX7_addServer_55 : decode cX7_addServer 55 = .ok (.iconst 0, 1) := by decide +kernel
theorem dX7_addServer_56 : decode cX7_addServer 56 = .ok (.istore_n 3, 1) := by decide +kernel
theorem dX7_addServer_57 : decode cX7_addServer 57 = .ok (.aload_n 0, 1) := by decide +kernel
theorem dX7_addServer_58 : decode cX7_addServer 58 = .ok (.getfield 13, 3) := by decide +kernel
theorem dX7_addServer_61 : decode cX7_addServer 61 = .ok (.iload_n 3, 1) := by decide +kernel
theorem dX7_addServer_62 : decode cX7_addServer 62 = .ok (.iaload, 1) := by decide +kernel
theorem dX7_addServer_63 : decode cX7_addServer 63 = .ok (.ifCond .eq 9, 3) := by decide +kernel
theorem dX7_addServer_66 : decode cX7_addServer 66 = .ok (.iinc 3 1, 3) := by decide +kernel
theorem dX7_addServer_69 : decode cX7_addServer 69 = .ok (.goto (-12), 3) := by decide +kernel
theorem dX7_addServer_72 : decode cX7_addServer 72 = .ok (.aload_n 0, 1) := by decide +kernel
theorem dX7_addServer_73 : decode cX7_addServer 73 = .ok (.getfield 13, 3) := by decide +kernel
theorem dX7_addServer_76 : decode cX7_addServer 76 = .ok (.iload_n 3, 1) := by decide +kernel
theorem dX7_addServer_77 : decode cX7_addServer 77 = .ok (.iconst 2, 1) := by decide +kernel
theorem dX7_addServer_78 : decode cX7_addServer 78 = .ok (.iastore, 1) := by decide +kernel
theorem dX7_addServer_79 : decode cX7_addServer 79 = .ok (.aload_n 0, 1) := by decide +kernel
theorem dX7_addServer_80 : decode cX7_addServer 80 = .ok (.getfield 17, 3) := by decide +kernel
theorem dX7_addServer_83 : decode cX7_addServer 83 = .ok (.iload_n 3, 1) := by decide +kernel
theorem dX7_addServer_84 : decode cX7_addServer 84 = .ok (.iload_n 1, 1) := by decide +kernel
theorem dX7_addServer_85 : decode cX7_addServer 85 = .ok (.iastore, 1) := by decide +kernel
theorem dX7_addServer_86 : decode cX7_addServer 86 = .ok (.aload_n 0, 1) := by decide +kernel
theorem dX7_addServer_87 : decode cX7_addServer 87 = .ok (.getfield 20, 3) := by decide +kernel
theorem dX7_addServer_90 : decode cX7_addServer 90 = .ok (.iload_n 3, 1) := by decide +kernel
theorem dX7_addServer_91 : decode cX7_addServer 91 = .ok (.iload_n 2, 1) := by decide +kernel
theorem dX7_addServer_92 : decode cX7_addServer 92 = .ok (.iastore, 1) := by decide +kernel
theorem dX7_addServer_93 : decode cX7_addServer 93 = .ok (.aload_n 0, 1) := by decide +kernel
theorem dX7_addServer_94 : decode cX7_addServer 94 = .ok (.getfield 23, 3) := by decide +kernel
theorem dX7_addServer_97 : decode cX7_addServer 97 = .ok (.iload_n 3, 1) := by decide +kernel
theorem dX7_addServer_98 : decode cX7_addServer 98 = .ok (.lconst 0, 1) := by decide +kernel
theorem dX7_addServer_99 : decode cX7_addServer 99 = .ok (.lastore, 1) := by decide +kernel
theorem dX7_addServer_100 : decode cX7_addServer 100 = .ok (.aload_n 0, 1) := by decide +kernel
theorem dX7_addServer_101 : decode cX7_addServer 101 = .ok (.invokevirtual 136, 3) := by decide +kernel
theorem dX7_addServer_104 : decode cX7_addServer 104 = .ok (.iload_n 3, 1) := by decide +kernel
theorem dX7_addServer_105 : decode cX7_addServer 105 = .ok (.ireturn, 1) := by decide +kernel
theorem dX7_removeServer_0 : decode cX7_removeServer 0 = .ok (.aload_n 0, 1) := by decide +kernel
theorem dX7_removeServer_1 : decode cX7_removeServer 1 = .ok (.aload_n 0, 1) := by decide +kernel
theorem dX7_removeServer_2 : decode cX7_removeServer 2 = .ok (.iload_n 1, 1) := by decide +kernel
theorem dX7_removeServer_3 : decode cX7_removeServer 3 = .ok (.invokevirtual 158, 3) := by decide +kernel
theorem dX7_removeServer_6 : decode cX7_removeServer 6 = .ok (.iconst 0, 1) := by decide +kernel
theorem dX7_removeServer_7 : decode cX7_removeServer 7 = .ok (.invokevirtual 124, 3) := by decide +kernel
theorem dX7_removeServer_10 : decode cX7_removeServer 10 = .ok (.ifCond .eq 5, 3) := by decide +kernel
theorem dX7_removeServer_13 : decode cX7_removeServer 13 = .ok (.lconst 0, 1) := by decide +kernel
theorem dX7_removeServer_14 : decode cX7_removeServer 14 = .ok (.lreturn, 1) := by decide +kernel
theorem dX7_removeServer_15 : decode cX7_removeServer 15 = .ok (.aload_n 0, 1) := by decide +kernel
theorem dX7_removeServer_16 : decode cX7_removeServer 16 = .ok (.invokevirtual 155, 3) := by decide +kernel
theorem dX7_removeServer_19 : decode cX7_removeServer 19 = .ok (.aload_n 0, 1) := by decide +kernel
theorem dX7_removeServer_20 : decode cX7_removeServer 20 = .ok (.getfield 13, 3) := by decide +kernel
theorem dX7_removeServer_23 : decode cX7_removeServer 23 = .ok (.iload_n 1, 1) := by decide +kernel
theorem dX7_removeServer_24 : decode cX7_removeServer 24 = .ok (.iconst 0, 1) := by decide +kernel
theorem dX7_removeServer_25 : decode cX7_removeServer 25 = .ok (.iastore, 1) := by decide +kernel
theorem dX7_removeServer_26 : decode cX7_removeServer 26 = .ok (.iconst 0, 1) := by decide +kernel
theorem dX7_removeServer_27 : decode cX7_removeServer 27 = .ok (.istore_n 2, 1) := by decide +kernel
theorem dX7_removeServer_28 : decode cX7_removeServer 28 = .ok (.iconst 0, 1) := by decide +kernel
theorem dX7_removeServer_29 : decode cX7_removeServer 29 = .ok (.istore_n 3, 1) := by decide +kernel
theorem dX7_removeServer_30 : decode cX7_removeServer 30 = .ok (.iload_n 3, 1) := by decide +kernel
theorem dX7_removeServer_31 : decode cX7_removeServer 31 = .ok (.aload_n 0, 1) := by decide +kernel
theorem dX7_removeServer_32 : decode cX7_removeServer 32 = .ok (.getfield 82, 3) := by decide +kernel
theorem dX7_removeServer_35 : decode cX7_removeServer 35 = .ok (.if_icmp .ge 46, 3) := by decide +kernel
theorem dX7_removeServer_38 : decode cX7_removeServer 38 = .ok (.aload_n 0, 1) := by decide +kernel
theorem dX7_removeServer_39 : decode cX7_removeServer 39 = .ok (.getfield 36, 3) := by decide +kernel
theorem dX7_removeServer_42 : decode cX7_removeServer 42 = .ok (.iload_n 3, 1) := by decide +kernel
theorem dX7_removeServer_43 : decode cX7_removeServer 43 = .ok (.iaload, 1) := by decide +kernel
theorem dX7_removeServer_44 : decode cX7_removeServer 44 = .ok (.iload_n 1, 1) := by decide +kernel
theorem dX7_removeServer_45 : decode cX7_removeServer 45 = .ok (.if_icmp .eq 30, 3) := by decide +kernel
theorem dX7_removeServer_48 : decode cX7_removeServer 48 = .ok (.aload_n 0, 1) := by decide +kernel
theorem dX7_removeServer_49 : decode cX7_removeServer 49 = .ok (.getfield 33, 3) := by decide +kernel
theorem dX7_removeServer_52 : decode cX7_removeServer 52 = .ok (.iload_n 2, 1) := by decide +kernel
theorem dX7_removeServer_53 : decode cX7_removeServer 53 = .ok (.aload_n 0, 1) := by decide +kernel
theorem dX7_removeServer_54 : decode cX7_removeServer 54 = .ok (.getfield 33, 3) := by decide +kernel
theorem dX7_removeServer_57 : decode cX7_removeServer 57 = .ok (.iload_n 3, 1) := by decide +kernel
theorem dX7_removeServer_58 : decode cX7_removeServer 58 = .ok (.iaload, 1) := by decide +kernel
theorem dX7_removeServer_59 : decode cX7_removeServer 59 = .ok (.iastore, 1) := by decide +kernel
theorem dX7_removeServer_60 : decode cX7_removeServer 60 = .ok (.aload_n 0, 1) := by decide +kernel
theorem dX7_removeServer_61 : decode cX7_removeServer 61 = .ok (.getfield 36, 3) := by decide +kernel
theorem dX7_removeServer_64 : decode cX7_removeServer 64 = .ok (.iload_n 2, 1) := by decide +kernel
theorem dX7_removeServer_65 : decode cX7_removeServer 65 = .ok (.aload_n 0, 1) := by decide +kernel
theorem dX7_removeServer_66 : decode cX7_removeServer 66 = .ok (.getfield 36, 3) := by decide +kernel
theorem dX7_removeServer_69 : decode cX7_removeServer 69 = .ok (.iload_n 3, 1) := by decide +kernel
theorem dX7_removeServer_70 : decode cX7_removeServer 70 = .ok (.iaload, 1) := by decide +kernel
theorem dX7_removeServer_71 : decode cX7_removeServer 71 = .ok (.iastore, 1) := by decide +kernel
theorem dX7_removeServer_72 : decode cX7_removeServer 72 = .ok (.iinc 2 1, 3) := by decide +kernel
theorem dX7_removeServer_75 : decode cX7_removeServer 75 = .ok (.iinc 3 1, 3) := by decide +kernel
theorem dX7_removeServer_78 : decode cX7_removeServer 78 = .ok (.goto (-48), 3) := by decide +kernel
theorem dX7_removeServer_81 : decode cX7_removeServer 81 = .ok (.aload_n 0, 1) := by decide +kernel
theorem dX7_removeServer_82 : decode cX7_removeServer 82 = .ok (.iload_n 2, 1) := by decide +kernel
theorem dX7_removeServer_83 : decode cX7_removeServer 83 = .ok (.putfield 82, 3) := by decide +kernel
theorem dX7_removeServer_86 : decode cX7_removeServer 86 = .ok (.aload_n 0, 1) := by decide +kernel
theorem dX7_removeServer_87 : decode cX7_removeServer 87 = .ok (.invokevirtual 136, 3) := by decide +kernel
theorem dX7_removeServer_90 : decode cX7_removeServer 90 = .ok (.aload_n 0, 1) := by decide +kernel
theorem dX7_removeServer_91 : decode cX7_removeServer 91 = .ok (.getfield 23, 3) := by decide +kernel
theorem dX7_removeServer_94 : decode cX7_removeServer 94 = .ok (.iload_n 1, 1) := by decide +kernel
theorem dX7_removeServer_95 : decode cX7_removeServer 95 = .ok (.laload, 1) := by decide +kernel
theorem dX7_removeServer_96 : decode cX7_removeServer 96 = .ok (.lreturn, 1) := by decide +kernel
theorem dX7_setWeight_0 : decode cX7_setWeight 0 = .ok (.aload_n 0, 1) := by decide +kernel
theorem dX7_setWeight_1 : decode cX7_setWeight 1 = .ok (.aload_n 0, 1) := by decide +kernel
theorem dX7_setWeight_2 : decode cX7_setWeight 2 = .ok (.iload_n 1, 1) := by decide +kernel
theorem dX7_setWeight_3 : decode cX7_setWeight 3 = .ok (.invokevirtual 158, 3) := by decide +kernel
theorem dX7_setWeight_6 : decode cX7_setWeight 6 = .ok (.ifCond .ne 10, 3) := by decide +kernel
theorem dX7_setWeight_9 : decode cX7_setWeight 9 = .ok (.iload_n 2, 1) := by decide +kernel
theorem dX7_setWeight_10 : decode cX7_setWeight 10 = .ok (.invokestatic 146, 3) := by decide +kernel
theorem dX7_setWeight_13 : decode cX7_setWeight 13 = .ok (.ifCond .eq 7, 3) := by decide +kernel
theorem dX7_setWeight_16 : decode cX7_setWeight 16 = .ok (.iconst 1, 1) := by decide +kernel
theorem dX7_setWeight_17 : decode cX7_setWeight 17 = .ok (.goto 4, 3) := by decide +kernel
theorem dX7_setWeight_20 : decode cX7_setWeight 20 = .ok (.iconst 0, 1) := by decide +kernel
theorem dX7_setWeight_21 : decode cX7_setWeight 21 = .ok (.iconst 0, 1) := by decide +kernel
theorem dX7_setWeight_22 : decode cX7_setWeight 22 = .ok (.invokevirtual 124, 3) := by decide +kernel
theorem dX7_setWeight_25 : decode cX7_setWeight 25 = .ok (.ifCond .eq 5, 3) := by decide +kernel
theorem dX7_setWeight_28 : decode cX7_setWeight 28 = .ok (.iconst 0, 1) := by decide +kernel
theorem dX7_setWeight_29 : decode cX7_setWeight 29 = .ok (.ireturn, 1) := by decide +kernel
theorem dX7_setWeight_30 : decode cX7_setWeight 30 = .ok (.aload_n 0, 1) := by decide +kernel
theorem dX7_setWeight_31 : decode cX7_setWeight 31 = .ok (.invokevirtual 155, 3) := by decide +kernel
theorem dX7_setWeight_34 : decode cX7_setWeight 34 = .ok (.aload_n 0, 1) := by decide +kernel
theorem dX7_setWeight_35 : decode cX7_setWeight 35 = .ok (.getfield 20, 3) := by decide +kernel
theorem dX7_setWeight_38 : decode cX7_setWeight 38 = .ok (.iload_n 1, 1) := by decide +kernel
theorem dX7_setWeight_39 : decode cX7_setWeight 39 = .ok (.iaload, 1) := by decide +kernel
theorem dX7_setWeight_40 : decode cX7_setWeight 40 = .ok (.istore_n 3, 1) := by decide +kernel
theorem dX7_setWeight_41 : decode cX7_setWeight 41 = .ok (.aload_n 0, 1) := by decide +kernel
theorem dX7_setWeight_42 : decode cX7_setWeight 42 = .ok (.getfield 20, 3) := by decide +kernel
theorem dX7_setWeight_45 : decode cX7_setWeight 45 = .ok (.iload_n 1, 1) := by decide +kernel
theorem dX7_setWeight_46 : decode cX7_setWeight 46 = .ok (.iload_n 2, 1) := by decide +kernel
theorem dX7_setWeight_47 : decode cX7_setWeight 47 = .ok (.iastore, 1) := by decide +kernel
theorem dX7_setWeight_48 : decode cX7_setWeight 48 = .ok (.aload_n 0, 1) := by decide +kernel
theorem dX7_setWeight_49 : decode cX7_setWeight 49 = .ok (.invokevirtual 136, 3) := by decide +kernel
theorem dX7_setWeight_52 : decode cX7_setWeight 52 = .ok (.iload_n 3, 1) := by decide +kernel
theorem dX7_setWeight_53 : decode cX7_setWeight 53 = .ok (.ireturn, 1) := by decide +kernel
theorem dX7_setUp_0 : decode cX7_setUp 0 = .ok (.aload_n 0, 1) := by decide +kernel
theorem dX7_setUp_1 : decode cX7_setUp 1 = .ok (.aload_n 0, 1) := by decide +kernel
theorem dX7_setUp_2 : decode cX7_setUp 2 = .ok (.iload_n 1, 1) := by decide +kernel
theorem dX7_setUp_3 : decode cX7_setUp 3 = .ok (.invokevirtual 158, 3) := by decide +kernel
theorem dX7_setUp_6 : decode cX7_setUp 6 = .ok (.iconst 0, 1) := by decide +kernel
theorem dX7_setUp_7 : decode cX7_setUp 7 = .ok (.invokevirtual 124, 3) := by decide +kernel
theorem dX7_setUp_10 : decode cX7_setUp 10 = .ok (.ifCond .eq 5, 3) := by decide +kernel
theorem dX7_setUp_13 : decode cX7_setUp 13 = .ok (.iconst 0, 1) := by decide +kernel
theorem dX7_setUp_14 : decode cX7_setUp 14 = .ok (.ireturn, 1) := by decide +kernel
theorem dX7_setUp_15 : decode cX7_setUp 15 = .ok (.aload_n 0, 1) := by decide +kernel
theorem dX7_setUp_16 : decode cX7_setUp 16 = .ok (.invokevirtual 155, 3) := by decide +kernel
theorem dX7_setUp_19 : decode cX7_setUp 19 = .ok (.aload_n 0, 1) := by decide +kernel
theorem dX7_setUp_20 : decode cX7_setUp 20 = .ok (.getfield 13, 3) := by decide +kernel
theorem dX7_setUp_23 : decode cX7_setUp 23 = .ok (.iload_n 1, 1) := by decide +kernel
theorem dX7_setUp_24 : decode cX7_setUp 24 = .ok (.iaload, 1) := by decide +kernel
theorem dX7_setUp_25 : decode cX7_setUp 25 = .ok (.iconst 2, 1) := by decide +kernel
theorem dX7_setUp_26 : decode cX7_setUp 26 = .ok (.if_icmp .ne 7, 3) := by decide +kernel
theorem dX7_setUp_29 : decode cX7_setUp 29 = .ok (.iconst 1, 1) := by decide +kernel
theorem dX7_setUp_30 : decode cX7_setUp 30 = .ok (.goto 4, 3) := by decide +kernel
theorem dX7_setUp_33 : decode cX7_setUp 33 = .ok (.iconst 0, 1) := by decide +kernel
theorem dX7_setUp_34 : decode cX7_setUp 34 = .ok (.istore_n 3, 1) := by decide +kernel
theorem dX7_setUp_35 : decode cX7_setUp 35 = .ok (.aload_n 0, 1) := by decide +kernel
theorem dX7_setUp_36 : decode cX7_setUp 36 = .ok (.getfield 13, 3) := by decide +kernel
theorem dX7_setUp_39 : decode cX7_setUp 39 = .ok (.iload_n 1, 1) := by decide +kernel
theorem dX7_setUp_40 : decode cX7_setUp 40 = .ok (.iload_n 2, 1) := by decide +kernel
theorem dX7_setUp_41 : decode cX7_setUp 41 = .ok (.ifCond .eq 7, 3) := by decide +kernel
theorem dX7_setUp_44 : decode cX7_setUp 44 = .ok (.iconst 2, 1) := by decide +kernel
theorem dX7_setUp_45 : decode cX7_setUp 45 = .ok (.goto 4, 3) := by decide +kernel
theorem dX7_setUp_48 : decode cX7_setUp 48 = .ok (.iconst 1, 1) := by decide +kernel
theorem dX7_setUp_49 : decode cX7_setUp 49 = .ok (.iastore, 1) := by decide +kernel
theorem dX7_setUp_50 : decode cX7_setUp 50 = .ok (.aload_n 0, 1) := by decide +kernel
theorem dX7_setUp_51 : decode cX7_setUp 51 = .ok (.invokevirtual 136, 3) := by decide +kernel
theorem dX7_setUp_54 : decode cX7_setUp 54 = .ok (.iload_n 3, 1) := by decide +kernel
theorem dX7_setUp_55 : decode cX7_setUp 55 = .ok (.ireturn, 1) := by decide +kernel
theorem dX7_removalDisruption_0 : decode cX7_removalDisruption 0 = .ok (.aload_n 0, 1) := by decide +kernel
theorem dX7_removalDisruption_1 : decode cX7_removalDisruption 1 = .ok (.aload_n 0, 1) := by decide +kernel
theorem dX7_removalDisruption_2 : decode cX7_removalDisruption 2 = .ok (.iload_n 1, 1) := by decide +kernel
theorem dX7_removalDisruption_3 : decode cX7_removalDisruption 3 = .ok (.invokevirtual 158, 3) := by decide +kernel
theorem dX7_removalDisruption_6 : decode cX7_removalDisruption 6 = .ok (.iconst 0, 1) := by decide +kernel
theorem dX7_removalDisruption_7 : decode cX7_removalDisruption 7 = .ok (.invokevirtual 124, 3) := by decide +kernel
theorem dX7_removalDisruption_10 : decode cX7_removalDisruption 10 = .ok (.ifCond .eq 5, 3) := by decide +kernel
theorem dX7_removalDisruption_13 : decode cX7_removalDisruption 13 = .ok (.iconst 0, 1) := by decide +kernel
theorem dX7_removalDisruption_14 : decode cX7_removalDisruption 14 = .ok (.ireturn, 1) := by decide +kernel
theorem dX7_removalDisruption_15 : decode cX7_removalDisruption 15 = .ok (.aload_n 0, 1) := by decide +kernel
theorem dX7_removalDisruption_16 : decode cX7_removalDisruption 16 = .ok (.getfield 13, 3) := by decide +kernel
theorem dX7_removalDisruption_19 : decode cX7_removalDisruption 19 = .ok (.iload_n 1, 1) := by decide +kernel
theorem dX7_removalDisruption_20 : decode cX7_removalDisruption 20 = .ok (.iaload, 1) := by decide +kernel
theorem dX7_removalDisruption_21 : decode cX7_removalDisruption 21 = .ok (.istore_n 2, 1) := by decide +kernel
theorem dX7_removalDisruption_22 : decode cX7_removalDisruption 22 = .ok (.aload_n 0, 1) := by decide +kernel
theorem dX7_removalDisruption_23 : decode cX7_removalDisruption 23 = .ok (.invokevirtual 106, 3) := by decide +kernel
theorem dX7_removalDisruption_26 : decode cX7_removalDisruption 26 = .ok (.aload_n 0, 1) := by decide +kernel
theorem dX7_removalDisruption_27 : decode cX7_removalDisruption 27 = .ok (.getfield 13, 3) := by decide +kernel
theorem dX7_removalDisruption_30 : decode cX7_removalDisruption 30 = .ok (.iload_n 1, 1) := by decide +kernel
theorem dX7_removalDisruption_31 : decode cX7_removalDisruption 31 = .ok (.iconst 0, 1) := by decide +kernel
theorem dX7_removalDisruption_32 : decode cX7_removalDisruption 32 = .ok (.iastore, 1) := by decide +kernel
theorem dX7_removalDisruption_33 : decode cX7_removalDisruption 33 = .ok (.aload_n 0, 1) := by decide +kernel
theorem dX7_removalDisruption_34 : decode cX7_removalDisruption 34 = .ok (.invokevirtual 109, 3) := by decide +kernel
theorem dX7_removalDisruption_37 : decode cX7_removalDisruption 37 = .ok (.aload_n 0, 1) := by decide +kernel
theorem dX7_removalDisruption_38 : decode cX7_removalDisruption 38 = .ok (.invokevirtual 112, 3) := by decide +kernel
theorem dX7_removalDisruption_41 : decode cX7_removalDisruption 41 = .ok (.istore_n 3, 1) := by decide +kernel
theorem dX7_removalDisruption_42 : decode cX7_removalDisruption 42 = .ok (.aload_n 0, 1) := by decide +kernel
theorem dX7_removalDisruption_43 : decode cX7_removalDisruption 43 = .ok (.getfield 13, 3) := by decide +kernel
theorem dX7_removalDisruption_46 : decode cX7_removalDisruption 46 = .ok (.iload_n 1, 1) := by decide +kernel
theorem dX7_removalDisruption_47 : decode cX7_removalDisruption 47 = .ok (.iload_n 2, 1) := by decide +kernel
theorem dX7_removalDisruption_48 : decode cX7_removalDisruption 48 = .ok (.iastore, 1) := by decide +kernel
theorem dX7_removalDisruption_49 : decode cX7_removalDisruption 49 = .ok (.aload_n 0, 1) := by decide +kernel
theorem dX7_removalDisruption_50 : decode cX7_removalDisruption 50 = .ok (.invokevirtual 109, 3) := by decide +kernel
theorem dX7_removalDisruption_53 : decode cX7_removalDisruption 53 = .ok (.iload_n 3, 1) := by decide +kernel
theorem dX7_removalDisruption_54 : decode cX7_removalDisruption 54 = .ok (.ireturn, 1) := by decide +kernel
theorem k_X7_undo_124 : aKV mX7_undo mX7_isRefused 124 2 7 := ⟨cb_X7_isRefused, rfl, ml_X7_124, iv_X7_isRefused, sl_X7_isRefused, ⟨_, _, rfl⟩, ⟨Nat.le_of_ble_eq_true rfl, Nat.le_of_ble_eq_true rfl⟩⟩
theorem k_X7_undo_136 : aKV mX7_undo mX7_comesAnew 136 0 7 := ⟨cb_X7_comesAnew, rfl, ml_X7_136, iv_X7_comesAnew, sl_X7_comesAnew, ⟨_, _, rfl⟩, ⟨Nat.le_of_ble_eq_true rfl, Nat.le_of_ble_eq_true rfl⟩⟩
theorem k_X7_addServer_149 : aKV mX7_addServer mX7_named 149 1 7 := ⟨cb_X7_named, rfl, ml_X7_149, iv_X7_named, sl_X7_named, ⟨_, _, rfl⟩, ⟨Nat.le_of_ble_eq_true rfl, Nat.le_of_ble_eq_true rfl⟩⟩
theorem k_X7_addServer_152 : aKV mX7_addServer mX7_count 152 0 7 := ⟨cb_X7_count, rfl, ml_X7_152, iv_X7_count, sl_X7_count, ⟨_, _, rfl⟩, ⟨Nat.le_of_ble_eq_true rfl, Nat.le_of_ble_eq_true rfl⟩⟩
theorem k_X7_addServer_124 : aKV mX7_addServer mX7_isRefused 124 2 7 := ⟨cb_X7_isRefused, rfl, ml_X7_124, iv_X7_isRefused, sl_X7_isRefused, ⟨_, _, rfl⟩, ⟨Nat.le_of_ble_eq_true rfl, Nat.le_of_ble_eq_true rfl⟩⟩
theorem k_X7_addServer_143 : aKS mX7_addServer mX7_noName 143 1 := ⟨cb_X7_noName, rfl, ml_X7_143, st_X7_noName, ⟨Nat.le_of_ble_eq_true rfl, Nat.le_of_ble_eq_true rfl⟩⟩
theorem k_X7_addServer_146 : aKS mX7_addServer mX7_noWeight 146 1 := ⟨cb_X7_noWeight, rfl, ml_X7_146, st_X7_noWeight, ⟨Nat.le_of_ble_eq_true rfl, Nat.le_of_ble_eq_true rfl⟩⟩
theorem k_X7_addServer_136 : aKV mX7_addServer mX7_comesAnew 136 0 7 := ⟨cb_X7_comesAnew, rfl, ml_X7_136, iv_X7_comesAnew, sl_X7_comesAnew, ⟨_, _, rfl⟩, ⟨Nat.le_of_ble_eq_true rfl, Nat.le_of_ble_eq_true rfl⟩⟩
theorem k_X7_addServer_155 : aKV mX7_addServer mX7_keeps 155 0 7 := ⟨cb_X7_keeps, rfl, ml_X7_155, iv_X7_keeps, sl_X7_keeps, ⟨_, _, rfl⟩, ⟨Nat.le_of_ble_eq_true rfl, Nat.le_of_ble_eq_true rfl⟩⟩
theorem k_X7_removeServer_158 : aKV mX7_removeServer mX7_noServer 158 1 7 := ⟨cb_X7_noServer, rfl, ml_X7_158, iv_X7_noServer, sl_X7_noServer, ⟨_, _, rfl⟩, ⟨Nat.le_of_ble_eq_true rfl, Nat.le_of_ble_eq_true rfl⟩⟩
theorem k_X7_removeServer_124 : aKV mX7_removeServer mX7_isRefused 124 2 7 := ⟨cb_X7_isRefused, rfl, ml_X7_124, iv_X7_isRefused, sl_X7_isRefused, ⟨_, _, rfl⟩, ⟨Nat.le_of_ble_eq_true rfl, Nat.le_of_ble_eq_true rfl⟩⟩
theorem k_X7_setUp_158 : aKV mX7_setUp mX7_noServer 158 1 7 := ⟨cb_X7_noServer, rfl, ml_X7_158, iv_X7_noServer, sl_X7_noServer, ⟨_, _, rfl⟩, ⟨Nat.le_of_ble_eq_true rfl, Nat.le_of_ble_eq_true rfl⟩⟩
theorem k_X7_setUp_124 : aKV mX7_setUp mX7_isRefused 124 2 7 := ⟨cb_X7_isRefused, rfl, ml_X7_124, iv_X7_isRefused, sl_X7_isRefused, ⟨_, _, rfl⟩, ⟨Nat.le_of_ble_eq_true rfl, Nat.le_of_ble_eq_true rfl⟩⟩
theorem k_X7_removalDisruption_158 : aKV mX7_removalDisruption mX7_noServer 158 1 7 := ⟨cb_X7_noServer, rfl, ml_X7_158, iv_X7_noServer, sl_X7_noServer, ⟨_, _, rfl⟩, ⟨Nat.le_of_ble_eq_true rfl, Nat.le_of_ble_eq_true rfl⟩⟩
theorem k_X7_removalDisruption_124 : aKV mX7_removalDisruption mX7_isRefused 124 2 7 := ⟨cb_X7_isRefused, rfl, ml_X7_124, iv_X7_isRefused, sl_X7_isRefused, ⟨_, _, rfl⟩, ⟨Nat.le_of_ble_eq_true rfl, Nat.le_of_ble_eq_true rfl⟩⟩
theorem k_X7_removeServer_155 : aKV mX7_removeServer mX7_keeps 155 0 7 := ⟨cb_X7_keeps, rfl, ml_X7_155, iv_X7_keeps, sl_X7_keeps, ⟨_, _, rfl⟩, ⟨Nat.le_of_ble_eq_true rfl, Nat.le_of_ble_eq_true rfl⟩⟩
theorem k_X7_removeServer_136 : aKV mX7_removeServer mX7_comesAnew 136 0 7 := ⟨cb_X7_comesAnew, rfl, ml_X7_136, iv_X7_comesAnew, sl_X7_comesAnew, ⟨_, _, rfl⟩, ⟨Nat.le_of_ble_eq_true rfl, Nat.le_of_ble_eq_true rfl⟩⟩
theorem k_X7_setUp_155 : aKV mX7_setUp mX7_keeps 155 0 7 := ⟨cb_X7_keeps, rfl, ml_X7_155, iv_X7_keeps, sl_X7_keeps, ⟨_, _, rfl⟩, ⟨Nat.le_of_ble_eq_true rfl, Nat.le_of_ble_eq_true rfl⟩⟩
theorem k_X7_setUp_136 : aKV mX7_setUp mX7_comesAnew 136 0 7 := ⟨cb_X7_comesAnew, rfl, ml_X7_136, iv_X7_comesAnew, sl_X7_comesAnew, ⟨_, _, rfl⟩, ⟨Nat.le_of_ble_eq_true rfl, Nat.le_of_ble_eq_true rfl⟩⟩
theorem k_X7_setWeight_124 : aKV mX7_setWeight mX7_isRefused 124 2 7 := ⟨cb_X7_isRefused, rfl, ml_X7_124, iv_X7_isRefused, sl_X7_isRefused, ⟨_, _, rfl⟩, ⟨Nat.le_of_ble_eq_true rfl, Nat.le_of_ble_eq_true rfl⟩⟩
theorem k_X7_setWeight_158 : aKV mX7_setWeight mX7_noServer 158 1 7 := ⟨cb_X7_noServer, rfl, ml_X7_158, iv_X7_noServer, sl_X7_noServer, ⟨_, _, rfl⟩, ⟨Nat.le_of_ble_eq_true rfl, Nat.le_of_ble_eq_true rfl⟩⟩
theorem k_X7_setWeight_146 : aKS mX7_setWeight mX7_noWeight 146 1 := ⟨cb_X7_noWeight, rfl, ml_X7_146, st_X7_noWeight, ⟨Nat.le_of_ble_eq_true rfl, Nat.le_of_ble_eq_true rfl⟩⟩
theorem k_X7_setWeight_155 : aKV mX7_setWeight mX7_keeps 155 0 7 := ⟨cb_X7_keeps, rfl, ml_X7_155, iv_X7_keeps, sl_X7_keeps, ⟨_, _, rfl⟩, ⟨Nat.le_of_ble_eq_true rfl, Nat.le_of_ble_eq_true rfl⟩⟩
theorem k_X7_setWeight_136 : aKV mX7_setWeight mX7_comesAnew 136 0 7 := ⟨cb_X7_comesAnew, rfl, ml_X7_136, iv_X7_comesAnew, sl_X7_comesAnew, ⟨_, _, rfl⟩, ⟨Nat.le_of_ble_eq_true rfl, Nat.le_of_ble_eq_true rfl⟩⟩
theorem k_X7_removalDisruption_106 : aKV mX7_removalDisruption mX7_remembers 106 0 7 := ⟨cb_X7_remembers, rfl, ml_X7_106, iv_X7_remembers, sl_X7_remembers, ⟨_, _, rfl⟩, ⟨Nat.le_of_ble_eq_true rfl, Nat.le_of_ble_eq_true rfl⟩⟩
theorem k_X7_removalDisruption_109 : aKV mX7_removalDisruption mX7_builds 109 0 7 := ⟨cb_X7_builds, rfl, ml_X7_109, iv_X7_builds, sl_X7_builds, ⟨_, _, rfl⟩, ⟨Nat.le_of_ble_eq_true rfl, Nat.le_of_ble_eq_true rfl⟩⟩
theorem k_X7_removalDisruption_112 : aKV mX7_removalDisruption mX7_differing 112 0 7 := ⟨cb_X7_differing, rfl, ml_X7_112, iv_X7_differing, sl_X7_differing, ⟨_, _, rfl⟩, ⟨Nat.le_of_ble_eq_true rfl, Nat.le_of_ble_eq_true rfl⟩⟩
/-! ===== PreferenceTableModel: changes of servers ===== -/
/-- row z of what is kept, over v -/
def vRow (z p : Nat) (r : rT) (v : sT) : sT := (fFl 10 (fun t => r.1 (10 * z + t)) v.1, fFl 10 (fun t => r.2.1 (10 * z + t)) v.2.1, fFl 10 (fun t => r.2.2.1 (10 * z + t)) v.2.2.1, fFl 10 (fun t => r.2.2.2.1 (10 * z + t)) v.2.2.2.1, fFl 6 (fun t => r.2.2.2.2.2.1 (6 * z + t)) v.2.2.2.2.1, fFl 6 (fun t => r.2.2.2.2.2.2 (6 * z + t)) v.2.2.2.2.2.1, p)
def mTn (v : sT) (n : Int32) : Bool := decide (¬ oI (mNm v n) = -1) || decide (mCt v = 10)
def vAd (v : sT) (s : Nat) (n w : Int32) : sT := (upd v.1 s 2, upd v.2.1 s n, upd v.2.2.1 s w, vp_updL v.2.2.2.1 s 0, v.2.2.2.2)
def vRm (v : sT) (s : Nat) : sT := (upd v.1 s 0, v.2.1, v.2.2.1, v.2.2.2.1, pKe (fun _ k => decide (¬ k = nI s)) v.2.2.2.2.1 v.2.2.2.2.2.1 v.2.2.2.2.2.2)
def vSw (v : sT) (s : Nat) (w : Int32) : sT := (v.1, v.2.1, upd v.2.2.1 s w, v.2.2.2)
def vSu (v : sT) (s : Nat) (x : Int32) : sT := (upd v.1 s x, v.2)
theorem upd_back (F : Nat → Int32) (s : Nat) (x : Int32) : upd (upd F s x) s (F s) = F := by
  funext j; unfold upd
  by_cases h : j = s
  · subst h; rw [if_pos rfl]
  · rw [if_neg h, if_neg h]
section MO6
variable {l : Launch} {X : aX} {f : Int32} {v : sT} {u : uT} {k : kT} {q : qT}
theorem c_X7_undo_bad (hz : q.1 = 0) : aWr l X mX7_undo is19 [.ref 0] (aMo f v u k q) (some (.int 0)) (aMo 1 v u k q) := by
  refine aMt.of (by decide) rfl (Nat.le_of_ble_eq_true rfl) ?_
  refine a_aload_n dX7_undo_0 rfl ?_
  refine a_aload_n dX7_undo_1 rfl ?_
  refine a_get fl_X7_88 dX7_undo_2 rfl rfl ?_
  refine a_if_ne 12 dX7_undo_5 (by decide) (fun z => absurd (by rw [hz]; rfl) z) (fun _ => ?_)
  refine a_iconst 1 dX7_undo_8 (by decide) ?_
  refine a_goto 13 dX7_undo_9 (by decide) ?_
  refine a_iconst 0 dX7_undo_13 (by decide) ?_
  refine a_ViW is19 (aMo 1 v u k q) k_X7_undo_124 (c_X7_isRefused (f := f) (v := v) (u := u) (k := k) (q := q) true false) dX7_undo_14 rfl rfl rfl rfl rfl rfl (Nat.le_of_ble_eq_true rfl) ⟨Nat.le_of_ble_eq_true rfl, Nat.le_of_ble_eq_true rfl⟩ ⟨rfl, rfl⟩ (Nat.le_of_ble_eq_true rfl) rfl ?_
  refine a_if_eq 22 dX7_undo_17 (by decide) (fun z => absurd z (by decide)) (fun _ => ?_)
  refine a_iconst 0 dX7_undo_20 (by decide) ?_
  refine a_iret rfl dX7_undo_21 (by decide) (by decide) ?_
  exact ⟨rfl, rfl⟩
theorem c_X7_undo_ok (z p : Nat) (r : rT) (hz : z < 4) (hp : r.2.2.2.2.1 z = nI p) (hM : u.1 ∈ slP) (hT : uOk u.2.1 u.1) (A W : Nat → Nat) (hN : ∀ i, i < 10 → (vRow z p r v).1 i = 2 → (vRow z p r v).2.1 i = nI (A i)) (hA : ∀ i, i < 10 → A i ≤ 9999) (hWt : ∀ i, i < 10 → (vRow z p r v).2.2.1 i = nI (W i)) (hW : ∀ i, i < 10 → W i ≤ 16) : aWr l X mX7_undo is19 [.ref 0] (aMo f v u k (z + 1, r)) (some (.int (nI z))) (aMo 0 (vRow z p r v) (uNw (vRow z p r v) u A W) k (z, r)) := by
  refine aMt.of (by decide) rfl (Nat.le_of_ble_eq_true rfl) ?_
  have iz : vp_in (nI z) 4 := vp_in_nI hz (by decide)
  have cz : (nI z).toNatClampNeg = z := nI_clamp (by omega)
  have lp2 : ∀ (n j : Nat), j + n = 6 → aJ l X mX7_undo (aEd X mX7_undo is19 (fun o h' => o = .inl (some (.int (nI z))) ∧ h' = aMo 0 (vRow z p r v) (uNw (vRow z p r v) u A W) k (z, r))) 0 0 128 [.ref 0, .int (nI j)] [] (aMo 0 ((vRow z p r v).1, (vRow z p r v).2.1, (vRow z p r v).2.2.1, (vRow z p r v).2.2.2.1, fFl j (fun t => r.2.2.2.2.2.1 (6 * z + t)) v.2.2.2.2.1, fFl j (fun t => r.2.2.2.2.2.2 (6 * z + t)) v.2.2.2.2.2.1, v.2.2.2.2.2.2) u k (z, r)) := by
    intro n
    induction n with
    | zero =>
      intro j hj
      obtain rfl : j = 6 := by omega
      refine a_iload_n dX7_undo_128 rfl ?_
      refine a_bipush 6 dX7_undo_129 (by decide) ?_
      refine a_icmp_ge 180 dX7_undo_131 (by decide) (fun _ => ?_) (fun z => absurd (by decide) z)
      refine a_aload_n dX7_undo_180 rfl ?_
      refine a_aload_n dX7_undo_181 rfl ?_
      refine a_get fl_X7_60 dX7_undo_182 rfl rfl ?_
      refine a_aload_n dX7_undo_185 rfl ?_
      refine a_get fl_X7_88 dX7_undo_186 rfl rfl ?_
      refine a_iald dX7_undo_189 rfl (by assumption) ?_
      rw [cz]
      dsimp only
      rw [hp]
      refine a_put fp_X7_82 dX7_undo_190 rfl (Nat.le_of_ble_eq_true rfl) (fun _ => ⟨rfl, rfl⟩) ?_
      refine a_aload_n dX7_undo_193 rfl ?_
      refine a_VvW is19 (aMo 0 (vRow z p r v) (uNw (vRow z p r v) u A W) k (z, r)) k_X7_undo_136 (c_X7_comesAnew (f := 0) (v := vRow z p r v) (u := u) (k := k) (q := (z, r)) hM hT A W hN hA hWt hW) dX7_undo_194 rfl rfl rfl rfl rfl rfl (Nat.le_of_ble_eq_true rfl) ⟨Nat.le_of_ble_eq_true rfl, Nat.le_of_ble_eq_true rfl⟩ ⟨rfl, rfl⟩ (Nat.le_of_ble_eq_true rfl) rfl ?_
      refine a_aload_n dX7_undo_197 rfl ?_
      refine a_get fl_X7_88 dX7_undo_198 rfl rfl ?_
      refine a_iret rfl dX7_undo_201 (by decide) (by decide) ?_
      exact ⟨rfl, rfl⟩
    | succ n ih =>
      intro j hj
      have hi : vp_in (nI j) 6 := in6 (by omega)
      have e : 6 * nI z + nI j = nI (6 * z + j) := ix_row 6 z j
      have hi2 : vp_in (6 * nI z + nI j) 24 := by rw [e]; exact vp_in_nI (by omega) (by decide)
      refine a_iload_n dX7_undo_128 rfl ?_
      refine a_bipush 6 dX7_undo_129 (by decide) ?_
      refine a_icmp_ge 180 dX7_undo_131 (by decide) (fun z => absurd z (ge6_f (by omega))) (fun _ => ?_)
      refine a_aload_n dX7_undo_134 rfl ?_
      refine a_get fl_X7_33 dX7_undo_135 rfl rfl ?_
      refine a_iload_n dX7_undo_138 rfl ?_
      refine a_aload_n dX7_undo_139 rfl ?_
      refine a_get fl_X7_63 dX7_undo_140 rfl rfl ?_
      refine a_bipush 6 dX7_undo_143 (by decide) ?_
      refine a_aload_n dX7_undo_145 rfl ?_
      refine a_get fl_X7_88 dX7_undo_146 rfl rfl ?_
      refine a_imul dX7_undo_149 ?_
      refine a_iload_n dX7_undo_150 rfl ?_
      refine a_iadd dX7_undo_151 ?_
      refine a_iald dX7_undo_152 rfl (by assumption) ?_
      refine a_iast dX7_undo_153 rfl (by assumption) ?_
      refine a_aload_n dX7_undo_154 rfl ?_
      refine a_get fl_X7_36 dX7_undo_155 rfl rfl ?_
      refine a_iload_n dX7_undo_158 rfl ?_
      refine a_aload_n dX7_undo_159 rfl ?_
      refine a_get fl_X7_66 dX7_undo_160 rfl rfl ?_
      refine a_bipush 6 dX7_undo_163 (by decide) ?_
      refine a_aload_n dX7_undo_165 rfl ?_
      refine a_get fl_X7_88 dX7_undo_166 rfl rfl ?_
      refine a_imul dX7_undo_169 ?_
      refine a_iload_n dX7_undo_170 rfl ?_
      refine a_iadd dX7_undo_171 ?_
      refine a_iald dX7_undo_172 rfl (by assumption) ?_
      refine a_iast dX7_undo_173 rfl (by assumption) ?_
      refine a_iinc (nI (j + 1)) dX7_undo_174 rfl (nI_1 _) (by decide) rfl ?_
      refine a_goto 128 dX7_undo_177 (by decide) ?_
      refine a_to rfl rfl rfl ?_ (ih (j + 1) (by omega))
      rw [e, nI_clamp (show 6 * z + j < 2 ^ 31 by omega), cl6 (show j < 6 by omega)]
      dsimp only
      rw [fFl_s (v := fun t => r.2.2.2.2.2.1 (6 * z + t)), fFl_s (v := fun t => r.2.2.2.2.2.2 (6 * z + t))]
      rfl
  have lp1 : ∀ (n j : Nat), j + n = 10 → aJ l X mX7_undo (aEd X mX7_undo is19 (fun o h' => o = .inl (some (.int (nI z))) ∧ h' = aMo 0 (vRow z p r v) (uNw (vRow z p r v) u A W) k (z, r))) 0 0 34 [.ref 0, .int (nI j)] [] (aMo 0 (fFl j (fun t => r.1 (10 * z + t)) v.1, fFl j (fun t => r.2.1 (10 * z + t)) v.2.1, fFl j (fun t => r.2.2.1 (10 * z + t)) v.2.2.1, fFl j (fun t => r.2.2.2.1 (10 * z + t)) v.2.2.2.1, v.2.2.2.2) u k (z, r)) := by
    intro n
    induction n with
    | zero =>
      intro j hj
      obtain rfl : j = 10 := by omega
      refine a_iload_n dX7_undo_34 rfl ?_
      refine a_bipush 10 dX7_undo_35 (by decide) ?_
      refine a_icmp_ge 126 dX7_undo_37 (by decide) (fun _ => ?_) (fun z => absurd ge10_t z)
      refine a_iconst 0 dX7_undo_126 (by decide) ?_
      refine a_istore_n dX7_undo_127 (by decide) rfl ?_
      have := lp2 6 0 rfl
      rw [fFl_0, fFl_0] at this
      exact this
    | succ n ih =>
      intro j hj
      have hi : vp_in (nI j) 10 := in10 (by omega)
      have e : 10 * nI z + nI j = nI (10 * z + j) := ix_row 10 z j
      have hi2 : vp_in (10 * nI z + nI j) 40 := by rw [e]; exact vp_in_nI (by omega) (by decide)
      refine a_iload_n dX7_undo_34 rfl ?_
      refine a_bipush 10 dX7_undo_35 (by decide) ?_
      refine a_icmp_ge 126 dX7_undo_37 (by decide) (fun z => absurd z (ge10_f (by omega))) (fun _ => ?_)
      refine a_aload_n dX7_undo_40 rfl ?_
      refine a_get fl_X7_13 dX7_undo_41 rfl rfl ?_
      refine a_iload_n dX7_undo_44 rfl ?_
      refine a_aload_n dX7_undo_45 rfl ?_
      refine a_get fl_X7_48 dX7_undo_46 rfl rfl ?_
      refine a_bipush 10 dX7_undo_49 (by decide) ?_
      refine a_aload_n dX7_undo_51 rfl ?_
      refine a_get fl_X7_88 dX7_undo_52 rfl rfl ?_
      refine a_imul dX7_undo_55 ?_
      refine a_iload_n dX7_undo_56 rfl ?_
      refine a_iadd dX7_undo_57 ?_
      refine a_iald dX7_undo_58 rfl (by assumption) ?_
      refine a_iast dX7_undo_59 rfl (by assumption) ?_
      refine a_aload_n dX7_undo_60 rfl ?_
      refine a_get fl_X7_17 dX7_undo_61 rfl rfl ?_
      refine a_iload_n dX7_undo_64 rfl ?_
      refine a_aload_n dX7_undo_65 rfl ?_
      refine a_get fl_X7_51 dX7_undo_66 rfl rfl ?_
      refine a_bipush 10 dX7_undo_69 (by decide) ?_
      refine a_aload_n dX7_undo_71 rfl ?_
      refine a_get fl_X7_88 dX7_undo_72 rfl rfl ?_
      refine a_imul dX7_undo_75 ?_
      refine a_iload_n dX7_undo_76 rfl ?_
      refine a_iadd dX7_undo_77 ?_
      refine a_iald dX7_undo_78 rfl (by assumption) ?_
      refine a_iast dX7_undo_79 rfl (by assumption) ?_
      refine a_aload_n dX7_undo_80 rfl ?_
      refine a_get fl_X7_20 dX7_undo_81 rfl rfl ?_
      refine a_iload_n dX7_undo_84 rfl ?_
      refine a_aload_n dX7_undo_85 rfl ?_
      refine a_get fl_X7_54 dX7_undo_86 rfl rfl ?_
      refine a_bipush 10 dX7_undo_89 (by decide) ?_
      refine a_aload_n dX7_undo_91 rfl ?_
      refine a_get fl_X7_88 dX7_undo_92 rfl rfl ?_
      refine a_imul dX7_undo_95 ?_
      refine a_iload_n dX7_undo_96 rfl ?_
      refine a_iadd dX7_undo_97 ?_
      refine a_iald dX7_undo_98 rfl (by assumption) ?_
      refine a_iast dX7_undo_99 rfl (by assumption) ?_
      refine a_aload_n dX7_undo_100 rfl ?_
      refine a_get fl_X7_23 dX7_undo_101 rfl rfl ?_
      refine a_iload_n dX7_undo_104 rfl ?_
      refine a_aload_n dX7_undo_105 rfl ?_
      refine a_get fl_X7_57 dX7_undo_106 rfl rfl ?_
      refine a_bipush 10 dX7_undo_109 (by decide) ?_
      refine a_aload_n dX7_undo_111 rfl ?_
      refine a_get fl_X7_88 dX7_undo_112 rfl rfl ?_
      refine a_imul dX7_undo_115 ?_
      refine a_iload_n dX7_undo_116 rfl ?_
      refine a_iadd dX7_undo_117 ?_
      refine a_lald dX7_undo_118 rfl (by assumption) ?_
      refine a_last dX7_undo_119 rfl (by assumption) ?_
      refine a_iinc (nI (j + 1)) dX7_undo_120 rfl (nI_1 _) (by decide) rfl ?_
      refine a_goto 34 dX7_undo_123 (by decide) ?_
      refine a_to rfl rfl rfl ?_ (ih (j + 1) (by omega))
      rw [e, nI_clamp (show 10 * z + j < 2 ^ 31 by omega), cl10 (show j < 10 by omega)]
      dsimp only
      rw [fFl_s (v := fun t => r.1 (10 * z + t)), fFl_s (v := fun t => r.2.1 (10 * z + t)), fFl_s (v := fun t => r.2.2.1 (10 * z + t)), fFl_sL (v := fun t => r.2.2.2.1 (10 * z + t))]
      rfl
  refine a_aload_n dX7_undo_0 rfl ?_
  refine a_aload_n dX7_undo_1 rfl ?_
  refine a_get fl_X7_88 dX7_undo_2 rfl rfl ?_
  refine a_if_ne 12 dX7_undo_5 (by decide) (fun _ => ?_) (fun z => absurd z (nI_ne0 (by omega) (by omega)))
  refine a_iconst 0 dX7_undo_12 (by decide) ?_
  refine a_iconst 0 dX7_undo_13 (by decide) ?_
  refine a_ViW is19 (aMo 0 v u k (z + 1, r)) k_X7_undo_124 (c_X7_isRefused (f := f) (v := v) (u := u) (k := k) (q := (z + 1, r)) false false) dX7_undo_14 rfl rfl rfl rfl rfl rfl (Nat.le_of_ble_eq_true rfl) ⟨Nat.le_of_ble_eq_true rfl, Nat.le_of_ble_eq_true rfl⟩ ⟨rfl, rfl⟩ (Nat.le_of_ble_eq_true rfl) rfl ?_
  refine a_if_eq 22 dX7_undo_17 (by decide) (fun _ => ?_) (fun z => absurd (by decide) z)
  refine a_aload_n dX7_undo_22 rfl ?_
  refine a_dup dX7_undo_23 rfl ?_
  refine a_get fl_X7_88 dX7_undo_24 rfl rfl ?_
  refine a_iconst 1 dX7_undo_27 (by decide) ?_
  refine a_isub dX7_undo_28 ?_
  rw [nI_pred]
  refine a_put fp_X7_88 dX7_undo_29 rfl (Nat.le_of_ble_eq_true rfl) (fun _ => ⟨rfl, rfl⟩) ?_
  refine a_iconst 0 dX7_undo_32 (by decide) ?_
  refine a_istore_n dX7_undo_33 (by decide) rfl ?_
  have := lp1 10 0 rfl
  rw [fFl_0, fFl_0, fFl_0, fFl_0] at this
  exact this
theorem c_X7_addServer_mid {F : aPh} {n w a : Int32} (hF : F.1 = is19) (kk : aJ l X mX7_addServer F 0 0 43 [.ref 0, .int n, .int w, .null] [.int (bI (mTn v n)), .int a, .ref 0] (aMo f v u k q)) : aJ l X mX7_addServer F 0 0 20 [.ref 0, .int n, .int w, .null] [.int a, .ref 0] (aMo f v u k q) := by
  obtain ⟨F1, F2⟩ := F
  dsimp only at hF
  subst hF
  refine a_aload_n dX7_addServer_20 rfl ?_
  refine a_iload_n dX7_addServer_21 rfl ?_
  refine a_ViR is19 k_X7_addServer_149 (c_X7_named (f := f) (v := v) (u := u) (k := k) (q := q) n) dX7_addServer_22 rfl rfl rfl rfl rfl rfl (Nat.le_of_ble_eq_true rfl) ⟨Nat.le_of_ble_eq_true rfl, Nat.le_of_ble_eq_true rfl⟩ ⟨rfl, rfl⟩ ?_
  refine a_iconst (-1) dX7_addServer_25 (by decide) ?_
  refine a_icmp_ne 38 dX7_addServer_26 (by decide) (fun c26 => ?_) (fun c26 => ?_)
  · have e : mTn v n = true := by simp [mTn, c26]
    rw [e] at kk
    refine a_iconst 1 dX7_addServer_38 (by decide) ?_
    refine a_goto 43 dX7_addServer_39 (by decide) ?_
    exact kk
  · refine a_aload_n dX7_addServer_29 rfl ?_
    refine a_ViR is19 k_X7_addServer_152 (c_X7_count (f := f) (v := v) (u := u) (k := k) (q := q)) dX7_addServer_30 rfl rfl rfl rfl rfl rfl (Nat.le_of_ble_eq_true rfl) ⟨Nat.le_of_ble_eq_true rfl, Nat.le_of_ble_eq_true rfl⟩ ⟨rfl, rfl⟩ ?_
    refine a_bipush 10 dX7_addServer_33 (by decide) ?_
    refine a_icmp_ne 42 dX7_addServer_35 (by decide) (fun c35 => ?_) (fun c35 => ?_)
    · have e : mTn v n = false := by simp [mTn, c26, c35]
      rw [e] at kk
      refine a_iconst 0 dX7_addServer_42 (by decide) ?_
      exact kk
    · have e : mTn v n = true := by simp [mTn, c35]
      rw [e] at kk
      refine a_iconst 1 dX7_addServer_38 (by decide) ?_
      refine a_goto 43 dX7_addServer_39 (by decide) ?_
      exact kk
theorem c_X7_addServer_bad (n w : Int32) (hg : (gNm n && gWt w) = false) : aWr l X mX7_addServer is19 [.ref 0, .int n, .int w] (aMo f v u k q) (some (.int 0)) (aMo 1 v u k q) := by
  refine aMt.of (by decide) rfl (Nat.le_of_ble_eq_true rfl) ?_
  have hcn := c_X7_noName (l := l) (X := X) n
  have hcw := c_X7_noWeight (l := l) (X := X) w
  have hno : aJ l X mX7_addServer (aEd X mX7_addServer is19 (fun o h' => o = .inl (some (.int 0)) ∧ h' = aMo 1 v u k q)) 0 0 15 [.ref 0, .int n, .int w, .null] [.ref 0] (aMo f v u k q) := by
    refine a_iconst 1 dX7_addServer_15 (by decide) ?_
    refine a_goto 20 dX7_addServer_16 (by decide) ?_
    refine c_X7_addServer_mid rfl ?_
    refine a_ViW is19 (aMo 1 v u k q) k_X7_addServer_124 (c_X7_isRefused (f := f) (v := v) (u := u) (k := k) (q := q) true (mTn v n)) dX7_addServer_43 rfl rfl rfl rfl rfl rfl (Nat.le_of_ble_eq_true rfl) ⟨Nat.le_of_ble_eq_true rfl, Nat.le_of_ble_eq_true rfl⟩ ⟨rfl, rfl⟩ (Nat.le_of_ble_eq_true rfl) rfl ?_
    refine a_if_eq 51 dX7_addServer_46 (by decide) (fun z => absurd z (bI_t _)) (fun _ => ?_)
    refine a_iconst 0 dX7_addServer_49 (by decide) ?_
    refine a_iret rfl dX7_addServer_50 (by decide) (by decide) ?_
    exact ⟨rfl, rfl⟩
  by_cases h1 : gNm n = true
  · rw [h1] at hcn hg
    have h2 : gWt w = false := by simpa using hg
    rw [h2] at hcw
    refine a_aload_n dX7_addServer_0 rfl ?_
    refine a_iload_n dX7_addServer_1 rfl ?_
    refine a_SiR [] k_X7_addServer_143 (hcn) dX7_addServer_2 rfl rfl rfl rfl rfl (Nat.le_of_ble_eq_true rfl) ⟨Nat.le_of_ble_eq_true rfl, Nat.le_of_ble_eq_true rfl⟩ ⟨rfl, rfl⟩ ?_
    refine a_if_ne 15 dX7_addServer_5 (by decide) (fun z => absurd (by decide) z) (fun _ => ?_)
    refine a_iload_n dX7_addServer_8 rfl ?_
    refine a_SiR [] k_X7_addServer_146 (hcw) dX7_addServer_9 rfl rfl rfl rfl rfl (Nat.le_of_ble_eq_true rfl) ⟨Nat.le_of_ble_eq_true rfl, Nat.le_of_ble_eq_true rfl⟩ ⟨rfl, rfl⟩ ?_
    refine a_if_eq 19 dX7_addServer_12 (by decide) (fun z => absurd z (by decide)) (fun _ => ?_)
    exact hno
  · rw [Bool.not_eq_true] at h1
    rw [h1] at hcn
    refine a_aload_n dX7_addServer_0 rfl ?_
    refine a_iload_n dX7_addServer_1 rfl ?_
    refine a_SiR [] k_X7_addServer_143 (hcn) dX7_addServer_2 rfl rfl rfl rfl rfl (Nat.le_of_ble_eq_true rfl) ⟨Nat.le_of_ble_eq_true rfl, Nat.le_of_ble_eq_true rfl⟩ ⟨rfl, rfl⟩ ?_
    refine a_if_ne 15 dX7_addServer_5 (by decide) (fun _ => ?_) (fun z => absurd z (by decide))
    exact hno
theorem c_X7_addServer_ise (n w : Int32) (hg : (gNm n && gWt w) = true) (ht : mTn v n = true) : aWr l X mX7_addServer is19 [.ref 0, .int n, .int w] (aMo f v u k q) (some (.int 0)) (aMo 2 v u k q) := by
  refine aMt.of (by decide) rfl (Nat.le_of_ble_eq_true rfl) ?_
  rw [Bool.and_eq_true] at hg
  have hcn := c_X7_noName (l := l) (X := X) n
  have hcw := c_X7_noWeight (l := l) (X := X) w
  rw [hg.1] at hcn
  rw [hg.2] at hcw
  refine a_aload_n dX7_addServer_0 rfl ?_
  refine a_iload_n dX7_addServer_1 rfl ?_
  refine a_SiR [] k_X7_addServer_143 (hcn) dX7_addServer_2 rfl rfl rfl rfl rfl (Nat.le_of_ble_eq_true rfl) ⟨Nat.le_of_ble_eq_true rfl, Nat.le_of_ble_eq_true rfl⟩ ⟨rfl, rfl⟩ ?_
  refine a_if_ne 15 dX7_addServer_5 (by decide) (fun z => absurd (by decide) z) (fun _ => ?_)
  refine a_iload_n dX7_addServer_8 rfl ?_
  refine a_SiR [] k_X7_addServer_146 (hcw) dX7_addServer_9 rfl rfl rfl rfl rfl (Nat.le_of_ble_eq_true rfl) ⟨Nat.le_of_ble_eq_true rfl, Nat.le_of_ble_eq_true rfl⟩ ⟨rfl, rfl⟩ ?_
  refine a_if_eq 19 dX7_addServer_12 (by decide) (fun _ => ?_) (fun z => absurd (by decide) z)
  refine a_iconst 0 dX7_addServer_19 (by decide) ?_
  refine c_X7_addServer_mid rfl ?_
  rw [ht]
  refine a_ViW is19 (aMo 2 v u k q) k_X7_addServer_124 (c_X7_isRefused (f := f) (v := v) (u := u) (k := k) (q := q) false true) dX7_addServer_43 rfl rfl rfl rfl rfl rfl (Nat.le_of_ble_eq_true rfl) ⟨Nat.le_of_ble_eq_true rfl, Nat.le_of_ble_eq_true rfl⟩ ⟨rfl, rfl⟩ (Nat.le_of_ble_eq_true rfl) rfl ?_
  refine a_if_eq 51 dX7_addServer_46 (by decide) (fun z => absurd z (by decide)) (fun _ => ?_)
  refine a_iconst 0 dX7_addServer_49 (by decide) ?_
  refine a_iret rfl dX7_addServer_50 (by decide) (by decide) ?_
  exact ⟨rfl, rfl⟩
theorem c_X7_addServer_ok (n w : Int32) (s : Nat) (hg : (gNm n && gWt w) = true) (ht : mTn v n = false) (hq : q.1 ≤ 4) (hf : aFo (fun j => decide (v.1 j = 0)) 10 0 = some s) (hM : u.1 ∈ slP) (hT : uOk u.2.1 u.1) (A W : Nat → Nat) (hN : ∀ i, i < 10 → (vAd v s n w).1 i = 2 → (vAd v s n w).2.1 i = nI (A i)) (hA : ∀ i, i < 10 → A i ≤ 9999) (hWt : ∀ i, i < 10 → (vAd v s n w).2.2.1 i = nI (W i)) (hW : ∀ i, i < 10 → W i ≤ 16) : aWr l X mX7_addServer is19 [.ref 0, .int n, .int w] (aMo f v u k q) (some (.int (nI s))) (aMo 0 (vAd v s n w) (uNw (vAd v s n w) u A W) k (qKp v q)) := by
  refine aMt.of (by decide) rfl (Nat.le_of_ble_eq_true rfl) ?_
  rw [Bool.and_eq_true] at hg
  have hcn := c_X7_noName (l := l) (X := X) n
  have hcw := c_X7_noWeight (l := l) (X := X) w
  rw [hg.1] at hcn
  rw [hg.2] at hcw
  have hs : s < 10 := by have := (aFo_some hf).2.1; omega
  have lp : ∀ (m j : Nat), j + m = 10 → aFo (fun j => decide (v.1 j = 0)) m j = some s → aJ l X mX7_addServer (aEd X mX7_addServer is19 (fun o h' => o = .inl (some (.int (nI s))) ∧ h' = aMo 0 (vAd v s n w) (uNw (vAd v s n w) u A W) k (qKp v q))) 0 0 57 [.ref 0, .int n, .int w, .int (nI j)] [] (aMo 0 v u k (qKp v q)) := by
    intro m
    induction m with
    | zero => intro j hj hq; cases hq
    | succ m ih =>
      intro j hj hq
      have hi : vp_in (nI j) 10 := in10 (by omega)
      refine a_aload_n dX7_addServer_57 rfl ?_
      refine a_get fl_X7_13 dX7_addServer_58 rfl rfl ?_
      refine a_iload_n dX7_addServer_61 rfl ?_
      refine a_iald dX7_addServer_62 rfl (by assumption) ?_
      refine a_if_eq 72 dX7_addServer_63 (by decide) (fun c63 => ?_) (fun c63 => ?_)
      · rw [cl10 (by omega)] at c63
        obtain rfl : j = s := by simpa [aFo, c63] using hq
        refine a_aload_n dX7_addServer_72 rfl ?_
        refine a_get fl_X7_13 dX7_addServer_73 rfl rfl ?_
        refine a_iload_n dX7_addServer_76 rfl ?_
        refine a_iconst 2 dX7_addServer_77 (by decide) ?_
        refine a_iast dX7_addServer_78 rfl (by assumption) ?_
        refine a_aload_n dX7_addServer_79 rfl ?_
        refine a_get fl_X7_17 dX7_addServer_80 rfl rfl ?_
        refine a_iload_n dX7_addServer_83 rfl ?_
        refine a_iload_n dX7_addServer_84 rfl ?_
        refine a_iast dX7_addServer_85 rfl (by assumption) ?_
        refine a_aload_n dX7_addServer_86 rfl ?_
        refine a_get fl_X7_20 dX7_addServer_87 rfl rfl ?_
        refine a_iload_n dX7_addServer_90 rfl ?_
        refine a_iload_n dX7_addServer_91 rfl ?_
        refine a_iast dX7_addServer_92 rfl (by assumption) ?_
        refine a_aload_n dX7_addServer_93 rfl ?_
        refine a_get fl_X7_23 dX7_addServer_94 rfl rfl ?_
        refine a_iload_n dX7_addServer_97 rfl ?_
        refine a_lconst 0 dX7_addServer_98 (by decide) ?_
        refine a_last dX7_addServer_99 rfl (by assumption) ?_
        rw [cl10 hs]
        refine a_aload_n dX7_addServer_100 rfl ?_
        refine a_VvW is19 (aMo 0 (vAd v j n w) (uNw (vAd v j n w) u A W) k (qKp v q)) k_X7_addServer_136 (c_X7_comesAnew (f := 0) (v := vAd v j n w) (u := u) (k := k) (q := qKp v q) hM hT A W hN hA hWt hW) dX7_addServer_101 rfl rfl rfl rfl rfl rfl (Nat.le_of_ble_eq_true rfl) ⟨Nat.le_of_ble_eq_true rfl, Nat.le_of_ble_eq_true rfl⟩ ⟨rfl, rfl⟩ (Nat.le_of_ble_eq_true rfl) rfl ?_
        refine a_iload_n dX7_addServer_104 rfl ?_
        refine a_iret rfl dX7_addServer_105 (by decide) (by decide) ?_
        exact ⟨rfl, rfl⟩
      · rw [cl10 (by omega)] at c63
        refine a_iinc (nI (j + 1)) dX7_addServer_66 rfl (nI_1 _) (by decide) rfl ?_
        refine a_goto 57 dX7_addServer_69 (by decide) ?_
        exact ih (j + 1) (by omega) (by rw [← hq]; simp [aFo, c63])
  refine a_aload_n dX7_addServer_0 rfl ?_
  refine a_iload_n dX7_addServer_1 rfl ?_
  refine a_SiR [] k_X7_addServer_143 (hcn) dX7_addServer_2 rfl rfl rfl rfl rfl (Nat.le_of_ble_eq_true rfl) ⟨Nat.le_of_ble_eq_true rfl, Nat.le_of_ble_eq_true rfl⟩ ⟨rfl, rfl⟩ ?_
  refine a_if_ne 15 dX7_addServer_5 (by decide) (fun z => absurd (by decide) z) (fun _ => ?_)
  refine a_iload_n dX7_addServer_8 rfl ?_
  refine a_SiR [] k_X7_addServer_146 (hcw) dX7_addServer_9 rfl rfl rfl rfl rfl (Nat.le_of_ble_eq_true rfl) ⟨Nat.le_of_ble_eq_true rfl, Nat.le_of_ble_eq_true rfl⟩ ⟨rfl, rfl⟩ ?_
  refine a_if_eq 19 dX7_addServer_12 (by decide) (fun _ => ?_) (fun z => absurd (by decide) z)
  refine a_iconst 0 dX7_addServer_19 (by decide) ?_
  refine c_X7_addServer_mid rfl ?_
  rw [ht]
  refine a_ViW is19 (aMo 0 v u k q) k_X7_addServer_124 (c_X7_isRefused (f := f) (v := v) (u := u) (k := k) (q := q) false false) dX7_addServer_43 rfl rfl rfl rfl rfl rfl (Nat.le_of_ble_eq_true rfl) ⟨Nat.le_of_ble_eq_true rfl, Nat.le_of_ble_eq_true rfl⟩ ⟨rfl, rfl⟩ (Nat.le_of_ble_eq_true rfl) rfl ?_
  refine a_if_eq 51 dX7_addServer_46 (by decide) (fun _ => ?_) (fun z => absurd (by decide) z)
  refine a_aload_n dX7_addServer_51 rfl ?_
  refine a_VvW is19 (aMo 0 v u k (qKp v q)) k_X7_addServer_155 (c_X7_keeps (f := 0) (v := v) (u := u) (k := k) (q := q) hq) dX7_addServer_52 rfl rfl rfl rfl rfl rfl (Nat.le_of_ble_eq_true rfl) ⟨Nat.le_of_ble_eq_true rfl, Nat.le_of_ble_eq_true rfl⟩ ⟨rfl, rfl⟩ (Nat.le_of_ble_eq_true rfl) rfl ?_
  refine a_iconst 0 dX7_addServer_55 (by decide) ?_
  refine a_istore_n dX7_addServer_56 (by decide) rfl ?_
  exact lp 10 0 rfl hf

theorem c_X7_removeServer_bad (s : Int32) (hg : fHs v.1 s = false) : aWr l X mX7_removeServer is19 [.ref 0, .int s] (aMo f v u k q) (some (.long 0)) (aMo 1 v u k q) := by
  refine aMt.of (by decide) rfl (Nat.le_of_ble_eq_true rfl) ?_
  have hc := c_X7_noServer (l := l) (X := X) (f := f) (v := v) (u := u) (k := k) (q := q) s
  rw [hg] at hc
  refine a_aload_n dX7_removeServer_0 rfl ?_
  refine a_aload_n dX7_removeServer_1 rfl ?_
  refine a_iload_n dX7_removeServer_2 rfl ?_
  refine a_ViR is19 k_X7_removeServer_158 (hc) dX7_removeServer_3 rfl rfl rfl rfl rfl rfl (Nat.le_of_ble_eq_true rfl) ⟨Nat.le_of_ble_eq_true rfl, Nat.le_of_ble_eq_true rfl⟩ ⟨rfl, rfl⟩ ?_
  refine a_iconst 0 dX7_removeServer_6 (by decide) ?_
  refine a_ViW is19 (aMo 1 v u k q) k_X7_removeServer_124 (c_X7_isRefused (f := f) (v := v) (u := u) (k := k) (q := q) true false) dX7_removeServer_7 rfl rfl rfl rfl rfl rfl (Nat.le_of_ble_eq_true rfl) ⟨Nat.le_of_ble_eq_true rfl, Nat.le_of_ble_eq_true rfl⟩ ⟨rfl, rfl⟩ (Nat.le_of_ble_eq_true rfl) rfl ?_
  refine a_if_eq 15 dX7_removeServer_10 (by decide) (fun z => absurd z (by decide)) (fun _ => ?_)
  refine a_lconst 0 dX7_removeServer_13 (by decide) ?_
  refine a_lret rfl dX7_removeServer_14 (by decide) (by decide) ?_
  exact ⟨rfl, rfl⟩
theorem c_X7_setUp_bad (s : Int32) (up : Bool) (hg : fHs v.1 s = false) : aWr l X mX7_setUp is19 [.ref 0, .int s, .int (bI up)] (aMo f v u k q) (some (.int 0)) (aMo 1 v u k q) := by
  refine aMt.of (by decide) rfl (Nat.le_of_ble_eq_true rfl) ?_
  have hc := c_X7_noServer (l := l) (X := X) (f := f) (v := v) (u := u) (k := k) (q := q) s
  rw [hg] at hc
  refine a_aload_n dX7_setUp_0 rfl ?_
  refine a_aload_n dX7_setUp_1 rfl ?_
  refine a_iload_n dX7_setUp_2 rfl ?_
  refine a_ViR is19 k_X7_setUp_158 (hc) dX7_setUp_3 rfl rfl rfl rfl rfl rfl (Nat.le_of_ble_eq_true rfl) ⟨Nat.le_of_ble_eq_true rfl, Nat.le_of_ble_eq_true rfl⟩ ⟨rfl, rfl⟩ ?_
  refine a_iconst 0 dX7_setUp_6 (by decide) ?_
  refine a_ViW is19 (aMo 1 v u k q) k_X7_setUp_124 (c_X7_isRefused (f := f) (v := v) (u := u) (k := k) (q := q) true false) dX7_setUp_7 rfl rfl rfl rfl rfl rfl (Nat.le_of_ble_eq_true rfl) ⟨Nat.le_of_ble_eq_true rfl, Nat.le_of_ble_eq_true rfl⟩ ⟨rfl, rfl⟩ (Nat.le_of_ble_eq_true rfl) rfl ?_
  refine a_if_eq 15 dX7_setUp_10 (by decide) (fun z => absurd z (by decide)) (fun _ => ?_)
  refine a_iconst 0 dX7_setUp_13 (by decide) ?_
  refine a_zret rfl rfl dX7_setUp_14 (by decide) (by decide) ?_
  exact ⟨rfl, rfl⟩
theorem c_X7_removalDisruption_bad (s : Int32) (hg : fHs v.1 s = false) : aWr l X mX7_removalDisruption is19 [.ref 0, .int s] (aMo f v u k q) (some (.int 0)) (aMo 1 v u k q) := by
  refine aMt.of (by decide) rfl (Nat.le_of_ble_eq_true rfl) ?_
  have hc := c_X7_noServer (l := l) (X := X) (f := f) (v := v) (u := u) (k := k) (q := q) s
  rw [hg] at hc
  refine a_aload_n dX7_removalDisruption_0 rfl ?_
  refine a_aload_n dX7_removalDisruption_1 rfl ?_
  refine a_iload_n dX7_removalDisruption_2 rfl ?_
  refine a_ViR is19 k_X7_removalDisruption_158 (hc) dX7_removalDisruption_3 rfl rfl rfl rfl rfl rfl (Nat.le_of_ble_eq_true rfl) ⟨Nat.le_of_ble_eq_true rfl, Nat.le_of_ble_eq_true rfl⟩ ⟨rfl, rfl⟩ ?_
  refine a_iconst 0 dX7_removalDisruption_6 (by decide) ?_
  refine a_ViW is19 (aMo 1 v u k q) k_X7_removalDisruption_124 (c_X7_isRefused (f := f) (v := v) (u := u) (k := k) (q := q) true false) dX7_removalDisruption_7 rfl rfl rfl rfl rfl rfl (Nat.le_of_ble_eq_true rfl) ⟨Nat.le_of_ble_eq_true rfl, Nat.le_of_ble_eq_true rfl⟩ ⟨rfl, rfl⟩ (Nat.le_of_ble_eq_true rfl) rfl ?_
  refine a_if_eq 15 dX7_removalDisruption_10 (by decide) (fun z => absurd z (by decide)) (fun _ => ?_)
  refine a_iconst 0 dX7_removalDisruption_13 (by decide) ?_
  refine a_iret rfl dX7_removalDisruption_14 (by decide) (by decide) ?_
  exact ⟨rfl, rfl⟩
theorem c_X7_removeServer_ok (s : Nat) (hs : s < 10) (hg : fHs v.1 (nI s) = true) (hq : q.1 ≤ 4) (hm : v.2.2.2.2.2.2 ≤ 6) (hM : u.1 ∈ slP) (hT : uOk u.2.1 u.1) (A W : Nat → Nat) (hN : ∀ i, i < 10 → (vRm v s).1 i = 2 → (vRm v s).2.1 i = nI (A i)) (hA : ∀ i, i < 10 → A i ≤ 9999) (hWt : ∀ i, i < 10 → (vRm v s).2.2.1 i = nI (W i)) (hW : ∀ i, i < 10 → W i ≤ 16) : aWr l X mX7_removeServer is19 [.ref 0, .int (nI s)] (aMo f v u k q) (some (.long (v.2.2.2.1 s))) (aMo 0 (vRm v s) (uNw (vRm v s) u A W) k (qKp v q)) := by
  refine aMt.of (by decide) rfl (Nat.le_of_ble_eq_true rfl) ?_
  have hc := c_X7_noServer (l := l) (X := X) (f := f) (v := v) (u := u) (k := k) (q := q) (nI s)
  rw [hg] at hc
  have his : vp_in (nI s) 10 := in10 hs
  generalize hr : pKe (fun _ k => decide (¬ k = nI s)) v.2.2.2.2.1 v.2.2.2.2.2.1 v.2.2.2.2.2.2 = r
  have hv : vRm v s = (upd v.1 s 0, v.2.1, v.2.2.1, v.2.2.2.1, r) := by rw [← hr]; rfl
  refine a_aload_n dX7_removeServer_0 rfl ?_
  refine a_aload_n dX7_removeServer_1 rfl ?_
  refine a_iload_n dX7_removeServer_2 rfl ?_
  refine a_ViR is19 k_X7_removeServer_158 (hc) dX7_removeServer_3 rfl rfl rfl rfl rfl rfl (Nat.le_of_ble_eq_true rfl) ⟨Nat.le_of_ble_eq_true rfl, Nat.le_of_ble_eq_true rfl⟩ ⟨rfl, rfl⟩ ?_
  refine a_iconst 0 dX7_removeServer_6 (by decide) ?_
  refine a_ViW is19 (aMo 0 v u k q) k_X7_removeServer_124 (c_X7_isRefused (f := f) (v := v) (u := u) (k := k) (q := q) false false) dX7_removeServer_7 rfl rfl rfl rfl rfl rfl (Nat.le_of_ble_eq_true rfl) ⟨Nat.le_of_ble_eq_true rfl, Nat.le_of_ble_eq_true rfl⟩ ⟨rfl, rfl⟩ (Nat.le_of_ble_eq_true rfl) rfl ?_
  refine a_if_eq 15 dX7_removeServer_10 (by decide) (fun _ => ?_) (fun z => absurd (by decide) z)
  refine a_aload_n dX7_removeServer_15 rfl ?_
  refine a_VvW is19 (aMo 0 v u k (qKp v q)) k_X7_removeServer_155 (c_X7_keeps (f := 0) (v := v) (u := u) (k := k) (q := q) hq) dX7_removeServer_16 rfl rfl rfl rfl rfl rfl (Nat.le_of_ble_eq_true rfl) ⟨Nat.le_of_ble_eq_true rfl, Nat.le_of_ble_eq_true rfl⟩ ⟨rfl, rfl⟩ (Nat.le_of_ble_eq_true rfl) rfl ?_
  refine a_aload_n dX7_removeServer_19 rfl ?_
  refine a_get fl_X7_13 dX7_removeServer_20 rfl rfl ?_
  refine a_iload_n dX7_removeServer_23 rfl ?_
  refine a_iconst 0 dX7_removeServer_24 (by decide) ?_
  refine a_iast dX7_removeServer_25 rfl (by assumption) ?_
  rw [cl10 hs]
  refine a_iconst 0 dX7_removeServer_26 (by decide) ?_
  refine a_istore_n dX7_removeServer_27 (by decide) rfl ?_
  refine a_iconst 0 dX7_removeServer_28 (by decide) ?_
  refine a_istore_n dX7_removeServer_29 (by decide) rfl ?_
  have lp : ∀ (m j : Nat) (σ : pT), j + m = v.2.2.2.2.2.2 → σ.2.2 ≤ j → aLp (pSt (fun _ k => decide (¬ k = nI s))) m j σ = r → aJ l X mX7_removeServer (aEd X mX7_removeServer is19 (fun o h' => o = .inl (some (.long (v.2.2.2.1 s))) ∧ h' = aMo 0 (vRm v s) (uNw (vRm v s) u A W) k (qKp v q))) 0 0 30 [.ref 0, .int (nI s), .int (nI σ.2.2), .int (nI j)] [] (aMo 0 (upd v.1 s 0, v.2.1, v.2.2.1, v.2.2.2.1, σ.1, σ.2.1, v.2.2.2.2.2.2) u k (qKp v q)) := by
    intro m
    induction m with
    | zero =>
      intro j σ hj hle hq
      obtain rfl : j = v.2.2.2.2.2.2 := by omega
      have hσ : σ = r := hq
      subst hσ
      refine a_iload_n dX7_removeServer_30 rfl ?_
      refine a_aload_n dX7_removeServer_31 rfl ?_
      refine a_get fl_X7_82 dX7_removeServer_32 rfl rfl ?_
      refine a_icmp_ge 81 dX7_removeServer_35 (by decide) (fun _ => ?_) (fun z => absurd (show nI v.2.2.2.2.2.2 ≤ nI v.2.2.2.2.2.2 from nI_le (Nat.le_refl _) (by omega)) z)
      refine a_aload_n dX7_removeServer_81 rfl ?_
      refine a_iload_n dX7_removeServer_82 rfl ?_
      refine a_put fp_X7_82 dX7_removeServer_83 rfl (Nat.le_of_ble_eq_true rfl) (fun _ => ⟨rfl, rfl⟩) ?_
      refine a_to rfl rfl rfl (show _ = aMo 0 (vRm v s) u k (qKp v q) from by rw [hv]; rfl) ?_
      refine a_aload_n dX7_removeServer_86 rfl ?_
      refine a_VvW is19 (aMo 0 (vRm v s) (uNw (vRm v s) u A W) k (qKp v q)) k_X7_removeServer_136 (c_X7_comesAnew (f := 0) (v := vRm v s) (u := u) (k := k) (q := qKp v q) hM hT A W hN hA hWt hW) dX7_removeServer_87 rfl rfl rfl rfl rfl rfl (Nat.le_of_ble_eq_true rfl) ⟨Nat.le_of_ble_eq_true rfl, Nat.le_of_ble_eq_true rfl⟩ ⟨rfl, rfl⟩ (Nat.le_of_ble_eq_true rfl) rfl ?_
      refine a_aload_n dX7_removeServer_90 rfl ?_
      refine a_get fl_X7_23 dX7_removeServer_91 rfl rfl ?_
      refine a_iload_n dX7_removeServer_94 rfl ?_
      refine a_lald dX7_removeServer_95 rfl (by assumption) ?_
      rw [cl10 hs]
      refine a_lret rfl dX7_removeServer_96 (by decide) (by decide) ?_
      exact ⟨rfl, rfl⟩
    | succ m ih =>
      intro j σ hj hle hq
      have hi : vp_in (nI j) 6 := in6 (by omega)
      have hi2 : vp_in (nI σ.2.2) 6 := in6 (by omega)
      refine a_iload_n dX7_removeServer_30 rfl ?_
      refine a_aload_n dX7_removeServer_31 rfl ?_
      refine a_get fl_X7_82 dX7_removeServer_32 rfl rfl ?_
      refine a_icmp_ge 81 dX7_removeServer_35 (by decide) (fun z => absurd z (show ¬ nI v.2.2.2.2.2.2 ≤ nI j from nI_ge (by omega) (by omega))) (fun _ => ?_)
      refine a_aload_n dX7_removeServer_38 rfl ?_
      refine a_get fl_X7_36 dX7_removeServer_39 rfl rfl ?_
      refine a_iload_n dX7_removeServer_42 rfl ?_
      refine a_iald dX7_removeServer_43 rfl (by assumption) ?_
      refine a_iload_n dX7_removeServer_44 rfl ?_
      refine a_icmp_eq 75 dX7_removeServer_45 (by decide) (fun c45 => ?_) (fun c45 => ?_)
      · rw [cl6 (by omega)] at c45
        refine a_iinc (nI (j + 1)) dX7_removeServer_75 rfl (nI_1 _) (by decide) rfl ?_
        refine a_goto 30 dX7_removeServer_78 (by decide) ?_
        exact ih (j + 1) σ (by omega) (by omega) (by rw [← hq]; simp [aLp, pSt, show σ.2.1 j = nI s from c45])
      · rw [cl6 (by omega)] at c45
        refine a_aload_n dX7_removeServer_48 rfl ?_
        refine a_get fl_X7_33 dX7_removeServer_49 rfl rfl ?_
        refine a_iload_n dX7_removeServer_52 rfl ?_
        refine a_aload_n dX7_removeServer_53 rfl ?_
        refine a_get fl_X7_33 dX7_removeServer_54 rfl rfl ?_
        refine a_iload_n dX7_removeServer_57 rfl ?_
        refine a_iald dX7_removeServer_58 rfl (by assumption) ?_
        refine a_iast dX7_removeServer_59 rfl (by assumption) ?_
        refine a_aload_n dX7_removeServer_60 rfl ?_
        refine a_get fl_X7_36 dX7_removeServer_61 rfl rfl ?_
        refine a_iload_n dX7_removeServer_64 rfl ?_
        refine a_aload_n dX7_removeServer_65 rfl ?_
        refine a_get fl_X7_36 dX7_removeServer_66 rfl rfl ?_
        refine a_iload_n dX7_removeServer_69 rfl ?_
        refine a_iald dX7_removeServer_70 rfl (by assumption) ?_
        refine a_iast dX7_removeServer_71 rfl (by assumption) ?_
        refine a_iinc (nI (σ.2.2 + 1)) dX7_removeServer_72 rfl (nI_1 _) (by decide) rfl ?_
        refine a_iinc (nI (j + 1)) dX7_removeServer_75 rfl (nI_1 _) (by decide) rfl ?_
        refine a_goto 30 dX7_removeServer_78 (by decide) ?_
        rw [cl6 (show j < 6 by omega), cl6 (show σ.2.2 < 6 by omega)]
        refine a_to rfl rfl rfl ?_ (ih (j + 1) (pAp (σ.1 j) (σ.2.1 j) σ) (by omega) (by show σ.2.2 + 1 ≤ j + 1; omega) (by rw [← hq]; simp [aLp, pSt, show ¬ σ.2.1 j = nI s from c45]))
        rfl
  exact lp v.2.2.2.2.2.2 0 (v.2.2.2.2.1, v.2.2.2.2.2.1, 0) (by omega) (Nat.le_refl _) hr
theorem c_X7_setUp_ok (s : Nat) (up : Bool) (hs : s < 10) (hg : fHs v.1 (nI s) = true) (hq : q.1 ≤ 4) (hM : u.1 ∈ slP) (hT : uOk u.2.1 u.1) (A W : Nat → Nat) (hN : ∀ i, i < 10 → (vSu v s (if up then 2 else 1)).1 i = 2 → (vSu v s (if up then 2 else 1)).2.1 i = nI (A i)) (hA : ∀ i, i < 10 → A i ≤ 9999) (hWt : ∀ i, i < 10 → (vSu v s (if up then 2 else 1)).2.2.1 i = nI (W i)) (hW : ∀ i, i < 10 → W i ≤ 16) : aWr l X mX7_setUp is19 [.ref 0, .int (nI s), .int (bI up)] (aMo f v u k q) (some (.int (bI (decide (v.1 s = 2))))) (aMo 0 (vSu v s (if up then 2 else 1)) (uNw (vSu v s (if up then 2 else 1)) u A W) k (qKp v q)) := by
  refine aMt.of (by decide) rfl (Nat.le_of_ble_eq_true rfl) ?_
  have hc := c_X7_noServer (l := l) (X := X) (f := f) (v := v) (u := u) (k := k) (q := q) (nI s)
  rw [hg] at hc
  have his : vp_in (nI s) 10 := in10 hs
  refine a_aload_n dX7_setUp_0 rfl ?_
  refine a_aload_n dX7_setUp_1 rfl ?_
  refine a_iload_n dX7_setUp_2 rfl ?_
  refine a_ViR is19 k_X7_setUp_158 (hc) dX7_setUp_3 rfl rfl rfl rfl rfl rfl (Nat.le_of_ble_eq_true rfl) ⟨Nat.le_of_ble_eq_true rfl, Nat.le_of_ble_eq_true rfl⟩ ⟨rfl, rfl⟩ ?_
  refine a_iconst 0 dX7_setUp_6 (by decide) ?_
  refine a_ViW is19 (aMo 0 v u k q) k_X7_setUp_124 (c_X7_isRefused (f := f) (v := v) (u := u) (k := k) (q := q) false false) dX7_setUp_7 rfl rfl rfl rfl rfl rfl (Nat.le_of_ble_eq_true rfl) ⟨Nat.le_of_ble_eq_true rfl, Nat.le_of_ble_eq_true rfl⟩ ⟨rfl, rfl⟩ (Nat.le_of_ble_eq_true rfl) rfl ?_
  refine a_if_eq 15 dX7_setUp_10 (by decide) (fun _ => ?_) (fun z => absurd (by decide) z)
  refine a_aload_n dX7_setUp_15 rfl ?_
  refine a_VvW is19 (aMo 0 v u k (qKp v q)) k_X7_setUp_155 (c_X7_keeps (f := 0) (v := v) (u := u) (k := k) (q := q) hq) dX7_setUp_16 rfl rfl rfl rfl rfl rfl (Nat.le_of_ble_eq_true rfl) ⟨Nat.le_of_ble_eq_true rfl, Nat.le_of_ble_eq_true rfl⟩ ⟨rfl, rfl⟩ (Nat.le_of_ble_eq_true rfl) rfl ?_
  refine a_aload_n dX7_setUp_19 rfl ?_
  refine a_get fl_X7_13 dX7_setUp_20 rfl rfl ?_
  refine a_iload_n dX7_setUp_23 rfl ?_
  refine a_iald dX7_setUp_24 rfl (by assumption) ?_
  rw [cl10 hs]
  have tail : ∀ (b : Bool), decide (v.1 s = 2) = b → aJ l X mX7_setUp (aEd X mX7_setUp is19 (fun o h' => o = .inl (some (.int (bI (decide (v.1 s = 2))))) ∧ h' = aMo 0 (vSu v s (if up then 2 else 1)) (uNw (vSu v s (if up then 2 else 1)) u A W) k (qKp v q))) 0 0 34 [.ref 0, .int (nI s), .int (bI up), .null] [.int (bI b)] (aMo 0 v u k (qKp v q)) := by
    intro b hb
    rw [hb]
    cases up with
    | true =>
      refine a_istore_n dX7_setUp_34 (by decide) rfl ?_
      refine a_aload_n dX7_setUp_35 rfl ?_
      refine a_get fl_X7_13 dX7_setUp_36 rfl rfl ?_
      refine a_iload_n dX7_setUp_39 rfl ?_
      refine a_iload_n dX7_setUp_40 rfl ?_
      refine a_if_eq 48 dX7_setUp_41 (by decide) (fun z => absurd z (by decide)) (fun _ => ?_)
      refine a_iconst 2 dX7_setUp_44 (by decide) ?_
      refine a_goto 49 dX7_setUp_45 (by decide) ?_
      refine a_iast dX7_setUp_49 rfl (by assumption) ?_
      rw [cl10 hs]
      refine a_aload_n dX7_setUp_50 rfl ?_
      refine a_VvW is19 (aMo 0 (vSu v s 2) (uNw (vSu v s 2) u A W) k (qKp v q)) k_X7_setUp_136 (c_X7_comesAnew (f := 0) (v := vSu v s 2) (u := u) (k := k) (q := qKp v q) hM hT A W hN hA hWt hW) dX7_setUp_51 rfl rfl rfl rfl rfl rfl (Nat.le_of_ble_eq_true rfl) ⟨Nat.le_of_ble_eq_true rfl, Nat.le_of_ble_eq_true rfl⟩ ⟨rfl, rfl⟩ (Nat.le_of_ble_eq_true rfl) rfl ?_
      refine a_iload_n dX7_setUp_54 rfl ?_
      refine a_zret rfl (bI_nar b) dX7_setUp_55 (by decide) (by decide) ?_
      exact ⟨rfl, rfl⟩
    | false =>
      refine a_istore_n dX7_setUp_34 (by decide) rfl ?_
      refine a_aload_n dX7_setUp_35 rfl ?_
      refine a_get fl_X7_13 dX7_setUp_36 rfl rfl ?_
      refine a_iload_n dX7_setUp_39 rfl ?_
      refine a_iload_n dX7_setUp_40 rfl ?_
      refine a_if_eq 48 dX7_setUp_41 (by decide) (fun _ => ?_) (fun z => absurd (by decide) z)
      refine a_iconst 1 dX7_setUp_48 (by decide) ?_
      refine a_iast dX7_setUp_49 rfl (by assumption) ?_
      rw [cl10 hs]
      refine a_aload_n dX7_setUp_50 rfl ?_
      refine a_VvW is19 (aMo 0 (vSu v s 1) (uNw (vSu v s 1) u A W) k (qKp v q)) k_X7_setUp_136 (c_X7_comesAnew (f := 0) (v := vSu v s 1) (u := u) (k := k) (q := qKp v q) hM hT A W hN hA hWt hW) dX7_setUp_51 rfl rfl rfl rfl rfl rfl (Nat.le_of_ble_eq_true rfl) ⟨Nat.le_of_ble_eq_true rfl, Nat.le_of_ble_eq_true rfl⟩ ⟨rfl, rfl⟩ (Nat.le_of_ble_eq_true rfl) rfl ?_
      refine a_iload_n dX7_setUp_54 rfl ?_
      refine a_zret rfl (bI_nar b) dX7_setUp_55 (by decide) (by decide) ?_
      exact ⟨rfl, rfl⟩
  refine a_iconst 2 dX7_setUp_25 (by decide) ?_
  refine a_icmp_ne 33 dX7_setUp_26 (by decide) (fun c26 => ?_) (fun c26 => ?_)
  · refine a_iconst 0 dX7_setUp_33 (by decide) ?_
    exact tail false (decide_eq_false c26)
  · refine a_iconst 1 dX7_setUp_29 (by decide) ?_
    refine a_goto 34 dX7_setUp_30 (by decide) ?_
    exact tail true (decide_eq_true c26)
theorem c_X7_setWeight_bad (s w : Int32) (hg : (fHs v.1 s && gWt w) = false) : aWr l X mX7_setWeight is19 [.ref 0, .int s, .int w] (aMo f v u k q) (some (.int 0)) (aMo 1 v u k q) := by
  refine aMt.of (by decide) rfl (Nat.le_of_ble_eq_true rfl) ?_
  have hc := c_X7_noServer (l := l) (X := X) (f := f) (v := v) (u := u) (k := k) (q := q) s
  have hcw := c_X7_noWeight (l := l) (X := X) w
  have hno : aJ l X mX7_setWeight (aEd X mX7_setWeight is19 (fun o h' => o = .inl (some (.int 0)) ∧ h' = aMo 1 v u k q)) 0 0 16 [.ref 0, .int s, .int w, .null] [.ref 0] (aMo f v u k q) := by
    refine a_iconst 1 dX7_setWeight_16 (by decide) ?_
    refine a_goto 21 dX7_setWeight_17 (by decide) ?_
    refine a_iconst 0 dX7_setWeight_21 (by decide) ?_
    refine a_ViW is19 (aMo 1 v u k q) k_X7_setWeight_124 (c_X7_isRefused (f := f) (v := v) (u := u) (k := k) (q := q) true false) dX7_setWeight_22 rfl rfl rfl rfl rfl rfl (Nat.le_of_ble_eq_true rfl) ⟨Nat.le_of_ble_eq_true rfl, Nat.le_of_ble_eq_true rfl⟩ ⟨rfl, rfl⟩ (Nat.le_of_ble_eq_true rfl) rfl ?_
    refine a_if_eq 30 dX7_setWeight_25 (by decide) (fun z => absurd z (by decide)) (fun _ => ?_)
    refine a_iconst 0 dX7_setWeight_28 (by decide) ?_
    refine a_iret rfl dX7_setWeight_29 (by decide) (by decide) ?_
    exact ⟨rfl, rfl⟩
  by_cases h1 : fHs v.1 s = true
  · rw [h1] at hc hg
    have h2 : gWt w = false := by simpa using hg
    rw [h2] at hcw
    refine a_aload_n dX7_setWeight_0 rfl ?_
    refine a_aload_n dX7_setWeight_1 rfl ?_
    refine a_iload_n dX7_setWeight_2 rfl ?_
    refine a_ViR is19 k_X7_setWeight_158 (hc) dX7_setWeight_3 rfl rfl rfl rfl rfl rfl (Nat.le_of_ble_eq_true rfl) ⟨Nat.le_of_ble_eq_true rfl, Nat.le_of_ble_eq_true rfl⟩ ⟨rfl, rfl⟩ ?_
    refine a_if_ne 16 dX7_setWeight_6 (by decide) (fun z => absurd (by decide) z) (fun _ => ?_)
    refine a_iload_n dX7_setWeight_9 rfl ?_
    refine a_SiR [] k_X7_setWeight_146 (hcw) dX7_setWeight_10 rfl rfl rfl rfl rfl (Nat.le_of_ble_eq_true rfl) ⟨Nat.le_of_ble_eq_true rfl, Nat.le_of_ble_eq_true rfl⟩ ⟨rfl, rfl⟩ ?_
    refine a_if_eq 20 dX7_setWeight_13 (by decide) (fun z => absurd z (by decide)) (fun _ => ?_)
    exact hno
  · rw [Bool.not_eq_true] at h1
    rw [h1] at hc
    refine a_aload_n dX7_setWeight_0 rfl ?_
    refine a_aload_n dX7_setWeight_1 rfl ?_
    refine a_iload_n dX7_setWeight_2 rfl ?_
    refine a_ViR is19 k_X7_setWeight_158 (hc) dX7_setWeight_3 rfl rfl rfl rfl rfl rfl (Nat.le_of_ble_eq_true rfl) ⟨Nat.le_of_ble_eq_true rfl, Nat.le_of_ble_eq_true rfl⟩ ⟨rfl, rfl⟩ ?_
    refine a_if_ne 16 dX7_setWeight_6 (by decide) (fun _ => ?_) (fun z => absurd z (by decide))
    exact hno
theorem c_X7_setWeight_ok (s : Nat) (w : Int32) (hs : s < 10) (hg : (fHs v.1 (nI s) && gWt w) = true) (hq : q.1 ≤ 4) (hM : u.1 ∈ slP) (hT : uOk u.2.1 u.1) (A W : Nat → Nat) (hN : ∀ i, i < 10 → (vSw v s w).1 i = 2 → (vSw v s w).2.1 i = nI (A i)) (hA : ∀ i, i < 10 → A i ≤ 9999) (hWt : ∀ i, i < 10 → (vSw v s w).2.2.1 i = nI (W i)) (hW : ∀ i, i < 10 → W i ≤ 16) : aWr l X mX7_setWeight is19 [.ref 0, .int (nI s), .int w] (aMo f v u k q) (some (.int (v.2.2.1 s))) (aMo 0 (vSw v s w) (uNw (vSw v s w) u A W) k (qKp v q)) := by
  refine aMt.of (by decide) rfl (Nat.le_of_ble_eq_true rfl) ?_
  rw [Bool.and_eq_true] at hg
  have hc := c_X7_noServer (l := l) (X := X) (f := f) (v := v) (u := u) (k := k) (q := q) (nI s)
  have hcw := c_X7_noWeight (l := l) (X := X) w
  rw [hg.1] at hc
  rw [hg.2] at hcw
  have his : vp_in (nI s) 10 := in10 hs
  refine a_aload_n dX7_setWeight_0 rfl ?_
  refine a_aload_n dX7_setWeight_1 rfl ?_
  refine a_iload_n dX7_setWeight_2 rfl ?_
  refine a_ViR is19 k_X7_setWeight_158 (hc) dX7_setWeight_3 rfl rfl rfl rfl rfl rfl (Nat.le_of_ble_eq_true rfl) ⟨Nat.le_of_ble_eq_true rfl, Nat.le_of_ble_eq_true rfl⟩ ⟨rfl, rfl⟩ ?_
  refine a_if_ne 16 dX7_setWeight_6 (by decide) (fun z => absurd (by decide) z) (fun _ => ?_)
  refine a_iload_n dX7_setWeight_9 rfl ?_
  refine a_SiR [] k_X7_setWeight_146 (hcw) dX7_setWeight_10 rfl rfl rfl rfl rfl (Nat.le_of_ble_eq_true rfl) ⟨Nat.le_of_ble_eq_true rfl, Nat.le_of_ble_eq_true rfl⟩ ⟨rfl, rfl⟩ ?_
  refine a_if_eq 20 dX7_setWeight_13 (by decide) (fun _ => ?_) (fun z => absurd (by decide) z)
  refine a_iconst 0 dX7_setWeight_20 (by decide) ?_
  refine a_iconst 0 dX7_setWeight_21 (by decide) ?_
  refine a_ViW is19 (aMo 0 v u k q) k_X7_setWeight_124 (c_X7_isRefused (f := f) (v := v) (u := u) (k := k) (q := q) false false) dX7_setWeight_22 rfl rfl rfl rfl rfl rfl (Nat.le_of_ble_eq_true rfl) ⟨Nat.le_of_ble_eq_true rfl, Nat.le_of_ble_eq_true rfl⟩ ⟨rfl, rfl⟩ (Nat.le_of_ble_eq_true rfl) rfl ?_
  refine a_if_eq 30 dX7_setWeight_25 (by decide) (fun _ => ?_) (fun z => absurd (by decide) z)
  refine a_aload_n dX7_setWeight_30 rfl ?_
  refine a_VvW is19 (aMo 0 v u k (qKp v q)) k_X7_setWeight_155 (c_X7_keeps (f := 0) (v := v) (u := u) (k := k) (q := q) hq) dX7_setWeight_31 rfl rfl rfl rfl rfl rfl (Nat.le_of_ble_eq_true rfl) ⟨Nat.le_of_ble_eq_true rfl, Nat.le_of_ble_eq_true rfl⟩ ⟨rfl, rfl⟩ (Nat.le_of_ble_eq_true rfl) rfl ?_
  refine a_aload_n dX7_setWeight_34 rfl ?_
  refine a_get fl_X7_20 dX7_setWeight_35 rfl rfl ?_
  refine a_iload_n dX7_setWeight_38 rfl ?_
  refine a_iald dX7_setWeight_39 rfl (by assumption) ?_
  refine a_istore_n dX7_setWeight_40 (by decide) rfl ?_
  refine a_aload_n dX7_setWeight_41 rfl ?_
  refine a_get fl_X7_20 dX7_setWeight_42 rfl rfl ?_
  refine a_iload_n dX7_setWeight_45 rfl ?_
  refine a_iload_n dX7_setWeight_46 rfl ?_
  refine a_iast dX7_setWeight_47 rfl (by assumption) ?_
  rw [cl10 hs]
  refine a_aload_n dX7_setWeight_48 rfl ?_
  refine a_VvW is19 (aMo 0 (vSw v s w) (uNw (vSw v s w) u A W) k (qKp v q)) k_X7_setWeight_136 (c_X7_comesAnew (f := 0) (v := vSw v s w) (u := u) (k := k) (q := qKp v q) hM hT A W hN hA hWt hW) dX7_setWeight_49 rfl rfl rfl rfl rfl rfl (Nat.le_of_ble_eq_true rfl) ⟨Nat.le_of_ble_eq_true rfl, Nat.le_of_ble_eq_true rfl⟩ ⟨rfl, rfl⟩ (Nat.le_of_ble_eq_true rfl) rfl ?_
  refine a_iload_n dX7_setWeight_52 rfl ?_
  refine a_iret rfl dX7_setWeight_53 (by decide) (by decide) ?_
  exact ⟨rfl, rfl⟩
theorem c_X7_removalDisruption_ok (s : Nat) (hs : s < 10) (hg : fHs v.1 (nI s) = true) (hM : u.1 ∈ slP) (A W : Nat → Nat) (hN : ∀ i, i < 10 → (v).1 i = 2 → (v).2.1 i = nI (A i)) (hA : ∀ i, i < 10 → A i ≤ 9999) (hWt : ∀ i, i < 10 → (v).2.2.1 i = nI (W i)) (hW : ∀ i, i < 10 → W i ≤ 16) : aWr l X mX7_removalDisruption is19 [.ref 0, .int (nI s)] (aMo f v u k q) (some (.int (sCc (fFl u.1 u.2.1 u.2.2.1) (mBd u.1 A W (mOn (vSu v s 0)) u.2.1) u.1))) (aMo 0 v (u.1, mBd u.1 A W (mOn v) (mBd u.1 A W (mOn (vSu v s 0)) u.2.1), fFl u.1 u.2.1 u.2.2.1, u.2.2.2) k q) := by
  refine aMt.of (by decide) rfl (Nat.le_of_ble_eq_true rfl) ?_
  obtain ⟨hM5, hM61⟩ := slP_b hM
  have hc := c_X7_noServer (l := l) (X := X) (f := f) (v := v) (u := u) (k := k) (q := q) (nI s)
  rw [hg] at hc
  have his : vp_in (nI s) 10 := in10 hs
  have hN0 : ∀ s', s' < 10 → (vSu v s 0).1 s' = 2 → (vSu v s 0).2.1 s' = nI (A s') := by
    intro s' hs' h2
    refine hN s' hs' ?_
    have h2' : upd v.1 s 0 s' = 2 := h2
    unfold upd at h2'
    split at h2'
    · exact absurd h2' (by decide)
    · exact h2'
  refine a_aload_n dX7_removalDisruption_0 rfl ?_
  refine a_aload_n dX7_removalDisruption_1 rfl ?_
  refine a_iload_n dX7_removalDisruption_2 rfl ?_
  refine a_ViR is19 k_X7_removalDisruption_158 (hc) dX7_removalDisruption_3 rfl rfl rfl rfl rfl rfl (Nat.le_of_ble_eq_true rfl) ⟨Nat.le_of_ble_eq_true rfl, Nat.le_of_ble_eq_true rfl⟩ ⟨rfl, rfl⟩ ?_
  refine a_iconst 0 dX7_removalDisruption_6 (by decide) ?_
  refine a_ViW is19 (aMo 0 v u k q) k_X7_removalDisruption_124 (c_X7_isRefused (f := f) (v := v) (u := u) (k := k) (q := q) false false) dX7_removalDisruption_7 rfl rfl rfl rfl rfl rfl (Nat.le_of_ble_eq_true rfl) ⟨Nat.le_of_ble_eq_true rfl, Nat.le_of_ble_eq_true rfl⟩ ⟨rfl, rfl⟩ (Nat.le_of_ble_eq_true rfl) rfl ?_
  refine a_if_eq 15 dX7_removalDisruption_10 (by decide) (fun _ => ?_) (fun z => absurd (by decide) z)
  refine a_aload_n dX7_removalDisruption_15 rfl ?_
  refine a_get fl_X7_13 dX7_removalDisruption_16 rfl rfl ?_
  refine a_iload_n dX7_removalDisruption_19 rfl ?_
  refine a_iald dX7_removalDisruption_20 rfl (by assumption) ?_
  refine a_istore_n dX7_removalDisruption_21 (by decide) rfl ?_
  refine a_aload_n dX7_removalDisruption_22 rfl ?_
  refine a_VvW is19 (aMo 0 v (u.1, u.2.1, fFl u.1 u.2.1 u.2.2.1, u.2.2.2) k q) k_X7_removalDisruption_106 (c_X7_remembers (f := 0) (v := v) (u := u) (k := k) (q := q) hM61) dX7_removalDisruption_23 rfl rfl rfl rfl rfl rfl (Nat.le_of_ble_eq_true rfl) ⟨Nat.le_of_ble_eq_true rfl, Nat.le_of_ble_eq_true rfl⟩ ⟨rfl, rfl⟩ (Nat.le_of_ble_eq_true rfl) rfl ?_
  refine a_aload_n dX7_removalDisruption_26 rfl ?_
  refine a_get fl_X7_13 dX7_removalDisruption_27 rfl rfl ?_
  refine a_iload_n dX7_removalDisruption_30 rfl ?_
  refine a_iconst 0 dX7_removalDisruption_31 (by decide) ?_
  refine a_iast dX7_removalDisruption_32 rfl (by assumption) ?_
  rw [cl10 hs]
  refine a_aload_n dX7_removalDisruption_33 rfl ?_
  refine a_VvW is19 (aMo 0 (vSu v s 0) (u.1, mBd u.1 A W (mOn (vSu v s 0)) u.2.1, fFl u.1 u.2.1 u.2.2.1, u.2.2.2) k q) k_X7_removalDisruption_109 (c_X7_builds (f := 0) (v := vSu v s 0) (u := (u.1, u.2.1, fFl u.1 u.2.1 u.2.2.1, u.2.2.2)) (k := k) (q := q) hM A W hN0 hA hWt hW) dX7_removalDisruption_34 rfl rfl rfl rfl rfl rfl (Nat.le_of_ble_eq_true rfl) ⟨Nat.le_of_ble_eq_true rfl, Nat.le_of_ble_eq_true rfl⟩ ⟨rfl, rfl⟩ (Nat.le_of_ble_eq_true rfl) rfl ?_
  refine a_aload_n dX7_removalDisruption_37 rfl ?_
  refine a_ViR is19 k_X7_removalDisruption_112 (c_X7_differing (f := 0) (v := vSu v s 0) (u := (u.1, mBd u.1 A W (mOn (vSu v s 0)) u.2.1, fFl u.1 u.2.1 u.2.2.1, u.2.2.2)) (k := k) (q := q) hM61) dX7_removalDisruption_38 rfl rfl rfl rfl rfl rfl (Nat.le_of_ble_eq_true rfl) ⟨Nat.le_of_ble_eq_true rfl, Nat.le_of_ble_eq_true rfl⟩ ⟨rfl, rfl⟩ ?_
  refine a_istore_n dX7_removalDisruption_41 (by decide) rfl ?_
  refine a_aload_n dX7_removalDisruption_42 rfl ?_
  refine a_get fl_X7_13 dX7_removalDisruption_43 rfl rfl ?_
  refine a_iload_n dX7_removalDisruption_46 rfl ?_
  refine a_iload_n dX7_removalDisruption_47 rfl ?_
  refine a_iast dX7_removalDisruption_48 rfl (by assumption) ?_
  refine a_to rfl rfl rfl (show _ = aMo 0 v (u.1, mBd u.1 A W (mOn (vSu v s 0)) u.2.1, fFl u.1 u.2.1 u.2.2.1, u.2.2.2) k q from by
    rw [cl10 hs]
    show aMo 0 (upd (upd v.1 s 0) s (v.1 s), v.2) _ k q = _
    rw [upd_back]) ?_
  refine a_aload_n dX7_removalDisruption_49 rfl ?_
  refine a_VvW is19 (aMo 0 v (u.1, mBd u.1 A W (mOn v) (mBd u.1 A W (mOn (vSu v s 0)) u.2.1), fFl u.1 u.2.1 u.2.2.1, u.2.2.2) k q) k_X7_removalDisruption_109 (c_X7_builds (f := 0) (v := v) (u := (u.1, mBd u.1 A W (mOn (vSu v s 0)) u.2.1, fFl u.1 u.2.1 u.2.2.1, u.2.2.2)) (k := k) (q := q) hM A W hN hA hWt hW) dX7_removalDisruption_50 rfl rfl rfl rfl rfl rfl (Nat.le_of_ble_eq_true rfl) ⟨Nat.le_of_ble_eq_true rfl, Nat.le_of_ble_eq_true rfl⟩ ⟨rfl, rfl⟩ (Nat.le_of_ble_eq_true rfl) rfl ?_
  refine a_iload_n dX7_removalDisruption_53 rfl ?_
  refine a_iret rfl dX7_removalDisruption_54 (by decide) (by decide) ?_
  exact ⟨rfl, rfl⟩
end MO6
