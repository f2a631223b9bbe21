/-! written by wip/whole/pp.py out of wip/whole/src/28.mod.lean -/
theorem dX7_init_0 : decode cX7_init 0 = .ok (.aload_n 0, 1) := by decide +kernel
theorem dX7_init_1 : decode cX7_init 1 = .ok (.invokespecial 1, 3) := by decide +kernel
theorem dX7_init_4 : decode cX7_init 4 = .ok (.aload_n 0, 1) := by decide +kernel
theorem dX7_init_5 : decode cX7_init 5 = .ok (.bipush 13, 2) := by decide +kernel
theorem dX7_init_7 : decode cX7_init 7 = .ok (.putfield 7, 3) := by decide +kernel
theorem dX7_init_10 : decode cX7_init 10 = .ok (.aload_n 0, 1) := by decide +kernel
theorem dX7_init_11 : decode cX7_init 11 = .ok (.bipush 10, 2) := by decide +kernel
theorem dX7_init_13 : decode cX7_init 13 = .ok (.newarray .int, 2) := by decide +kernel
theorem dX7_init_15 : decode cX7_init 15 = .ok (.putfield 13, 3) := by decide +kernel
theorem dX7_init_18 : decode cX7_init 18 = .ok (.aload_n 0, 1) := by decide +kernel
theorem dX7_init_19 : decode cX7_init 19 = .ok (.bipush 10, 2) := by decide +kernel
theorem dX7_init_21 : decode cX7_init 21 = .ok (.newarray .int, 2) := by decide +kernel
theorem dX7_init_23 : decode cX7_init 23 = .ok (.putfield 17, 3) := by decide +kernel
theorem dX7_init_26 : decode cX7_init 26 = .ok (.aload_n 0, 1) := by decide +kernel
theorem dX7_init_27 : decode cX7_init 27 = .ok (.bipush 10, 2) := by decide +kernel
theorem dX7_init_29 : decode cX7_init 29 = .ok (.newarray .int, 2) := by decide +kernel
theorem dX7_init_31 : decode cX7_init 31 = .ok (.putfield 20, 3) := by decide +kernel
theorem dX7_init_34 : decode cX7_init 34 = .ok (.aload_n 0, 1) := by decide +kernel
theorem dX7_init_35 : decode cX7_init 35 = .ok (.bipush 10, 2) := by decide +kernel
theorem dX7_init_37 : decode cX7_init 37 = .ok (.newarray .long, 2) := by decide +kernel
theorem dX7_init_39 : decode cX7_init 39 = .ok (.putfield 23, 3) := by decide +kernel
theorem dX7_init_42 : decode cX7_init 42 = .ok (.aload_n 0, 1) := by decide +kernel
theorem dX7_init_43 : decode cX7_init 43 = .ok (.bipush 61, 2) := by decide +kernel
theorem dX7_init_45 : decode cX7_init 45 = .ok (.newarray .int, 2) := by decide +kernel
theorem dX7_init_47 : decode cX7_init 47 = .ok (.putfield 27, 3) := by decide +kernel
theorem dX7_init_50 : decode cX7_init 50 = .ok (.aload_n 0, 1) := by decide +kernel
theorem dX7_init_51 : decode cX7_init 51 = .ok (.bipush 61, 2) := by decide +kernel
theorem dX7_init_53 : decode cX7_init 53 = .ok (.newarray .int, 2) := by decide +kernel
theorem dX7_init_55 : decode cX7_init 55 = .ok (.putfield 30, 3) := by decide +kernel
theorem dX7_init_58 : decode cX7_init 58 = .ok (.aload_n 0, 1) := by decide +kernel
theorem dX7_init_59 : decode cX7_init 59 = .ok (.bipush 6, 2) := by decide +kernel
theorem dX7_init_61 : decode cX7_init 61 = .ok (.newarray .int, 2) := by decide +kernel
theorem dX7_init_63 : decode cX7_init 63 = .ok (.putfield 33, 3) := by decide +kernel
theorem dX7_init_66 : decode cX7_init 66 = .ok (.aload_n 0, 1) := by decide +kernel
theorem dX7_init_67 : decode cX7_init 67 = .ok (.bipush 6, 2) := by decide +kernel
theorem dX7_init_69 : decode cX7_init 69 = .ok (.newarray .int, 2) := by decide +kernel
theorem dX7_init_71 : decode cX7_init 71 = .ok (.putfield 36, 3) := by decide +kernel
theorem dX7_init_74 : decode cX7_init 74 = .ok (.aload_n 0, 1) := by decide +kernel
theorem dX7_init_75 : decode cX7_init 75 = .ok (.bipush 8, 2) := by decide +kernel
theorem dX7_init_77 : decode cX7_init 77 = .ok (.newarray .int, 2) := by decide +kernel
theorem dX7_init_79 : decode cX7_init 79 = .ok (.putfield 39, 3) := by decide +kernel
theorem dX7_init_82 : decode cX7_init 82 = .ok (.aload_n 0, 1) := by decide +kernel
theorem dX7_init_83 : decode cX7_init 83 = .ok (.bipush 8, 2) := by decide +kernel
theorem dX7_init_85 : decode cX7_init 85 = .ok (.newarray .long, 2) := by decide +kernel
theorem dX7_init_87 : decode cX7_init 87 = .ok (.putfield 42, 3) := by decide +kernel
theorem dX7_init_90 : decode cX7_init 90 = .ok (.aload_n 0, 1) := by decide +kernel
theorem dX7_init_91 : decode cX7_init 91 = .ok (.bipush 8, 2) := by decide +kernel
theorem dX7_init_93 : decode cX7_init 93 = .ok (.newarray .long, 2) := by decide +kernel
theorem dX7_init_95 : decode cX7_init 95 = .ok (.putfield 45, 3) := by decide +kernel
theorem dX7_init_98 : decode cX7_init 98 = .ok (.aload_n 0, 1) := by decide +kernel
theorem dX7_init_99 : decode cX7_init 99 = .ok (.bipush 40, 2) := by decide +kernel
theorem dX7_init_101 : decode cX7_init 101 = .ok (.newarray .int, 2) := by decide +kernel
theorem dX7_init_103 : decode cX7_init 103 = .ok (.putfield 48, 3) := by decide +kernel
theorem dX7_init_106 : decode cX7_init 106 = .ok (.aload_n 0, 1) := by decide +kernel
theorem dX7_init_107 : decode cX7_init 107 = .ok (.bipush 40, 2) := by decide +kernel
theorem dX7_init_109 : decode cX7_init 109 = .ok (.newarray .int, 2) := by decide +kernel
theorem dX7_init_111 : decode cX7_init 111 = .ok (.putfield 51, 3) := by decide +kernel
theorem dX7_init_114 : decode cX7_init 114 = .ok (.aload_n 0, 1) := by decide +kernel
theorem dX7_init_115 : decode cX7_init 115 = .ok (.bipush 40, 2) := by decide +kernel
theorem dX7_init_117 : decode cX7_init 117 = .ok (.newarray .int, 2) := by decide +kernel
theorem dX7_init_119 : decode cX7_init 119 = .ok (.putfield 54, 3) := by decide +kernel
theorem dX7_init_122 : decode cX7_init 122 = .ok (.aload_n 0, 1) := by decide +kernel
theorem dX7_init_123 : decode cX7_init 123 = .ok (.bipush 40, 2) := by decide +kernel
theorem dX7_init_125 : decode cX7_init 125 = .ok (.newarray .long, 2) := by decide +kernel
theorem dX7_init_127 : decode cX7_init 127 = .ok (.putfield 57, 3) := by decide +kernel
theorem dX7_init_130 : decode cX7_init 130 = .ok (.aload_n 0, 1) := by decide +kernel
theorem dX7_init_131 : decode cX7_init 131 = .ok (.iconst 4, 1) := by decide +kernel
theorem dX7_init_132 : decode cX7_init 132 = .ok (.newarray .int, 2) := by decide +kernel
theorem dX7_init_134 : decode cX7_init 134 = .ok (.putfield 60, 3) := by decide +kernel
theorem dX7_init_137 : decode cX7_init 137 = .ok (.aload_n 0, 1) := by decide +kernel
theorem dX7_init_138 : decode cX7_init 138 = .ok (.bipush 24, 2) := by decide +kernel
theorem dX7_init_140 : decode cX7_init 140 = .ok (.newarray .int, 2) := by decide +kernel
theorem dX7_init_142 : decode cX7_init 142 = .ok (.putfield 63, 3) := by decide +kernel
theorem dX7_init_145 : decode cX7_init 145 = .ok (.aload_n 0, 1) := by decide +kernel
theorem dX7_init_146 : decode cX7_init 146 = .ok (.bipush 24, 2) := by decide +kernel
theorem dX7_init_148 : decode cX7_init 148 = .ok (.newarray .int, 2) := by decide +kernel
theorem dX7_init_150 : decode cX7_init 150 = .ok (.putfield 66, 3) := by decide +kernel
theorem dX7_init_153 : decode cX7_init 153 = .ok (.aload_n 0, 1) := by decide +kernel
theorem dX7_init_154 : decode cX7_init 154 = .ok (.bipush 13, 2) := by decide +kernel
theorem dX7_init_156 : decode cX7_init 156 = .ok (.invokevirtual 69, 3) := by decide +kernel
theorem dX7_init_159 : decode cX7_init 159 = .ok (.return_, 1) := by decide +kernel
theorem dX7_thrown_0 : decode cX7_thrown 0 = .ok (.aload_n 0, 1) := by decide +kernel
theorem dX7_thrown_1 : decode cX7_thrown 1 = .ok (.getfield 73, 3) := by decide +kernel
theorem dX7_thrown_4 : decode cX7_thrown 4 = .ok (.ireturn, 1) := by decide +kernel
theorem dX7_in_0 : decode cX7_in 0 = .ok (.lload_n 0, 1) := by decide +kernel
theorem dX7_in_1 : decode cX7_in 1 = .ok (.lload_n 2, 1) := by decide +kernel
theorem dX7_in_2 : decode cX7_in 2 = .ok (.lcmp, 1) := by decide +kernel
theorem dX7_in_3 : decode cX7_in 3 = .ok (.ifCond .lt 14, 3) := by decide +kernel
theorem dX7_in_6 : decode cX7_in 6 = .ok (.lload_n 0, 1) := by decide +kernel
theorem dX7_in_7 : decode cX7_in 7 = .ok (.lload 4, 2) := by decide +kernel
theorem dX7_in_9 : decode cX7_in 9 = .ok (.lcmp, 1) := by decide +kernel
theorem dX7_in_10 : decode cX7_in 10 = .ok (.ifCond .gt 7, 3) := by decide +kernel
theorem dX7_in_13 : decode cX7_in 13 = .ok (.iconst 1, 1) := by decide +kernel
theorem dX7_in_14 : decode cX7_in 14 = .ok (.goto 4, 3) := by decide +kernel
theorem dX7_in_17 : decode cX7_in 17 = .ok (.iconst 0, 1) := by decide +kernel
theorem dX7_in_18 : decode cX7_in 18 = .ok (.ireturn, 1) := by decide +kernel
theorem dX7_isRefused_0 : decode cX7_isRefused 0 = .ok (.aload_n 0, 1) := by decide +kernel
theorem dX7_isRefused_1 : decode cX7_isRefused 1 = .ok (.iload_n 1, 1) := by decide +kernel
theorem dX7_isRefused_2 : decode cX7_isRefused 2 = .ok (.ifCond .eq 7, 3) := by decide +kernel
theorem dX7_isRefused_5 : decode cX7_isRefused 5 = .ok (.iconst 1, 1) := by decide +kernel
theorem dX7_isRefused_6 : decode cX7_isRefused 6 = .ok (.goto 12, 3) := by decide +kernel
theorem dX7_isRefused_9 : decode cX7_isRefused 9 = .ok (.iload_n 2, 1) := by decide +kernel
theorem dX7_isRefused_10 : decode cX7_isRefused 10 = .ok (.ifCond .eq 7, 3) := by decide +kernel
theorem dX7_isRefused_13 : decode cX7_isRefused 13 = .ok (.iconst 2, 1) := by decide +kernel
theorem dX7_isRefused_14 : decode cX7_isRefused 14 = .ok (.goto 4, 3) := by decide +kernel
theorem dX7_isRefused_17 : decode cX7_isRefused 17 = .ok (.iconst 0, 1) := by decide +kernel
theorem dX7_isRefused_18 : decode cX7_isRefused 18 = .ok (.putfield 73, 3) := by decide +kernel
theorem dX7_isRefused_21 : decode cX7_isRefused 21 = .ok (.aload_n 0, 1) := by decide +kernel
theorem dX7_isRefused_22 : decode cX7_isRefused 22 = .ok (.getfield 73, 3) := by decide +kernel
theorem dX7_isRefused_25 : decode cX7_isRefused 25 = .ok (.ifCond .le 7, 3) := by decide +kernel
theorem dX7_isRefused_28 : decode cX7_isRefused 28 = .ok (.iconst 1, 1) := by decide +kernel
theorem dX7_isRefused_29 : decode cX7_isRefused 29 = .ok (.goto 4, 3) := by decide +kernel
theorem dX7_isRefused_32 : decode cX7_isRefused 32 = .ok (.iconst 0, 1) := by decide +kernel
theorem dX7_isRefused_33 : decode cX7_isRefused 33 = .ok (.ireturn, 1) := by decide +kernel
theorem dX7_begins_0 : decode cX7_begins 0 = .ok (.aload_n 0, 1) := by decide +kernel
theorem dX7_begins_1 : decode cX7_begins 1 = .ok (.iload_n 1, 1) := by decide +kernel
theorem dX7_begins_2 : decode cX7_begins 2 = .ok (.putfield 7, 3) := by decide +kernel
theorem dX7_begins_5 : decode cX7_begins 5 = .ok (.iconst 0, 1) := by decide +kernel
theorem dX7_begins_6 : decode cX7_begins 6 = .ok (.istore_n 2, 1) := by decide +kernel
theorem dX7_begins_7 : decode cX7_begins 7 = .ok (.iload_n 2, 1) := by decide +kernel
theorem dX7_begins_8 : decode cX7_begins 8 = .ok (.bipush 10, 2) := by decide +kernel
theorem dX7_begins_10 : decode cX7_begins 10 = .ok (.if_icmp .ge 16, 3) := by decide +kernel
theorem dX7_begins_13 : decode cX7_begins 13 = .ok (.aload_n 0, 1) := by decide +kernel
theorem dX7_begins_14 : decode cX7_begins 14 = .ok (.getfield 13, 3) := by decide +kernel
theorem dX7_begins_17 : decode cX7_begins 17 = .ok (.iload_n 2, 1) := by decide +kernel
theorem dX7_begins_18 : decode cX7_begins 18 = .ok (.iconst 0, 1) := by decide +kernel
theorem dX7_begins_19 : decode cX7_begins 19 = .ok (.iastore, 1) := by decide +kernel
theorem dX7_begins_20 : decode cX7_begins 20 = .ok (.iinc 2 1, 3) := by decide +kernel
theorem dX7_begins_23 : decode cX7_begins 23 = .ok (.goto (-16), 3) := by decide +kernel
theorem dX7_begins_26 : decode cX7_begins 26 = .ok (.iconst 0, 1) := by decide +kernel
theorem dX7_begins_27 : decode cX7_begins 27 = .ok (.istore_n 2, 1) := by decide +kernel
theorem dX7_begins_28 : decode cX7_begins 28 = .ok (.iload_n 2, 1) := by decide +kernel
theorem dX7_begins_29 : decode cX7_begins 29 = .ok (.bipush 61, 2) := by decide +kernel
theorem dX7_begins_31 : decode cX7_begins 31 = .ok (.if_icmp .ge 16, 3) := by decide +kernel
theorem dX7_begins_34 : decode cX7_begins 34 = .ok (.aload_n 0, 1) := by decide +kernel
theorem dX7_begins_35 : decode cX7_begins 35 = .ok (.getfield 27, 3) := by decide +kernel
theorem dX7_begins_38 : decode cX7_begins 38 = .ok (.iload_n 2, 1) := by decide +kernel
theorem dX7_begins_39 : decode cX7_begins 39 = .ok (.iconst (-1), 1) := by decide +kernel
theorem dX7_begins_40 : decode cX7_begins 40 = .ok (.iastore, 1) := by decide +kernel
theorem dX7_begins_41 : decode cX7_begins 41 = .ok (.iinc 2 1, 3) := by decide +kernel
theorem dX7_begins_44 : decode cX7_begins 44 = .ok (.goto (-16), 3) := by decide +kernel
theorem dX7_begins_47 : decode cX7_begins 47 = .ok (.aload_n 0, 1) := by decide +kernel
theorem dX7_begins_48 : decode cX7_begins 48 = .ok (.iconst 0, 1) := by decide +kernel
theorem dX7_begins_49 : decode cX7_begins 49 = .ok (.putfield 76, 3) := by decide +kernel
theorem dX7_begins_52 : decode cX7_begins 52 = .ok (.aload_n 0, 1) := by decide +kernel
theorem dX7_begins_53 : decode cX7_begins 53 = .ok (.iconst 0, 1) := by decide +kernel
theorem dX7_begins_54 : decode cX7_begins 54 = .ok (.putfield 79, 3) := by decide +kernel
theorem dX7_begins_57 : decode cX7_begins 57 = .ok (.aload_n 0, 1) := by decide +kernel
theorem dX7_begins_58 : decode cX7_begins 58 = .ok (.iconst 0, 1) := by decide +kernel
theorem dX7_begins_59 : decode cX7_begins 59 = .ok (.putfield 82, 3) := by decide +kernel
theorem dX7_begins_62 : decode cX7_begins 62 = .ok (.aload_n 0, 1) := by decide +kernel
theorem dX7_begins_63 : decode cX7_begins 63 = .ok (.iconst 0, 1) := by decide +kernel
theorem dX7_begins_64 : decode cX7_begins 64 = .ok (.putfield 85, 3) := by decide +kernel
theorem dX7_begins_67 : decode cX7_begins 67 = .ok (.aload_n 0, 1) := by decide +kernel
theorem dX7_begins_68 : decode cX7_begins 68 = .ok (.iconst 0, 1) := by decide +kernel
theorem dX7_begins_69 : decode cX7_begins 69 = .ok (.putfield 88, 3) := by decide +kernel
theorem dX7_begins_72 : decode cX7_begins 72 = .ok (.return_, 1) := by decide +kernel
theorem dX7_noServer_0 : decode cX7_noServer 0 = .ok (.iload_n 1, 1) := by decide +kernel
theorem dX7_noServer_1 : decode cX7_noServer 1 = .ok (.i2l, 1) := by decide +kernel
theorem dX7_noServer_2 : decode cX7_noServer 2 = .ok (.lconst 0, 1) := by decide +kernel
theorem dX7_noServer_3 : decode cX7_noServer 3 = .ok (.ldc2_w 91, 3) := by decide +kernel
theorem dX7_noServer_6 : decode cX7_noServer 6 = .ok (.invokestatic 93, 3) := by decide +kernel
theorem dX7_noServer_9 : decode cX7_noServer 9 = .ok (.ifCond .eq 12, 3) := by decide +kernel
theorem dX7_noServer_12 : decode cX7_noServer 12 = .ok (.aload_n 0, 1) := by decide +kernel
theorem dX7_noServer_13 : decode cX7_noServer 13 = .ok (.getfield 13, 3) := by decide +kernel
theorem dX7_noServer_16 : decode cX7_noServer 16 = .ok (.iload_n 1, 1) := by decide +kernel
theorem dX7_noServer_17 : decode cX7_noServer 17 = .ok (.iaload, 1) := by decide +kernel
theorem dX7_noServer_18 : decode cX7_noServer 18 = .ok (.ifCond .ne 7, 3) := by decide +kernel
theorem dX7_noServer_21 : decode cX7_noServer 21 = .ok (.iconst 1, 1) := by decide +kernel
theorem dX7_noServer_22 : decode cX7_noServer 22 = .ok (.goto 4, 3) := by decide +kernel
theorem dX7_noServer_25 : decode cX7_noServer 25 = .ok (.iconst 0, 1) := by decide +kernel
theorem dX7_noServer_26 : decode cX7_noServer 26 = .ok (.ireturn, 1) := by decide +kernel
theorem dX7_noKey_0 : decode cX7_noKey 0 = .ok (.iload_n 0, 1) := by decide +kernel
theorem dX7_noKey_1 : decode cX7_noKey 1 = .ok (.i2l, 1) := by decide +kernel
theorem dX7_noKey_2 : decode cX7_noKey 2 = .ok (.lconst 0, 1) := by decide +kernel
theorem dX7_noKey_3 : decode cX7_noKey 3 = .ok (.ldc2_w 97, 3) := by decide +kernel
theorem dX7_noKey_6 : decode cX7_noKey 6 = .ok (.invokestatic 93, 3) := by decide +kernel
theorem dX7_noKey_9 : decode cX7_noKey 9 = .ok (.ifCond .ne 7, 3) := by decide +kernel
theorem dX7_noKey_12 : decode cX7_noKey 12 = .ok (.iconst 1, 1) := by decide +kernel
theorem dX7_noKey_13 : decode cX7_noKey 13 = .ok (.goto 4, 3) := by decide +kernel
theorem dX7_noKey_16 : decode cX7_noKey 16 = .ok (.iconst 0, 1) := by decide +kernel
theorem dX7_noKey_17 : decode cX7_noKey 17 = .ok (.ireturn, 1) := by decide +kernel
theorem dX7_preferred_0 : decode cX7_preferred 0 = .ok (.bipush 31, 2) := by decide +kernel
theorem dX7_preferred_2 : decode cX7_preferred 2 = .ok (.aload_n 0, 1) := by decide +kernel
theorem dX7_preferred_3 : decode cX7_preferred 3 = .ok (.getfield 17, 3) := by decide +kernel
theorem dX7_preferred_6 : decode cX7_preferred 6 = .ok (.iload_n 1, 1) := by decide +kernel
theorem dX7_preferred_7 : decode cX7_preferred 7 = .ok (.iaload, 1) := by decide +kernel
theorem dX7_preferred_8 : decode cX7_preferred 8 = .ok (.imul, 1) := by decide +kernel
theorem dX7_preferred_9 : decode cX7_preferred 9 = .ok (.bipush 7, 2) := by decide +kernel
theorem dX7_preferred_11 : decode cX7_preferred 11 = .ok (.iadd, 1) := by decide +kernel
theorem dX7_preferred_12 : decode cX7_preferred 12 = .ok (.aload_n 0, 1) := by decide +kernel
theorem dX7_preferred_13 : decode cX7_preferred 13 = .ok (.getfield 7, 3) := by decide +kernel
theorem dX7_preferred_16 : decode cX7_preferred 16 = .ok (.irem, 1) := by decide +kernel
theorem dX7_preferred_17 : decode cX7_preferred 17 = .ok (.istore_n 3, 1) := by decide +kernel
theorem dX7_preferred_18 : decode cX7_preferred 18 = .ok (.bipush 17, 2) := by decide +kernel
theorem dX7_preferred_20 : decode cX7_preferred 20 = .ok (.aload_n 0, 1) := by decide +kernel
theorem dX7_preferred_21 : decode cX7_preferred 21 = .ok (.getfield 17, 3) := by decide +kernel
theorem dX7_preferred_24 : decode cX7_preferred 24 = .ok (.iload_n 1, 1) := by decide +kernel
theorem dX7_preferred_25 : decode cX7_preferred 25 = .ok (.iaload, 1) := by decide +kernel
theorem dX7_preferred_26 : decode cX7_preferred 26 = .ok (.imul, 1) := by decide +kernel
theorem dX7_preferred_27 : decode cX7_preferred 27 = .ok (.iconst 3, 1) := by decide +kernel
theorem dX7_preferred_28 : decode cX7_preferred 28 = .ok (.iadd, 1) := by decide +kernel
theorem dX7_preferred_29 : decode cX7_preferred 29 = .ok (.aload_n 0, 1) := by decide +kernel
theorem dX7_preferred_30 : decode cX7_preferred 30 = .ok (.getfield 7, 3) := by decide +kernel
theorem dX7_preferred_33 : decode cX7_preferred 33 = .ok (.iconst 1, 1) := by decide +kernel
theorem dX7_preferred_34 : decode cX7_preferred 34 = .ok (.isub, 1) := by decide +kernel
theorem dX7_preferred_35 : decode cX7_preferred 35 = .ok (.irem, 1) := by decide +kernel
theorem dX7_preferred_36 : decode cX7_preferred 36 = .ok (.iconst 1, 1) := by decide +kernel
theorem dX7_preferred_37 : decode cX7_preferred 37 = .ok (.iadd, 1) := by decide +kernel
theorem dX7_preferred_38 : decode cX7_preferred 38 = .ok (.istore 4, 2) := by decide +kernel
theorem dX7_preferred_40 : decode cX7_preferred 40 = .ok (.iload_n 3, 1) := by decide +kernel
theorem dX7_preferred_41 : decode cX7_preferred 41 = .ok (.iload_n 2, 1) := by decide +kernel
theorem dX7_preferred_42 : decode cX7_preferred 42 = .ok (.iload 4, 2) := by decide +kernel
theorem dX7_preferred_44 : decode cX7_preferred 44 = .ok (.imul, 1) := by decide +kernel
theorem dX7_preferred_45 : decode cX7_preferred 45 = .ok (.iadd, 1) := by decide +kernel
theorem dX7_preferred_46 : decode cX7_preferred 46 = .ok (.aload_n 0, 1) := by decide +kernel
theorem dX7_preferred_47 : decode cX7_preferred 47 = .ok (.getfield 7, 3) := by decide +kernel
theorem dX7_preferred_50 : decode cX7_preferred 50 = .ok (.irem, 1) := by decide +kernel
theorem dX7_preferred_51 : decode cX7_preferred 51 = .ok (.ireturn, 1) := by decide +kernel
theorem dX7_takes_0 : decode cX7_takes 0 = .ok (.iconst 0, 1) := by decide +kernel
theorem dX7_takes_1 : decode cX7_takes 1 = .ok (.istore_n 2, 1) := by decide +kernel
theorem dX7_takes_2 : decode cX7_takes 2 = .ok (.aload_n 0, 1) := by decide +kernel
theorem dX7_takes_3 : decode cX7_takes 3 = .ok (.getfield 27, 3) := by decide +kernel
theorem dX7_takes_6 : decode cX7_takes 6 = .ok (.aload_n 0, 1) := by decide +kernel
theorem dX7_takes_7 : decode cX7_takes 7 = .ok (.iload_n 1, 1) := by decide +kernel
theorem dX7_takes_8 : decode cX7_takes 8 = .ok (.iload_n 2, 1) := by decide +kernel
theorem dX7_takes_9 : decode cX7_takes 9 = .ok (.invokevirtual 99, 3) := by decide +kernel
theorem dX7_takes_12 : decode cX7_takes 12 = .ok (.iaload, 1) := by decide +kernel
theorem dX7_takes_13 : decode cX7_takes 13 = .ok (.iconst (-1), 1) := by decide +kernel
theorem dX7_takes_14 : decode cX7_takes 14 = .ok (.if_icmp .eq 9, 3) := by decide +kernel
theorem dX7_takes_17 : decode cX7_takes 17 = .ok (.iinc 2 1, 3) := by decide +kernel
theorem dX7_takes_20 : decode cX7_takes 20 = .ok (.goto (-18), 3) := by decide +kernel
theorem dX7_takes_23 : decode cX7_takes 23 = .ok (.aload_n 0, 1) := by decide +kernel
theorem dX7_takes_24 : decode cX7_takes 24 = .ok (.getfield 27, 3) := by decide +kernel
theorem dX7_takes_27 : decode cX7_takes 27 = .ok (.aload_n 0, 1) := by decide +kernel
theorem dX7_takes_28 : decode cX7_takes 28 = .ok (.iload_n 1, 1) := by decide +kernel
theorem dX7_takes_29 : decode cX7_takes 29 = .ok (.iload_n 2, 1) := by decide +kernel
theorem dX7_takes_30 : decode cX7_takes 30 = .ok (.invokevirtual 99, 3) := by decide +kernel
theorem dX7_takes_33 : decode cX7_takes 33 = .ok (.iload_n 1, 1) := by decide +kernel
theorem dX7_takes_34 : decode cX7_takes 34 = .ok (.iastore, 1) := by decide +kernel
theorem dX7_takes_35 : decode cX7_takes 35 = .ok (.return_, 1) := by decide +kernel
theorem dX7_noName_0 : decode cX7_noName 0 = .ok (.iload_n 0, 1) := by decide +kernel
theorem dX7_noName_1 : decode cX7_noName 1 = .ok (.i2l, 1) := by decide +kernel
theorem dX7_noName_2 : decode cX7_noName 2 = .ok (.lconst 1, 1) := by decide +kernel
theorem dX7_noName_3 : decode cX7_noName 3 = .ok (.ldc2_w 139, 3) := by decide +kernel
theorem dX7_noName_6 : decode cX7_noName 6 = .ok (.invokestatic 93, 3) := by decide +kernel
theorem dX7_noName_9 : decode cX7_noName 9 = .ok (.ifCond .ne 7, 3) := by decide +kernel
theorem dX7_noName_12 : decode cX7_noName 12 = .ok (.iconst 1, 1) := by decide +kernel
theorem dX7_noName_13 : decode cX7_noName 13 = .ok (.goto 4, 3) := by decide +kernel
theorem dX7_noName_16 : decode cX7_noName 16 = .ok (.iconst 0, 1) := by decide +kernel
theorem dX7_noName_17 : decode cX7_noName 17 = .ok (.ireturn, 1) := by decide +kernel
theorem dX7_noWeight_0 : decode cX7_noWeight 0 = .ok (.iload_n 0, 1) := by decide +kernel
theorem dX7_noWeight_1 : decode cX7_noWeight 1 = .ok (.i2l, 1) := by decide +kernel
theorem dX7_noWeight_2 : decode cX7_noWeight 2 = .ok (.lconst 1, 1) := by decide +kernel
theorem dX7_noWeight_3 : decode cX7_noWeight 3 = .ok (.ldc2_w 141, 3) := by decide +kernel
theorem dX7_noWeight_6 : decode cX7_noWeight 6 = .ok (.invokestatic 93, 3) := by decide +kernel
theorem dX7_noWeight_9 : decode cX7_noWeight 9 = .ok (.ifCond .ne 7, 3) := by decide +kernel
theorem dX7_noWeight_12 : decode cX7_noWeight 12 = .ok (.iconst 1, 1) := by decide +kernel
theorem dX7_noWeight_13 : decode cX7_noWeight 13 = .ok (.goto 4, 3) := by decide +kernel
theorem dX7_noWeight_16 : decode cX7_noWeight 16 = .ok (.iconst 0, 1) := by decide +kernel
theorem dX7_noWeight_17 : decode cX7_noWeight 17 = .ok (.ireturn, 1) := by decide +kernel
theorem k_X7_init_69 : aKV mX7_init mX7_begins 69 1 7 := ⟨cb_X7_begins, rfl, ml_X7_69, iv_X7_begins, sl_X7_begins, ⟨_, _, rfl⟩, ⟨Nat.le_of_ble_eq_true rfl, Nat.le_of_ble_eq_true rfl⟩⟩
theorem k_X7_noServer_93 : aKS mX7_noServer mX7_in 93 3 := ⟨cb_X7_in, rfl, ml_X7_93, st_X7_in, ⟨Nat.le_of_ble_eq_true rfl, Nat.le_of_ble_eq_true rfl⟩⟩
theorem k_X7_noKey_93 : aKS mX7_noKey mX7_in 93 3 := ⟨cb_X7_in, rfl, ml_X7_93, st_X7_in, ⟨Nat.le_of_ble_eq_true rfl, Nat.le_of_ble_eq_true rfl⟩⟩
theorem k_X7_noName_93 : aKS mX7_noName mX7_in 93 3 := ⟨cb_X7_in, rfl, ml_X7_93, st_X7_in, ⟨Nat.le_of_ble_eq_true rfl, Nat.le_of_ble_eq_true rfl⟩⟩
theorem k_X7_noWeight_93 : aKS mX7_noWeight mX7_in 93 3 := ⟨cb_X7_in, rfl, ml_X7_93, st_X7_in, ⟨Nat.le_of_ble_eq_true rfl, Nat.le_of_ble_eq_true rfl⟩⟩
theorem k_X7_takes_99 : aKV mX7_takes mX7_preferred 99 2 7 := ⟨cb_X7_preferred, rfl, ml_X7_99, iv_X7_preferred, sl_X7_preferred, ⟨_, _, rfl⟩, ⟨Nat.le_of_ble_eq_true rfl, Nat.le_of_ble_eq_true rfl⟩⟩
/-! ===== PreferenceTableModel: pictures ===== -/
/-- slots: how many, table, was, changed, forced -/
abbrev uT : Type := Nat × (Nat → Int32) × (Nat → Int32) × Int32 × Int32
/-- kept: how many, states, names, weights, loads, numbers of pins, keys, servers -/
abbrev qT : Type := Nat × (Nat → Int32) × (Nat → Int32) × (Nat → Int32) × (Nat → Int64) × (Nat → Int32) × (Nat → Int32) × (Nat → Int32)
/-- v: states (0 none, 1 down, 2 up), names, weights, loads, pinned keys, their servers, how many -/
abbrev aMb (b : Nat) (f : Int32) (v : sT) (u : uT) (k : kT) (q : qT) : List aCell := [aOb 7 [.int f, .int (nI u.1), .ref (b + 1), .ref (b + 2), .ref (b + 3), .ref (b + 4), .ref (b + 5), .ref (b + 6), .int u.2.2.2.1, .int u.2.2.2.2, .int (nI v.2.2.2.2.2.2), .ref (b + 7), .ref (b + 8), .int (nI k.2), .ref (b + 9), .ref (b + 10), .ref (b + 11), .int (nI q.1), .ref (b + 12), .ref (b + 13), .ref (b + 14), .ref (b + 15), .ref (b + 16), .ref (b + 17), .ref (b + 18)], aIa 10 v.1, aIa 10 v.2.1, aIa 10 v.2.2.1, aLa 10 v.2.2.2.1, aIa 61 u.2.1, aIa 61 u.2.2.1, aIa 6 v.2.2.2.2.1, aIa 6 v.2.2.2.2.2.1, aIa 8 k.1.1, aLa 8 k.1.2.1, aLa 8 k.1.2.2, aIa 40 q.2.1, aIa 40 q.2.2.1, aIa 40 q.2.2.2.1, aLa 40 q.2.2.2.2.1, aIa 4 q.2.2.2.2.2.1, aIa 24 q.2.2.2.2.2.2.1, aIa 24 q.2.2.2.2.2.2.2]
abbrev aMo (f : Int32) (v : sT) (u : uT) (k : kT) (q : qT) : List aCell := aMb 0 f v u k q
abbrev is19 : List Nat := [0, 1, 2, 3, 4, 5, 6, 7, 8, 9, 10, 11, 12, 13, 14, 15, 16, 17, 18]
def mIn (a b c : Int64) : Bool := decide (¬ a < b) && decide (¬ c < a)
theorem i32_l (x : Int32) (n : Nat) (hn : n < 2 ^ 31) : (x.toInt64 < lN n ↔ x < nI n) ∧ (lN n < x.toInt64 ↔ nI n < x) := by
  rw [Int64.lt_iff_toInt_lt, Int32.lt_iff_toInt_lt, Int64.lt_iff_toInt_lt, Int32.lt_iff_toInt_lt, Int32.toInt_toInt64, lN_toInt hn, nI_toInt hn]
  exact ⟨Iff.rfl, Iff.rfl⟩
theorem i32_nlt (x y : Int32) : ¬ y < x ↔ x ≤ y := by
  rw [Int32.lt_iff_toInt_lt, Int32.le_iff_toInt_le]; omega
theorem i32_nle (x y : Int32) : ¬ y ≤ x ↔ x < y := by
  rw [Int32.lt_iff_toInt_lt, Int32.le_iff_toInt_le]; omega
theorem mIn_i (x : Int32) {a b : Nat} (ha : a < 2 ^ 31) (hb : b < 2 ^ 31) : mIn x.toInt64 (lN a) (lN b) = (decide (¬ x < nI a) && decide (x ≤ nI b)) := by
  unfold mIn
  simp only [(i32_l x a ha).1, (i32_l x b hb).2, i32_nlt]
theorem mIn_fNm (s : Int32) : mIn s.toInt64 0 9 = fNm s := by
  have := mIn_i s (a := 0) (b := 9) (by decide) (by decide)
  refine this.trans ?_
  unfold fNm
  congr 1
  have e : (s ≤ nI 9) ↔ ¬ (10 : Int32) ≤ s := by
    have h9 : (nI 9).toInt = 9 := by decide
    have h10 : (10 : Int32).toInt = 10 := by decide
    rw [Int32.le_iff_toInt_le, Int32.le_iff_toInt_le, h9, h10]; omega
  simp only [e]
def rF (a b : Bool) : Int32 := if a then 1 else if b then 2 else 0
def vClr (v : sT) : sT := (fFl 10 (fun _ => 0) v.1, v.2.1, v.2.2.1, v.2.2.2.1, v.2.2.2.2.1, v.2.2.2.2.2.1, 0)
section MO1
variable {l : Launch} {X : aX} {f : Int32} {v : sT} {u : uT} {k : kT} {q : qT}
theorem c_X7_thrown : aRd l X mX7_thrown is19 [.ref 0] (aMo f v u k q) (.int f) := by
  refine aMt.of (by decide) rfl (Nat.le_of_ble_eq_true rfl) ?_
  refine a_aload_n dX7_thrown_0 rfl ?_
  refine a_get fl_X7_73 dX7_thrown_1 rfl rfl ?_
  refine a_iret rfl dX7_thrown_4 (by decide) (by decide) ?_
  exact ⟨rfl, rfl⟩
theorem c_X7_in (a b c : Int64) : aRd l X mX7_in [] [.long a, .long b, .long c] [] (.int (bI (mIn a b c))) := by
  refine aMt.of (by decide) rfl (Nat.le_of_ble_eq_true rfl) ?_
  refine a_lload_n dX7_in_0 rfl ?_
  refine a_lload_n dX7_in_1 rfl ?_
  refine a_lcmp dX7_in_2 ?_
  refine a_if_lt 17 dX7_in_3 (by decide) (fun c3 => ?_) (fun c3 => ?_)
  · rw [lg_cmp_lt] at c3
    refine a_iconst 0 dX7_in_17 (by decide) ?_
    refine a_zret rfl rfl dX7_in_18 (by decide) (by decide) ?_
    exact ⟨by simp [mIn, c3, bI], rfl⟩
  · rw [lg_cmp_lt] at c3
    refine a_lload_n dX7_in_6 rfl ?_
    refine a_lload dX7_in_7 rfl ?_
    refine a_lcmp dX7_in_9 ?_
    refine a_if_gt 17 dX7_in_10 (by decide) (fun c10 => ?_) (fun c10 => ?_)
    · rw [lg_cmp_gt] at c10
      refine a_iconst 0 dX7_in_17 (by decide) ?_
      refine a_zret rfl rfl dX7_in_18 (by decide) (by decide) ?_
      exact ⟨by simp [mIn, c10, bI], rfl⟩
    · rw [lg_cmp_gt] at c10
      refine a_iconst 1 dX7_in_13 (by decide) ?_
      refine a_goto 18 dX7_in_14 (by decide) ?_
      refine a_zret rfl rfl dX7_in_18 (by decide) (by decide) ?_
      exact ⟨by simp [mIn, c3, c10, bI], rfl⟩
theorem c_X7_isRefused (a b : Bool) : aWr l X mX7_isRefused is19 [.ref 0, .int (bI a), .int (bI b)] (aMo f v u k q) (some (.int (bI (a || b)))) (aMo (rF a b) v u k q) := by
  refine aMt.of (by decide) rfl (Nat.le_of_ble_eq_true rfl) ?_
  cases a with
  | true =>
    refine a_aload_n dX7_isRefused_0 rfl ?_
    refine a_iload_n dX7_isRefused_1 rfl ?_
    refine a_if_eq 9 dX7_isRefused_2 (by decide) (fun z => absurd z (by decide)) (fun _ => ?_)
    refine a_iconst 1 dX7_isRefused_5 (by decide) ?_
    refine a_goto 18 dX7_isRefused_6 (by decide) ?_
    refine a_put fp_X7_73 dX7_isRefused_18 rfl (Nat.le_of_ble_eq_true rfl) (fun _ => ⟨rfl, rfl⟩) ?_
    refine a_aload_n dX7_isRefused_21 rfl ?_
    refine a_get fl_X7_73 dX7_isRefused_22 rfl rfl ?_
    refine a_if_le 32 dX7_isRefused_25 (by decide) (fun z => absurd z (by decide)) (fun _ => ?_)
    refine a_iconst 1 dX7_isRefused_28 (by decide) ?_
    refine a_goto 33 dX7_isRefused_29 (by decide) ?_
    refine a_zret rfl rfl dX7_isRefused_33 (by decide) (by decide) ?_
    exact ⟨rfl, rfl⟩
  | false =>
    cases b with
    | true =>
      refine a_aload_n dX7_isRefused_0 rfl ?_
      refine a_iload_n dX7_isRefused_1 rfl ?_
      refine a_if_eq 9 dX7_isRefused_2 (by decide) (fun _ => ?_) (fun z => absurd (by decide) z)
      refine a_iload_n dX7_isRefused_9 rfl ?_
      refine a_if_eq 17 dX7_isRefused_10 (by decide) (fun z => absurd z (by decide)) (fun _ => ?_)
      refine a_iconst 2 dX7_isRefused_13 (by decide) ?_
      refine a_goto 18 dX7_isRefused_14 (by decide) ?_
      refine a_put fp_X7_73 dX7_isRefused_18 rfl (Nat.le_of_ble_eq_true rfl) (fun _ => ⟨rfl, rfl⟩) ?_
      refine a_aload_n dX7_isRefused_21 rfl ?_
      refine a_get fl_X7_73 dX7_isRefused_22 rfl rfl ?_
      refine a_if_le 32 dX7_isRefused_25 (by decide) (fun z => absurd z (by decide)) (fun _ => ?_)
      refine a_iconst 1 dX7_isRefused_28 (by decide) ?_
      refine a_goto 33 dX7_isRefused_29 (by decide) ?_
      refine a_zret rfl rfl dX7_isRefused_33 (by decide) (by decide) ?_
      exact ⟨rfl, rfl⟩
    | false =>
      refine a_aload_n dX7_isRefused_0 rfl ?_
      refine a_iload_n dX7_isRefused_1 rfl ?_
      refine a_if_eq 9 dX7_isRefused_2 (by decide) (fun _ => ?_) (fun z => absurd (by decide) z)
      refine a_iload_n dX7_isRefused_9 rfl ?_
      refine a_if_eq 17 dX7_isRefused_10 (by decide) (fun _ => ?_) (fun z => absurd (by decide) z)
      refine a_iconst 0 dX7_isRefused_17 (by decide) ?_
      refine a_put fp_X7_73 dX7_isRefused_18 rfl (Nat.le_of_ble_eq_true rfl) (fun _ => ⟨rfl, rfl⟩) ?_
      refine a_aload_n dX7_isRefused_21 rfl ?_
      refine a_get fl_X7_73 dX7_isRefused_22 rfl rfl ?_
      refine a_if_le 32 dX7_isRefused_25 (by decide) (fun _ => ?_) (fun z => absurd (by decide) z)
      refine a_iconst 0 dX7_isRefused_32 (by decide) ?_
      refine a_zret rfl rfl dX7_isRefused_33 (by decide) (by decide) ?_
      exact ⟨rfl, rfl⟩
theorem c_X7_begins (m : Nat) : aWr l X mX7_begins is19 [.ref 0, .int (nI m)] (aMo f v u k q) none (aMo f (vClr v) (m, fFl 61 (fun _ => -1) u.2.1, u.2.2.1, 0, 0) (k.1, 0) (0, q.2)) := by
  refine aMt.of (by decide) rfl (Nat.le_of_ble_eq_true rfl) ?_
  refine a_aload_n dX7_begins_0 rfl ?_
  refine a_iload_n dX7_begins_1 rfl ?_
  refine a_put fp_X7_7 dX7_begins_2 rfl (Nat.le_of_ble_eq_true rfl) (fun _ => ⟨rfl, rfl⟩) ?_
  refine a_iconst 0 dX7_begins_5 (by decide) ?_
  refine a_istore_n dX7_begins_6 (by decide) rfl ?_
  have lp2 : ∀ (n j : Nat), j + n = 61 → aJ l X mX7_begins (aEd X mX7_begins is19 (fun o h' => o = .inl none ∧ h' = aMo f (vClr v) (m, fFl 61 (fun _ => -1) u.2.1, u.2.2.1, 0, 0) (k.1, 0) (0, q.2))) 0 0 28 [.ref 0, .int (nI m), .int (nI j)] [] (aMo f (fFl 10 (fun _ => 0) v.1, v.2) (m, fFl j (fun _ => -1) u.2.1, u.2.2) k q) := by
    intro n
    induction n with
    | zero =>
      intro j hj
      obtain rfl : j = 61 := by omega
      refine a_iload_n dX7_begins_28 rfl ?_
      refine a_bipush 61 dX7_begins_29 (by decide) ?_
      refine a_icmp_ge 47 dX7_begins_31 (by decide) (fun _ => ?_) (fun z => absurd (by decide) z)
      refine a_aload_n dX7_begins_47 rfl ?_
      refine a_iconst 0 dX7_begins_48 (by decide) ?_
      refine a_put fp_X7_76 dX7_begins_49 rfl (Nat.le_of_ble_eq_true rfl) (fun _ => ⟨rfl, rfl⟩) ?_
      refine a_aload_n dX7_begins_52 rfl ?_
      refine a_iconst 0 dX7_begins_53 (by decide) ?_
      refine a_put fp_X7_79 dX7_begins_54 rfl (Nat.le_of_ble_eq_true rfl) (fun _ => ⟨rfl, rfl⟩) ?_
      refine a_aload_n dX7_begins_57 rfl ?_
      refine a_iconst 0 dX7_begins_58 (by decide) ?_
      refine a_put fp_X7_82 dX7_begins_59 rfl (Nat.le_of_ble_eq_true rfl) (fun _ => ⟨rfl, rfl⟩) ?_
      refine a_aload_n dX7_begins_62 rfl ?_
      refine a_iconst 0 dX7_begins_63 (by decide) ?_
      refine a_put fp_X7_85 dX7_begins_64 rfl (Nat.le_of_ble_eq_true rfl) (fun _ => ⟨rfl, rfl⟩) ?_
      refine a_aload_n dX7_begins_67 rfl ?_
      refine a_iconst 0 dX7_begins_68 (by decide) ?_
      refine a_put fp_X7_88 dX7_begins_69 rfl (Nat.le_of_ble_eq_true rfl) (fun _ => ⟨rfl, rfl⟩) ?_
      refine a_vret rfl dX7_begins_72 (by decide) (by decide) ?_
      exact ⟨rfl, rfl⟩
    | succ n ih =>
      intro j hj
      have hi : vp_in (nI j) 61 := in61 (by omega)
      refine a_iload_n dX7_begins_28 rfl ?_
      refine a_bipush 61 dX7_begins_29 (by decide) ?_
      refine a_icmp_ge 47 dX7_begins_31 (by decide) (fun z => absurd z (nI_ge (b := 61) (by omega) (by decide))) (fun _ => ?_)
      refine a_aload_n dX7_begins_34 rfl ?_
      refine a_get fl_X7_27 dX7_begins_35 rfl rfl ?_
      refine a_iload_n dX7_begins_38 rfl ?_
      refine a_iconst (-1) dX7_begins_39 (by decide) ?_
      refine a_iast dX7_begins_40 rfl (by assumption) ?_
      refine a_iinc (nI (j + 1)) dX7_begins_41 rfl (nI_1 _) (by decide) rfl ?_
      refine a_goto 28 dX7_begins_44 (by decide) ?_
      refine a_to rfl rfl rfl ?_ (ih (j + 1) (by omega))
      rw [cl61 (by omega), fFl_s (v := fun _ => -1)]
      rfl
  have lp1 : ∀ (n j : Nat), j + n = 10 → aJ l X mX7_begins (aEd X mX7_begins is19 (fun o h' => o = .inl none ∧ h' = aMo f (vClr v) (m, fFl 61 (fun _ => -1) u.2.1, u.2.2.1, 0, 0) (k.1, 0) (0, q.2))) 0 0 7 [.ref 0, .int (nI m), .int (nI j)] [] (aMo f (fFl j (fun _ => 0) v.1, v.2) (m, u.2) k q) := by
    intro n
    induction n with
    | zero =>
      intro j hj
      obtain rfl : j = 10 := by omega
      refine a_iload_n dX7_begins_7 rfl ?_
      refine a_bipush 10 dX7_begins_8 (by decide) ?_
      refine a_icmp_ge 26 dX7_begins_10 (by decide) (fun _ => ?_) (fun z => absurd ge10_t z)
      refine a_iconst 0 dX7_begins_26 (by decide) ?_
      refine a_istore_n dX7_begins_27 (by decide) rfl ?_
      have := lp2 61 0 rfl
      rw [fFl_0] at this
      exact this
    | succ n ih =>
      intro j hj
      have hi : vp_in (nI j) 10 := in10 (by omega)
      refine a_iload_n dX7_begins_7 rfl ?_
      refine a_bipush 10 dX7_begins_8 (by decide) ?_
      refine a_icmp_ge 26 dX7_begins_10 (by decide) (fun z => absurd z (ge10_f (by omega))) (fun _ => ?_)
      refine a_aload_n dX7_begins_13 rfl ?_
      refine a_get fl_X7_13 dX7_begins_14 rfl rfl ?_
      refine a_iload_n dX7_begins_17 rfl ?_
      refine a_iconst 0 dX7_begins_18 (by decide) ?_
      refine a_iast dX7_begins_19 rfl (by assumption) ?_
      refine a_iinc (nI (j + 1)) dX7_begins_20 rfl (nI_1 _) (by decide) rfl ?_
      refine a_goto 7 dX7_begins_23 (by decide) ?_
      refine a_to rfl rfl rfl ?_ (ih (j + 1) (by omega))
      rw [cl10 (by omega), fFl_s (v := fun _ => 0)]
      rfl
  have := lp1 10 0 rfl
  rw [fFl_0] at this
  exact this
theorem c_X7_init : aWr l X mX7_init [0] [.ref 0] [aOb 7 [.int 0, .int 0, .null, .null, .null, .null, .null, .null, .int 0, .int 0, .int 0, .null, .null, .int 0, .null, .null, .null, .int 0, .null, .null, .null, .null, .null, .null, .null]] none (aMo 0 (vClr (fun _ => 0, fun _ => 0, fun _ => 0, fun _ => 0, fun _ => 0, fun _ => 0, 0)) (13, fFl 61 (fun _ => -1) (fun _ => 0), fun _ => 0, 0, 0) ((fun _ => 0, fun _ => 0, fun _ => 0), 0) (0, fun _ => 0, fun _ => 0, fun _ => 0, fun _ => 0, fun _ => 0, fun _ => 0, fun _ => 0)) := by
  refine aMt.of (by decide) rfl (Nat.le_of_ble_eq_true rfl) ?_
  refine a_aload_n dX7_init_0 rfl ?_
  refine a_objInit ml_X7_1 oi_iv oi_cd dX7_init_1 (by decide) (Nat.le_of_ble_eq_true rfl) ?_
  refine a_aload_n dX7_init_4 rfl ?_
  refine a_bipush 13 dX7_init_5 (by decide) ?_
  refine a_put fp_X7_7 dX7_init_7 rfl (Nat.le_of_ble_eq_true rfl) (fun _ => ⟨rfl, rfl⟩) ?_
  refine a_aload_n dX7_init_10 rfl ?_
  refine a_bipush 10 dX7_init_11 (by decide) ?_
  refine a_newi 10 ar_int (by decide) (by decide) (by decide) dX7_init_13 rfl (by decide) (by decide) ?_
  refine a_putF fp_X7_13 rfl dX7_init_15 rfl (Nat.le_of_ble_eq_true rfl) (fun _ => ⟨rfl, rfl⟩) ?_
  refine a_aload_n dX7_init_18 rfl ?_
  refine a_bipush 10 dX7_init_19 (by decide) ?_
  refine a_newi 10 ar_int (by decide) (by decide) (by decide) dX7_init_21 rfl (by decide) (by decide) ?_
  refine a_putF fp_X7_17 rfl dX7_init_23 rfl (Nat.le_of_ble_eq_true rfl) (fun _ => ⟨rfl, rfl⟩) ?_
  refine a_aload_n dX7_init_26 rfl ?_
  refine a_bipush 10 dX7_init_27 (by decide) ?_
  refine a_newi 10 ar_int (by decide) (by decide) (by decide) dX7_init_29 rfl (by decide) (by decide) ?_
  refine a_putF fp_X7_20 rfl dX7_init_31 rfl (Nat.le_of_ble_eq_true rfl) (fun _ => ⟨rfl, rfl⟩) ?_
  refine a_aload_n dX7_init_34 rfl ?_
  refine a_bipush 10 dX7_init_35 (by decide) ?_
  refine a_newl 10 ar_long (by decide) (by decide) (by decide) dX7_init_37 rfl (by decide) (by decide) ?_
  refine a_putF fp_X7_23 rfl dX7_init_39 rfl (Nat.le_of_ble_eq_true rfl) (fun _ => ⟨rfl, rfl⟩) ?_
  refine a_aload_n dX7_init_42 rfl ?_
  refine a_bipush 61 dX7_init_43 (by decide) ?_
  refine a_newi 61 ar_int (by decide) (by decide) (by decide) dX7_init_45 rfl (by decide) (by decide) ?_
  refine a_putF fp_X7_27 rfl dX7_init_47 rfl (Nat.le_of_ble_eq_true rfl) (fun _ => ⟨rfl, rfl⟩) ?_
  refine a_aload_n dX7_init_50 rfl ?_
  refine a_bipush 61 dX7_init_51 (by decide) ?_
  refine a_newi 61 ar_int (by decide) (by decide) (by decide) dX7_init_53 rfl (by decide) (by decide) ?_
  refine a_putF fp_X7_30 rfl dX7_init_55 rfl (Nat.le_of_ble_eq_true rfl) (fun _ => ⟨rfl, rfl⟩) ?_
  refine a_aload_n dX7_init_58 rfl ?_
  refine a_bipush 6 dX7_init_59 (by decide) ?_
  refine a_newi 6 ar_int (by decide) (by decide) (by decide) dX7_init_61 rfl (by decide) (by decide) ?_
  refine a_putF fp_X7_33 rfl dX7_init_63 rfl (Nat.le_of_ble_eq_true rfl) (fun _ => ⟨rfl, rfl⟩) ?_
  refine a_aload_n dX7_init_66 rfl ?_
  refine a_bipush 6 dX7_init_67 (by decide) ?_
  refine a_newi 6 ar_int (by decide) (by decide) (by decide) dX7_init_69 rfl (by decide) (by decide) ?_
  refine a_putF fp_X7_36 rfl dX7_init_71 rfl (Nat.le_of_ble_eq_true rfl) (fun _ => ⟨rfl, rfl⟩) ?_
  refine a_aload_n dX7_init_74 rfl ?_
  refine a_bipush 8 dX7_init_75 (by decide) ?_
  refine a_newi 8 ar_int (by decide) (by decide) (by decide) dX7_init_77 rfl (by decide) (by decide) ?_
  refine a_putF fp_X7_39 rfl dX7_init_79 rfl (Nat.le_of_ble_eq_true rfl) (fun _ => ⟨rfl, rfl⟩) ?_
  refine a_aload_n dX7_init_82 rfl ?_
  refine a_bipush 8 dX7_init_83 (by decide) ?_
  refine a_newl 8 ar_long (by decide) (by decide) (by decide) dX7_init_85 rfl (by decide) (by decide) ?_
  refine a_putF fp_X7_42 rfl dX7_init_87 rfl (Nat.le_of_ble_eq_true rfl) (fun _ => ⟨rfl, rfl⟩) ?_
  refine a_aload_n dX7_init_90 rfl ?_
  refine a_bipush 8 dX7_init_91 (by decide) ?_
  refine a_newl 8 ar_long (by decide) (by decide) (by decide) dX7_init_93 rfl (by decide) (by decide) ?_
  refine a_putF fp_X7_45 rfl dX7_init_95 rfl (Nat.le_of_ble_eq_true rfl) (fun _ => ⟨rfl, rfl⟩) ?_
  refine a_aload_n dX7_init_98 rfl ?_
  refine a_bipush 40 dX7_init_99 (by decide) ?_
  refine a_newi 40 ar_int (by decide) (by decide) (by decide) dX7_init_101 rfl (by decide) (by decide) ?_
  refine a_putF fp_X7_48 rfl dX7_init_103 rfl (Nat.le_of_ble_eq_true rfl) (fun _ => ⟨rfl, rfl⟩) ?_
  refine a_aload_n dX7_init_106 rfl ?_
  refine a_bipush 40 dX7_init_107 (by decide) ?_
  refine a_newi 40 ar_int (by decide) (by decide) (by decide) dX7_init_109 rfl (by decide) (by decide) ?_
  refine a_putF fp_X7_51 rfl dX7_init_111 rfl (Nat.le_of_ble_eq_true rfl) (fun _ => ⟨rfl, rfl⟩) ?_
  refine a_aload_n dX7_init_114 rfl ?_
  refine a_bipush 40 dX7_init_115 (by decide) ?_
  refine a_newi 40 ar_int (by decide) (by decide) (by decide) dX7_init_117 rfl (by decide) (by decide) ?_
  refine a_putF fp_X7_54 rfl dX7_init_119 rfl (Nat.le_of_ble_eq_true rfl) (fun _ => ⟨rfl, rfl⟩) ?_
  refine a_aload_n dX7_init_122 rfl ?_
  refine a_bipush 40 dX7_init_123 (by decide) ?_
  refine a_newl 40 ar_long (by decide) (by decide) (by decide) dX7_init_125 rfl (by decide) (by decide) ?_
  refine a_putF fp_X7_57 rfl dX7_init_127 rfl (Nat.le_of_ble_eq_true rfl) (fun _ => ⟨rfl, rfl⟩) ?_
  refine a_aload_n dX7_init_130 rfl ?_
  refine a_iconst 4 dX7_init_131 (by decide) ?_
  refine a_newi 4 ar_int (by decide) (by decide) (by decide) dX7_init_132 rfl (by decide) (by decide) ?_
  refine a_putF fp_X7_60 rfl dX7_init_134 rfl (Nat.le_of_ble_eq_true rfl) (fun _ => ⟨rfl, rfl⟩) ?_
  refine a_aload_n dX7_init_137 rfl ?_
  refine a_bipush 24 dX7_init_138 (by decide) ?_
  refine a_newi 24 ar_int (by decide) (by decide) (by decide) dX7_init_140 rfl (by decide) (by decide) ?_
  refine a_putF fp_X7_63 rfl dX7_init_142 rfl (Nat.le_of_ble_eq_true rfl) (fun _ => ⟨rfl, rfl⟩) ?_
  refine a_aload_n dX7_init_145 rfl ?_
  refine a_bipush 24 dX7_init_146 (by decide) ?_
  refine a_newi 24 ar_int (by decide) (by decide) (by decide) dX7_init_148 rfl (by decide) (by decide) ?_
  refine a_putF fp_X7_66 rfl dX7_init_150 rfl (Nat.le_of_ble_eq_true rfl) (fun _ => ⟨rfl, rfl⟩) ?_
  refine a_aload_n dX7_init_153 rfl ?_
  refine a_bipush 13 dX7_init_154 (by decide) ?_
  refine a_VvW is19 (_) k_X7_init_69 (c_X7_begins (f := 0) (v := (fun _ => 0, fun _ => 0, fun _ => 0, fun _ => 0, fun _ => 0, fun _ => 0, 0)) (u := (13, fun _ => 0, fun _ => 0, 0, 0)) (k := ((fun _ => 0, fun _ => 0, fun _ => 0), 0)) (q := (0, fun _ => 0, fun _ => 0, fun _ => 0, fun _ => 0, fun _ => 0, fun _ => 0, fun _ => 0)) 13) dX7_init_156 rfl rfl rfl rfl rfl rfl (Nat.le_of_ble_eq_true rfl) ⟨Nat.le_of_ble_eq_true rfl, Nat.le_of_ble_eq_true rfl⟩ ⟨rfl, rfl⟩ (Nat.le_of_ble_eq_true rfl) rfl ?_
  refine a_vret rfl dX7_init_159 (by decide) (by decide) ?_
  exact ⟨rfl, rfl⟩
theorem c_X7_noServer (s : Int32) : aRd l X mX7_noServer is19 [.ref 0, .int s] (aMo f v u k q) (.int (bI (!(fHs v.1 s)))) := by
  refine aMt.of (by decide) rfl (Nat.le_of_ble_eq_true rfl) ?_
  refine a_iload_n dX7_noServer_0 rfl ?_
  refine a_i2l dX7_noServer_1 ?_
  refine a_lconst 0 dX7_noServer_2 (by decide) ?_
  refine a_ldc2 dX7_noServer_3 cn_X7_91 ?_
  refine a_SiR [] k_X7_noServer_93 (c_X7_in s.toInt64 0 9) dX7_noServer_6 rfl rfl rfl rfl rfl (Nat.le_of_ble_eq_true rfl) ⟨Nat.le_of_ble_eq_true rfl, Nat.le_of_ble_eq_true rfl⟩ ⟨rfl, rfl⟩ ?_
  rw [mIn_fNm]
  refine a_if_eq 21 dX7_noServer_9 (by decide) (fun c9 => ?_) (fun c9 => ?_)
  · refine a_iconst 1 dX7_noServer_21 (by decide) ?_
    refine a_goto 26 dX7_noServer_22 (by decide) ?_
    refine a_zret rfl rfl dX7_noServer_26 (by decide) (by decide) ?_
    exact ⟨by simp [fHs, bI_0 c9, bI], rfl⟩
  · refine a_aload_n dX7_noServer_12 rfl ?_
    refine a_get fl_X7_13 dX7_noServer_13 rfl rfl ?_
    refine a_iload_n dX7_noServer_16 rfl ?_
    refine a_iald dX7_noServer_17 rfl (fNm_in (bI_1 c9)) ?_
    refine a_if_ne 25 dX7_noServer_18 (by decide) (fun c18 => ?_) (fun c18 => ?_)
    · refine a_iconst 0 dX7_noServer_25 (by decide) ?_
      refine a_zret rfl rfl dX7_noServer_26 (by decide) (by decide) ?_
      exact ⟨by simp [fHs, bI_1 c9, c18, bI], rfl⟩
    · refine a_iconst 1 dX7_noServer_21 (by decide) ?_
      refine a_goto 26 dX7_noServer_22 (by decide) ?_
      refine a_zret rfl rfl dX7_noServer_26 (by decide) (by decide) ?_
      exact ⟨by simp [fHs, c18, bI], rfl⟩
theorem c_X7_noKey (n : Int32) : aRd l X mX7_noKey [] [.int n] [] (.int (bI (!(gKy n)))) := by
  refine aMt.of (by decide) rfl (Nat.le_of_ble_eq_true rfl) ?_
  refine a_iload_n dX7_noKey_0 rfl ?_
  refine a_i2l dX7_noKey_1 ?_
  refine a_lconst 0 dX7_noKey_2 (by decide) ?_
  refine a_ldc2 dX7_noKey_3 cn_X7_97 ?_
  refine a_SiR [] k_X7_noKey_93 (c_X7_in n.toInt64 0 99999) dX7_noKey_6 rfl rfl rfl rfl rfl (Nat.le_of_ble_eq_true rfl) ⟨Nat.le_of_ble_eq_true rfl, Nat.le_of_ble_eq_true rfl⟩ ⟨rfl, rfl⟩ ?_
  rw [show mIn n.toInt64 0 99999 = gKy n from mIn_i n (a := 0) (b := 99999) (by decide) (by decide)]
  refine a_if_ne 16 dX7_noKey_9 (by decide) (fun c9 => ?_) (fun c9 => ?_)
  · refine a_iconst 0 dX7_noKey_16 (by decide) ?_
    refine a_zret rfl rfl dX7_noKey_17 (by decide) (by decide) ?_
    exact ⟨by simp [bI_1 c9, bI], rfl⟩
  · refine a_iconst 1 dX7_noKey_12 (by decide) ?_
    refine a_goto 17 dX7_noKey_13 (by decide) ?_
    refine a_zret rfl rfl dX7_noKey_17 (by decide) (by decide) ?_
    exact ⟨by simp [bI_0 c9, bI], rfl⟩
theorem c_X7_noName (n : Int32) : aRd l X mX7_noName [] [.int n] [] (.int (bI (!(gNm n)))) := by
  refine aMt.of (by decide) rfl (Nat.le_of_ble_eq_true rfl) ?_
  refine a_iload_n dX7_noName_0 rfl ?_
  refine a_i2l dX7_noName_1 ?_
  refine a_lconst 1 dX7_noName_2 (by decide) ?_
  refine a_ldc2 dX7_noName_3 cn_X7_139 ?_
  refine a_SiR [] k_X7_noName_93 (c_X7_in n.toInt64 1 9999) dX7_noName_6 rfl rfl rfl rfl rfl (Nat.le_of_ble_eq_true rfl) ⟨Nat.le_of_ble_eq_true rfl, Nat.le_of_ble_eq_true rfl⟩ ⟨rfl, rfl⟩ ?_
  rw [show mIn n.toInt64 1 9999 = gNm n from mIn_i n (a := 1) (b := 9999) (by decide) (by decide)]
  refine a_if_ne 16 dX7_noName_9 (by decide) (fun c9 => ?_) (fun c9 => ?_)
  · refine a_iconst 0 dX7_noName_16 (by decide) ?_
    refine a_zret rfl rfl dX7_noName_17 (by decide) (by decide) ?_
    exact ⟨by simp [bI_1 c9, bI], rfl⟩
  · refine a_iconst 1 dX7_noName_12 (by decide) ?_
    refine a_goto 17 dX7_noName_13 (by decide) ?_
    refine a_zret rfl rfl dX7_noName_17 (by decide) (by decide) ?_
    exact ⟨by simp [bI_0 c9, bI], rfl⟩
theorem c_X7_noWeight (n : Int32) : aRd l X mX7_noWeight [] [.int n] [] (.int (bI (!(gWt n)))) := by
  refine aMt.of (by decide) rfl (Nat.le_of_ble_eq_true rfl) ?_
  refine a_iload_n dX7_noWeight_0 rfl ?_
  refine a_i2l dX7_noWeight_1 ?_
  refine a_lconst 1 dX7_noWeight_2 (by decide) ?_
  refine a_ldc2 dX7_noWeight_3 cn_X7_141 ?_
  refine a_SiR [] k_X7_noWeight_93 (c_X7_in n.toInt64 1 16) dX7_noWeight_6 rfl rfl rfl rfl rfl (Nat.le_of_ble_eq_true rfl) ⟨Nat.le_of_ble_eq_true rfl, Nat.le_of_ble_eq_true rfl⟩ ⟨rfl, rfl⟩ ?_
  rw [show mIn n.toInt64 1 16 = gWt n from mIn_i n (a := 1) (b := 16) (by decide) (by decide)]
  refine a_if_ne 16 dX7_noWeight_9 (by decide) (fun c9 => ?_) (fun c9 => ?_)
  · refine a_iconst 0 dX7_noWeight_16 (by decide) ?_
    refine a_zret rfl rfl dX7_noWeight_17 (by decide) (by decide) ?_
    exact ⟨by simp [bI_1 c9, bI], rfl⟩
  · refine a_iconst 1 dX7_noWeight_12 (by decide) ?_
    refine a_goto 17 dX7_noWeight_13 (by decide) ?_
    refine a_zret rfl rfl dX7_noWeight_17 (by decide) (by decide) ?_
    exact ⟨by simp [bI_0 c9, bI], rfl⟩
theorem c_X7_preferred (h2 : 2 ≤ u.1) (hM : u.1 ≤ 61) (s n j : Nat) (hs : s < 10) (hnm : v.2.1 s = nI n) (hn : n ≤ 9999) (hj : j ≤ 61) : aRd l X mX7_preferred is19 [.ref 0, .int (nI s), .int (nI j)] (aMo f v u k q) (.int (nI (pPf u.1 n j))) := by
  refine aMt.of (by decide) rfl (Nat.le_of_ble_eq_true rfl) ?_
  have hi : vp_in (nI s) 10 := in10 hs
  have b1 : (31 * n + 7) % u.1 < 61 := by have := Nat.mod_lt (31 * n + 7) (show 0 < u.1 by omega); omega
  have b2 : (17 * n + 3) % (u.1 - 1) + 1 ≤ 61 := by have := Nat.mod_lt (17 * n + 3) (show 0 < u.1 - 1 by omega); omega
  have b3 : j * ((17 * n + 3) % (u.1 - 1) + 1) ≤ 61 * 61 := Nat.mul_le_mul hj b2
  have hne : ¬ nI u.1 = 0 := nI_ne0 (by omega) (by omega)
  refine a_bipush 31 dX7_preferred_0 (by decide) ?_
  refine a_aload_n dX7_preferred_2 rfl ?_
  refine a_get fl_X7_17 dX7_preferred_3 rfl rfl ?_
  refine a_iload_n dX7_preferred_6 rfl ?_
  refine a_iald dX7_preferred_7 rfl (by assumption) ?_
  rw [cl10 hs, hnm]
  refine a_imul dX7_preferred_8 ?_
  refine a_bipush 7 dX7_preferred_9 (by decide) ?_
  refine a_iadd dX7_preferred_11 ?_
  refine a_aload_n dX7_preferred_12 rfl ?_
  refine a_get fl_X7_7 dX7_preferred_13 rfl rfl ?_
  rw [show (31 * nI n + 7 : Int32) = nI (31 * n + 7) by rw [← nI_add, ← pk_mul]; rfl]
  refine a_irem dX7_preferred_16 (by assumption) ?_
  rw [pk_rem (by omega) (by omega) (by omega)]
  refine a_istore_n dX7_preferred_17 (by decide) rfl ?_
  refine a_bipush 17 dX7_preferred_18 (by decide) ?_
  refine a_aload_n dX7_preferred_20 rfl ?_
  refine a_get fl_X7_17 dX7_preferred_21 rfl rfl ?_
  refine a_iload_n dX7_preferred_24 rfl ?_
  refine a_iald dX7_preferred_25 rfl (by assumption) ?_
  rw [cl10 hs, hnm]
  refine a_imul dX7_preferred_26 ?_
  refine a_iconst 3 dX7_preferred_27 (by decide) ?_
  refine a_iadd dX7_preferred_28 ?_
  refine a_aload_n dX7_preferred_29 rfl ?_
  refine a_get fl_X7_7 dX7_preferred_30 rfl rfl ?_
  refine a_iconst 1 dX7_preferred_33 (by decide) ?_
  refine a_isub dX7_preferred_34 ?_
  rw [show (17 * nI n + 3 : Int32) = nI (17 * n + 3) by rw [← nI_add, ← pk_mul]; rfl, show (nI u.1 - 1 : Int32) = nI (u.1 - 1) from by obtain ⟨z, hz⟩ : ∃ z, u.1 = z + 1 := ⟨u.1 - 1, by omega⟩; rw [hz]; exact nI_pred z]
  have hne2 : ¬ nI (u.1 - 1) = 0 := nI_ne0 (by omega) (by omega)
  refine a_irem dX7_preferred_35 (by assumption) ?_
  rw [pk_rem (by omega) (by omega) (by omega)]
  refine a_iconst 1 dX7_preferred_36 (by decide) ?_
  refine a_iadd dX7_preferred_37 ?_
  refine a_istore dX7_preferred_38 (by decide) rfl ?_
  refine a_iload_n dX7_preferred_40 rfl ?_
  refine a_iload_n dX7_preferred_41 rfl ?_
  refine a_iload dX7_preferred_42 rfl ?_
  refine a_imul dX7_preferred_44 ?_
  refine a_iadd dX7_preferred_45 ?_
  refine a_aload_n dX7_preferred_46 rfl ?_
  refine a_get fl_X7_7 dX7_preferred_47 rfl rfl ?_
  rw [nI_1, pk_mul, nI_add]
  refine a_irem dX7_preferred_50 (by assumption) ?_
  rw [pk_rem (by omega) (by omega) (by omega)]
  refine a_iret rfl dX7_preferred_51 (by decide) (by decide) ?_
  exact ⟨rfl, rfl⟩
theorem c_X7_takes (h2 : 2 ≤ u.1) (hM : u.1 ≤ 61) (s n i : Nat) (hs : s < 10) (hnm : v.2.1 s = nI n) (hn : n ≤ 9999) (hf : aFo (fun i => decide (u.2.1 (pPf u.1 n i) = -1)) u.1 0 = some i) : aWr l X mX7_takes is19 [.ref 0, .int (nI s)] (aMo f v u k q) none (aMo f v (u.1, upd u.2.1 (pPf u.1 n i) (nI s), u.2.2) k q) := by
  refine aMt.of (by decide) rfl (Nat.le_of_ble_eq_true rfl) ?_
  refine a_iconst 0 dX7_takes_0 (by decide) ?_
  refine a_istore_n dX7_takes_1 (by decide) rfl ?_
  have lp : ∀ (m j : Nat), j + m = u.1 → aFo (fun i => decide (u.2.1 (pPf u.1 n i) = -1)) m j = some i → aJ l X mX7_takes (aEd X mX7_takes is19 (fun o h' => o = .inl none ∧ h' = aMo f v (u.1, upd u.2.1 (pPf u.1 n i) (nI s), u.2.2) k q)) 0 0 2 [.ref 0, .int (nI s), .int (nI j)] [] (aMo f v u k q) := by
    intro m
    induction m with
    | zero => intro j hj hq; cases hq
    | succ m ih =>
      intro j hj hq
      have hp : pPf u.1 n j < u.1 := pPf_lt (by omega)
      have hi : vp_in (nI (pPf u.1 n j)) 61 := in61 (by omega)
      refine a_aload_n dX7_takes_2 rfl ?_
      refine a_get fl_X7_27 dX7_takes_3 rfl rfl ?_
      refine a_aload_n dX7_takes_6 rfl ?_
      refine a_iload_n dX7_takes_7 rfl ?_
      refine a_iload_n dX7_takes_8 rfl ?_
      refine a_ViR is19 k_X7_takes_99 (c_X7_preferred (f := f) (v := v) (u := u) (k := k) (q := q) h2 hM s n j hs hnm hn (by omega)) dX7_takes_9 rfl rfl rfl rfl rfl rfl (Nat.le_of_ble_eq_true rfl) ⟨Nat.le_of_ble_eq_true rfl, Nat.le_of_ble_eq_true rfl⟩ ⟨rfl, rfl⟩ ?_
      refine a_iald dX7_takes_12 rfl (by assumption) ?_
      refine a_iconst (-1) dX7_takes_13 (by decide) ?_
      refine a_icmp_eq 23 dX7_takes_14 (by decide) (fun c14 => ?_) (fun c14 => ?_)
      · rw [cl61 (by omega)] at c14
        obtain rfl : j = i := by simpa [aFo, c14] using hq
        refine a_aload_n dX7_takes_23 rfl ?_
        refine a_get fl_X7_27 dX7_takes_24 rfl rfl ?_
        refine a_aload_n dX7_takes_27 rfl ?_
        refine a_iload_n dX7_takes_28 rfl ?_
        refine a_iload_n dX7_takes_29 rfl ?_
        refine a_ViR is19 k_X7_takes_99 (c_X7_preferred (f := f) (v := v) (u := u) (k := k) (q := q) h2 hM s n j hs hnm hn (by omega)) dX7_takes_30 rfl rfl rfl rfl rfl rfl (Nat.le_of_ble_eq_true rfl) ⟨Nat.le_of_ble_eq_true rfl, Nat.le_of_ble_eq_true rfl⟩ ⟨rfl, rfl⟩ ?_
        refine a_iload_n dX7_takes_33 rfl ?_
        refine a_iast dX7_takes_34 rfl (by assumption) ?_
        refine a_vret rfl dX7_takes_35 (by decide) (by decide) ?_
        refine ⟨rfl, ?_⟩
        rw [cl61 (by omega)]
        rfl
      · rw [cl61 (by omega)] at c14
        refine a_iinc (nI (j + 1)) dX7_takes_17 rfl (nI_1 _) (by decide) rfl ?_
        refine a_goto 2 dX7_takes_20 (by decide) ?_
        exact ih (j + 1) (by omega) (by rw [← hq]; simp [aFo, c14])
  exact lp u.1 0 (by omega) hf
end MO1
