theorem dX0_init_0 : decode cX0_init 0 = .ok (.aload_n 0, 1) := by decide +kernel
theorem dX0_init_1 : decode cX0_init 1 = .ok (.invokespecial 3, 3) := by decide +kernel
theorem dX0_init_4 : decode cX0_init 4 = .ok (.aload_n 0, 1) := by decide +kernel
theorem dX0_init_5 : decode cX0_init 5 = .ok (.bipush 28, 2) := by decide +kernel
theorem dX0_init_7 : decode cX0_init 7 = .ok (.newarray .int, 2) := by decide +kernel
theorem dX0_init_9 : decode cX0_init 9 = .ok (.putfield 9, 3) := by decide +kernel
theorem dX0_init_12 : decode cX0_init 12 = .ok (.aload_n 0, 1) := by decide +kernel
theorem dX0_init_13 : decode cX0_init 13 = .ok (.bipush 28, 2) := by decide +kernel
theorem dX0_init_15 : decode cX0_init 15 = .ok (.newarray .int, 2) := by decide +kernel
theorem dX0_init_17 : decode cX0_init 17 = .ok (.putfield 15, 3) := by decide +kernel
theorem dX0_init_20 : decode cX0_init 20 = .ok (.aload_n 0, 1) := by decide +kernel
theorem dX0_init_21 : decode cX0_init 21 = .ok (.bipush 28, 2) := by decide +kernel
theorem dX0_init_23 : decode cX0_init 23 = .ok (.newarray .long, 2) := by decide +kernel
theorem dX0_init_25 : decode cX0_init 25 = .ok (.putfield 18, 3) := by decide +kernel
theorem dX0_init_28 : decode cX0_init 28 = .ok (.aload_n 0, 1) := by decide +kernel
theorem dX0_init_29 : decode cX0_init 29 = .ok (.bipush 28, 2) := by decide +kernel
theorem dX0_init_31 : decode cX0_init 31 = .ok (.newarray .long, 2) := by decide +kernel
theorem dX0_init_33 : decode cX0_init 33 = .ok (.putfield 22, 3) := by decide +kernel
theorem dX0_init_36 : decode cX0_init 36 = .ok (.aload_n 0, 1) := by decide +kernel
theorem dX0_init_37 : decode cX0_init 37 = .ok (.bipush 28, 2) := by decide +kernel
theorem dX0_init_39 : decode cX0_init 39 = .ok (.newarray .long, 2) := by decide +kernel
theorem dX0_init_41 : decode cX0_init 41 = .ok (.putfield 25, 3) := by decide +kernel
theorem dX0_init_44 : decode cX0_init 44 = .ok (.aload_n 0, 1) := by decide +kernel
theorem dX0_init_45 : decode cX0_init 45 = .ok (.bipush 28, 2) := by decide +kernel
theorem dX0_init_47 : decode cX0_init 47 = .ok (.newarray .int, 2) := by decide +kernel
theorem dX0_init_49 : decode cX0_init 49 = .ok (.putfield 28, 3) := by decide +kernel
theorem dX0_init_52 : decode cX0_init 52 = .ok (.return_, 1) := by decide +kernel
theorem dX0_load_0 : decode cX0_load 0 = .ok (.aload_n 0, 1) := by decide +kernel
theorem dX0_load_1 : decode cX0_load 1 = .ok (.aload_n 1, 1) := by decide +kernel
theorem dX0_load_2 : decode cX0_load 2 = .ok (.getfield 31, 3) := by decide +kernel
theorem dX0_load_5 : decode cX0_load 5 = .ok (.putfield 37, 3) := by decide +kernel
theorem dX0_load_8 : decode cX0_load 8 = .ok (.aload_n 0, 1) := by decide +kernel
theorem dX0_load_9 : decode cX0_load 9 = .ok (.aload_n 1, 1) := by decide +kernel
theorem dX0_load_10 : decode cX0_load 10 = .ok (.getfield 38, 3) := by decide +kernel
theorem dX0_load_13 : decode cX0_load 13 = .ok (.putfield 41, 3) := by decide +kernel
theorem dX0_load_16 : decode cX0_load 16 = .ok (.lconst 0, 1) := by decide +kernel
theorem dX0_load_17 : decode cX0_load 17 = .ok (.lstore 6, 2) := by decide +kernel
theorem dX0_load_19 : decode cX0_load 19 = .ok (.iconst 0, 1) := by decide +kernel
theorem dX0_load_20 : decode cX0_load 20 = .ok (.istore 8, 2) := by decide +kernel
theorem dX0_load_22 : decode cX0_load 22 = .ok (.iload 8, 2) := by decide +kernel
theorem dX0_load_24 : decode cX0_load 24 = .ok (.aload_n 0, 1) := by decide +kernel
theorem dX0_load_25 : decode cX0_load 25 = .ok (.getfield 41, 3) := by decide +kernel
theorem dX0_load_28 : decode cX0_load 28 = .ok (.if_icmp .ge 101, 3) := by decide +kernel
theorem dX0_load_31 : decode cX0_load 31 = .ok (.aload_n 0, 1) := by decide +kernel
theorem dX0_load_32 : decode cX0_load 32 = .ok (.getfield 9, 3) := by decide +kernel
theorem dX0_load_35 : decode cX0_load 35 = .ok (.iload 8, 2) := by decide +kernel
theorem dX0_load_37 : decode cX0_load 37 = .ok (.aload_n 1, 1) := by decide +kernel
theorem dX0_load_38 : decode cX0_load 38 = .ok (.getfield 44, 3) := by decide +kernel
theorem dX0_load_41 : decode cX0_load 41 = .ok (.iload 8, 2) := by decide +kernel
theorem dX0_load_43 : decode cX0_load 43 = .ok (.iaload, 1) := by decide +kernel
theorem dX0_load_44 : decode cX0_load 44 = .ok (.iastore, 1) := by decide +kernel
theorem dX0_load_45 : decode cX0_load 45 = .ok (.aload_n 0, 1) := by decide +kernel
theorem dX0_load_46 : decode cX0_load 46 = .ok (.getfield 15, 3) := by decide +kernel
theorem dX0_load_49 : decode cX0_load 49 = .ok (.iload 8, 2) := by decide +kernel
theorem dX0_load_51 : decode cX0_load 51 = .ok (.aload_n 1, 1) := by decide +kernel
theorem dX0_load_52 : decode cX0_load 52 = .ok (.getfield 45, 3) := by decide +kernel
theorem dX0_load_55 : decode cX0_load 55 = .ok (.iload 8, 2) := by decide +kernel
theorem dX0_load_57 : decode cX0_load 57 = .ok (.iaload, 1) := by decide +kernel
theorem dX0_load_58 : decode cX0_load 58 = .ok (.iastore, 1) := by decide +kernel
theorem dX0_load_59 : decode cX0_load 59 = .ok (.aload_n 0, 1) := by decide +kernel
theorem dX0_load_60 : decode cX0_load 60 = .ok (.getfield 18, 3) := by decide +kernel
theorem dX0_load_63 : decode cX0_load 63 = .ok (.iload 8, 2) := by decide +kernel
theorem dX0_load_65 : decode cX0_load 65 = .ok (.aload_n 1, 1) := by decide +kernel
theorem dX0_load_66 : decode cX0_load 66 = .ok (.iload 8, 2) := by decide +kernel
theorem dX0_load_68 : decode cX0_load 68 = .ok (.lload 4, 2) := by decide +kernel
theorem dX0_load_70 : decode cX0_load 70 = .ok (.invokevirtual 46, 3) := by decide +kernel
theorem dX0_load_73 : decode cX0_load 73 = .ok (.lastore, 1) := by decide +kernel
theorem dX0_load_74 : decode cX0_load 74 = .ok (.aload_n 0, 1) := by decide +kernel
theorem dX0_load_75 : decode cX0_load 75 = .ok (.getfield 22, 3) := by decide +kernel
theorem dX0_load_78 : decode cX0_load 78 = .ok (.iload 8, 2) := by decide +kernel
theorem dX0_load_80 : decode cX0_load 80 = .ok (.aload_n 1, 1) := by decide +kernel
theorem dX0_load_81 : decode cX0_load 81 = .ok (.iload 8, 2) := by decide +kernel
theorem dX0_load_83 : decode cX0_load 83 = .ok (.lload_n 2, 1) := by decide +kernel
theorem dX0_load_84 : decode cX0_load 84 = .ok (.lload 4, 2) := by decide +kernel
theorem dX0_load_86 : decode cX0_load 86 = .ok (.invokevirtual 50, 3) := by decide +kernel
theorem dX0_load_89 : decode cX0_load 89 = .ok (.lastore, 1) := by decide +kernel
theorem dX0_load_90 : decode cX0_load 90 = .ok (.aload_n 0, 1) := by decide +kernel
theorem dX0_load_91 : decode cX0_load 91 = .ok (.getfield 25, 3) := by decide +kernel
theorem dX0_load_94 : decode cX0_load 94 = .ok (.iload 8, 2) := by decide +kernel
theorem dX0_load_96 : decode cX0_load 96 = .ok (.lconst 0, 1) := by decide +kernel
theorem dX0_load_97 : decode cX0_load 97 = .ok (.lastore, 1) := by decide +kernel
theorem dX0_load_98 : decode cX0_load 98 = .ok (.aload_n 0, 1) := by decide +kernel
theorem dX0_load_99 : decode cX0_load 99 = .ok (.getfield 28, 3) := by decide +kernel
theorem dX0_load_102 : decode cX0_load 102 = .ok (.iload 8, 2) := by decide +kernel
theorem dX0_load_104 : decode cX0_load 104 = .ok (.iconst 0, 1) := by decide +kernel
theorem dX0_load_105 : decode cX0_load 105 = .ok (.iastore, 1) := by decide +kernel
theorem dX0_load_106 : decode cX0_load 106 = .ok (.lload 6, 2) := by decide +kernel
theorem dX0_load_108 : decode cX0_load 108 = .ok (.aload_n 0, 1) := by decide +kernel
theorem dX0_load_109 : decode cX0_load 109 = .ok (.getfield 22, 3) := by decide +kernel
theorem dX0_load_112 : decode cX0_load 112 = .ok (.iload 8, 2) := by decide +kernel
theorem dX0_load_114 : decode cX0_load 114 = .ok (.laload, 1) := by decide +kernel
theorem dX0_load_115 : decode cX0_load 115 = .ok (.invokestatic 54, 3) := by decide +kernel
theorem dX0_load_118 : decode cX0_load 118 = .ok (.invokestatic 60, 3) := by decide +kernel
theorem dX0_load_121 : decode cX0_load 121 = .ok (.lstore 6, 2) := by decide +kernel
theorem dX0_load_123 : decode cX0_load 123 = .ok (.iinc 8 1, 3) := by decide +kernel
theorem dX0_load_126 : decode cX0_load 126 = .ok (.goto (-104), 3) := by decide +kernel
theorem dX0_load_129 : decode cX0_load 129 = .ok (.iconst 0, 1) := by decide +kernel
theorem dX0_load_130 : decode cX0_load 130 = .ok (.istore 8, 2) := by decide +kernel
theorem dX0_load_132 : decode cX0_load 132 = .ok (.iload 8, 2) := by decide +kernel
theorem dX0_load_134 : decode cX0_load 134 = .ok (.aload_n 0, 1) := by decide +kernel
theorem dX0_load_135 : decode cX0_load 135 = .ok (.getfield 37, 3) := by decide +kernel
theorem dX0_load_138 : decode cX0_load 138 = .ok (.if_icmp .ge 34, 3) := by decide +kernel
theorem dX0_load_141 : decode cX0_load 141 = .ok (.aload_n 0, 1) := by decide +kernel
theorem dX0_load_142 : decode cX0_load 142 = .ok (.iload 8, 2) := by decide +kernel
theorem dX0_load_144 : decode cX0_load 144 = .ok (.aload_n 1, 1) := by decide +kernel
theorem dX0_load_145 : decode cX0_load 145 = .ok (.iload 8, 2) := by decide +kernel
theorem dX0_load_147 : decode cX0_load 147 = .ok (.lload_n 2, 1) := by decide +kernel
theorem dX0_load_148 : decode cX0_load 148 = .ok (.lload 4, 2) := by decide +kernel
theorem dX0_load_150 : decode cX0_load 150 = .ok (.invokevirtual 64, 3) := by decide +kernel
theorem dX0_load_153 : decode cX0_load 153 = .ok (.lconst 1, 1) := by decide +kernel
theorem dX0_load_154 : decode cX0_load 154 = .ok (.aload_n 0, 1) := by decide +kernel
theorem dX0_load_155 : decode cX0_load 155 = .ok (.getfield 37, 3) := by decide +kernel
theorem dX0_load_158 : decode cX0_load 158 = .ok (.i2l, 1) := by decide +kernel
theorem dX0_load_159 : decode cX0_load 159 = .ok (.lload 6, 2) := by decide +kernel
theorem dX0_load_161 : decode cX0_load 161 = .ok (.lmul, 1) := by decide +kernel
theorem dX0_load_162 : decode cX0_load 162 = .ok (.ladd, 1) := by decide +kernel
theorem dX0_load_163 : decode cX0_load 163 = .ok (.invokevirtual 67, 3) := by decide +kernel
theorem dX0_load_166 : decode cX0_load 166 = .ok (.iinc 8 1, 3) := by decide +kernel
theorem dX0_load_169 : decode cX0_load 169 = .ok (.goto (-37), 3) := by decide +kernel
theorem dX0_load_172 : decode cX0_load 172 = .ok (.return_, 1) := by decide +kernel
theorem dX0_loadArtificial_0 : decode cX0_loadArtificial 0 = .ok (.bipush 20, 2) := by decide +kernel
theorem dX0_loadArtificial_2 : decode cX0_loadArtificial 2 = .ok (.iload_n 1, 1) := by decide +kernel
theorem dX0_loadArtificial_3 : decode cX0_loadArtificial 3 = .ok (.iadd, 1) := by decide +kernel
theorem dX0_loadArtificial_4 : decode cX0_loadArtificial 4 = .ok (.istore 6, 2) := by decide +kernel
theorem dX0_loadArtificial_6 : decode cX0_loadArtificial 6 = .ok (.aload_n 0, 1) := by decide +kernel
theorem dX0_loadArtificial_7 : decode cX0_loadArtificial 7 = .ok (.getfield 9, 3) := by decide +kernel
theorem dX0_loadArtificial_10 : decode cX0_loadArtificial 10 = .ok (.iload 6, 2) := by decide +kernel
theorem dX0_loadArtificial_12 : decode cX0_loadArtificial 12 = .ok (.lload_n 2, 1) := by decide +kernel
theorem dX0_loadArtificial_13 : decode cX0_loadArtificial 13 = .ok (.lconst 0, 1) := by decide +kernel
theorem dX0_loadArtificial_14 : decode cX0_loadArtificial 14 = .ok (.lcmp, 1) := by decide +kernel
theorem dX0_loadArtificial_15 : decode cX0_loadArtificial 15 = .ok (.ifCond .lt 7, 3) := by decide +kernel
theorem dX0_loadArtificial_18 : decode cX0_loadArtificial 18 = .ok (.iload_n 1, 1) := by decide +kernel
theorem dX0_loadArtificial_19 : decode cX0_loadArtificial 19 = .ok (.goto 7, 3) := by decide +kernel
theorem dX0_loadArtificial_22 : decode cX0_loadArtificial 22 = .ok (.aload_n 0, 1) := by decide +kernel
theorem dX0_loadArtificial_23 : decode cX0_loadArtificial 23 = .ok (.getfield 37, 3) := by decide +kernel
theorem dX0_loadArtificial_26 : decode cX0_loadArtificial 26 = .ok (.iastore, 1) := by decide +kernel
theorem dX0_loadArtificial_27 : decode cX0_loadArtificial 27 = .ok (.aload_n 0, 1) := by decide +kernel
theorem dX0_loadArtificial_28 : decode cX0_loadArtificial 28 = .ok (.getfield 15, 3) := by decide +kernel
theorem dX0_loadArtificial_31 : decode cX0_loadArtificial 31 = .ok (.iload 6, 2) := by decide +kernel
theorem dX0_loadArtificial_33 : decode cX0_loadArtificial 33 = .ok (.lload_n 2, 1) := by decide +kernel
theorem dX0_loadArtificial_34 : decode cX0_loadArtificial 34 = .ok (.lconst 0, 1) := by decide +kernel
theorem dX0_loadArtificial_35 : decode cX0_loadArtificial 35 = .ok (.lcmp, 1) := by decide +kernel
theorem dX0_loadArtificial_36 : decode cX0_loadArtificial 36 = .ok (.ifCond .lt 10, 3) := by decide +kernel
theorem dX0_loadArtificial_39 : decode cX0_loadArtificial 39 = .ok (.aload_n 0, 1) := by decide +kernel
theorem dX0_loadArtificial_40 : decode cX0_loadArtificial 40 = .ok (.getfield 37, 3) := by decide +kernel
theorem dX0_loadArtificial_43 : decode cX0_loadArtificial 43 = .ok (.goto 4, 3) := by decide +kernel
theorem dX0_loadArtificial_46 : decode cX0_loadArtificial 46 = .ok (.iload_n 1, 1) := by decide +kernel
theorem dX0_loadArtificial_47 : decode cX0_loadArtificial 47 = .ok (.iastore, 1) := by decide +kernel
theorem dX0_loadArtificial_48 : decode cX0_loadArtificial 48 = .ok (.aload_n 0, 1) := by decide +kernel
theorem dX0_loadArtificial_49 : decode cX0_loadArtificial 49 = .ok (.getfield 18, 3) := by decide +kernel
theorem dX0_loadArtificial_52 : decode cX0_loadArtificial 52 = .ok (.iload 6, 2) := by decide +kernel
theorem dX0_loadArtificial_54 : decode cX0_loadArtificial 54 = .ok (.ldc2_w 71, 3) := by decide +kernel
theorem dX0_loadArtificial_57 : decode cX0_loadArtificial 57 = .ok (.lastore, 1) := by decide +kernel
theorem dX0_loadArtificial_58 : decode cX0_loadArtificial 58 = .ok (.aload_n 0, 1) := by decide +kernel
theorem dX0_loadArtificial_59 : decode cX0_loadArtificial 59 = .ok (.getfield 22, 3) := by decide +kernel
theorem dX0_loadArtificial_62 : decode cX0_loadArtificial 62 = .ok (.iload 6, 2) := by decide +kernel
theorem dX0_loadArtificial_64 : decode cX0_loadArtificial 64 = .ok (.lload 4, 2) := by decide +kernel
theorem dX0_loadArtificial_66 : decode cX0_loadArtificial 66 = .ok (.lastore, 1) := by decide +kernel
theorem dX0_loadArtificial_67 : decode cX0_loadArtificial 67 = .ok (.aload_n 0, 1) := by decide +kernel
theorem dX0_loadArtificial_68 : decode cX0_loadArtificial 68 = .ok (.getfield 25, 3) := by decide +kernel
theorem dX0_loadArtificial_71 : decode cX0_loadArtificial 71 = .ok (.iload 6, 2) := by decide +kernel
theorem dX0_loadArtificial_73 : decode cX0_loadArtificial 73 = .ok (.lload_n 2, 1) := by decide +kernel
theorem dX0_loadArtificial_74 : decode cX0_loadArtificial 74 = .ok (.invokestatic 54, 3) := by decide +kernel
theorem dX0_loadArtificial_77 : decode cX0_loadArtificial 77 = .ok (.lastore, 1) := by decide +kernel
theorem dX0_loadArtificial_78 : decode cX0_loadArtificial 78 = .ok (.aload_n 0, 1) := by decide +kernel
theorem dX0_loadArtificial_79 : decode cX0_loadArtificial 79 = .ok (.getfield 28, 3) := by decide +kernel
theorem dX0_loadArtificial_82 : decode cX0_loadArtificial 82 = .ok (.iload 6, 2) := by decide +kernel
theorem dX0_loadArtificial_84 : decode cX0_loadArtificial 84 = .ok (.iconst 2, 1) := by decide +kernel
theorem dX0_loadArtificial_85 : decode cX0_loadArtificial 85 = .ok (.iastore, 1) := by decide +kernel
theorem dX0_loadArtificial_86 : decode cX0_loadArtificial 86 = .ok (.return_, 1) := by decide +kernel
theorem dX0_hasArtificialFlow_0 : decode cX0_hasArtificialFlow 0 = .ok (.iconst 0, 1) := by decide +kernel
theorem dX0_hasArtificialFlow_1 : decode cX0_hasArtificialFlow 1 = .ok (.istore_n 1, 1) := by decide +kernel
theorem dX0_hasArtificialFlow_2 : decode cX0_hasArtificialFlow 2 = .ok (.iload_n 1, 1) := by decide +kernel
theorem dX0_hasArtificialFlow_3 : decode cX0_hasArtificialFlow 3 = .ok (.aload_n 0, 1) := by decide +kernel
theorem dX0_hasArtificialFlow_4 : decode cX0_hasArtificialFlow 4 = .ok (.getfield 37, 3) := by decide +kernel
theorem dX0_hasArtificialFlow_7 : decode cX0_hasArtificialFlow 7 = .ok (.if_icmp .ge 25, 3) := by decide +kernel
theorem dX0_hasArtificialFlow_10 : decode cX0_hasArtificialFlow 10 = .ok (.aload_n 0, 1) := by decide +kernel
theorem dX0_hasArtificialFlow_11 : decode cX0_hasArtificialFlow 11 = .ok (.getfield 25, 3) := by decide +kernel
theorem dX0_hasArtificialFlow_14 : decode cX0_hasArtificialFlow 14 = .ok (.bipush 20, 2) := by decide +kernel
theorem dX0_hasArtificialFlow_16 : decode cX0_hasArtificialFlow 16 = .ok (.iload_n 1, 1) := by decide +kernel
theorem dX0_hasArtificialFlow_17 : decode cX0_hasArtificialFlow 17 = .ok (.iadd, 1) := by decide +kernel
theorem dX0_hasArtificialFlow_18 : decode cX0_hasArtificialFlow 18 = .ok (.laload, 1) := by decide +kernel
theorem dX0_hasArtificialFlow_19 : decode cX0_hasArtificialFlow 19 = .ok (.lconst 0, 1) := by decide +kernel
theorem dX0_hasArtificialFlow_20 : decode cX0_hasArtificialFlow 20 = .ok (.lcmp, 1) := by decide +kernel
theorem dX0_hasArtificialFlow_21 : decode cX0_hasArtificialFlow 21 = .ok (.ifCond .le 5, 3) := by decide +kernel
theorem dX0_hasArtificialFlow_24 : decode cX0_hasArtificialFlow 24 = .ok (.iconst 1, 1) := by decide +kernel
theorem dX0_hasArtificialFlow_25 : decode cX0_hasArtificialFlow 25 = .ok (.ireturn, 1) := by decide +kernel
theorem dX0_hasArtificialFlow_26 : decode cX0_hasArtificialFlow 26 = .ok (.iinc 1 1, 3) := by decide +kernel
theorem dX0_hasArtificialFlow_29 : decode cX0_hasArtificialFlow 29 = .ok (.goto (-27), 3) := by decide +kernel
theorem dX0_hasArtificialFlow_32 : decode cX0_hasArtificialFlow 32 = .ok (.iconst 0, 1) := by decide +kernel
theorem dX0_hasArtificialFlow_33 : decode cX0_hasArtificialFlow 33 = .ok (.ireturn, 1) := by decide +kernel
theorem dX0_totalCost_0 : decode cX0_totalCost 0 = .ok (.lconst 0, 1) := by decide +kernel
theorem dX0_totalCost_1 : decode cX0_totalCost 1 = .ok (.lstore_n 1, 1) := by decide +kernel
theorem dX0_totalCost_2 : decode cX0_totalCost 2 = .ok (.iconst 0, 1) := by decide +kernel
theorem dX0_totalCost_3 : decode cX0_totalCost 3 = .ok (.istore_n 3, 1) := by decide +kernel
theorem dX0_totalCost_4 : decode cX0_totalCost 4 = .ok (.iload_n 3, 1) := by decide +kernel
theorem dX0_totalCost_5 : decode cX0_totalCost 5 = .ok (.aload_n 0, 1) := by decide +kernel
theorem dX0_totalCost_6 : decode cX0_totalCost 6 = .ok (.getfield 41, 3) := by decide +kernel
theorem dX0_totalCost_9 : decode cX0_totalCost 9 = .ok (.if_icmp .ge 25, 3) := by decide +kernel
theorem dX0_totalCost_12 : decode cX0_totalCost 12 = .ok (.lload_n 1, 1) := by decide +kernel
theorem dX0_totalCost_13 : decode cX0_totalCost 13 = .ok (.aload_n 0, 1) := by decide +kernel
theorem dX0_totalCost_14 : decode cX0_totalCost 14 = .ok (.getfield 25, 3) := by decide +kernel
theorem dX0_totalCost_17 : decode cX0_totalCost 17 = .ok (.iload_n 3, 1) := by decide +kernel
theorem dX0_totalCost_18 : decode cX0_totalCost 18 = .ok (.laload, 1) := by decide +kernel
theorem dX0_totalCost_19 : decode cX0_totalCost 19 = .ok (.aload_n 0, 1) := by decide +kernel
theorem dX0_totalCost_20 : decode cX0_totalCost 20 = .ok (.getfield 22, 3) := by decide +kernel
theorem dX0_totalCost_23 : decode cX0_totalCost 23 = .ok (.iload_n 3, 1) := by decide +kernel
theorem dX0_totalCost_24 : decode cX0_totalCost 24 = .ok (.laload, 1) := by decide +kernel
theorem dX0_totalCost_25 : decode cX0_totalCost 25 = .ok (.lmul, 1) := by decide +kernel
theorem dX0_totalCost_26 : decode cX0_totalCost 26 = .ok (.ladd, 1) := by decide +kernel
theorem dX0_totalCost_27 : decode cX0_totalCost 27 = .ok (.lstore_n 1, 1) := by decide +kernel
theorem dX0_totalCost_28 : decode cX0_totalCost 28 = .ok (.iinc 3 1, 3) := by decide +kernel
theorem dX0_totalCost_31 : decode cX0_totalCost 31 = .ok (.goto (-27), 3) := by decide +kernel
theorem dX0_totalCost_34 : decode cX0_totalCost 34 = .ok (.lload_n 1, 1) := by decide +kernel
theorem dX0_totalCost_35 : decode cX0_totalCost 35 = .ok (.lreturn, 1) := by decide +kernel
theorem dX1_init_0 : decode cX1_init 0 = .ok (.aload_n 0, 1) := by decide +kernel
theorem dX1_init_1 : decode cX1_init 1 = .ok (.invokespecial 3, 3) := by decide +kernel
theorem dX1_init_4 : decode cX1_init 4 = .ok (.aload_n 0, 1) := by decide +kernel
theorem dX1_init_5 : decode cX1_init 5 = .ok (.new 9, 3) := by decide +kernel
theorem dX1_init_8 : decode cX1_init 8 = .ok (.dup, 1) := by decide +kernel
theorem dX1_init_9 : decode cX1_init 9 = .ok (.invokespecial 11, 3) := by decide +kernel
theorem dX1_init_12 : decode cX1_init 12 = .ok (.putfield 12, 3) := by decide +kernel
theorem dX1_init_15 : decode cX1_init 15 = .ok (.aload_n 0, 1) := by decide +kernel
theorem dX1_init_16 : decode cX1_init 16 = .ok (.new 9, 3) := by decide +kernel
theorem dX1_init_19 : decode cX1_init 19 = .ok (.dup, 1) := by decide +kernel
theorem dX1_init_20 : decode cX1_init 20 = .ok (.invokespecial 11, 3) := by decide +kernel
theorem dX1_init_23 : decode cX1_init 23 = .ok (.putfield 18, 3) := by decide +kernel
theorem dX1_init_26 : decode cX1_init 26 = .ok (.aload_n 0, 1) := by decide +kernel
theorem dX1_init_27 : decode cX1_init 27 = .ok (.new 9, 3) := by decide +kernel
theorem dX1_init_30 : decode cX1_init 30 = .ok (.dup, 1) := by decide +kernel
theorem dX1_init_31 : decode cX1_init 31 = .ok (.invokespecial 11, 3) := by decide +kernel
theorem dX1_init_34 : decode cX1_init 34 = .ok (.putfield 21, 3) := by decide +kernel
theorem dX1_init_37 : decode cX1_init 37 = .ok (.aload_n 0, 1) := by decide +kernel
theorem dX1_init_38 : decode cX1_init 38 = .ok (.new 24, 3) := by decide +kernel
theorem dX1_init_41 : decode cX1_init 41 = .ok (.dup, 1) := by decide +kernel
theorem dX1_init_42 : decode cX1_init 42 = .ok (.invokespecial 26, 3) := by decide +kernel
theorem dX1_init_45 : decode cX1_init 45 = .ok (.putfield 27, 3) := by decide +kernel
theorem dX1_init_48 : decode cX1_init 48 = .ok (.aload_n 0, 1) := by decide +kernel
theorem dX1_init_49 : decode cX1_init 49 = .ok (.new 31, 3) := by decide +kernel
theorem dX1_init_52 : decode cX1_init 52 = .ok (.dup, 1) := by decide +kernel
theorem dX1_init_53 : decode cX1_init 53 = .ok (.invokespecial 33, 3) := by decide +kernel
theorem dX1_init_56 : decode cX1_init 56 = .ok (.putfield 34, 3) := by decide +kernel
theorem dX1_init_59 : decode cX1_init 59 = .ok (.return_, 1) := by decide +kernel
theorem dX1_trace_0 : decode cX1_trace 0 = .ok (.aload_n 0, 1) := by decide +kernel
theorem dX1_trace_1 : decode cX1_trace 1 = .ok (.getfield 38, 3) := by decide +kernel
theorem dX1_trace_4 : decode cX1_trace 4 = .ok (.ifCond .eq 25, 3) := by decide +kernel
theorem dX1_trace_7 : decode cX1_trace 7 = .ok (.aload_n 0, 1) := by decide +kernel
theorem dX1_trace_8 : decode cX1_trace 8 = .ok (.getfield 42, 3) := by decide +kernel
theorem dX1_trace_11 : decode cX1_trace 11 = .ok (.iload_n 3, 1) := by decide +kernel
theorem dX1_trace_12 : decode cX1_trace 12 = .ok (.if_icmp .ne 17, 3) := by decide +kernel
theorem dX1_trace_15 : decode cX1_trace 15 = .ok (.aload_n 0, 1) := by decide +kernel
theorem dX1_trace_16 : decode cX1_trace 16 = .ok (.getfield 46, 3) := by decide +kernel
theorem dX1_trace_19 : decode cX1_trace 19 = .ok (.iload 4, 2) := by decide +kernel
theorem dX1_trace_21 : decode cX1_trace 21 = .ok (.if_icmp .ne 8, 3) := by decide +kernel
theorem dX1_trace_24 : decode cX1_trace 24 = .ok (.aload_n 0, 1) := by decide +kernel
theorem dX1_trace_25 : decode cX1_trace 25 = .ok (.getfield 49, 3) := by decide +kernel
theorem dX1_trace_28 : decode cX1_trace 28 = .ok (.ireturn, 1) := by decide +kernel
theorem dX1_trace_29 : decode cX1_trace 29 = .ok (.aload_n 0, 1) := by decide +kernel
theorem dX1_trace_30 : decode cX1_trace 30 = .ok (.iconst 1, 1) := by decide +kernel
theorem dX1_trace_31 : decode cX1_trace 31 = .ok (.putfield 38, 3) := by decide +kernel
theorem dX1_trace_34 : decode cX1_trace 34 = .ok (.aload_n 0, 1) := by decide +kernel
theorem dX1_trace_35 : decode cX1_trace 35 = .ok (.iload_n 3, 1) := by decide +kernel
theorem dX1_trace_36 : decode cX1_trace 36 = .ok (.putfield 42, 3) := by decide +kernel
theorem dX1_trace_39 : decode cX1_trace 39 = .ok (.aload_n 0, 1) := by decide +kernel
theorem dX1_trace_40 : decode cX1_trace 40 = .ok (.iload 4, 2) := by decide +kernel
theorem dX1_trace_42 : decode cX1_trace 42 = .ok (.putfield 46, 3) := by decide +kernel
theorem dX1_trace_45 : decode cX1_trace 45 = .ok (.aload_n 0, 1) := by decide +kernel
theorem dX1_trace_46 : decode cX1_trace 46 = .ok (.aload_n 0, 1) := by decide +kernel
theorem dX1_trace_47 : decode cX1_trace 47 = .ok (.aload_n 1, 1) := by decide +kernel
theorem dX1_trace_48 : decode cX1_trace 48 = .ok (.aload_n 2, 1) := by decide +kernel
theorem dX1_trace_49 : decode cX1_trace 49 = .ok (.invokevirtual 52, 3) := by decide +kernel
theorem dX1_trace_52 : decode cX1_trace 52 = .ok (.putfield 49, 3) := by decide +kernel
theorem dX1_trace_55 : decode cX1_trace 55 = .ok (.iconst 0, 1) := by decide +kernel
theorem dX1_trace_56 : decode cX1_trace 56 = .ok (.istore 5, 2) := by decide +kernel
theorem dX1_trace_58 : decode cX1_trace 58 = .ok (.aload_n 0, 1) := by decide +kernel
theorem dX1_trace_59 : decode cX1_trace 59 = .ok (.getfield 49, 3) := by decide +kernel
theorem dX1_trace_62 : decode cX1_trace 62 = .ok (.ifCond .ne 74, 3) := by decide +kernel
theorem dX1_trace_65 : decode cX1_trace 65 = .ok (.aload_n 0, 1) := by decide +kernel
theorem dX1_trace_66 : decode cX1_trace 66 = .ok (.getfield 56, 3) := by decide +kernel
theorem dX1_trace_69 : decode cX1_trace 69 = .ok (.ifCond .le 67, 3) := by decide +kernel
theorem dX1_trace_72 : decode cX1_trace 72 = .ok (.iload 5, 2) := by decide +kernel
theorem dX1_trace_74 : decode cX1_trace 74 = .ok (.ldc 59, 2) := by decide +kernel
theorem dX1_trace_76 : decode cX1_trace 76 = .ok (.if_icmp .ge 60, 3) := by decide +kernel
theorem dX1_trace_79 : decode cX1_trace 79 = .ok (.aload_n 0, 1) := by decide +kernel
theorem dX1_trace_80 : decode cX1_trace 80 = .ok (.getfield 34, 3) := by decide +kernel
theorem dX1_trace_83 : decode cX1_trace 83 = .ok (.aload_n 0, 1) := by decide +kernel
theorem dX1_trace_84 : decode cX1_trace 84 = .ok (.getfield 56, 3) := by decide +kernel
theorem dX1_trace_87 : decode cX1_trace 87 = .ok (.iconst 1, 1) := by decide +kernel
theorem dX1_trace_88 : decode cX1_trace 88 = .ok (.isub, 1) := by decide +kernel
theorem dX1_trace_89 : decode cX1_trace 89 = .ok (.invokevirtual 60, 3) := by decide +kernel
theorem dX1_trace_92 : decode cX1_trace 92 = .ok (.checkcast 24, 3) := by decide +kernel
theorem dX1_trace_95 : decode cX1_trace 95 = .ok (.astore 6, 2) := by decide +kernel
theorem dX1_trace_97 : decode cX1_trace 97 = .ok (.aload_n 0, 1) := by decide +kernel
theorem dX1_trace_98 : decode cX1_trace 98 = .ok (.getfield 27, 3) := by decide +kernel
theorem dX1_trace_101 : decode cX1_trace 101 = .ok (.aload 6, 2) := by decide +kernel
theorem dX1_trace_103 : decode cX1_trace 103 = .ok (.invokevirtual 64, 3) := by decide +kernel
theorem dX1_trace_106 : decode cX1_trace 106 = .ok (.ifCond .eq 16, 3) := by decide +kernel
theorem dX1_trace_109 : decode cX1_trace 109 = .ok (.aload_n 0, 1) := by decide +kernel
theorem dX1_trace_110 : decode cX1_trace 110 = .ok (.dup, 1) := by decide +kernel
theorem dX1_trace_111 : decode cX1_trace 111 = .ok (.getfield 56, 3) := by decide +kernel
theorem dX1_trace_114 : decode cX1_trace 114 = .ok (.iconst 1, 1) := by decide +kernel
theorem dX1_trace_115 : decode cX1_trace 115 = .ok (.isub, 1) := by decide +kernel
theorem dX1_trace_116 : decode cX1_trace 116 = .ok (.putfield 56, 3) := by decide +kernel
theorem dX1_trace_119 : decode cX1_trace 119 = .ok (.goto 11, 3) := by decide +kernel
theorem dX1_trace_122 : decode cX1_trace 122 = .ok (.aload_n 0, 1) := by decide +kernel
theorem dX1_trace_123 : decode cX1_trace 123 = .ok (.aload_n 1, 1) := by decide +kernel
theorem dX1_trace_124 : decode cX1_trace 124 = .ok (.aload_n 2, 1) := by decide +kernel
theorem dX1_trace_125 : decode cX1_trace 125 = .ok (.aload 6, 2) := by decide +kernel
theorem dX1_trace_127 : decode cX1_trace 127 = .ok (.invokevirtual 68, 3) := by decide +kernel
theorem dX1_trace_130 : decode cX1_trace 130 = .ok (.iinc 5 1, 3) := by decide +kernel
theorem dX1_trace_133 : decode cX1_trace 133 = .ok (.goto (-75), 3) := by decide +kernel
theorem dX1_trace_136 : decode cX1_trace 136 = .ok (.aload_n 0, 1) := by decide +kernel
theorem dX1_trace_137 : decode cX1_trace 137 = .ok (.getfield 49, 3) := by decide +kernel
theorem dX1_trace_140 : decode cX1_trace 140 = .ok (.ireturn, 1) := by decide +kernel
theorem dX1_begin_0 : decode cX1_begin 0 = .ok (.aload_n 1, 1) := by decide +kernel
theorem dX1_begin_1 : decode cX1_begin 1 = .ok (.aload_n 0, 1) := by decide +kernel
theorem dX1_begin_2 : decode cX1_begin 2 = .ok (.getfield 42, 3) := by decide +kernel
theorem dX1_begin_5 : decode cX1_begin 5 = .ok (.i2l, 1) := by decide +kernel
theorem dX1_begin_6 : decode cX1_begin 6 = .ok (.lconst 1, 1) := by decide +kernel
theorem dX1_begin_7 : decode cX1_begin 7 = .ok (.invokevirtual 72, 3) := by decide +kernel
theorem dX1_begin_10 : decode cX1_begin 10 = .ok (.ifCond .eq 16, 3) := by decide +kernel
theorem dX1_begin_13 : decode cX1_begin 13 = .ok (.aload_n 1, 1) := by decide +kernel
theorem dX1_begin_14 : decode cX1_begin 14 = .ok (.aload_n 0, 1) := by decide +kernel
theorem dX1_begin_15 : decode cX1_begin 15 = .ok (.getfield 46, 3) := by decide +kernel
theorem dX1_begin_18 : decode cX1_begin 18 = .ok (.i2l, 1) := by decide +kernel
theorem dX1_begin_19 : decode cX1_begin 19 = .ok (.lconst 1, 1) := by decide +kernel
theorem dX1_begin_20 : decode cX1_begin 20 = .ok (.invokevirtual 72, 3) := by decide +kernel
theorem dX1_begin_23 : decode cX1_begin 23 = .ok (.ifCond .ne 7, 3) := by decide +kernel
theorem dX1_begin_26 : decode cX1_begin 26 = .ok (.sipush (-10003), 3) := by decide +kernel
theorem dX1_begin_29 : decode cX1_begin 29 = .ok (.ireturn, 1) := by decide +kernel
theorem dX1_begin_30 : decode cX1_begin 30 = .ok (.aload_n 0, 1) := by decide +kernel
theorem dX1_begin_31 : decode cX1_begin 31 = .ok (.iconst 0, 1) := by decide +kernel
theorem dX1_begin_32 : decode cX1_begin 32 = .ok (.putfield 56, 3) := by decide +kernel
theorem dX1_begin_35 : decode cX1_begin 35 = .ok (.aload_n 0, 1) := by decide +kernel
theorem dX1_begin_36 : decode cX1_begin 36 = .ok (.getfield 27, 3) := by decide +kernel
theorem dX1_begin_39 : decode cX1_begin 39 = .ok (.aload_n 1, 1) := by decide +kernel
theorem dX1_begin_40 : decode cX1_begin 40 = .ok (.aload_n 2, 1) := by decide +kernel
theorem dX1_begin_41 : decode cX1_begin 41 = .ok (.aload_n 0, 1) := by decide +kernel
theorem dX1_begin_42 : decode cX1_begin 42 = .ok (.getfield 42, 3) := by decide +kernel
theorem dX1_begin_45 : decode cX1_begin 45 = .ok (.i2l, 1) := by decide +kernel
theorem dX1_begin_46 : decode cX1_begin 46 = .ok (.lconst 1, 1) := by decide +kernel
theorem dX1_begin_47 : decode cX1_begin 47 = .ok (.invokevirtual 78, 3) := by decide +kernel
theorem dX1_begin_50 : decode cX1_begin 50 = .ok (.ifCond .eq 21, 3) := by decide +kernel
theorem dX1_begin_53 : decode cX1_begin 53 = .ok (.aload_n 0, 1) := by decide +kernel
theorem dX1_begin_54 : decode cX1_begin 54 = .ok (.invokevirtual 82, 3) := by decide +kernel
theorem dX1_begin_57 : decode cX1_begin 57 = .ok (.aload_n 1, 1) := by decide +kernel
theorem dX1_begin_58 : decode cX1_begin 58 = .ok (.aload_n 2, 1) := by decide +kernel
theorem dX1_begin_59 : decode cX1_begin 59 = .ok (.aload_n 0, 1) := by decide +kernel
theorem dX1_begin_60 : decode cX1_begin 60 = .ok (.getfield 46, 3) := by decide +kernel
theorem dX1_begin_63 : decode cX1_begin 63 = .ok (.i2l, 1) := by decide +kernel
theorem dX1_begin_64 : decode cX1_begin 64 = .ok (.lconst 1, 1) := by decide +kernel
theorem dX1_begin_65 : decode cX1_begin 65 = .ok (.invokevirtual 78, 3) := by decide +kernel
theorem dX1_begin_68 : decode cX1_begin 68 = .ok (.ifCond .ne 7, 3) := by decide +kernel
theorem dX1_begin_71 : decode cX1_begin 71 = .ok (.sipush (-10004), 3) := by decide +kernel
theorem dX1_begin_74 : decode cX1_begin 74 = .ok (.ireturn, 1) := by decide +kernel
theorem dX1_begin_75 : decode cX1_begin 75 = .ok (.aload_n 0, 1) := by decide +kernel
theorem dX1_begin_76 : decode cX1_begin 76 = .ok (.getfield 12, 3) := by decide +kernel
theorem dX1_begin_79 : decode cX1_begin 79 = .ok (.invokevirtual 86, 3) := by decide +kernel
theorem dX1_begin_82 : decode cX1_begin 82 = .ok (.aload_n 0, 1) := by decide +kernel
theorem dX1_begin_83 : decode cX1_begin 83 = .ok (.getfield 18, 3) := by decide +kernel
theorem dX1_begin_86 : decode cX1_begin 86 = .ok (.invokevirtual 86, 3) := by decide +kernel
theorem dX1_begin_89 : decode cX1_begin 89 = .ok (.aload_n 0, 1) := by decide +kernel
theorem dX1_begin_90 : decode cX1_begin 90 = .ok (.getfield 21, 3) := by decide +kernel
theorem dX1_begin_93 : decode cX1_begin 93 = .ok (.invokevirtual 86, 3) := by decide +kernel
theorem dX1_begin_96 : decode cX1_begin 96 = .ok (.aload_n 0, 1) := by decide +kernel
theorem dX1_begin_97 : decode cX1_begin 97 = .ok (.getfield 21, 3) := by decide +kernel
theorem dX1_begin_100 : decode cX1_begin 100 = .ok (.aload_n 0, 1) := by decide +kernel
theorem dX1_begin_101 : decode cX1_begin 101 = .ok (.getfield 27, 3) := by decide +kernel
theorem dX1_begin_104 : decode cX1_begin 104 = .ok (.getfield 89, 3) := by decide +kernel
theorem dX1_begin_107 : decode cX1_begin 107 = .ok (.invokevirtual 93, 3) := by decide +kernel
theorem dX1_begin_110 : decode cX1_begin 110 = .ok (.iconst 0, 1) := by decide +kernel
theorem dX1_begin_111 : decode cX1_begin 111 = .ok (.ireturn, 1) := by decide +kernel
theorem dX1_nextRight_0 : decode cX1_nextRight 0 = .ok (.aload_n 0, 1) := by decide +kernel
theorem dX1_nextRight_1 : decode cX1_nextRight 1 = .ok (.getfield 56, 3) := by decide +kernel
theorem dX1_nextRight_4 : decode cX1_nextRight 4 = .ok (.aload_n 0, 1) := by decide +kernel
theorem dX1_nextRight_5 : decode cX1_nextRight 5 = .ok (.getfield 34, 3) := by decide +kernel
theorem dX1_nextRight_8 : decode cX1_nextRight 8 = .ok (.invokevirtual 97, 3) := by decide +kernel
theorem dX1_nextRight_11 : decode cX1_nextRight 11 = .ok (.if_icmp .lt 18, 3) := by decide +kernel
theorem dX1_nextRight_14 : decode cX1_nextRight 14 = .ok (.aload_n 0, 1) := by decide +kernel
theorem dX1_nextRight_15 : decode cX1_nextRight 15 = .ok (.getfield 34, 3) := by decide +kernel
theorem dX1_nextRight_18 : decode cX1_nextRight 18 = .ok (.new 24, 3) := by decide +kernel
theorem dX1_nextRight_21 : decode cX1_nextRight 21 = .ok (.dup, 1) := by decide +kernel
theorem dX1_nextRight_22 : decode cX1_nextRight 22 = .ok (.invokespecial 26, 3) := by decide +kernel
theorem dX1_nextRight_25 : decode cX1_nextRight 25 = .ok (.invokevirtual 101, 3) := by decide +kernel
theorem dX1_nextRight_28 : decode cX1_nextRight 28 = .ok (.pop, 1) := by decide +kernel
theorem dX1_nextRight_29 : decode cX1_nextRight 29 = .ok (.aload_n 0, 1) := by decide +kernel
theorem dX1_nextRight_30 : decode cX1_nextRight 30 = .ok (.dup, 1) := by decide +kernel
theorem dX1_nextRight_31 : decode cX1_nextRight 31 = .ok (.getfield 56, 3) := by decide +kernel
theorem dX1_nextRight_34 : decode cX1_nextRight 34 = .ok (.iconst 1, 1) := by decide +kernel
theorem dX1_nextRight_35 : decode cX1_nextRight 35 = .ok (.iadd, 1) := by decide +kernel
theorem dX1_nextRight_36 : decode cX1_nextRight 36 = .ok (.putfield 56, 3) := by decide +kernel
theorem dX1_nextRight_39 : decode cX1_nextRight 39 = .ok (.aload_n 0, 1) := by decide +kernel
theorem dX1_nextRight_40 : decode cX1_nextRight 40 = .ok (.getfield 34, 3) := by decide +kernel
theorem dX1_nextRight_43 : decode cX1_nextRight 43 = .ok (.aload_n 0, 1) := by decide +kernel
theorem dX1_nextRight_44 : decode cX1_nextRight 44 = .ok (.getfield 56, 3) := by decide +kernel
theorem dX1_nextRight_47 : decode cX1_nextRight 47 = .ok (.iconst 1, 1) := by decide +kernel
theorem dX1_nextRight_48 : decode cX1_nextRight 48 = .ok (.isub, 1) := by decide +kernel
theorem dX1_nextRight_49 : decode cX1_nextRight 49 = .ok (.invokevirtual 60, 3) := by decide +kernel
theorem dX1_nextRight_52 : decode cX1_nextRight 52 = .ok (.checkcast 24, 3) := by decide +kernel
theorem dX1_nextRight_55 : decode cX1_nextRight 55 = .ok (.areturn, 1) := by decide +kernel
theorem dX2_init_0 : decode cX2_init 0 = .ok (.aload_n 0, 1) := by decide +kernel
theorem dX2_init_1 : decode cX2_init 1 = .ok (.invokespecial 3, 3) := by decide +kernel
theorem dX2_init_4 : decode cX2_init 4 = .ok (.return_, 1) := by decide +kernel
theorem dX3_init_0 : decode cX3_init 0 = .ok (.aload_n 0, 1) := by decide +kernel
theorem dX3_init_1 : decode cX3_init 1 = .ok (.invokespecial 3, 3) := by decide +kernel
theorem dX3_init_4 : decode cX3_init 4 = .ok (.aload_n 0, 1) := by decide +kernel
theorem dX3_init_5 : decode cX3_init 5 = .ok (.lconst 1, 1) := by decide +kernel
theorem dX3_init_6 : decode cX3_init 6 = .ok (.putfield 9, 3) := by decide +kernel
theorem dX3_init_9 : decode cX3_init 9 = .ok (.return_, 1) := by decide +kernel
theorem dX3_touch_0 : decode cX3_touch 0 = .ok (.aload_n 0, 1) := by decide +kernel
theorem dX3_touch_1 : decode cX3_touch 1 = .ok (.lload_n 3, 1) := by decide +kernel
theorem dX3_touch_2 : decode cX3_touch 2 = .ok (.putfield 15, 3) := by decide +kernel
theorem dX3_touch_5 : decode cX3_touch 5 = .ok (.aload_n 0, 1) := by decide +kernel
theorem dX3_touch_6 : decode cX3_touch 6 = .ok (.lload 5, 2) := by decide +kernel
theorem dX3_touch_8 : decode cX3_touch 8 = .ok (.putfield 9, 3) := by decide +kernel
theorem dX3_touch_11 : decode cX3_touch 11 = .ok (.lload 5, 2) := by decide +kernel
theorem dX3_touch_13 : decode cX3_touch 13 = .ok (.lconst 0, 1) := by decide +kernel
theorem dX3_touch_14 : decode cX3_touch 14 = .ok (.lcmp, 1) := by decide +kernel
theorem dX3_touch_15 : decode cX3_touch 15 = .ok (.ifCond .le 14, 3) := by decide +kernel
theorem dX3_touch_18 : decode cX3_touch 18 = .ok (.aload_n 2, 1) := by decide +kernel
theorem dX3_touch_19 : decode cX3_touch 19 = .ok (.aload_n 1, 1) := by decide +kernel
theorem dX3_touch_20 : decode cX3_touch 20 = .ok (.lload_n 3, 1) := by decide +kernel
theorem dX3_touch_21 : decode cX3_touch 21 = .ok (.lload 5, 2) := by decide +kernel
theorem dX3_touch_23 : decode cX3_touch 23 = .ok (.invokevirtual 18, 3) := by decide +kernel
theorem dX3_touch_26 : decode cX3_touch 26 = .ok (.ifCond .eq 5, 3) := by decide +kernel
theorem dX3_touch_29 : decode cX3_touch 29 = .ok (.iconst 0, 1) := by decide +kernel
theorem dX3_touch_30 : decode cX3_touch 30 = .ok (.ireturn, 1) := by decide +kernel
theorem dX3_touch_31 : decode cX3_touch 31 = .ok (.aload_n 0, 1) := by decide +kernel
theorem dX3_touch_32 : decode cX3_touch 32 = .ok (.aload_n 2, 1) := by decide +kernel
theorem dX3_touch_33 : decode cX3_touch 33 = .ok (.aload_n 1, 1) := by decide +kernel
theorem dX3_touch_34 : decode cX3_touch 34 = .ok (.invokevirtual 24, 3) := by decide +kernel
theorem dX3_touch_37 : decode cX3_touch 37 = .ok (.putfield 28, 3) := by decide +kernel
theorem dX3_touch_40 : decode cX3_touch 40 = .ok (.aload_n 0, 1) := by decide +kernel
theorem dX3_touch_41 : decode cX3_touch 41 = .ok (.aload_n 2, 1) := by decide +kernel
theorem dX3_touch_42 : decode cX3_touch 42 = .ok (.getfield 31, 3) := by decide +kernel
theorem dX3_touch_45 : decode cX3_touch 45 = .ok (.invokevirtual 35, 3) := by decide +kernel
theorem dX3_touch_48 : decode cX3_touch 48 = .ok (.lload_n 3, 1) := by decide +kernel
theorem dX3_touch_49 : decode cX3_touch 49 = .ok (.aload_n 0, 1) := by decide +kernel
theorem dX3_touch_50 : decode cX3_touch 50 = .ok (.getfield 28, 3) := by decide +kernel
theorem dX3_touch_53 : decode cX3_touch 53 = .ok (.lmul, 1) := by decide +kernel
theorem dX3_touch_54 : decode cX3_touch 54 = .ok (.lsub, 1) := by decide +kernel
theorem dX3_touch_55 : decode cX3_touch 55 = .ok (.lload 5, 2) := by decide +kernel
theorem dX3_touch_57 : decode cX3_touch 57 = .ok (.ldiv, 1) := by decide +kernel
theorem dX3_touch_58 : decode cX3_touch 58 = .ok (.putfield 41, 3) := by decide +kernel
theorem dX3_touch_61 : decode cX3_touch 61 = .ok (.iconst 1, 1) := by decide +kernel
theorem dX3_touch_62 : decode cX3_touch 62 = .ok (.ireturn, 1) := by decide +kernel
theorem dX3_meets_0 : decode cX3_meets 0 = .ok (.aload_n 0, 1) := by decide +kernel
theorem dX3_meets_1 : decode cX3_meets 1 = .ok (.getfield 41, 3) := by decide +kernel
theorem dX3_meets_4 : decode cX3_meets 4 = .ok (.aload_n 1, 1) := by decide +kernel
theorem dX3_meets_5 : decode cX3_meets 5 = .ok (.getfield 9, 3) := by decide +kernel
theorem dX3_meets_8 : decode cX3_meets 8 = .ok (.lmul, 1) := by decide +kernel
theorem dX3_meets_9 : decode cX3_meets 9 = .ok (.aload_n 0, 1) := by decide +kernel
theorem dX3_meets_10 : decode cX3_meets 10 = .ok (.getfield 28, 3) := by decide +kernel
theorem dX3_meets_13 : decode cX3_meets 13 = .ok (.aload_n 1, 1) := by decide +kernel
theorem dX3_meets_14 : decode cX3_meets 14 = .ok (.getfield 15, 3) := by decide +kernel
theorem dX3_meets_17 : decode cX3_meets 17 = .ok (.lmul, 1) := by decide +kernel
theorem dX3_meets_18 : decode cX3_meets 18 = .ok (.ladd, 1) := by decide +kernel
theorem dX3_meets_19 : decode cX3_meets 19 = .ok (.aload_n 1, 1) := by decide +kernel
theorem dX3_meets_20 : decode cX3_meets 20 = .ok (.getfield 41, 3) := by decide +kernel
theorem dX3_meets_23 : decode cX3_meets 23 = .ok (.aload_n 1, 1) := by decide +kernel
theorem dX3_meets_24 : decode cX3_meets 24 = .ok (.getfield 9, 3) := by decide +kernel
theorem dX3_meets_27 : decode cX3_meets 27 = .ok (.lmul, 1) := by decide +kernel
theorem dX3_meets_28 : decode cX3_meets 28 = .ok (.aload_n 1, 1) := by decide +kernel
theorem dX3_meets_29 : decode cX3_meets 29 = .ok (.getfield 28, 3) := by decide +kernel
theorem dX3_meets_32 : decode cX3_meets 32 = .ok (.aload_n 1, 1) := by decide +kernel
theorem dX3_meets_33 : decode cX3_meets 33 = .ok (.getfield 15, 3) := by decide +kernel
theorem dX3_meets_36 : decode cX3_meets 36 = .ok (.lmul, 1) := by decide +kernel
theorem dX3_meets_37 : decode cX3_meets 37 = .ok (.ladd, 1) := by decide +kernel
theorem dX3_meets_38 : decode cX3_meets 38 = .ok (.lcmp, 1) := by decide +kernel
theorem dX3_meets_39 : decode cX3_meets 39 = .ok (.ifCond .ne 7, 3) := by decide +kernel
theorem dX3_meets_42 : decode cX3_meets 42 = .ok (.iconst 1, 1) := by decide +kernel
theorem dX3_meets_43 : decode cX3_meets 43 = .ok (.goto 4, 3) := by decide +kernel
theorem dX3_meets_46 : decode cX3_meets 46 = .ok (.iconst 0, 1) := by decide +kernel
theorem dX3_meets_47 : decode cX3_meets 47 = .ok (.ireturn, 1) := by decide +kernel
theorem dX4_init_0 : decode cX4_init 0 = .ok (.aload_n 0, 1) := by decide +kernel
theorem dX4_init_1 : decode cX4_init 1 = .ok (.invokespecial 3, 3) := by decide +kernel
theorem dX4_init_4 : decode cX4_init 4 = .ok (.aload_n 0, 1) := by decide +kernel
theorem dX4_init_5 : decode cX4_init 5 = .ok (.bipush 32, 2) := by decide +kernel
theorem dX4_init_7 : decode cX4_init 7 = .ok (.newarray .long, 2) := by decide +kernel
theorem dX4_init_9 : decode cX4_init 9 = .ok (.putfield 9, 3) := by decide +kernel
theorem dX4_init_12 : decode cX4_init 12 = .ok (.return_, 1) := by decide +kernel
theorem dX4_clear_0 : decode cX4_clear 0 = .ok (.aload_n 0, 1) := by decide +kernel
theorem dX4_clear_1 : decode cX4_clear 1 = .ok (.iconst 0, 1) := by decide +kernel
theorem dX4_clear_2 : decode cX4_clear 2 = .ok (.putfield 15, 3) := by decide +kernel
theorem dX4_clear_5 : decode cX4_clear 5 = .ok (.return_, 1) := by decide +kernel
theorem dX4_add_0 : decode cX4_add 0 = .ok (.aload_n 0, 1) := by decide +kernel
theorem dX4_add_1 : decode cX4_add 1 = .ok (.getfield 15, 3) := by decide +kernel
theorem dX4_add_4 : decode cX4_add 4 = .ok (.aload_n 0, 1) := by decide +kernel
theorem dX4_add_5 : decode cX4_add 5 = .ok (.getfield 9, 3) := by decide +kernel
theorem dX4_add_8 : decode cX4_add 8 = .ok (.arraylength, 1) := by decide +kernel
theorem dX4_add_9 : decode cX4_add 9 = .ok (.if_icmp .lt 30, 3) := by decide +kernel
theorem dX4_add_12 : decode cX4_add 12 = .ok (.aload_n 0, 1) := by decide +kernel
theorem dX4_add_13 : decode cX4_add 13 = .ok (.getfield 15, 3) := by decide +kernel
theorem dX4_add_16 : decode cX4_add 16 = .ok (.ldc 19, 2) := by decide +kernel
theorem dX4_add_18 : decode cX4_add 18 = .ok (.if_icmp .lt 4, 3) := by decide +kernel
theorem dX4_add_21 : decode cX4_add 21 = .ok (.return_, 1) := by decide +kernel
theorem dX4_add_22 : decode cX4_add 22 = .ok (.aload_n 0, 1) := by decide +kernel
theorem dX4_add_23 : decode cX4_add 23 = .ok (.aload_n 0, 1) := by decide +kernel
theorem dX4_add_24 : decode cX4_add 24 = .ok (.getfield 9, 3) := by decide +kernel
theorem dX4_add_27 : decode cX4_add 27 = .ok (.iconst 2, 1) := by decide +kernel
theorem dX4_add_28 : decode cX4_add 28 = .ok (.aload_n 0, 1) := by decide +kernel
theorem dX4_add_29 : decode cX4_add 29 = .ok (.getfield 15, 3) := by decide +kernel
theorem dX4_add_32 : decode cX4_add 32 = .ok (.imul, 1) := by decide +kernel
theorem dX4_add_33 : decode cX4_add 33 = .ok (.invokestatic 20, 3) := by decide +kernel
theorem dX4_add_36 : decode cX4_add 36 = .ok (.putfield 9, 3) := by decide +kernel
theorem dX4_add_39 : decode cX4_add 39 = .ok (.aload_n 0, 1) := by decide +kernel
theorem dX4_add_40 : decode cX4_add 40 = .ok (.getfield 9, 3) := by decide +kernel
theorem dX4_add_43 : decode cX4_add 43 = .ok (.aload_n 0, 1) := by decide +kernel
theorem dX4_add_44 : decode cX4_add 44 = .ok (.getfield 15, 3) := by decide +kernel
theorem dX4_add_47 : decode cX4_add 47 = .ok (.lload_n 1, 1) := by decide +kernel
theorem dX4_add_48 : decode cX4_add 48 = .ok (.lastore, 1) := by decide +kernel
theorem dX4_add_49 : decode cX4_add 49 = .ok (.aload_n 0, 1) := by decide +kernel
theorem dX4_add_50 : decode cX4_add 50 = .ok (.dup, 1) := by decide +kernel
theorem dX4_add_51 : decode cX4_add 51 = .ok (.getfield 15, 3) := by decide +kernel
theorem dX4_add_54 : decode cX4_add 54 = .ok (.iconst 1, 1) := by decide +kernel
theorem dX4_add_55 : decode cX4_add 55 = .ok (.iadd, 1) := by decide +kernel
theorem dX4_add_56 : decode cX4_add 56 = .ok (.putfield 15, 3) := by decide +kernel
theorem dX4_add_59 : decode cX4_add 59 = .ok (.return_, 1) := by decide +kernel
theorem dX4_at_0 : decode cX4_at 0 = .ok (.iload_n 1, 1) := by decide +kernel
theorem dX4_at_1 : decode cX4_at 1 = .ok (.ifCond .lt 20, 3) := by decide +kernel
theorem dX4_at_4 : decode cX4_at 4 = .ok (.iload_n 1, 1) := by decide +kernel
theorem dX4_at_5 : decode cX4_at 5 = .ok (.aload_n 0, 1) := by decide +kernel
theorem dX4_at_6 : decode cX4_at 6 = .ok (.getfield 15, 3) := by decide +kernel
theorem dX4_at_9 : decode cX4_at 9 = .ok (.if_icmp .ge 12, 3) := by decide +kernel
theorem dX4_at_12 : decode cX4_at 12 = .ok (.aload_n 0, 1) := by decide +kernel
theorem dX4_at_13 : decode cX4_at 13 = .ok (.getfield 9, 3) := by decide +kernel
theorem dX4_at_16 : decode cX4_at 16 = .ok (.iload_n 1, 1) := by decide +kernel
theorem dX4_at_17 : decode cX4_at 17 = .ok (.laload, 1) := by decide +kernel
theorem dX4_at_18 : decode cX4_at 18 = .ok (.goto 6, 3) := by decide +kernel
theorem dX4_at_21 : decode cX4_at 21 = .ok (.ldc2_w 26, 3) := by decide +kernel
theorem dX4_at_24 : decode cX4_at 24 = .ok (.lreturn, 1) := by decide +kernel
theorem dX5_init_0 : decode cX5_init 0 = .ok (.aload_n 0, 1) := by decide +kernel
theorem dX5_init_1 : decode cX5_init 1 = .ok (.invokespecial 3, 3) := by decide +kernel
theorem dX5_init_4 : decode cX5_init 4 = .ok (.aload_n 0, 1) := by decide +kernel
theorem dX5_init_5 : decode cX5_init 5 = .ok (.iconst 2, 1) := by decide +kernel
theorem dX5_init_6 : decode cX5_init 6 = .ok (.putfield 9, 3) := by decide +kernel
theorem dX5_init_9 : decode cX5_init 9 = .ok (.aload_n 0, 1) := by decide +kernel
theorem dX5_init_10 : decode cX5_init 10 = .ok (.iconst 0, 1) := by decide +kernel
theorem dX5_init_11 : decode cX5_init 11 = .ok (.putfield 15, 3) := by decide +kernel
theorem dX5_init_14 : decode cX5_init 14 = .ok (.aload_n 0, 1) := by decide +kernel
theorem dX5_init_15 : decode cX5_init 15 = .ok (.bipush 8, 2) := by decide +kernel
theorem dX5_init_17 : decode cX5_init 17 = .ok (.newarray .int, 2) := by decide +kernel
theorem dX5_init_19 : decode cX5_init 19 = .ok (.putfield 18, 3) := by decide +kernel
theorem dX5_init_22 : decode cX5_init 22 = .ok (.aload_n 0, 1) := by decide +kernel
theorem dX5_init_23 : decode cX5_init 23 = .ok (.bipush 8, 2) := by decide +kernel
theorem dX5_init_25 : decode cX5_init 25 = .ok (.newarray .int, 2) := by decide +kernel
theorem dX5_init_27 : decode cX5_init 27 = .ok (.putfield 22, 3) := by decide +kernel
theorem dX5_init_30 : decode cX5_init 30 = .ok (.aload_n 0, 1) := by decide +kernel
theorem dX5_init_31 : decode cX5_init 31 = .ok (.bipush 20, 2) := by decide +kernel
theorem dX5_init_33 : decode cX5_init 33 = .ok (.newarray .int, 2) := by decide +kernel
theorem dX5_init_35 : decode cX5_init 35 = .ok (.putfield 25, 3) := by decide +kernel
theorem dX5_init_38 : decode cX5_init 38 = .ok (.aload_n 0, 1) := by decide +kernel
theorem dX5_init_39 : decode cX5_init 39 = .ok (.bipush 20, 2) := by decide +kernel
theorem dX5_init_41 : decode cX5_init 41 = .ok (.newarray .int, 2) := by decide +kernel
theorem dX5_init_43 : decode cX5_init 43 = .ok (.putfield 28, 3) := by decide +kernel
theorem dX5_init_46 : decode cX5_init 46 = .ok (.aload_n 0, 1) := by decide +kernel
theorem dX5_init_47 : decode cX5_init 47 = .ok (.bipush 20, 2) := by decide +kernel
theorem dX5_init_49 : decode cX5_init 49 = .ok (.newarray .int, 2) := by decide +kernel
theorem dX5_init_51 : decode cX5_init 51 = .ok (.putfield 31, 3) := by decide +kernel
theorem dX5_init_54 : decode cX5_init 54 = .ok (.aload_n 0, 1) := by decide +kernel
theorem dX5_init_55 : decode cX5_init 55 = .ok (.bipush 20, 2) := by decide +kernel
theorem dX5_init_57 : decode cX5_init 57 = .ok (.newarray .int, 2) := by decide +kernel
theorem dX5_init_59 : decode cX5_init 59 = .ok (.putfield 34, 3) := by decide +kernel
theorem dX5_init_62 : decode cX5_init 62 = .ok (.aload_n 0, 1) := by decide +kernel
theorem dX5_init_63 : decode cX5_init 63 = .ok (.bipush 20, 2) := by decide +kernel
theorem dX5_init_65 : decode cX5_init 65 = .ok (.newarray .int, 2) := by decide +kernel
theorem dX5_init_67 : decode cX5_init 67 = .ok (.putfield 37, 3) := by decide +kernel
theorem dX5_init_70 : decode cX5_init 70 = .ok (.return_, 1) := by decide +kernel
theorem dX5_clear_0 : decode cX5_clear 0 = .ok (.aload_n 0, 1) := by decide +kernel
theorem dX5_clear_1 : decode cX5_clear 1 = .ok (.iload_n 1, 1) := by decide +kernel
theorem dX5_clear_2 : decode cX5_clear 2 = .ok (.putfield 9, 3) := by decide +kernel
theorem dX5_clear_5 : decode cX5_clear 5 = .ok (.aload_n 0, 1) := by decide +kernel
theorem dX5_clear_6 : decode cX5_clear 6 = .ok (.iconst 0, 1) := by decide +kernel
theorem dX5_clear_7 : decode cX5_clear 7 = .ok (.putfield 40, 3) := by decide +kernel
theorem dX5_clear_10 : decode cX5_clear 10 = .ok (.aload_n 0, 1) := by decide +kernel
theorem dX5_clear_11 : decode cX5_clear 11 = .ok (.iconst 0, 1) := by decide +kernel
theorem dX5_clear_12 : decode cX5_clear 12 = .ok (.putfield 15, 3) := by decide +kernel
theorem dX5_clear_15 : decode cX5_clear 15 = .ok (.aload_n 0, 1) := by decide +kernel
theorem dX5_clear_16 : decode cX5_clear 16 = .ok (.getfield 18, 3) := by decide +kernel
theorem dX5_clear_19 : decode cX5_clear 19 = .ok (.iconst 0, 1) := by decide +kernel
theorem dX5_clear_20 : decode cX5_clear 20 = .ok (.invokestatic 43, 3) := by decide +kernel
theorem dX5_clear_23 : decode cX5_clear 23 = .ok (.aload_n 0, 1) := by decide +kernel
theorem dX5_clear_24 : decode cX5_clear 24 = .ok (.getfield 22, 3) := by decide +kernel
theorem dX5_clear_27 : decode cX5_clear 27 = .ok (.iconst 0, 1) := by decide +kernel
theorem dX5_clear_28 : decode cX5_clear 28 = .ok (.invokestatic 43, 3) := by decide +kernel
theorem dX5_clear_31 : decode cX5_clear 31 = .ok (.return_, 1) := by decide +kernel
theorem dX5_hasNode_0 : decode cX5_hasNode 0 = .ok (.iload_n 1, 1) := by decide +kernel
theorem dX5_hasNode_1 : decode cX5_hasNode 1 = .ok (.ifCond .lt 15, 3) := by decide +kernel
theorem dX5_hasNode_4 : decode cX5_hasNode 4 = .ok (.iload_n 1, 1) := by decide +kernel
theorem dX5_hasNode_5 : decode cX5_hasNode 5 = .ok (.aload_n 0, 1) := by decide +kernel
theorem dX5_hasNode_6 : decode cX5_hasNode 6 = .ok (.getfield 9, 3) := by decide +kernel
theorem dX5_hasNode_9 : decode cX5_hasNode 9 = .ok (.if_icmp .ge 7, 3) := by decide +kernel
theorem dX5_hasNode_12 : decode cX5_hasNode 12 = .ok (.iconst 1, 1) := by decide +kernel
theorem dX5_hasNode_13 : decode cX5_hasNode 13 = .ok (.goto 4, 3) := by decide +kernel
theorem dX5_hasNode_16 : decode cX5_hasNode 16 = .ok (.iconst 0, 1) := by decide +kernel
theorem dX5_hasNode_17 : decode cX5_hasNode 17 = .ok (.ireturn, 1) := by decide +kernel
theorem dX5_hasArc_0 : decode cX5_hasArc 0 = .ok (.iload_n 1, 1) := by decide +kernel
theorem dX5_hasArc_1 : decode cX5_hasArc 1 = .ok (.ifCond .lt 15, 3) := by decide +kernel
theorem dX5_hasArc_4 : decode cX5_hasArc 4 = .ok (.iload_n 1, 1) := by decide +kernel
theorem dX5_hasArc_5 : decode cX5_hasArc 5 = .ok (.aload_n 0, 1) := by decide +kernel
theorem dX5_hasArc_6 : decode cX5_hasArc 6 = .ok (.getfield 40, 3) := by decide +kernel
theorem dX5_hasArc_9 : decode cX5_hasArc 9 = .ok (.if_icmp .ge 7, 3) := by decide +kernel
theorem dX5_hasArc_12 : decode cX5_hasArc 12 = .ok (.iconst 1, 1) := by decide +kernel
theorem dX5_hasArc_13 : decode cX5_hasArc 13 = .ok (.goto 4, 3) := by decide +kernel
theorem dX5_hasArc_16 : decode cX5_hasArc 16 = .ok (.iconst 0, 1) := by decide +kernel
theorem dX5_hasArc_17 : decode cX5_hasArc 17 = .ok (.ireturn, 1) := by decide +kernel
theorem dX5_sumOf_0 : decode cX5_sumOf 0 = .ok (.iconst 0, 1) := by decide +kernel
theorem dX5_sumOf_1 : decode cX5_sumOf 1 = .ok (.istore_n 2, 1) := by decide +kernel
theorem dX5_sumOf_2 : decode cX5_sumOf 2 = .ok (.iconst 0, 1) := by decide +kernel
theorem dX5_sumOf_3 : decode cX5_sumOf 3 = .ok (.istore_n 3, 1) := by decide +kernel
theorem dX5_sumOf_4 : decode cX5_sumOf 4 = .ok (.iload_n 3, 1) := by decide +kernel
theorem dX5_sumOf_5 : decode cX5_sumOf 5 = .ok (.aload_n 0, 1) := by decide +kernel
theorem dX5_sumOf_6 : decode cX5_sumOf 6 = .ok (.getfield 9, 3) := by decide +kernel
theorem dX5_sumOf_9 : decode cX5_sumOf 9 = .ok (.if_icmp .ge 15, 3) := by decide +kernel
theorem dX5_sumOf_12 : decode cX5_sumOf 12 = .ok (.iload_n 2, 1) := by decide +kernel
theorem dX5_sumOf_13 : decode cX5_sumOf 13 = .ok (.aload_n 1, 1) := by decide +kernel
theorem dX5_sumOf_14 : decode cX5_sumOf 14 = .ok (.iload_n 3, 1) := by decide +kernel
theorem dX5_sumOf_15 : decode cX5_sumOf 15 = .ok (.iaload, 1) := by decide +kernel
theorem dX5_sumOf_16 : decode cX5_sumOf 16 = .ok (.iadd, 1) := by decide +kernel
theorem dX5_sumOf_17 : decode cX5_sumOf 17 = .ok (.istore_n 2, 1) := by decide +kernel
theorem dX5_sumOf_18 : decode cX5_sumOf 18 = .ok (.iinc 3 1, 3) := by decide +kernel
theorem dX5_sumOf_21 : decode cX5_sumOf 21 = .ok (.goto (-17), 3) := by decide +kernel
theorem dX5_sumOf_24 : decode cX5_sumOf 24 = .ok (.iload_n 2, 1) := by decide +kernel
theorem dX5_sumOf_25 : decode cX5_sumOf 25 = .ok (.ireturn, 1) := by decide +kernel
theorem dX5_isBalanced_0 : decode cX5_isBalanced 0 = .ok (.lconst 0, 1) := by decide +kernel
theorem dX5_isBalanced_1 : decode cX5_isBalanced 1 = .ok (.lstore 5, 2) := by decide +kernel
theorem dX5_isBalanced_3 : decode cX5_isBalanced 3 = .ok (.iconst 0, 1) := by decide +kernel
theorem dX5_isBalanced_4 : decode cX5_isBalanced 4 = .ok (.istore 7, 2) := by decide +kernel
theorem dX5_isBalanced_6 : decode cX5_isBalanced 6 = .ok (.iload 7, 2) := by decide +kernel
theorem dX5_isBalanced_8 : decode cX5_isBalanced 8 = .ok (.aload_n 0, 1) := by decide +kernel
theorem dX5_isBalanced_9 : decode cX5_isBalanced 9 = .ok (.getfield 9, 3) := by decide +kernel
theorem dX5_isBalanced_12 : decode cX5_isBalanced 12 = .ok (.if_icmp .ge 22, 3) := by decide +kernel
theorem dX5_isBalanced_15 : decode cX5_isBalanced 15 = .ok (.lload 5, 2) := by decide +kernel
theorem dX5_isBalanced_17 : decode cX5_isBalanced 17 = .ok (.aload_n 0, 1) := by decide +kernel
theorem dX5_isBalanced_18 : decode cX5_isBalanced 18 = .ok (.iload 7, 2) := by decide +kernel
theorem dX5_isBalanced_20 : decode cX5_isBalanced 20 = .ok (.lload_n 1, 1) := by decide +kernel
theorem dX5_isBalanced_21 : decode cX5_isBalanced 21 = .ok (.lload_n 3, 1) := by decide +kernel
theorem dX5_isBalanced_22 : decode cX5_isBalanced 22 = .ok (.invokevirtual 49, 3) := by decide +kernel
theorem dX5_isBalanced_25 : decode cX5_isBalanced 25 = .ok (.ladd, 1) := by decide +kernel
theorem dX5_isBalanced_26 : decode cX5_isBalanced 26 = .ok (.lstore 5, 2) := by decide +kernel
theorem dX5_isBalanced_28 : decode cX5_isBalanced 28 = .ok (.iinc 7 1, 3) := by decide +kernel
theorem dX5_isBalanced_31 : decode cX5_isBalanced 31 = .ok (.goto (-25), 3) := by decide +kernel
theorem dX5_isBalanced_34 : decode cX5_isBalanced 34 = .ok (.lload 5, 2) := by decide +kernel
theorem dX5_isBalanced_36 : decode cX5_isBalanced 36 = .ok (.lconst 0, 1) := by decide +kernel
theorem dX5_isBalanced_37 : decode cX5_isBalanced 37 = .ok (.lcmp, 1) := by decide +kernel
theorem dX5_isBalanced_38 : decode cX5_isBalanced 38 = .ok (.ifCond .ne 7, 3) := by decide +kernel
theorem dX5_isBalanced_41 : decode cX5_isBalanced 41 = .ok (.iconst 1, 1) := by decide +kernel
theorem dX5_isBalanced_42 : decode cX5_isBalanced 42 = .ok (.goto 4, 3) := by decide +kernel
theorem dX5_isBalanced_45 : decode cX5_isBalanced 45 = .ok (.iconst 0, 1) := by decide +kernel
theorem dX5_isBalanced_46 : decode cX5_isBalanced 46 = .ok (.ireturn, 1) := by decide +kernel
theorem dX5_scaledSupply_0 : decode cX5_scaledSupply 0 = .ok (.aload_n 0, 1) := by decide +kernel
theorem dX5_scaledSupply_1 : decode cX5_scaledSupply 1 = .ok (.getfield 15, 3) := by decide +kernel
theorem dX5_scaledSupply_4 : decode cX5_scaledSupply 4 = .ok (.iconst 1, 1) := by decide +kernel
theorem dX5_scaledSupply_5 : decode cX5_scaledSupply 5 = .ok (.if_icmp .ne 26, 3) := by decide +kernel
theorem dX5_scaledSupply_8 : decode cX5_scaledSupply 8 = .ok (.lload 4, 2) := by decide +kernel
theorem dX5_scaledSupply_10 : decode cX5_scaledSupply 10 = .ok (.aload_n 0, 1) := by decide +kernel
theorem dX5_scaledSupply_11 : decode cX5_scaledSupply 11 = .ok (.getfield 18, 3) := by decide +kernel
theorem dX5_scaledSupply_14 : decode cX5_scaledSupply 14 = .ok (.iload_n 1, 1) := by decide +kernel
theorem dX5_scaledSupply_15 : decode cX5_scaledSupply 15 = .ok (.iaload, 1) := by decide +kernel
theorem dX5_scaledSupply_16 : decode cX5_scaledSupply 16 = .ok (.i2l, 1) := by decide +kernel
theorem dX5_scaledSupply_17 : decode cX5_scaledSupply 17 = .ok (.lmul, 1) := by decide +kernel
theorem dX5_scaledSupply_18 : decode cX5_scaledSupply 18 = .ok (.lload_n 2, 1) := by decide +kernel
theorem dX5_scaledSupply_19 : decode cX5_scaledSupply 19 = .ok (.aload_n 0, 1) := by decide +kernel
theorem dX5_scaledSupply_20 : decode cX5_scaledSupply 20 = .ok (.getfield 22, 3) := by decide +kernel
theorem dX5_scaledSupply_23 : decode cX5_scaledSupply 23 = .ok (.iload_n 1, 1) := by decide +kernel
theorem dX5_scaledSupply_24 : decode cX5_scaledSupply 24 = .ok (.iaload, 1) := by decide +kernel
theorem dX5_scaledSupply_25 : decode cX5_scaledSupply 25 = .ok (.i2l, 1) := by decide +kernel
theorem dX5_scaledSupply_26 : decode cX5_scaledSupply 26 = .ok (.lmul, 1) := by decide +kernel
theorem dX5_scaledSupply_27 : decode cX5_scaledSupply 27 = .ok (.ladd, 1) := by decide +kernel
theorem dX5_scaledSupply_28 : decode cX5_scaledSupply 28 = .ok (.goto 10, 3) := by decide +kernel
theorem dX5_scaledSupply_31 : decode cX5_scaledSupply 31 = .ok (.aload_n 0, 1) := by decide +kernel
theorem dX5_scaledSupply_32 : decode cX5_scaledSupply 32 = .ok (.getfield 18, 3) := by decide +kernel
theorem dX5_scaledSupply_35 : decode cX5_scaledSupply 35 = .ok (.iload_n 1, 1) := by decide +kernel
theorem dX5_scaledSupply_36 : decode cX5_scaledSupply 36 = .ok (.iaload, 1) := by decide +kernel
theorem dX5_scaledSupply_37 : decode cX5_scaledSupply 37 = .ok (.i2l, 1) := by decide +kernel
theorem dX5_scaledSupply_38 : decode cX5_scaledSupply 38 = .ok (.lreturn, 1) := by decide +kernel
theorem dX6_init_0 : decode cX6_init 0 = .ok (.aload_n 0, 1) := by decide +kernel
theorem dX6_init_1 : decode cX6_init 1 = .ok (.invokespecial 1, 3) := by decide +kernel
theorem dX6_init_4 : decode cX6_init 4 = .ok (.aload_n 0, 1) := by decide +kernel
theorem dX6_init_5 : decode cX6_init 5 = .ok (.lconst 1, 1) := by decide +kernel
theorem dX6_init_6 : decode cX6_init 6 = .ok (.putfield 7, 3) := by decide +kernel
theorem dX6_init_9 : decode cX6_init 9 = .ok (.aload_n 0, 1) := by decide +kernel
theorem dX6_init_10 : decode cX6_init 10 = .ok (.lconst 1, 1) := by decide +kernel
theorem dX6_init_11 : decode cX6_init 11 = .ok (.putfield 13, 3) := by decide +kernel
theorem dX6_init_14 : decode cX6_init 14 = .ok (.return_, 1) := by decide +kernel
theorem dX7_init_0 : decode cX7_init 0 = .ok (.aload_n 0, 1) := by decide +kernel
theorem dX7_init_1 : decode cX7_init 1 = .ok (.invokespecial 3, 3) := by decide +kernel
theorem dX7_init_4 : decode cX7_init 4 = .ok (.aload_n 0, 1) := by decide +kernel
theorem dX7_init_5 : decode cX7_init 5 = .ok (.lconst 1, 1) := by decide +kernel
theorem dX7_init_6 : decode cX7_init 6 = .ok (.putfield 9, 3) := by decide +kernel
theorem dX7_init_9 : decode cX7_init 9 = .ok (.aload_n 0, 1) := by decide +kernel
theorem dX7_init_10 : decode cX7_init 10 = .ok (.new 15, 3) := by decide +kernel
theorem dX7_init_13 : decode cX7_init 13 = .ok (.dup, 1) := by decide +kernel
theorem dX7_init_14 : decode cX7_init 14 = .ok (.invokespecial 17, 3) := by decide +kernel
theorem dX7_init_17 : decode cX7_init 17 = .ok (.putfield 18, 3) := by decide +kernel
theorem dX7_init_20 : decode cX7_init 20 = .ok (.aload_n 0, 1) := by decide +kernel
theorem dX7_init_21 : decode cX7_init 21 = .ok (.new 22, 3) := by decide +kernel
theorem dX7_init_24 : decode cX7_init 24 = .ok (.dup, 1) := by decide +kernel
theorem dX7_init_25 : decode cX7_init 25 = .ok (.invokespecial 24, 3) := by decide +kernel
theorem dX7_init_28 : decode cX7_init 28 = .ok (.putfield 25, 3) := by decide +kernel
theorem dX7_init_31 : decode cX7_init 31 = .ok (.aload_n 0, 1) := by decide +kernel
theorem dX7_init_32 : decode cX7_init 32 = .ok (.new 29, 3) := by decide +kernel
theorem dX7_init_35 : decode cX7_init 35 = .ok (.dup, 1) := by decide +kernel
theorem dX7_init_36 : decode cX7_init 36 = .ok (.invokespecial 31, 3) := by decide +kernel
theorem dX7_init_39 : decode cX7_init 39 = .ok (.putfield 32, 3) := by decide +kernel
theorem dX7_init_42 : decode cX7_init 42 = .ok (.aload_n 0, 1) := by decide +kernel
theorem dX7_init_43 : decode cX7_init 43 = .ok (.new 36, 3) := by decide +kernel
theorem dX7_init_46 : decode cX7_init 46 = .ok (.dup, 1) := by decide +kernel
theorem dX7_init_47 : decode cX7_init 47 = .ok (.invokespecial 38, 3) := by decide +kernel
theorem dX7_init_50 : decode cX7_init 50 = .ok (.putfield 39, 3) := by decide +kernel
theorem dX7_init_53 : decode cX7_init 53 = .ok (.aload_n 0, 1) := by decide +kernel
theorem dX7_init_54 : decode cX7_init 54 = .ok (.new 36, 3) := by decide +kernel
theorem dX7_init_57 : decode cX7_init 57 = .ok (.dup, 1) := by decide +kernel
theorem dX7_init_58 : decode cX7_init 58 = .ok (.invokespecial 38, 3) := by decide +kernel
theorem dX7_init_61 : decode cX7_init 61 = .ok (.putfield 43, 3) := by decide +kernel
theorem dX7_init_64 : decode cX7_init 64 = .ok (.aload_n 0, 1) := by decide +kernel
theorem dX7_init_65 : decode cX7_init 65 = .ok (.new 46, 3) := by decide +kernel
theorem dX7_init_68 : decode cX7_init 68 = .ok (.dup, 1) := by decide +kernel
theorem dX7_init_69 : decode cX7_init 69 = .ok (.invokespecial 48, 3) := by decide +kernel
theorem dX7_init_72 : decode cX7_init 72 = .ok (.putfield 49, 3) := by decide +kernel
theorem dX7_init_75 : decode cX7_init 75 = .ok (.return_, 1) := by decide +kernel
theorem dX7_run_0 : decode cX7_run 0 = .ok (.aload_n 0, 1) := by decide +kernel
theorem dX7_run_1 : decode cX7_run 1 = .ok (.aload_n 1, 1) := by decide +kernel
theorem dX7_run_2 : decode cX7_run 2 = .ok (.getfield 53, 3) := by decide +kernel
theorem dX7_run_5 : decode cX7_run 5 = .ok (.putfield 59, 3) := by decide +kernel
theorem dX7_run_8 : decode cX7_run 8 = .ok (.aload_n 0, 1) := by decide +kernel
theorem dX7_run_9 : decode cX7_run 9 = .ok (.lload_n 2, 1) := by decide +kernel
theorem dX7_run_10 : decode cX7_run 10 = .ok (.putfield 60, 3) := by decide +kernel
theorem dX7_run_13 : decode cX7_run 13 = .ok (.aload_n 0, 1) := by decide +kernel
theorem dX7_run_14 : decode cX7_run 14 = .ok (.lload 4, 2) := by decide +kernel
theorem dX7_run_16 : decode cX7_run 16 = .ok (.putfield 9, 3) := by decide +kernel
theorem dX7_run_19 : decode cX7_run 19 = .ok (.aload_n 0, 1) := by decide +kernel
theorem dX7_run_20 : decode cX7_run 20 = .ok (.getfield 39, 3) := by decide +kernel
theorem dX7_run_23 : decode cX7_run 23 = .ok (.invokevirtual 63, 3) := by decide +kernel
theorem dX7_run_26 : decode cX7_run 26 = .ok (.aload_n 0, 1) := by decide +kernel
theorem dX7_run_27 : decode cX7_run 27 = .ok (.getfield 43, 3) := by decide +kernel
theorem dX7_run_30 : decode cX7_run 30 = .ok (.invokevirtual 63, 3) := by decide +kernel
theorem dX7_run_33 : decode cX7_run 33 = .ok (.aload_n 1, 1) := by decide +kernel
theorem dX7_run_34 : decode cX7_run 34 = .ok (.aload_n 0, 1) := by decide +kernel
theorem dX7_run_35 : decode cX7_run 35 = .ok (.getfield 60, 3) := by decide +kernel
theorem dX7_run_38 : decode cX7_run 38 = .ok (.aload_n 0, 1) := by decide +kernel
theorem dX7_run_39 : decode cX7_run 39 = .ok (.getfield 9, 3) := by decide +kernel
theorem dX7_run_42 : decode cX7_run 42 = .ok (.invokevirtual 66, 3) := by decide +kernel
theorem dX7_run_45 : decode cX7_run 45 = .ok (.ifCond .ne 7, 3) := by decide +kernel
theorem dX7_run_48 : decode cX7_run 48 = .ok (.sipush (-10003), 3) := by decide +kernel
theorem dX7_run_51 : decode cX7_run 51 = .ok (.ireturn, 1) := by decide +kernel
theorem dX7_run_52 : decode cX7_run 52 = .ok (.aload_n 0, 1) := by decide +kernel
theorem dX7_run_53 : decode cX7_run 53 = .ok (.getfield 18, 3) := by decide +kernel
theorem dX7_run_56 : decode cX7_run 56 = .ok (.aload_n 1, 1) := by decide +kernel
theorem dX7_run_57 : decode cX7_run 57 = .ok (.aload_n 0, 1) := by decide +kernel
theorem dX7_run_58 : decode cX7_run 58 = .ok (.getfield 60, 3) := by decide +kernel
theorem dX7_run_61 : decode cX7_run 61 = .ok (.aload_n 0, 1) := by decide +kernel
theorem dX7_run_62 : decode cX7_run 62 = .ok (.getfield 9, 3) := by decide +kernel
theorem dX7_run_65 : decode cX7_run 65 = .ok (.invokevirtual 70, 3) := by decide +kernel
theorem dX7_run_68 : decode cX7_run 68 = .ok (.aload_n 0, 1) := by decide +kernel
theorem dX7_run_69 : decode cX7_run 69 = .ok (.getfield 25, 3) := by decide +kernel
theorem dX7_run_72 : decode cX7_run 72 = .ok (.aload_n 0, 1) := by decide +kernel
theorem dX7_run_73 : decode cX7_run 73 = .ok (.getfield 18, 3) := by decide +kernel
theorem dX7_run_76 : decode cX7_run 76 = .ok (.invokevirtual 74, 3) := by decide +kernel
theorem dX7_run_79 : decode cX7_run 79 = .ok (.iconst 0, 1) := by decide +kernel
theorem dX7_run_80 : decode cX7_run 80 = .ok (.istore 6, 2) := by decide +kernel
theorem dX7_run_82 : decode cX7_run 82 = .ok (.iload 6, 2) := by decide +kernel
theorem dX7_run_84 : decode cX7_run 84 = .ok (.ldc 78, 2) := by decide +kernel
theorem dX7_run_86 : decode cX7_run 86 = .ok (.if_icmp .ge 99, 3) := by decide +kernel
theorem dX7_run_89 : decode cX7_run 89 = .ok (.aload_n 0, 1) := by decide +kernel
theorem dX7_run_90 : decode cX7_run 90 = .ok (.getfield 25, 3) := by decide +kernel
theorem dX7_run_93 : decode cX7_run 93 = .ok (.aload_n 0, 1) := by decide +kernel
theorem dX7_run_94 : decode cX7_run 94 = .ok (.getfield 18, 3) := by decide +kernel
theorem dX7_run_97 : decode cX7_run 97 = .ok (.invokevirtual 79, 3) := by decide +kernel
theorem dX7_run_100 : decode cX7_run 100 = .ok (.aload_n 0, 1) := by decide +kernel
theorem dX7_run_101 : decode cX7_run 101 = .ok (.invokevirtual 82, 3) := by decide +kernel
theorem dX7_run_104 : decode cX7_run 104 = .ok (.istore 7, 2) := by decide +kernel
theorem dX7_run_106 : decode cX7_run 106 = .ok (.iload 7, 2) := by decide +kernel
theorem dX7_run_108 : decode cX7_run 108 = .ok (.ifCond .ge 6, 3) := by decide +kernel
theorem dX7_run_111 : decode cX7_run 111 = .ok (.goto 74, 3) := by decide +kernel
theorem dX7_run_114 : decode cX7_run 114 = .ok (.aload_n 0, 1) := by decide +kernel
theorem dX7_run_115 : decode cX7_run 115 = .ok (.getfield 32, 3) := by decide +kernel
theorem dX7_run_118 : decode cX7_run 118 = .ok (.aload_n 0, 1) := by decide +kernel
theorem dX7_run_119 : decode cX7_run 119 = .ok (.getfield 18, 3) := by decide +kernel
theorem dX7_run_122 : decode cX7_run 122 = .ok (.aload_n 0, 1) := by decide +kernel
theorem dX7_run_123 : decode cX7_run 123 = .ok (.getfield 25, 3) := by decide +kernel
theorem dX7_run_126 : decode cX7_run 126 = .ok (.iload 7, 2) := by decide +kernel
theorem dX7_run_128 : decode cX7_run 128 = .ok (.invokevirtual 86, 3) := by decide +kernel
theorem dX7_run_131 : decode cX7_run 131 = .ok (.aload_n 0, 1) := by decide +kernel
theorem dX7_run_132 : decode cX7_run 132 = .ok (.getfield 32, 3) := by decide +kernel
theorem dX7_run_135 : decode cX7_run 135 = .ok (.aload_n 0, 1) := by decide +kernel
theorem dX7_run_136 : decode cX7_run 136 = .ok (.getfield 18, 3) := by decide +kernel
theorem dX7_run_139 : decode cX7_run 139 = .ok (.aload_n 0, 1) := by decide +kernel
theorem dX7_run_140 : decode cX7_run 140 = .ok (.getfield 25, 3) := by decide +kernel
theorem dX7_run_143 : decode cX7_run 143 = .ok (.invokevirtual 90, 3) := by decide +kernel
theorem dX7_run_146 : decode cX7_run 146 = .ok (.aload_n 0, 1) := by decide +kernel
theorem dX7_run_147 : decode cX7_run 147 = .ok (.getfield 39, 3) := by decide +kernel
theorem dX7_run_150 : decode cX7_run 150 = .ok (.iload 7, 2) := by decide +kernel
theorem dX7_run_152 : decode cX7_run 152 = .ok (.i2l, 1) := by decide +kernel
theorem dX7_run_153 : decode cX7_run 153 = .ok (.invokevirtual 94, 3) := by decide +kernel
theorem dX7_run_156 : decode cX7_run 156 = .ok (.aload_n 0, 1) := by decide +kernel
theorem dX7_run_157 : decode cX7_run 157 = .ok (.getfield 43, 3) := by decide +kernel
theorem dX7_run_160 : decode cX7_run 160 = .ok (.aload_n 0, 1) := by decide +kernel
theorem dX7_run_161 : decode cX7_run 161 = .ok (.getfield 32, 3) := by decide +kernel
theorem dX7_run_164 : decode cX7_run 164 = .ok (.aload_n 0, 1) := by decide +kernel
theorem dX7_run_165 : decode cX7_run 165 = .ok (.getfield 18, 3) := by decide +kernel
theorem dX7_run_168 : decode cX7_run 168 = .ok (.aload_n 0, 1) := by decide +kernel
theorem dX7_run_169 : decode cX7_run 169 = .ok (.getfield 25, 3) := by decide +kernel
theorem dX7_run_172 : decode cX7_run 172 = .ok (.invokevirtual 98, 3) := by decide +kernel
theorem dX7_run_175 : decode cX7_run 175 = .ok (.i2l, 1) := by decide +kernel
theorem dX7_run_176 : decode cX7_run 176 = .ok (.invokevirtual 94, 3) := by decide +kernel
theorem dX7_run_179 : decode cX7_run 179 = .ok (.iinc 6 1, 3) := by decide +kernel
theorem dX7_run_182 : decode cX7_run 182 = .ok (.goto (-100), 3) := by decide +kernel
theorem dX7_run_185 : decode cX7_run 185 = .ok (.aload_n 0, 1) := by decide +kernel
theorem dX7_run_186 : decode cX7_run 186 = .ok (.getfield 18, 3) := by decide +kernel
theorem dX7_run_189 : decode cX7_run 189 = .ok (.invokevirtual 102, 3) := by decide +kernel
theorem dX7_run_192 : decode cX7_run 192 = .ok (.ifCond .eq 9, 3) := by decide +kernel
theorem dX7_run_195 : decode cX7_run 195 = .ok (.sipush (-10004), 3) := by decide +kernel
theorem dX7_run_198 : decode cX7_run 198 = .ok (.goto 4, 3) := by decide +kernel
theorem dX7_run_201 : decode cX7_run 201 = .ok (.iconst 0, 1) := by decide +kernel
theorem dX7_run_202 : decode cX7_run 202 = .ok (.ireturn, 1) := by decide +kernel
theorem dX7_entering_0 : decode cX7_entering 0 = .ok (.iconst (-1), 1) := by decide +kernel
theorem dX7_entering_1 : decode cX7_entering 1 = .ok (.istore_n 1, 1) := by decide +kernel
theorem dX7_entering_2 : decode cX7_entering 2 = .ok (.lconst 0, 1) := by decide +kernel
theorem dX7_entering_3 : decode cX7_entering 3 = .ok (.lstore_n 2, 1) := by decide +kernel
theorem dX7_entering_4 : decode cX7_entering 4 = .ok (.iconst 0, 1) := by decide +kernel
theorem dX7_entering_5 : decode cX7_entering 5 = .ok (.istore 4, 2) := by decide +kernel
theorem dX7_entering_7 : decode cX7_entering 7 = .ok (.iload 4, 2) := by decide +kernel
theorem dX7_entering_9 : decode cX7_entering 9 = .ok (.aload_n 0, 1) := by decide +kernel
theorem dX7_entering_10 : decode cX7_entering 10 = .ok (.getfield 18, 3) := by decide +kernel
theorem dX7_entering_13 : decode cX7_entering 13 = .ok (.getfield 120, 3) := by decide +kernel
theorem dX7_entering_16 : decode cX7_entering 16 = .ok (.if_icmp .ge 72, 3) := by decide +kernel
theorem dX7_entering_19 : decode cX7_entering 19 = .ok (.lconst 0, 1) := by decide +kernel
theorem dX7_entering_20 : decode cX7_entering 20 = .ok (.lstore 5, 2) := by decide +kernel
theorem dX7_entering_22 : decode cX7_entering 22 = .ok (.aload_n 0, 1) := by decide +kernel
theorem dX7_entering_23 : decode cX7_entering 23 = .ok (.getfield 18, 3) := by decide +kernel
theorem dX7_entering_26 : decode cX7_entering 26 = .ok (.getfield 123, 3) := by decide +kernel
theorem dX7_entering_29 : decode cX7_entering 29 = .ok (.iload 4, 2) := by decide +kernel
theorem dX7_entering_31 : decode cX7_entering 31 = .ok (.iaload, 1) := by decide +kernel
theorem dX7_entering_32 : decode cX7_entering 32 = .ok (.ifCond .ne 15, 3) := by decide +kernel
theorem dX7_entering_35 : decode cX7_entering 35 = .ok (.aload_n 0, 1) := by decide +kernel
theorem dX7_entering_36 : decode cX7_entering 36 = .ok (.iload 4, 2) := by decide +kernel
theorem dX7_entering_38 : decode cX7_entering 38 = .ok (.invokevirtual 126, 3) := by decide +kernel
theorem dX7_entering_41 : decode cX7_entering 41 = .ok (.lneg, 1) := by decide +kernel
theorem dX7_entering_42 : decode cX7_entering 42 = .ok (.lstore 5, 2) := by decide +kernel
theorem dX7_entering_44 : decode cX7_entering 44 = .ok (.goto 25, 3) := by decide +kernel
theorem dX7_entering_47 : decode cX7_entering 47 = .ok (.aload_n 0, 1) := by decide +kernel
theorem dX7_entering_48 : decode cX7_entering 48 = .ok (.getfield 18, 3) := by decide +kernel
theorem dX7_entering_51 : decode cX7_entering 51 = .ok (.getfield 123, 3) := by decide +kernel
theorem dX7_entering_54 : decode cX7_entering 54 = .ok (.iload 4, 2) := by decide +kernel
theorem dX7_entering_56 : decode cX7_entering 56 = .ok (.iaload, 1) := by decide +kernel
theorem dX7_entering_57 : decode cX7_entering 57 = .ok (.iconst 1, 1) := by decide +kernel
theorem dX7_entering_58 : decode cX7_entering 58 = .ok (.if_icmp .ne 11, 3) := by decide +kernel
theorem dX7_entering_61 : decode cX7_entering 61 = .ok (.aload_n 0, 1) := by decide +kernel
theorem dX7_entering_62 : decode cX7_entering 62 = .ok (.iload 4, 2) := by decide +kernel
theorem dX7_entering_64 : decode cX7_entering 64 = .ok (.invokevirtual 126, 3) := by decide +kernel
theorem dX7_entering_67 : decode cX7_entering 67 = .ok (.lstore 5, 2) := by decide +kernel
theorem dX7_entering_69 : decode cX7_entering 69 = .ok (.lload 5, 2) := by decide +kernel
theorem dX7_entering_71 : decode cX7_entering 71 = .ok (.lload_n 2, 1) := by decide +kernel
theorem dX7_entering_72 : decode cX7_entering 72 = .ok (.lcmp, 1) := by decide +kernel
theorem dX7_entering_73 : decode cX7_entering 73 = .ok (.ifCond .le 9, 3) := by decide +kernel
theorem dX7_entering_76 : decode cX7_entering 76 = .ok (.lload 5, 2) := by decide +kernel
theorem dX7_entering_78 : decode cX7_entering 78 = .ok (.lstore_n 2, 1) := by decide +kernel
theorem dX7_entering_79 : decode cX7_entering 79 = .ok (.iload 4, 2) := by decide +kernel
theorem dX7_entering_81 : decode cX7_entering 81 = .ok (.istore_n 1, 1) := by decide +kernel
theorem dX7_entering_82 : decode cX7_entering 82 = .ok (.iinc 4 1, 3) := by decide +kernel
theorem dX7_entering_85 : decode cX7_entering 85 = .ok (.goto (-78), 3) := by decide +kernel
theorem dX7_entering_88 : decode cX7_entering 88 = .ok (.iload_n 1, 1) := by decide +kernel
theorem dX7_entering_89 : decode cX7_entering 89 = .ok (.ireturn, 1) := by decide +kernel
theorem dX7_rate_0 : decode cX7_rate 0 = .ok (.lconst 0, 1) := by decide +kernel
theorem dX7_rate_1 : decode cX7_rate 1 = .ok (.lstore_n 2, 1) := by decide +kernel
theorem dX7_rate_2 : decode cX7_rate 2 = .ok (.aload_n 0, 1) := by decide +kernel
theorem dX7_rate_3 : decode cX7_rate 3 = .ok (.getfield 59, 3) := by decide +kernel
theorem dX7_rate_6 : decode cX7_rate 6 = .ok (.ifCond .ne 49, 3) := by decide +kernel
theorem dX7_rate_9 : decode cX7_rate 9 = .ok (.iconst 0, 1) := by decide +kernel
theorem dX7_rate_10 : decode cX7_rate 10 = .ok (.istore 4, 2) := by decide +kernel
theorem dX7_rate_12 : decode cX7_rate 12 = .ok (.iload 4, 2) := by decide +kernel
theorem dX7_rate_14 : decode cX7_rate 14 = .ok (.aload_n 0, 1) := by decide +kernel
theorem dX7_rate_15 : decode cX7_rate 15 = .ok (.getfield 18, 3) := by decide +kernel
theorem dX7_rate_18 : decode cX7_rate 18 = .ok (.getfield 120, 3) := by decide +kernel
theorem dX7_rate_21 : decode cX7_rate 21 = .ok (.if_icmp .ge 31, 3) := by decide +kernel
theorem dX7_rate_24 : decode cX7_rate 24 = .ok (.lload_n 2, 1) := by decide +kernel
theorem dX7_rate_25 : decode cX7_rate 25 = .ok (.aload_n 0, 1) := by decide +kernel
theorem dX7_rate_26 : decode cX7_rate 26 = .ok (.getfield 18, 3) := by decide +kernel
theorem dX7_rate_29 : decode cX7_rate 29 = .ok (.getfield 130, 3) := by decide +kernel
theorem dX7_rate_32 : decode cX7_rate 32 = .ok (.iload 4, 2) := by decide +kernel
theorem dX7_rate_34 : decode cX7_rate 34 = .ok (.laload, 1) := by decide +kernel
theorem dX7_rate_35 : decode cX7_rate 35 = .ok (.aload_n 1, 1) := by decide +kernel
theorem dX7_rate_36 : decode cX7_rate 36 = .ok (.getfield 133, 3) := by decide +kernel
theorem dX7_rate_39 : decode cX7_rate 39 = .ok (.iload 4, 2) := by decide +kernel
theorem dX7_rate_41 : decode cX7_rate 41 = .ok (.iaload, 1) := by decide +kernel
theorem dX7_rate_42 : decode cX7_rate 42 = .ok (.i2l, 1) := by decide +kernel
theorem dX7_rate_43 : decode cX7_rate 43 = .ok (.lmul, 1) := by decide +kernel
theorem dX7_rate_44 : decode cX7_rate 44 = .ok (.ladd, 1) := by decide +kernel
theorem dX7_rate_45 : decode cX7_rate 45 = .ok (.lstore_n 2, 1) := by decide +kernel
theorem dX7_rate_46 : decode cX7_rate 46 = .ok (.iinc 4 1, 3) := by decide +kernel
theorem dX7_rate_49 : decode cX7_rate 49 = .ok (.goto (-37), 3) := by decide +kernel
theorem dX7_rate_52 : decode cX7_rate 52 = .ok (.goto 46, 3) := by decide +kernel
theorem dX7_rate_55 : decode cX7_rate 55 = .ok (.iconst 0, 1) := by decide +kernel
theorem dX7_rate_56 : decode cX7_rate 56 = .ok (.istore 4, 2) := by decide +kernel
theorem dX7_rate_58 : decode cX7_rate 58 = .ok (.iload 4, 2) := by decide +kernel
theorem dX7_rate_60 : decode cX7_rate 60 = .ok (.aload_n 0, 1) := by decide +kernel
theorem dX7_rate_61 : decode cX7_rate 61 = .ok (.getfield 18, 3) := by decide +kernel
theorem dX7_rate_64 : decode cX7_rate 64 = .ok (.getfield 136, 3) := by decide +kernel
theorem dX7_rate_67 : decode cX7_rate 67 = .ok (.if_icmp .ge 31, 3) := by decide +kernel
theorem dX7_rate_70 : decode cX7_rate 70 = .ok (.lload_n 2, 1) := by decide +kernel
theorem dX7_rate_71 : decode cX7_rate 71 = .ok (.aload_n 1, 1) := by decide +kernel
theorem dX7_rate_72 : decode cX7_rate 72 = .ok (.getfield 139, 3) := by decide +kernel
theorem dX7_rate_75 : decode cX7_rate 75 = .ok (.iload 4, 2) := by decide +kernel
theorem dX7_rate_77 : decode cX7_rate 77 = .ok (.iaload, 1) := by decide +kernel
theorem dX7_rate_78 : decode cX7_rate 78 = .ok (.i2l, 1) := by decide +kernel
theorem dX7_rate_79 : decode cX7_rate 79 = .ok (.aload_n 0, 1) := by decide +kernel
theorem dX7_rate_80 : decode cX7_rate 80 = .ok (.getfield 25, 3) := by decide +kernel
theorem dX7_rate_83 : decode cX7_rate 83 = .ok (.getfield 110, 3) := by decide +kernel
theorem dX7_rate_86 : decode cX7_rate 86 = .ok (.iload 4, 2) := by decide +kernel
theorem dX7_rate_88 : decode cX7_rate 88 = .ok (.laload, 1) := by decide +kernel
theorem dX7_rate_89 : decode cX7_rate 89 = .ok (.lmul, 1) := by decide +kernel
theorem dX7_rate_90 : decode cX7_rate 90 = .ok (.ladd, 1) := by decide +kernel
theorem dX7_rate_91 : decode cX7_rate 91 = .ok (.lstore_n 2, 1) := by decide +kernel
theorem dX7_rate_92 : decode cX7_rate 92 = .ok (.iinc 4 1, 3) := by decide +kernel
theorem dX7_rate_95 : decode cX7_rate 95 = .ok (.goto (-37), 3) := by decide +kernel
theorem dX7_rate_98 : decode cX7_rate 98 = .ok (.lload_n 2, 1) := by decide +kernel
theorem dX7_rate_99 : decode cX7_rate 99 = .ok (.lreturn, 1) := by decide +kernel
theorem dX8_init_0 : decode cX8_init 0 = .ok (.aload_n 0, 1) := by decide +kernel
theorem dX8_init_1 : decode cX8_init 1 = .ok (.invokespecial 3, 3) := by decide +kernel
theorem dX8_init_4 : decode cX8_init 4 = .ok (.aload_n 0, 1) := by decide +kernel
theorem dX8_init_5 : decode cX8_init 5 = .ok (.bipush 9, 2) := by decide +kernel
theorem dX8_init_7 : decode cX8_init 7 = .ok (.newarray .int, 2) := by decide +kernel
theorem dX8_init_9 : decode cX8_init 9 = .ok (.putfield 9, 3) := by decide +kernel
theorem dX8_init_12 : decode cX8_init 12 = .ok (.aload_n 0, 1) := by decide +kernel
theorem dX8_init_13 : decode cX8_init 13 = .ok (.bipush 9, 2) := by decide +kernel
theorem dX8_init_15 : decode cX8_init 15 = .ok (.newarray .int, 2) := by decide +kernel
theorem dX8_init_17 : decode cX8_init 17 = .ok (.putfield 15, 3) := by decide +kernel
theorem dX8_init_20 : decode cX8_init 20 = .ok (.aload_n 0, 1) := by decide +kernel
theorem dX8_init_21 : decode cX8_init 21 = .ok (.bipush 9, 2) := by decide +kernel
theorem dX8_init_23 : decode cX8_init 23 = .ok (.newarray .int, 2) := by decide +kernel
theorem dX8_init_25 : decode cX8_init 25 = .ok (.putfield 18, 3) := by decide +kernel
theorem dX8_init_28 : decode cX8_init 28 = .ok (.aload_n 0, 1) := by decide +kernel
theorem dX8_init_29 : decode cX8_init 29 = .ok (.bipush 9, 2) := by decide +kernel
theorem dX8_init_31 : decode cX8_init 31 = .ok (.newarray .long, 2) := by decide +kernel
theorem dX8_init_33 : decode cX8_init 33 = .ok (.putfield 21, 3) := by decide +kernel
theorem dX8_init_36 : decode cX8_init 36 = .ok (.aload_n 0, 1) := by decide +kernel
theorem dX8_init_37 : decode cX8_init 37 = .ok (.bipush 9, 2) := by decide +kernel
theorem dX8_init_39 : decode cX8_init 39 = .ok (.newarray .int, 2) := by decide +kernel
theorem dX8_init_41 : decode cX8_init 41 = .ok (.putfield 25, 3) := by decide +kernel
theorem dX8_init_44 : decode cX8_init 44 = .ok (.aload_n 0, 1) := by decide +kernel
theorem dX8_init_45 : decode cX8_init 45 = .ok (.bipush 9, 2) := by decide +kernel
theorem dX8_init_47 : decode cX8_init 47 = .ok (.newarray .int, 2) := by decide +kernel
theorem dX8_init_49 : decode cX8_init 49 = .ok (.putfield 28, 3) := by decide +kernel
theorem dX8_init_52 : decode cX8_init 52 = .ok (.aload_n 0, 1) := by decide +kernel
theorem dX8_init_53 : decode cX8_init 53 = .ok (.bipush 9, 2) := by decide +kernel
theorem dX8_init_55 : decode cX8_init 55 = .ok (.newarray .int, 2) := by decide +kernel
theorem dX8_init_57 : decode cX8_init 57 = .ok (.putfield 31, 3) := by decide +kernel
theorem dX8_init_60 : decode cX8_init 60 = .ok (.return_, 1) := by decide +kernel
theorem dX8_plant_0 : decode cX8_plant 0 = .ok (.aload_n 0, 1) := by decide +kernel
theorem dX8_plant_1 : decode cX8_plant 1 = .ok (.aload_n 1, 1) := by decide +kernel
theorem dX8_plant_2 : decode cX8_plant 2 = .ok (.getfield 34, 3) := by decide +kernel
theorem dX8_plant_5 : decode cX8_plant 5 = .ok (.putfield 40, 3) := by decide +kernel
theorem dX8_plant_8 : decode cX8_plant 8 = .ok (.aload_n 0, 1) := by decide +kernel
theorem dX8_plant_9 : decode cX8_plant 9 = .ok (.getfield 9, 3) := by decide +kernel
theorem dX8_plant_12 : decode cX8_plant 12 = .ok (.aload_n 0, 1) := by decide +kernel
theorem dX8_plant_13 : decode cX8_plant 13 = .ok (.getfield 40, 3) := by decide +kernel
theorem dX8_plant_16 : decode cX8_plant 16 = .ok (.aload_n 0, 1) := by decide +kernel
theorem dX8_plant_17 : decode cX8_plant 17 = .ok (.getfield 40, 3) := by decide +kernel
theorem dX8_plant_20 : decode cX8_plant 20 = .ok (.iastore, 1) := by decide +kernel
theorem dX8_plant_21 : decode cX8_plant 21 = .ok (.aload_n 0, 1) := by decide +kernel
theorem dX8_plant_22 : decode cX8_plant 22 = .ok (.getfield 18, 3) := by decide +kernel
theorem dX8_plant_25 : decode cX8_plant 25 = .ok (.aload_n 0, 1) := by decide +kernel
theorem dX8_plant_26 : decode cX8_plant 26 = .ok (.getfield 40, 3) := by decide +kernel
theorem dX8_plant_29 : decode cX8_plant 29 = .ok (.iconst 0, 1) := by decide +kernel
theorem dX8_plant_30 : decode cX8_plant 30 = .ok (.iastore, 1) := by decide +kernel
theorem dX8_plant_31 : decode cX8_plant 31 = .ok (.aload_n 0, 1) := by decide +kernel
theorem dX8_plant_32 : decode cX8_plant 32 = .ok (.getfield 21, 3) := by decide +kernel
theorem dX8_plant_35 : decode cX8_plant 35 = .ok (.aload_n 0, 1) := by decide +kernel
theorem dX8_plant_36 : decode cX8_plant 36 = .ok (.getfield 40, 3) := by decide +kernel
theorem dX8_plant_39 : decode cX8_plant 39 = .ok (.lconst 0, 1) := by decide +kernel
theorem dX8_plant_40 : decode cX8_plant 40 = .ok (.lastore, 1) := by decide +kernel
theorem dX8_plant_41 : decode cX8_plant 41 = .ok (.iconst 0, 1) := by decide +kernel
theorem dX8_plant_42 : decode cX8_plant 42 = .ok (.istore_n 2, 1) := by decide +kernel
theorem dX8_plant_43 : decode cX8_plant 43 = .ok (.iload_n 2, 1) := by decide +kernel
theorem dX8_plant_44 : decode cX8_plant 44 = .ok (.aload_n 0, 1) := by decide +kernel
theorem dX8_plant_45 : decode cX8_plant 45 = .ok (.getfield 40, 3) := by decide +kernel
theorem dX8_plant_48 : decode cX8_plant 48 = .ok (.if_icmp .ge 29, 3) := by decide +kernel
theorem dX8_plant_51 : decode cX8_plant 51 = .ok (.aload_n 0, 1) := by decide +kernel
theorem dX8_plant_52 : decode cX8_plant 52 = .ok (.getfield 9, 3) := by decide +kernel
theorem dX8_plant_55 : decode cX8_plant 55 = .ok (.iload_n 2, 1) := by decide +kernel
theorem dX8_plant_56 : decode cX8_plant 56 = .ok (.aload_n 0, 1) := by decide +kernel
theorem dX8_plant_57 : decode cX8_plant 57 = .ok (.getfield 40, 3) := by decide +kernel
theorem dX8_plant_60 : decode cX8_plant 60 = .ok (.iastore, 1) := by decide +kernel
theorem dX8_plant_61 : decode cX8_plant 61 = .ok (.aload_n 0, 1) := by decide +kernel
theorem dX8_plant_62 : decode cX8_plant 62 = .ok (.getfield 15, 3) := by decide +kernel
theorem dX8_plant_65 : decode cX8_plant 65 = .ok (.iload_n 2, 1) := by decide +kernel
theorem dX8_plant_66 : decode cX8_plant 66 = .ok (.bipush 20, 2) := by decide +kernel
theorem dX8_plant_68 : decode cX8_plant 68 = .ok (.iload_n 2, 1) := by decide +kernel
theorem dX8_plant_69 : decode cX8_plant 69 = .ok (.iadd, 1) := by decide +kernel
theorem dX8_plant_70 : decode cX8_plant 70 = .ok (.iastore, 1) := by decide +kernel
theorem dX8_plant_71 : decode cX8_plant 71 = .ok (.iinc 2 1, 3) := by decide +kernel
theorem dX8_plant_74 : decode cX8_plant 74 = .ok (.goto (-31), 3) := by decide +kernel
theorem dX8_plant_77 : decode cX8_plant 77 = .ok (.return_, 1) := by decide +kernel
theorem dX8_measure_0 : decode cX8_measure 0 = .ok (.iconst 0, 1) := by decide +kernel
theorem dX8_measure_1 : decode cX8_measure 1 = .ok (.istore_n 2, 1) := by decide +kernel
theorem dX8_measure_2 : decode cX8_measure 2 = .ok (.iload_n 2, 1) := by decide +kernel
theorem dX8_measure_3 : decode cX8_measure 3 = .ok (.aload_n 0, 1) := by decide +kernel
theorem dX8_measure_4 : decode cX8_measure 4 = .ok (.getfield 40, 3) := by decide +kernel
theorem dX8_measure_7 : decode cX8_measure 7 = .ok (.if_icmp .ge 106, 3) := by decide +kernel
theorem dX8_measure_10 : decode cX8_measure 10 = .ok (.iconst 0, 1) := by decide +kernel
theorem dX8_measure_11 : decode cX8_measure 11 = .ok (.istore_n 3, 1) := by decide +kernel
theorem dX8_measure_12 : decode cX8_measure 12 = .ok (.lconst 0, 1) := by decide +kernel
theorem dX8_measure_13 : decode cX8_measure 13 = .ok (.lstore 4, 2) := by decide +kernel
theorem dX8_measure_15 : decode cX8_measure 15 = .ok (.iload_n 2, 1) := by decide +kernel
theorem dX8_measure_16 : decode cX8_measure 16 = .ok (.istore 6, 2) := by decide +kernel
theorem dX8_measure_18 : decode cX8_measure 18 = .ok (.iload 6, 2) := by decide +kernel
theorem dX8_measure_20 : decode cX8_measure 20 = .ok (.aload_n 0, 1) := by decide +kernel
theorem dX8_measure_21 : decode cX8_measure 21 = .ok (.getfield 40, 3) := by decide +kernel
theorem dX8_measure_24 : decode cX8_measure 24 = .ok (.if_icmp .eq 68, 3) := by decide +kernel
theorem dX8_measure_27 : decode cX8_measure 27 = .ok (.iload_n 3, 1) := by decide +kernel
theorem dX8_measure_28 : decode cX8_measure 28 = .ok (.bipush 8, 2) := by decide +kernel
theorem dX8_measure_30 : decode cX8_measure 30 = .ok (.if_icmp .ge 62, 3) := by decide +kernel
theorem dX8_measure_33 : decode cX8_measure 33 = .ok (.aload_n 0, 1) := by decide +kernel
theorem dX8_measure_34 : decode cX8_measure 34 = .ok (.getfield 15, 3) := by decide +kernel
theorem dX8_measure_37 : decode cX8_measure 37 = .ok (.iload 6, 2) := by decide +kernel
theorem dX8_measure_39 : decode cX8_measure 39 = .ok (.iaload, 1) := by decide +kernel
theorem dX8_measure_40 : decode cX8_measure 40 = .ok (.istore 7, 2) := by decide +kernel
theorem dX8_measure_42 : decode cX8_measure 42 = .ok (.lload 4, 2) := by decide +kernel
theorem dX8_measure_44 : decode cX8_measure 44 = .ok (.aload_n 1, 1) := by decide +kernel
theorem dX8_measure_45 : decode cX8_measure 45 = .ok (.getfield 43, 3) := by decide +kernel
theorem dX8_measure_48 : decode cX8_measure 48 = .ok (.iload 7, 2) := by decide +kernel
theorem dX8_measure_50 : decode cX8_measure 50 = .ok (.iaload, 1) := by decide +kernel
theorem dX8_measure_51 : decode cX8_measure 51 = .ok (.iload 6, 2) := by decide +kernel
theorem dX8_measure_53 : decode cX8_measure 53 = .ok (.if_icmp .ne 13, 3) := by decide +kernel
theorem dX8_measure_56 : decode cX8_measure 56 = .ok (.aload_n 1, 1) := by decide +kernel
theorem dX8_measure_57 : decode cX8_measure 57 = .ok (.getfield 46, 3) := by decide +kernel
theorem dX8_measure_60 : decode cX8_measure 60 = .ok (.iload 7, 2) := by decide +kernel
theorem dX8_measure_62 : decode cX8_measure 62 = .ok (.laload, 1) := by decide +kernel
theorem dX8_measure_63 : decode cX8_measure 63 = .ok (.goto 11, 3) := by decide +kernel
theorem dX8_measure_66 : decode cX8_measure 66 = .ok (.aload_n 1, 1) := by decide +kernel
theorem dX8_measure_67 : decode cX8_measure 67 = .ok (.getfield 46, 3) := by decide +kernel
theorem dX8_measure_70 : decode cX8_measure 70 = .ok (.iload 7, 2) := by decide +kernel
theorem dX8_measure_72 : decode cX8_measure 72 = .ok (.laload, 1) := by decide +kernel
theorem dX8_measure_73 : decode cX8_measure 73 = .ok (.lneg, 1) := by decide +kernel
theorem dX8_measure_74 : decode cX8_measure 74 = .ok (.ladd, 1) := by decide +kernel
theorem dX8_measure_75 : decode cX8_measure 75 = .ok (.lstore 4, 2) := by decide +kernel
theorem dX8_measure_77 : decode cX8_measure 77 = .ok (.iinc 3 1, 3) := by decide +kernel
theorem dX8_measure_80 : decode cX8_measure 80 = .ok (.aload_n 0, 1) := by decide +kernel
theorem dX8_measure_81 : decode cX8_measure 81 = .ok (.getfield 9, 3) := by decide +kernel
theorem dX8_measure_84 : decode cX8_measure 84 = .ok (.iload 6, 2) := by decide +kernel
theorem dX8_measure_86 : decode cX8_measure 86 = .ok (.iaload, 1) := by decide +kernel
theorem dX8_measure_87 : decode cX8_measure 87 = .ok (.istore 6, 2) := by decide +kernel
theorem dX8_measure_89 : decode cX8_measure 89 = .ok (.goto (-71), 3) := by decide +kernel
theorem dX8_measure_92 : decode cX8_measure 92 = .ok (.aload_n 0, 1) := by decide +kernel
theorem dX8_measure_93 : decode cX8_measure 93 = .ok (.getfield 18, 3) := by decide +kernel
theorem dX8_measure_96 : decode cX8_measure 96 = .ok (.iload_n 2, 1) := by decide +kernel
theorem dX8_measure_97 : decode cX8_measure 97 = .ok (.iload_n 3, 1) := by decide +kernel
theorem dX8_measure_98 : decode cX8_measure 98 = .ok (.iastore, 1) := by decide +kernel
theorem dX8_measure_99 : decode cX8_measure 99 = .ok (.aload_n 0, 1) := by decide +kernel
theorem dX8_measure_100 : decode cX8_measure 100 = .ok (.getfield 21, 3) := by decide +kernel
theorem dX8_measure_103 : decode cX8_measure 103 = .ok (.iload_n 2, 1) := by decide +kernel
theorem dX8_measure_104 : decode cX8_measure 104 = .ok (.lload 4, 2) := by decide +kernel
theorem dX8_measure_106 : decode cX8_measure 106 = .ok (.lastore, 1) := by decide +kernel
theorem dX8_measure_107 : decode cX8_measure 107 = .ok (.iinc 2 1, 3) := by decide +kernel
theorem dX8_measure_110 : decode cX8_measure 110 = .ok (.goto (-108), 3) := by decide +kernel
theorem dX8_measure_113 : decode cX8_measure 113 = .ok (.return_, 1) := by decide +kernel
theorem dX8_leadsUp_0 : decode cX8_leadsUp 0 = .ok (.aload_n 1, 1) := by decide +kernel
theorem dX8_leadsUp_1 : decode cX8_leadsUp 1 = .ok (.getfield 43, 3) := by decide +kernel
theorem dX8_leadsUp_4 : decode cX8_leadsUp 4 = .ok (.aload_n 0, 1) := by decide +kernel
theorem dX8_leadsUp_5 : decode cX8_leadsUp 5 = .ok (.getfield 15, 3) := by decide +kernel
theorem dX8_leadsUp_8 : decode cX8_leadsUp 8 = .ok (.iload_n 2, 1) := by decide +kernel
theorem dX8_leadsUp_9 : decode cX8_leadsUp 9 = .ok (.iaload, 1) := by decide +kernel
theorem dX8_leadsUp_10 : decode cX8_leadsUp 10 = .ok (.iaload, 1) := by decide +kernel
theorem dX8_leadsUp_11 : decode cX8_leadsUp 11 = .ok (.iload_n 2, 1) := by decide +kernel
theorem dX8_leadsUp_12 : decode cX8_leadsUp 12 = .ok (.if_icmp .ne 7, 3) := by decide +kernel
theorem dX8_leadsUp_15 : decode cX8_leadsUp 15 = .ok (.iconst 1, 1) := by decide +kernel
theorem dX8_leadsUp_16 : decode cX8_leadsUp 16 = .ok (.goto 4, 3) := by decide +kernel
theorem dX8_leadsUp_19 : decode cX8_leadsUp 19 = .ok (.iconst 0, 1) := by decide +kernel
theorem dX8_leadsUp_20 : decode cX8_leadsUp 20 = .ok (.ireturn, 1) := by decide +kernel
theorem dX8_putInOrder_0 : decode cX8_putInOrder 0 = .ok (.iconst 1, 1) := by decide +kernel
theorem dX8_putInOrder_1 : decode cX8_putInOrder 1 = .ok (.istore_n 1, 1) := by decide +kernel
theorem dX8_putInOrder_2 : decode cX8_putInOrder 2 = .ok (.aload_n 0, 1) := by decide +kernel
theorem dX8_putInOrder_3 : decode cX8_putInOrder 3 = .ok (.getfield 31, 3) := by decide +kernel
theorem dX8_putInOrder_6 : decode cX8_putInOrder 6 = .ok (.iconst 0, 1) := by decide +kernel
theorem dX8_putInOrder_7 : decode cX8_putInOrder 7 = .ok (.aload_n 0, 1) := by decide +kernel
theorem dX8_putInOrder_8 : decode cX8_putInOrder 8 = .ok (.getfield 40, 3) := by decide +kernel
theorem dX8_putInOrder_11 : decode cX8_putInOrder 11 = .ok (.iastore, 1) := by decide +kernel
theorem dX8_putInOrder_12 : decode cX8_putInOrder 12 = .ok (.iconst 0, 1) := by decide +kernel
theorem dX8_putInOrder_13 : decode cX8_putInOrder 13 = .ok (.istore_n 2, 1) := by decide +kernel
theorem dX8_putInOrder_14 : decode cX8_putInOrder 14 = .ok (.iload_n 2, 1) := by decide +kernel
theorem dX8_putInOrder_15 : decode cX8_putInOrder 15 = .ok (.aload_n 0, 1) := by decide +kernel
theorem dX8_putInOrder_16 : decode cX8_putInOrder 16 = .ok (.getfield 40, 3) := by decide +kernel
theorem dX8_putInOrder_19 : decode cX8_putInOrder 19 = .ok (.if_icmp .gt 80, 3) := by decide +kernel
theorem dX8_putInOrder_22 : decode cX8_putInOrder 22 = .ok (.iload_n 1, 1) := by decide +kernel
theorem dX8_putInOrder_23 : decode cX8_putInOrder 23 = .ok (.ifCond .le 76, 3) := by decide +kernel
theorem dX8_putInOrder_26 : decode cX8_putInOrder 26 = .ok (.iinc 1 (-1), 3) := by decide +kernel
theorem dX8_putInOrder_29 : decode cX8_putInOrder 29 = .ok (.aload_n 0, 1) := by decide +kernel
theorem dX8_putInOrder_30 : decode cX8_putInOrder 30 = .ok (.getfield 31, 3) := by decide +kernel
theorem dX8_putInOrder_33 : decode cX8_putInOrder 33 = .ok (.iload_n 1, 1) := by decide +kernel
theorem dX8_putInOrder_34 : decode cX8_putInOrder 34 = .ok (.iaload, 1) := by decide +kernel
theorem dX8_putInOrder_35 : decode cX8_putInOrder 35 = .ok (.istore_n 3, 1) := by decide +kernel
theorem dX8_putInOrder_36 : decode cX8_putInOrder 36 = .ok (.aload_n 0, 1) := by decide +kernel
theorem dX8_putInOrder_37 : decode cX8_putInOrder 37 = .ok (.getfield 28, 3) := by decide +kernel
theorem dX8_putInOrder_40 : decode cX8_putInOrder 40 = .ok (.iload_n 2, 1) := by decide +kernel
theorem dX8_putInOrder_41 : decode cX8_putInOrder 41 = .ok (.iload_n 3, 1) := by decide +kernel
theorem dX8_putInOrder_42 : decode cX8_putInOrder 42 = .ok (.iastore, 1) := by decide +kernel
theorem dX8_putInOrder_43 : decode cX8_putInOrder 43 = .ok (.aload_n 0, 1) := by decide +kernel
theorem dX8_putInOrder_44 : decode cX8_putInOrder 44 = .ok (.getfield 40, 3) := by decide +kernel
theorem dX8_putInOrder_47 : decode cX8_putInOrder 47 = .ok (.iconst 1, 1) := by decide +kernel
theorem dX8_putInOrder_48 : decode cX8_putInOrder 48 = .ok (.isub, 1) := by decide +kernel
theorem dX8_putInOrder_49 : decode cX8_putInOrder 49 = .ok (.istore 4, 2) := by decide +kernel
theorem dX8_putInOrder_51 : decode cX8_putInOrder 51 = .ok (.iload 4, 2) := by decide +kernel
theorem dX8_putInOrder_53 : decode cX8_putInOrder 53 = .ok (.ifCond .lt 40, 3) := by decide +kernel
theorem dX8_putInOrder_56 : decode cX8_putInOrder 56 = .ok (.aload_n 0, 1) := by decide +kernel
theorem dX8_putInOrder_57 : decode cX8_putInOrder 57 = .ok (.getfield 9, 3) := by decide +kernel
theorem dX8_putInOrder_60 : decode cX8_putInOrder 60 = .ok (.iload 4, 2) := by decide +kernel
theorem dX8_putInOrder_62 : decode cX8_putInOrder 62 = .ok (.iaload, 1) := by decide +kernel
theorem dX8_putInOrder_63 : decode cX8_putInOrder 63 = .ok (.iload_n 3, 1) := by decide +kernel
theorem dX8_putInOrder_64 : decode cX8_putInOrder 64 = .ok (.if_icmp .ne 23, 3) := by decide +kernel
theorem dX8_putInOrder_67 : decode cX8_putInOrder 67 = .ok (.iload_n 1, 1) := by decide +kernel
theorem dX8_putInOrder_68 : decode cX8_putInOrder 68 = .ok (.aload_n 0, 1) := by decide +kernel
theorem dX8_putInOrder_69 : decode cX8_putInOrder 69 = .ok (.getfield 31, 3) := by decide +kernel
theorem dX8_putInOrder_72 : decode cX8_putInOrder 72 = .ok (.arraylength, 1) := by decide +kernel
theorem dX8_putInOrder_73 : decode cX8_putInOrder 73 = .ok (.if_icmp .ge 14, 3) := by decide +kernel
theorem dX8_putInOrder_76 : decode cX8_putInOrder 76 = .ok (.aload_n 0, 1) := by decide +kernel
theorem dX8_putInOrder_77 : decode cX8_putInOrder 77 = .ok (.getfield 31, 3) := by decide +kernel
theorem dX8_putInOrder_80 : decode cX8_putInOrder 80 = .ok (.iload_n 1, 1) := by decide +kernel
theorem dX8_putInOrder_81 : decode cX8_putInOrder 81 = .ok (.iload 4, 2) := by decide +kernel
theorem dX8_putInOrder_83 : decode cX8_putInOrder 83 = .ok (.iastore, 1) := by decide +kernel
theorem dX8_putInOrder_84 : decode cX8_putInOrder 84 = .ok (.iinc 1 1, 3) := by decide +kernel
theorem dX8_putInOrder_87 : decode cX8_putInOrder 87 = .ok (.iinc 4 (-1), 3) := by decide +kernel
theorem dX8_putInOrder_90 : decode cX8_putInOrder 90 = .ok (.goto (-39), 3) := by decide +kernel
theorem dX8_putInOrder_93 : decode cX8_putInOrder 93 = .ok (.iinc 2 1, 3) := by decide +kernel
theorem dX8_putInOrder_96 : decode cX8_putInOrder 96 = .ok (.goto (-82), 3) := by decide +kernel
theorem dX8_putInOrder_99 : decode cX8_putInOrder 99 = .ok (.aload_n 0, 1) := by decide +kernel
theorem dX8_putInOrder_100 : decode cX8_putInOrder 100 = .ok (.getfield 25, 3) := by decide +kernel
theorem dX8_putInOrder_103 : decode cX8_putInOrder 103 = .ok (.iconst 0, 1) := by decide +kernel
theorem dX8_putInOrder_104 : decode cX8_putInOrder 104 = .ok (.invokestatic 49, 3) := by decide +kernel
theorem dX8_putInOrder_107 : decode cX8_putInOrder 107 = .ok (.iconst 0, 1) := by decide +kernel
theorem dX8_putInOrder_108 : decode cX8_putInOrder 108 = .ok (.istore_n 2, 1) := by decide +kernel
theorem dX8_putInOrder_109 : decode cX8_putInOrder 109 = .ok (.iload_n 2, 1) := by decide +kernel
theorem dX8_putInOrder_110 : decode cX8_putInOrder 110 = .ok (.aload_n 0, 1) := by decide +kernel
theorem dX8_putInOrder_111 : decode cX8_putInOrder 111 = .ok (.getfield 40, 3) := by decide +kernel
theorem dX8_putInOrder_114 : decode cX8_putInOrder 114 = .ok (.if_icmp .ge 55, 3) := by decide +kernel
theorem dX8_putInOrder_117 : decode cX8_putInOrder 117 = .ok (.iconst 0, 1) := by decide +kernel
theorem dX8_putInOrder_118 : decode cX8_putInOrder 118 = .ok (.istore_n 3, 1) := by decide +kernel
theorem dX8_putInOrder_119 : decode cX8_putInOrder 119 = .ok (.iload_n 2, 1) := by decide +kernel
theorem dX8_putInOrder_120 : decode cX8_putInOrder 120 = .ok (.istore 4, 2) := by decide +kernel
theorem dX8_putInOrder_122 : decode cX8_putInOrder 122 = .ok (.iload 4, 2) := by decide +kernel
theorem dX8_putInOrder_124 : decode cX8_putInOrder 124 = .ok (.aload_n 0, 1) := by decide +kernel
theorem dX8_putInOrder_125 : decode cX8_putInOrder 125 = .ok (.getfield 40, 3) := by decide +kernel
theorem dX8_putInOrder_128 : decode cX8_putInOrder 128 = .ok (.if_icmp .eq 35, 3) := by decide +kernel
theorem dX8_putInOrder_131 : decode cX8_putInOrder 131 = .ok (.iload_n 3, 1) := by decide +kernel
theorem dX8_putInOrder_132 : decode cX8_putInOrder 132 = .ok (.bipush 8, 2) := by decide +kernel
theorem dX8_putInOrder_134 : decode cX8_putInOrder 134 = .ok (.if_icmp .ge 29, 3) := by decide +kernel
theorem dX8_putInOrder_137 : decode cX8_putInOrder 137 = .ok (.aload_n 0, 1) := by decide +kernel
theorem dX8_putInOrder_138 : decode cX8_putInOrder 138 = .ok (.getfield 25, 3) := by decide +kernel
theorem dX8_putInOrder_141 : decode cX8_putInOrder 141 = .ok (.iload 4, 2) := by decide +kernel
theorem dX8_putInOrder_143 : decode cX8_putInOrder 143 = .ok (.dup2, 1) := by decide +kernel
theorem dX8_putInOrder_144 : decode cX8_putInOrder 144 = .ok (.iaload, 1) := by decide +kernel
theorem dX8_putInOrder_145 : decode cX8_putInOrder 145 = .ok (.iconst 1, 1) := by decide +kernel
theorem dX8_putInOrder_146 : decode cX8_putInOrder 146 = .ok (.iadd, 1) := by decide +kernel
theorem dX8_putInOrder_147 : decode cX8_putInOrder 147 = .ok (.iastore, 1) := by decide +kernel
theorem dX8_putInOrder_148 : decode cX8_putInOrder 148 = .ok (.iinc 3 1, 3) := by decide +kernel
theorem dX8_putInOrder_151 : decode cX8_putInOrder 151 = .ok (.aload_n 0, 1) := by decide +kernel
theorem dX8_putInOrder_152 : decode cX8_putInOrder 152 = .ok (.getfield 9, 3) := by decide +kernel
theorem dX8_putInOrder_155 : decode cX8_putInOrder 155 = .ok (.iload 4, 2) := by decide +kernel
theorem dX8_putInOrder_157 : decode cX8_putInOrder 157 = .ok (.iaload, 1) := by decide +kernel
theorem dX8_putInOrder_158 : decode cX8_putInOrder 158 = .ok (.istore 4, 2) := by decide +kernel
theorem dX8_putInOrder_160 : decode cX8_putInOrder 160 = .ok (.goto (-38), 3) := by decide +kernel
theorem dX8_putInOrder_163 : decode cX8_putInOrder 163 = .ok (.iinc 2 1, 3) := by decide +kernel
theorem dX8_putInOrder_166 : decode cX8_putInOrder 166 = .ok (.goto (-57), 3) := by decide +kernel
theorem dX8_putInOrder_169 : decode cX8_putInOrder 169 = .ok (.return_, 1) := by decide +kernel
theorem dX9_init_0 : decode cX9_init 0 = .ok (.aload_n 0, 1) := by decide +kernel
theorem dX9_init_1 : decode cX9_init 1 = .ok (.invokespecial 5, 3) := by decide +kernel
theorem dX9_init_4 : decode cX9_init 4 = .ok (.aload_n 0, 1) := by decide +kernel
theorem dX9_init_5 : decode cX9_init 5 = .ok (.new 11, 3) := by decide +kernel
theorem dX9_init_8 : decode cX9_init 8 = .ok (.dup, 1) := by decide +kernel
theorem dX9_init_9 : decode cX9_init 9 = .ok (.invokespecial 13, 3) := by decide +kernel
theorem dX9_init_12 : decode cX9_init 12 = .ok (.putfield 14, 3) := by decide +kernel
theorem dX9_init_15 : decode cX9_init 15 = .ok (.aload_n 0, 1) := by decide +kernel
theorem dX9_init_16 : decode cX9_init 16 = .ok (.new 18, 3) := by decide +kernel
theorem dX9_init_19 : decode cX9_init 19 = .ok (.dup, 1) := by decide +kernel
theorem dX9_init_20 : decode cX9_init 20 = .ok (.invokespecial 20, 3) := by decide +kernel
theorem dX9_init_23 : decode cX9_init 23 = .ok (.putfield 21, 3) := by decide +kernel
theorem dX9_init_26 : decode cX9_init 26 = .ok (.aload_n 0, 1) := by decide +kernel
theorem dX9_init_27 : decode cX9_init 27 = .ok (.new 25, 3) := by decide +kernel
theorem dX9_init_30 : decode cX9_init 30 = .ok (.dup, 1) := by decide +kernel
theorem dX9_init_31 : decode cX9_init 31 = .ok (.invokespecial 27, 3) := by decide +kernel
theorem dX9_init_34 : decode cX9_init 34 = .ok (.putfield 28, 3) := by decide +kernel
theorem dX9_init_37 : decode cX9_init 37 = .ok (.aload_n 0, 1) := by decide +kernel
theorem dX9_init_38 : decode cX9_init 38 = .ok (.new 25, 3) := by decide +kernel
theorem dX9_init_41 : decode cX9_init 41 = .ok (.dup, 1) := by decide +kernel
theorem dX9_init_42 : decode cX9_init 42 = .ok (.invokespecial 27, 3) := by decide +kernel
theorem dX9_init_45 : decode cX9_init 45 = .ok (.putfield 32, 3) := by decide +kernel
theorem dX9_init_48 : decode cX9_init 48 = .ok (.return_, 1) := by decide +kernel
theorem dX9_reset_0 : decode cX9_reset 0 = .ok (.iload_n 1, 1) := by decide +kernel
theorem dX9_reset_1 : decode cX9_reset 1 = .ok (.iconst 2, 1) := by decide +kernel
theorem dX9_reset_2 : decode cX9_reset 2 = .ok (.bipush 8, 2) := by decide +kernel
theorem dX9_reset_4 : decode cX9_reset 4 = .ok (.invokestatic 35, 3) := by decide +kernel
theorem dX9_reset_7 : decode cX9_reset 7 = .ok (.ifCond .ne 7, 3) := by decide +kernel
theorem dX9_reset_10 : decode cX9_reset 10 = .ok (.sipush (-10002), 3) := by decide +kernel
theorem dX9_reset_13 : decode cX9_reset 13 = .ok (.ireturn, 1) := by decide +kernel
theorem dX9_reset_14 : decode cX9_reset 14 = .ok (.aload_n 0, 1) := by decide +kernel
theorem dX9_reset_15 : decode cX9_reset 15 = .ok (.getfield 14, 3) := by decide +kernel
theorem dX9_reset_18 : decode cX9_reset 18 = .ok (.getfield 39, 3) := by decide +kernel
theorem dX9_reset_21 : decode cX9_reset 21 = .ok (.istore_n 2, 1) := by decide +kernel
theorem dX9_reset_22 : decode cX9_reset 22 = .ok (.aload_n 0, 1) := by decide +kernel
theorem dX9_reset_23 : decode cX9_reset 23 = .ok (.getfield 14, 3) := by decide +kernel
theorem dX9_reset_26 : decode cX9_reset 26 = .ok (.iload_n 1, 1) := by decide +kernel
theorem dX9_reset_27 : decode cX9_reset 27 = .ok (.invokevirtual 43, 3) := by decide +kernel
theorem dX9_reset_30 : decode cX9_reset 30 = .ok (.aload_n 0, 1) := by decide +kernel
theorem dX9_reset_31 : decode cX9_reset 31 = .ok (.invokevirtual 47, 3) := by decide +kernel
theorem dX9_reset_34 : decode cX9_reset 34 = .ok (.iload_n 2, 1) := by decide +kernel
theorem dX9_reset_35 : decode cX9_reset 35 = .ok (.ireturn, 1) := by decide +kernel
theorem dX9_addArc_0 : decode cX9_addArc 0 = .ok (.aload_n 0, 1) := by decide +kernel
theorem dX9_addArc_1 : decode cX9_addArc 1 = .ok (.getfield 14, 3) := by decide +kernel
theorem dX9_addArc_4 : decode cX9_addArc 4 = .ok (.iload_n 1, 1) := by decide +kernel
theorem dX9_addArc_5 : decode cX9_addArc 5 = .ok (.invokevirtual 50, 3) := by decide +kernel
theorem dX9_addArc_8 : decode cX9_addArc 8 = .ok (.ifCond .eq 14, 3) := by decide +kernel
theorem dX9_addArc_11 : decode cX9_addArc 11 = .ok (.aload_n 0, 1) := by decide +kernel
theorem dX9_addArc_12 : decode cX9_addArc 12 = .ok (.getfield 14, 3) := by decide +kernel
theorem dX9_addArc_15 : decode cX9_addArc 15 = .ok (.iload_n 2, 1) := by decide +kernel
theorem dX9_addArc_16 : decode cX9_addArc 16 = .ok (.invokevirtual 50, 3) := by decide +kernel
theorem dX9_addArc_19 : decode cX9_addArc 19 = .ok (.ifCond .ne 7, 3) := by decide +kernel
theorem dX9_addArc_22 : decode cX9_addArc 22 = .ok (.sipush (-10001), 3) := by decide +kernel
theorem dX9_addArc_25 : decode cX9_addArc 25 = .ok (.ireturn, 1) := by decide +kernel
theorem dX9_addArc_26 : decode cX9_addArc 26 = .ok (.iload_n 1, 1) := by decide +kernel
theorem dX9_addArc_27 : decode cX9_addArc 27 = .ok (.iload_n 2, 1) := by decide +kernel
theorem dX9_addArc_28 : decode cX9_addArc 28 = .ok (.if_icmp .eq 38, 3) := by decide +kernel
theorem dX9_addArc_31 : decode cX9_addArc 31 = .ok (.iload_n 3, 1) := by decide +kernel
theorem dX9_addArc_32 : decode cX9_addArc 32 = .ok (.iconst 1, 1) := by decide +kernel
theorem dX9_addArc_33 : decode cX9_addArc 33 = .ok (.sipush 1000, 3) := by decide +kernel
theorem dX9_addArc_36 : decode cX9_addArc 36 = .ok (.invokestatic 35, 3) := by decide +kernel
theorem dX9_addArc_39 : decode cX9_addArc 39 = .ok (.ifCond .eq 27, 3) := by decide +kernel
theorem dX9_addArc_42 : decode cX9_addArc 42 = .ok (.iload 4, 2) := by decide +kernel
theorem dX9_addArc_44 : decode cX9_addArc 44 = .ok (.bipush (-100), 2) := by decide +kernel
theorem dX9_addArc_46 : decode cX9_addArc 46 = .ok (.bipush 100, 2) := by decide +kernel
theorem dX9_addArc_48 : decode cX9_addArc 48 = .ok (.invokestatic 35, 3) := by decide +kernel
theorem dX9_addArc_51 : decode cX9_addArc 51 = .ok (.ifCond .eq 15, 3) := by decide +kernel
theorem dX9_addArc_54 : decode cX9_addArc 54 = .ok (.iload 5, 2) := by decide +kernel
theorem dX9_addArc_56 : decode cX9_addArc 56 = .ok (.bipush (-20), 2) := by decide +kernel
theorem dX9_addArc_58 : decode cX9_addArc 58 = .ok (.bipush 20, 2) := by decide +kernel
theorem dX9_addArc_60 : decode cX9_addArc 60 = .ok (.invokestatic 35, 3) := by decide +kernel
theorem dX9_addArc_63 : decode cX9_addArc 63 = .ok (.ifCond .ne 7, 3) := by decide +kernel
theorem dX9_addArc_66 : decode cX9_addArc 66 = .ok (.sipush (-10002), 3) := by decide +kernel
theorem dX9_addArc_69 : decode cX9_addArc 69 = .ok (.ireturn, 1) := by decide +kernel
theorem dX9_addArc_70 : decode cX9_addArc 70 = .ok (.aload_n 0, 1) := by decide +kernel
theorem dX9_addArc_71 : decode cX9_addArc 71 = .ok (.getfield 14, 3) := by decide +kernel
theorem dX9_addArc_74 : decode cX9_addArc 74 = .ok (.getfield 54, 3) := by decide +kernel
theorem dX9_addArc_77 : decode cX9_addArc 77 = .ok (.bipush 20, 2) := by decide +kernel
theorem dX9_addArc_79 : decode cX9_addArc 79 = .ok (.if_icmp .lt 7, 3) := by decide +kernel
theorem dX9_addArc_82 : decode cX9_addArc 82 = .ok (.sipush (-10006), 3) := by decide +kernel
theorem dX9_addArc_85 : decode cX9_addArc 85 = .ok (.ireturn, 1) := by decide +kernel
theorem dX9_addArc_86 : decode cX9_addArc 86 = .ok (.aload_n 0, 1) := by decide +kernel
theorem dX9_addArc_87 : decode cX9_addArc 87 = .ok (.getfield 14, 3) := by decide +kernel
theorem dX9_addArc_90 : decode cX9_addArc 90 = .ok (.getfield 54, 3) := by decide +kernel
theorem dX9_addArc_93 : decode cX9_addArc 93 = .ok (.istore 6, 2) := by decide +kernel
theorem dX9_addArc_95 : decode cX9_addArc 95 = .ok (.aload_n 0, 1) := by decide +kernel
theorem dX9_addArc_96 : decode cX9_addArc 96 = .ok (.getfield 14, 3) := by decide +kernel
theorem dX9_addArc_99 : decode cX9_addArc 99 = .ok (.getfield 57, 3) := by decide +kernel
theorem dX9_addArc_102 : decode cX9_addArc 102 = .ok (.iload 6, 2) := by decide +kernel
theorem dX9_addArc_104 : decode cX9_addArc 104 = .ok (.iload_n 1, 1) := by decide +kernel
theorem dX9_addArc_105 : decode cX9_addArc 105 = .ok (.iastore, 1) := by decide +kernel
theorem dX9_addArc_106 : decode cX9_addArc 106 = .ok (.aload_n 0, 1) := by decide +kernel
theorem dX9_addArc_107 : decode cX9_addArc 107 = .ok (.getfield 14, 3) := by decide +kernel
theorem dX9_addArc_110 : decode cX9_addArc 110 = .ok (.getfield 61, 3) := by decide +kernel
theorem dX9_addArc_113 : decode cX9_addArc 113 = .ok (.iload 6, 2) := by decide +kernel
theorem dX9_addArc_115 : decode cX9_addArc 115 = .ok (.iload_n 2, 1) := by decide +kernel
theorem dX9_addArc_116 : decode cX9_addArc 116 = .ok (.iastore, 1) := by decide +kernel
theorem dX9_addArc_117 : decode cX9_addArc 117 = .ok (.aload_n 0, 1) := by decide +kernel
theorem dX9_addArc_118 : decode cX9_addArc 118 = .ok (.getfield 14, 3) := by decide +kernel
theorem dX9_addArc_121 : decode cX9_addArc 121 = .ok (.getfield 64, 3) := by decide +kernel
theorem dX9_addArc_124 : decode cX9_addArc 124 = .ok (.iload 6, 2) := by decide +kernel
theorem dX9_addArc_126 : decode cX9_addArc 126 = .ok (.iload_n 3, 1) := by decide +kernel
theorem dX9_addArc_127 : decode cX9_addArc 127 = .ok (.iastore, 1) := by decide +kernel
theorem dX9_addArc_128 : decode cX9_addArc 128 = .ok (.aload_n 0, 1) := by decide +kernel
theorem dX9_addArc_129 : decode cX9_addArc 129 = .ok (.getfield 14, 3) := by decide +kernel
theorem dX9_addArc_132 : decode cX9_addArc 132 = .ok (.getfield 67, 3) := by decide +kernel
theorem dX9_addArc_135 : decode cX9_addArc 135 = .ok (.iload 6, 2) := by decide +kernel
theorem dX9_addArc_137 : decode cX9_addArc 137 = .ok (.iload 4, 2) := by decide +kernel
theorem dX9_addArc_139 : decode cX9_addArc 139 = .ok (.iastore, 1) := by decide +kernel
theorem dX9_addArc_140 : decode cX9_addArc 140 = .ok (.aload_n 0, 1) := by decide +kernel
theorem dX9_addArc_141 : decode cX9_addArc 141 = .ok (.getfield 14, 3) := by decide +kernel
theorem dX9_addArc_144 : decode cX9_addArc 144 = .ok (.getfield 70, 3) := by decide +kernel
theorem dX9_addArc_147 : decode cX9_addArc 147 = .ok (.iload 6, 2) := by decide +kernel
theorem dX9_addArc_149 : decode cX9_addArc 149 = .ok (.iload 5, 2) := by decide +kernel
theorem dX9_addArc_151 : decode cX9_addArc 151 = .ok (.iastore, 1) := by decide +kernel
theorem dX9_addArc_152 : decode cX9_addArc 152 = .ok (.aload_n 0, 1) := by decide +kernel
theorem dX9_addArc_153 : decode cX9_addArc 153 = .ok (.getfield 14, 3) := by decide +kernel
theorem dX9_addArc_156 : decode cX9_addArc 156 = .ok (.dup, 1) := by decide +kernel
theorem dX9_addArc_157 : decode cX9_addArc 157 = .ok (.getfield 54, 3) := by decide +kernel
theorem dX9_addArc_160 : decode cX9_addArc 160 = .ok (.iconst 1, 1) := by decide +kernel
theorem dX9_addArc_161 : decode cX9_addArc 161 = .ok (.iadd, 1) := by decide +kernel
theorem dX9_addArc_162 : decode cX9_addArc 162 = .ok (.putfield 54, 3) := by decide +kernel
theorem dX9_addArc_165 : decode cX9_addArc 165 = .ok (.aload_n 0, 1) := by decide +kernel
theorem dX9_addArc_166 : decode cX9_addArc 166 = .ok (.invokevirtual 47, 3) := by decide +kernel
theorem dX9_addArc_169 : decode cX9_addArc 169 = .ok (.iload 6, 2) := by decide +kernel
theorem dX9_addArc_171 : decode cX9_addArc 171 = .ok (.ireturn, 1) := by decide +kernel
theorem dX9_removeArc_0 : decode cX9_removeArc 0 = .ok (.aload_n 0, 1) := by decide +kernel
theorem dX9_removeArc_1 : decode cX9_removeArc 1 = .ok (.getfield 14, 3) := by decide +kernel
theorem dX9_removeArc_4 : decode cX9_removeArc 4 = .ok (.getfield 54, 3) := by decide +kernel
theorem dX9_removeArc_7 : decode cX9_removeArc 7 = .ok (.ifCond .ne 7, 3) := by decide +kernel
theorem dX9_removeArc_10 : decode cX9_removeArc 10 = .ok (.sipush (-10007), 3) := by decide +kernel
theorem dX9_removeArc_13 : decode cX9_removeArc 13 = .ok (.ireturn, 1) := by decide +kernel
theorem dX9_removeArc_14 : decode cX9_removeArc 14 = .ok (.aload_n 0, 1) := by decide +kernel
theorem dX9_removeArc_15 : decode cX9_removeArc 15 = .ok (.getfield 14, 3) := by decide +kernel
theorem dX9_removeArc_18 : decode cX9_removeArc 18 = .ok (.dup, 1) := by decide +kernel
theorem dX9_removeArc_19 : decode cX9_removeArc 19 = .ok (.getfield 54, 3) := by decide +kernel
theorem dX9_removeArc_22 : decode cX9_removeArc 22 = .ok (.iconst 1, 1) := by decide +kernel
theorem dX9_removeArc_23 : decode cX9_removeArc 23 = .ok (.isub, 1) := by decide +kernel
theorem dX9_removeArc_24 : decode cX9_removeArc 24 = .ok (.putfield 54, 3) := by decide +kernel
theorem dX9_removeArc_27 : decode cX9_removeArc 27 = .ok (.aload_n 0, 1) := by decide +kernel
theorem dX9_removeArc_28 : decode cX9_removeArc 28 = .ok (.invokevirtual 47, 3) := by decide +kernel
theorem dX9_removeArc_31 : decode cX9_removeArc 31 = .ok (.aload_n 0, 1) := by decide +kernel
theorem dX9_removeArc_32 : decode cX9_removeArc 32 = .ok (.getfield 14, 3) := by decide +kernel
theorem dX9_removeArc_35 : decode cX9_removeArc 35 = .ok (.getfield 54, 3) := by decide +kernel
theorem dX9_removeArc_38 : decode cX9_removeArc 38 = .ok (.ireturn, 1) := by decide +kernel
theorem dX9_setArc_0 : decode cX9_setArc 0 = .ok (.aload_n 0, 1) := by decide +kernel
theorem dX9_setArc_1 : decode cX9_setArc 1 = .ok (.getfield 14, 3) := by decide +kernel
theorem dX9_setArc_4 : decode cX9_setArc 4 = .ok (.iload_n 1, 1) := by decide +kernel
theorem dX9_setArc_5 : decode cX9_setArc 5 = .ok (.invokevirtual 73, 3) := by decide +kernel
theorem dX9_setArc_8 : decode cX9_setArc 8 = .ok (.ifCond .ne 7, 3) := by decide +kernel
theorem dX9_setArc_11 : decode cX9_setArc 11 = .ok (.sipush (-10001), 3) := by decide +kernel
theorem dX9_setArc_14 : decode cX9_setArc 14 = .ok (.ireturn, 1) := by decide +kernel
theorem dX9_setArc_15 : decode cX9_setArc 15 = .ok (.iload_n 2, 1) := by decide +kernel
theorem dX9_setArc_16 : decode cX9_setArc 16 = .ok (.ifCond .ne 38, 3) := by decide +kernel
theorem dX9_setArc_19 : decode cX9_setArc 19 = .ok (.iload_n 3, 1) := by decide +kernel
theorem dX9_setArc_20 : decode cX9_setArc 20 = .ok (.iconst 1, 1) := by decide +kernel
theorem dX9_setArc_21 : decode cX9_setArc 21 = .ok (.sipush 1000, 3) := by decide +kernel
theorem dX9_setArc_24 : decode cX9_setArc 24 = .ok (.invokestatic 35, 3) := by decide +kernel
theorem dX9_setArc_27 : decode cX9_setArc 27 = .ok (.ifCond .eq 27, 3) := by decide +kernel
theorem dX9_setArc_30 : decode cX9_setArc 30 = .ok (.aload_n 0, 1) := by decide +kernel
theorem dX9_setArc_31 : decode cX9_setArc 31 = .ok (.getfield 14, 3) := by decide +kernel
theorem dX9_setArc_34 : decode cX9_setArc 34 = .ok (.getfield 64, 3) := by decide +kernel
theorem dX9_setArc_37 : decode cX9_setArc 37 = .ok (.iload_n 1, 1) := by decide +kernel
theorem dX9_setArc_38 : decode cX9_setArc 38 = .ok (.iaload, 1) := by decide +kernel
theorem dX9_setArc_39 : decode cX9_setArc 39 = .ok (.istore 4, 2) := by decide +kernel
theorem dX9_setArc_41 : decode cX9_setArc 41 = .ok (.aload_n 0, 1) := by decide +kernel
theorem dX9_setArc_42 : decode cX9_setArc 42 = .ok (.getfield 14, 3) := by decide +kernel
theorem dX9_setArc_45 : decode cX9_setArc 45 = .ok (.getfield 64, 3) := by decide +kernel
theorem dX9_setArc_48 : decode cX9_setArc 48 = .ok (.iload_n 1, 1) := by decide +kernel
theorem dX9_setArc_49 : decode cX9_setArc 49 = .ok (.iload_n 3, 1) := by decide +kernel
theorem dX9_setArc_50 : decode cX9_setArc 50 = .ok (.iastore, 1) := by decide +kernel
theorem dX9_setArc_51 : decode cX9_setArc 51 = .ok (.goto 87, 3) := by decide +kernel
theorem dX9_setArc_54 : decode cX9_setArc 54 = .ok (.iload_n 2, 1) := by decide +kernel
theorem dX9_setArc_55 : decode cX9_setArc 55 = .ok (.iconst 1, 1) := by decide +kernel
theorem dX9_setArc_56 : decode cX9_setArc 56 = .ok (.if_icmp .ne 38, 3) := by decide +kernel
theorem dX9_setArc_59 : decode cX9_setArc 59 = .ok (.iload_n 3, 1) := by decide +kernel
theorem dX9_setArc_60 : decode cX9_setArc 60 = .ok (.bipush (-100), 2) := by decide +kernel
theorem dX9_setArc_62 : decode cX9_setArc 62 = .ok (.bipush 100, 2) := by decide +kernel
theorem dX9_setArc_64 : decode cX9_setArc 64 = .ok (.invokestatic 35, 3) := by decide +kernel
theorem dX9_setArc_67 : decode cX9_setArc 67 = .ok (.ifCond .eq 27, 3) := by decide +kernel
theorem dX9_setArc_70 : decode cX9_setArc 70 = .ok (.aload_n 0, 1) := by decide +kernel
theorem dX9_setArc_71 : decode cX9_setArc 71 = .ok (.getfield 14, 3) := by decide +kernel
theorem dX9_setArc_74 : decode cX9_setArc 74 = .ok (.getfield 67, 3) := by decide +kernel
theorem dX9_setArc_77 : decode cX9_setArc 77 = .ok (.iload_n 1, 1) := by decide +kernel
theorem dX9_setArc_78 : decode cX9_setArc 78 = .ok (.iaload, 1) := by decide +kernel
theorem dX9_setArc_79 : decode cX9_setArc 79 = .ok (.istore 4, 2) := by decide +kernel
theorem dX9_setArc_81 : decode cX9_setArc 81 = .ok (.aload_n 0, 1) := by decide +kernel
theorem dX9_setArc_82 : decode cX9_setArc 82 = .ok (.getfield 14, 3) := by decide +kernel
theorem dX9_setArc_85 : decode cX9_setArc 85 = .ok (.getfield 67, 3) := by decide +kernel
theorem dX9_setArc_88 : decode cX9_setArc 88 = .ok (.iload_n 1, 1) := by decide +kernel
theorem dX9_setArc_89 : decode cX9_setArc 89 = .ok (.iload_n 3, 1) := by decide +kernel
theorem dX9_setArc_90 : decode cX9_setArc 90 = .ok (.iastore, 1) := by decide +kernel
theorem dX9_setArc_91 : decode cX9_setArc 91 = .ok (.goto 47, 3) := by decide +kernel
theorem dX9_setArc_94 : decode cX9_setArc 94 = .ok (.iload_n 2, 1) := by decide +kernel
theorem dX9_setArc_95 : decode cX9_setArc 95 = .ok (.iconst 2, 1) := by decide +kernel
theorem dX9_setArc_96 : decode cX9_setArc 96 = .ok (.if_icmp .ne 38, 3) := by decide +kernel
theorem dX9_setArc_99 : decode cX9_setArc 99 = .ok (.iload_n 3, 1) := by decide +kernel
theorem dX9_setArc_100 : decode cX9_setArc 100 = .ok (.bipush (-20), 2) := by decide +kernel
theorem dX9_setArc_102 : decode cX9_setArc 102 = .ok (.bipush 20, 2) := by decide +kernel
theorem dX9_setArc_104 : decode cX9_setArc 104 = .ok (.invokestatic 35, 3) := by decide +kernel
theorem dX9_setArc_107 : decode cX9_setArc 107 = .ok (.ifCond .eq 27, 3) := by decide +kernel
theorem dX9_setArc_110 : decode cX9_setArc 110 = .ok (.aload_n 0, 1) := by decide +kernel
theorem dX9_setArc_111 : decode cX9_setArc 111 = .ok (.getfield 14, 3) := by decide +kernel
theorem dX9_setArc_114 : decode cX9_setArc 114 = .ok (.getfield 70, 3) := by decide +kernel
theorem dX9_setArc_117 : decode cX9_setArc 117 = .ok (.iload_n 1, 1) := by decide +kernel
theorem dX9_setArc_118 : decode cX9_setArc 118 = .ok (.iaload, 1) := by decide +kernel
theorem dX9_setArc_119 : decode cX9_setArc 119 = .ok (.istore 4, 2) := by decide +kernel
theorem dX9_setArc_121 : decode cX9_setArc 121 = .ok (.aload_n 0, 1) := by decide +kernel
theorem dX9_setArc_122 : decode cX9_setArc 122 = .ok (.getfield 14, 3) := by decide +kernel
theorem dX9_setArc_125 : decode cX9_setArc 125 = .ok (.getfield 70, 3) := by decide +kernel
theorem dX9_setArc_128 : decode cX9_setArc 128 = .ok (.iload_n 1, 1) := by decide +kernel
theorem dX9_setArc_129 : decode cX9_setArc 129 = .ok (.iload_n 3, 1) := by decide +kernel
theorem dX9_setArc_130 : decode cX9_setArc 130 = .ok (.iastore, 1) := by decide +kernel
theorem dX9_setArc_131 : decode cX9_setArc 131 = .ok (.goto 7, 3) := by decide +kernel
theorem dX9_setArc_134 : decode cX9_setArc 134 = .ok (.sipush (-10002), 3) := by decide +kernel
theorem dX9_setArc_137 : decode cX9_setArc 137 = .ok (.ireturn, 1) := by decide +kernel
theorem dX9_setArc_138 : decode cX9_setArc 138 = .ok (.aload_n 0, 1) := by decide +kernel
theorem dX9_setArc_139 : decode cX9_setArc 139 = .ok (.invokevirtual 47, 3) := by decide +kernel
theorem dX9_setArc_142 : decode cX9_setArc 142 = .ok (.iload 4, 2) := by decide +kernel
theorem dX9_setArc_144 : decode cX9_setArc 144 = .ok (.ireturn, 1) := by decide +kernel
theorem dX9_setSupply_0 : decode cX9_setSupply 0 = .ok (.aload_n 0, 1) := by decide +kernel
theorem dX9_setSupply_1 : decode cX9_setSupply 1 = .ok (.getfield 14, 3) := by decide +kernel
theorem dX9_setSupply_4 : decode cX9_setSupply 4 = .ok (.iload_n 1, 1) := by decide +kernel
theorem dX9_setSupply_5 : decode cX9_setSupply 5 = .ok (.invokevirtual 50, 3) := by decide +kernel
theorem dX9_setSupply_8 : decode cX9_setSupply 8 = .ok (.ifCond .ne 7, 3) := by decide +kernel
theorem dX9_setSupply_11 : decode cX9_setSupply 11 = .ok (.sipush (-10001), 3) := by decide +kernel
theorem dX9_setSupply_14 : decode cX9_setSupply 14 = .ok (.ireturn, 1) := by decide +kernel
theorem dX9_setSupply_15 : decode cX9_setSupply 15 = .ok (.iload_n 2, 1) := by decide +kernel
theorem dX9_setSupply_16 : decode cX9_setSupply 16 = .ok (.sipush (-500), 3) := by decide +kernel
theorem dX9_setSupply_19 : decode cX9_setSupply 19 = .ok (.sipush 500, 3) := by decide +kernel
theorem dX9_setSupply_22 : decode cX9_setSupply 22 = .ok (.invokestatic 35, 3) := by decide +kernel
theorem dX9_setSupply_25 : decode cX9_setSupply 25 = .ok (.ifCond .eq 14, 3) := by decide +kernel
theorem dX9_setSupply_28 : decode cX9_setSupply 28 = .ok (.iload_n 3, 1) := by decide +kernel
theorem dX9_setSupply_29 : decode cX9_setSupply 29 = .ok (.bipush (-20), 2) := by decide +kernel
theorem dX9_setSupply_31 : decode cX9_setSupply 31 = .ok (.bipush 20, 2) := by decide +kernel
theorem dX9_setSupply_33 : decode cX9_setSupply 33 = .ok (.invokestatic 35, 3) := by decide +kernel
theorem dX9_setSupply_36 : decode cX9_setSupply 36 = .ok (.ifCond .ne 7, 3) := by decide +kernel
theorem dX9_setSupply_39 : decode cX9_setSupply 39 = .ok (.sipush (-10002), 3) := by decide +kernel
theorem dX9_setSupply_42 : decode cX9_setSupply 42 = .ok (.ireturn, 1) := by decide +kernel
theorem dX9_setSupply_43 : decode cX9_setSupply 43 = .ok (.aload_n 0, 1) := by decide +kernel
theorem dX9_setSupply_44 : decode cX9_setSupply 44 = .ok (.getfield 14, 3) := by decide +kernel
theorem dX9_setSupply_47 : decode cX9_setSupply 47 = .ok (.getfield 76, 3) := by decide +kernel
theorem dX9_setSupply_50 : decode cX9_setSupply 50 = .ok (.iload_n 1, 1) := by decide +kernel
theorem dX9_setSupply_51 : decode cX9_setSupply 51 = .ok (.iaload, 1) := by decide +kernel
theorem dX9_setSupply_52 : decode cX9_setSupply 52 = .ok (.iload_n 2, 1) := by decide +kernel
theorem dX9_setSupply_53 : decode cX9_setSupply 53 = .ok (.if_icmp .ne 20, 3) := by decide +kernel
theorem dX9_setSupply_56 : decode cX9_setSupply 56 = .ok (.aload_n 0, 1) := by decide +kernel
theorem dX9_setSupply_57 : decode cX9_setSupply 57 = .ok (.getfield 14, 3) := by decide +kernel
theorem dX9_setSupply_60 : decode cX9_setSupply 60 = .ok (.getfield 79, 3) := by decide +kernel
theorem dX9_setSupply_63 : decode cX9_setSupply 63 = .ok (.iload_n 1, 1) := by decide +kernel
theorem dX9_setSupply_64 : decode cX9_setSupply 64 = .ok (.iaload, 1) := by decide +kernel
theorem dX9_setSupply_65 : decode cX9_setSupply 65 = .ok (.iload_n 3, 1) := by decide +kernel
theorem dX9_setSupply_66 : decode cX9_setSupply 66 = .ok (.if_icmp .ne 7, 3) := by decide +kernel
theorem dX9_setSupply_69 : decode cX9_setSupply 69 = .ok (.iconst 1, 1) := by decide +kernel
theorem dX9_setSupply_70 : decode cX9_setSupply 70 = .ok (.goto 4, 3) := by decide +kernel
theorem dX9_setSupply_73 : decode cX9_setSupply 73 = .ok (.iconst 0, 1) := by decide +kernel
theorem dX9_setSupply_74 : decode cX9_setSupply 74 = .ok (.istore 4, 2) := by decide +kernel
theorem dX9_setSupply_76 : decode cX9_setSupply 76 = .ok (.aload_n 0, 1) := by decide +kernel
theorem dX9_setSupply_77 : decode cX9_setSupply 77 = .ok (.getfield 14, 3) := by decide +kernel
theorem dX9_setSupply_80 : decode cX9_setSupply 80 = .ok (.getfield 76, 3) := by decide +kernel
theorem dX9_setSupply_83 : decode cX9_setSupply 83 = .ok (.iload_n 1, 1) := by decide +kernel
theorem dX9_setSupply_84 : decode cX9_setSupply 84 = .ok (.iload_n 2, 1) := by decide +kernel
theorem dX9_setSupply_85 : decode cX9_setSupply 85 = .ok (.iastore, 1) := by decide +kernel
theorem dX9_setSupply_86 : decode cX9_setSupply 86 = .ok (.aload_n 0, 1) := by decide +kernel
theorem dX9_setSupply_87 : decode cX9_setSupply 87 = .ok (.getfield 14, 3) := by decide +kernel
theorem dX9_setSupply_90 : decode cX9_setSupply 90 = .ok (.getfield 79, 3) := by decide +kernel
theorem dX9_setSupply_93 : decode cX9_setSupply 93 = .ok (.iload_n 1, 1) := by decide +kernel
theorem dX9_setSupply_94 : decode cX9_setSupply 94 = .ok (.iload_n 3, 1) := by decide +kernel
theorem dX9_setSupply_95 : decode cX9_setSupply 95 = .ok (.iastore, 1) := by decide +kernel
theorem dX9_setSupply_96 : decode cX9_setSupply 96 = .ok (.aload_n 0, 1) := by decide +kernel
theorem dX9_setSupply_97 : decode cX9_setSupply 97 = .ok (.invokevirtual 47, 3) := by decide +kernel
theorem dX9_setSupply_100 : decode cX9_setSupply 100 = .ok (.iload 4, 2) := by decide +kernel
theorem dX9_setSupply_102 : decode cX9_setSupply 102 = .ok (.ifCond .eq 7, 3) := by decide +kernel
theorem dX9_setSupply_105 : decode cX9_setSupply 105 = .ok (.iconst 0, 1) := by decide +kernel
theorem dX9_setSupply_106 : decode cX9_setSupply 106 = .ok (.goto 4, 3) := by decide +kernel
theorem dX9_setSupply_109 : decode cX9_setSupply 109 = .ok (.iconst 1, 1) := by decide +kernel
theorem dX9_setSupply_110 : decode cX9_setSupply 110 = .ok (.ireturn, 1) := by decide +kernel
theorem dX9_setMode_0 : decode cX9_setMode 0 = .ok (.iload_n 1, 1) := by decide +kernel
theorem dX9_setMode_1 : decode cX9_setMode 1 = .ok (.ifCond .eq 12, 3) := by decide +kernel
theorem dX9_setMode_4 : decode cX9_setMode 4 = .ok (.iload_n 1, 1) := by decide +kernel
theorem dX9_setMode_5 : decode cX9_setMode 5 = .ok (.iconst 1, 1) := by decide +kernel
theorem dX9_setMode_6 : decode cX9_setMode 6 = .ok (.if_icmp .eq 7, 3) := by decide +kernel
theorem dX9_setMode_9 : decode cX9_setMode 9 = .ok (.sipush (-10002), 3) := by decide +kernel
theorem dX9_setMode_12 : decode cX9_setMode 12 = .ok (.ireturn, 1) := by decide +kernel
theorem dX9_setMode_13 : decode cX9_setMode 13 = .ok (.aload_n 0, 1) := by decide +kernel
theorem dX9_setMode_14 : decode cX9_setMode 14 = .ok (.getfield 14, 3) := by decide +kernel
theorem dX9_setMode_17 : decode cX9_setMode 17 = .ok (.getfield 82, 3) := by decide +kernel
theorem dX9_setMode_20 : decode cX9_setMode 20 = .ok (.istore_n 2, 1) := by decide +kernel
theorem dX9_setMode_21 : decode cX9_setMode 21 = .ok (.aload_n 0, 1) := by decide +kernel
theorem dX9_setMode_22 : decode cX9_setMode 22 = .ok (.getfield 14, 3) := by decide +kernel
theorem dX9_setMode_25 : decode cX9_setMode 25 = .ok (.iload_n 1, 1) := by decide +kernel
theorem dX9_setMode_26 : decode cX9_setMode 26 = .ok (.putfield 82, 3) := by decide +kernel
theorem dX9_setMode_29 : decode cX9_setMode 29 = .ok (.aload_n 0, 1) := by decide +kernel
theorem dX9_setMode_30 : decode cX9_setMode 30 = .ok (.invokevirtual 47, 3) := by decide +kernel
theorem dX9_setMode_33 : decode cX9_setMode 33 = .ok (.iload_n 2, 1) := by decide +kernel
theorem dX9_setMode_34 : decode cX9_setMode 34 = .ok (.ireturn, 1) := by decide +kernel
theorem dX9_arc_0 : decode cX9_arc 0 = .ok (.aload_n 0, 1) := by decide +kernel
theorem dX9_arc_1 : decode cX9_arc 1 = .ok (.getfield 14, 3) := by decide +kernel
theorem dX9_arc_4 : decode cX9_arc 4 = .ok (.iload_n 1, 1) := by decide +kernel
theorem dX9_arc_5 : decode cX9_arc 5 = .ok (.invokevirtual 73, 3) := by decide +kernel
theorem dX9_arc_8 : decode cX9_arc 8 = .ok (.ifCond .ne 7, 3) := by decide +kernel
theorem dX9_arc_11 : decode cX9_arc 11 = .ok (.sipush (-10001), 3) := by decide +kernel
theorem dX9_arc_14 : decode cX9_arc 14 = .ok (.ireturn, 1) := by decide +kernel
theorem dX9_arc_15 : decode cX9_arc 15 = .ok (.iload_n 2, 1) := by decide +kernel
theorem dX9_arc_16 : decode cX9_arc 16 = .ok (.tableswitch 86 0 4 #[36, 46, 56, 66, 76], 36) := by decide +kernel
theorem dX9_arc_52 : decode cX9_arc 52 = .ok (.aload_n 0, 1) := by decide +kernel
theorem dX9_arc_53 : decode cX9_arc 53 = .ok (.getfield 14, 3) := by decide +kernel
theorem dX9_arc_56 : decode cX9_arc 56 = .ok (.getfield 57, 3) := by decide +kernel
theorem dX9_arc_59 : decode cX9_arc 59 = .ok (.iload_n 1, 1) := by decide +kernel
theorem dX9_arc_60 : decode cX9_arc 60 = .ok (.iaload, 1) := by decide +kernel
theorem dX9_arc_61 : decode cX9_arc 61 = .ok (.ireturn, 1) := by decide +kernel
theorem dX9_arc_62 : decode cX9_arc 62 = .ok (.aload_n 0, 1) := by decide +kernel
theorem dX9_arc_63 : decode cX9_arc 63 = .ok (.getfield 14, 3) := by decide +kernel
theorem dX9_arc_66 : decode cX9_arc 66 = .ok (.getfield 61, 3) := by decide +kernel
theorem dX9_arc_69 : decode cX9_arc 69 = .ok (.iload_n 1, 1) := by decide +kernel
theorem dX9_arc_70 : decode cX9_arc 70 = .ok (.iaload, 1) := by decide +kernel
theorem dX9_arc_71 : decode cX9_arc 71 = .ok (.ireturn, 1) := by decide +kernel
theorem dX9_arc_72 : decode cX9_arc 72 = .ok (.aload_n 0, 1) := by decide +kernel
theorem dX9_arc_73 : decode cX9_arc 73 = .ok (.getfield 14, 3) := by decide +kernel
theorem dX9_arc_76 : decode cX9_arc 76 = .ok (.getfield 64, 3) := by decide +kernel
theorem dX9_arc_79 : decode cX9_arc 79 = .ok (.iload_n 1, 1) := by decide +kernel
theorem dX9_arc_80 : decode cX9_arc 80 = .ok (.iaload, 1) := by decide +kernel
theorem dX9_arc_81 : decode cX9_arc 81 = .ok (.ireturn, 1) := by decide +kernel
theorem dX9_arc_82 : decode cX9_arc 82 = .ok (.aload_n 0, 1) := by decide +kernel
theorem dX9_arc_83 : decode cX9_arc 83 = .ok (.getfield 14, 3) := by decide +kernel
theorem dX9_arc_86 : decode cX9_arc 86 = .ok (.getfield 67, 3) := by decide +kernel
theorem dX9_arc_89 : decode cX9_arc 89 = .ok (.iload_n 1, 1) := by decide +kernel
theorem dX9_arc_90 : decode cX9_arc 90 = .ok (.iaload, 1) := by decide +kernel
theorem dX9_arc_91 : decode cX9_arc 91 = .ok (.ireturn, 1) := by decide +kernel
theorem dX9_arc_92 : decode cX9_arc 92 = .ok (.aload_n 0, 1) := by decide +kernel
theorem dX9_arc_93 : decode cX9_arc 93 = .ok (.getfield 14, 3) := by decide +kernel
theorem dX9_arc_96 : decode cX9_arc 96 = .ok (.getfield 70, 3) := by decide +kernel
theorem dX9_arc_99 : decode cX9_arc 99 = .ok (.iload_n 1, 1) := by decide +kernel
theorem dX9_arc_100 : decode cX9_arc 100 = .ok (.iaload, 1) := by decide +kernel
theorem dX9_arc_101 : decode cX9_arc 101 = .ok (.ireturn, 1) := by decide +kernel
theorem dX9_arc_102 : decode cX9_arc 102 = .ok (.sipush (-10002), 3) := by decide +kernel
theorem dX9_arc_105 : decode cX9_arc 105 = .ok (.ireturn, 1) := by decide +kernel
theorem dX9_network_0 : decode cX9_network 0 = .ok (.iload_n 1, 1) := by decide +kernel
theorem dX9_network_1 : decode cX9_network 1 = .ok (.tableswitch 106 0 5 #[39, 47, 55, 63, 78, 93], 39) := by decide +kernel
theorem dX9_network_40 : decode cX9_network 40 = .ok (.aload_n 0, 1) := by decide +kernel
theorem dX9_network_41 : decode cX9_network 41 = .ok (.getfield 14, 3) := by decide +kernel
theorem dX9_network_44 : decode cX9_network 44 = .ok (.getfield 39, 3) := by decide +kernel
theorem dX9_network_47 : decode cX9_network 47 = .ok (.ireturn, 1) := by decide +kernel
theorem dX9_network_48 : decode cX9_network 48 = .ok (.aload_n 0, 1) := by decide +kernel
theorem dX9_network_49 : decode cX9_network 49 = .ok (.getfield 14, 3) := by decide +kernel
theorem dX9_network_52 : decode cX9_network 52 = .ok (.getfield 54, 3) := by decide +kernel
theorem dX9_network_55 : decode cX9_network 55 = .ok (.ireturn, 1) := by decide +kernel
theorem dX9_network_56 : decode cX9_network 56 = .ok (.aload_n 0, 1) := by decide +kernel
theorem dX9_network_57 : decode cX9_network 57 = .ok (.getfield 14, 3) := by decide +kernel
theorem dX9_network_60 : decode cX9_network 60 = .ok (.getfield 82, 3) := by decide +kernel
theorem dX9_network_63 : decode cX9_network 63 = .ok (.ireturn, 1) := by decide +kernel
theorem dX9_network_64 : decode cX9_network 64 = .ok (.aload_n 0, 1) := by decide +kernel
theorem dX9_network_65 : decode cX9_network 65 = .ok (.getfield 14, 3) := by decide +kernel
theorem dX9_network_68 : decode cX9_network 68 = .ok (.aload_n 0, 1) := by decide +kernel
theorem dX9_network_69 : decode cX9_network 69 = .ok (.getfield 14, 3) := by decide +kernel
theorem dX9_network_72 : decode cX9_network 72 = .ok (.getfield 76, 3) := by decide +kernel
theorem dX9_network_75 : decode cX9_network 75 = .ok (.invokevirtual 85, 3) := by decide +kernel
theorem dX9_network_78 : decode cX9_network 78 = .ok (.ireturn, 1) := by decide +kernel
theorem dX9_network_79 : decode cX9_network 79 = .ok (.aload_n 0, 1) := by decide +kernel
theorem dX9_network_80 : decode cX9_network 80 = .ok (.getfield 14, 3) := by decide +kernel
theorem dX9_network_83 : decode cX9_network 83 = .ok (.aload_n 0, 1) := by decide +kernel
theorem dX9_network_84 : decode cX9_network 84 = .ok (.getfield 14, 3) := by decide +kernel
theorem dX9_network_87 : decode cX9_network 87 = .ok (.getfield 79, 3) := by decide +kernel
theorem dX9_network_90 : decode cX9_network 90 = .ok (.invokevirtual 85, 3) := by decide +kernel
theorem dX9_network_93 : decode cX9_network 93 = .ok (.ireturn, 1) := by decide +kernel
theorem dX9_network_94 : decode cX9_network 94 = .ok (.aload_n 0, 1) := by decide +kernel
theorem dX9_network_95 : decode cX9_network 95 = .ok (.getfield 89, 3) := by decide +kernel
theorem dX9_network_98 : decode cX9_network 98 = .ok (.ifCond .eq 7, 3) := by decide +kernel
theorem dX9_network_101 : decode cX9_network 101 = .ok (.iconst 1, 1) := by decide +kernel
theorem dX9_network_102 : decode cX9_network 102 = .ok (.goto 4, 3) := by decide +kernel
theorem dX9_network_105 : decode cX9_network 105 = .ok (.iconst 0, 1) := by decide +kernel
theorem dX9_network_106 : decode cX9_network 106 = .ok (.ireturn, 1) := by decide +kernel
theorem dX9_network_107 : decode cX9_network 107 = .ok (.sipush (-10002), 3) := by decide +kernel
theorem dX9_network_110 : decode cX9_network 110 = .ok (.ireturn, 1) := by decide +kernel
theorem dX9_solve_0 : decode cX9_solve 0 = .ok (.iload_n 1, 1) := by decide +kernel
theorem dX9_solve_1 : decode cX9_solve 1 = .ok (.iload_n 2, 1) := by decide +kernel
theorem dX9_solve_2 : decode cX9_solve 2 = .ok (.invokestatic 93, 3) := by decide +kernel
theorem dX9_solve_5 : decode cX9_solve 5 = .ok (.ifCond .ne 7, 3) := by decide +kernel
theorem dX9_solve_8 : decode cX9_solve 8 = .ok (.sipush (-10002), 3) := by decide +kernel
theorem dX9_solve_11 : decode cX9_solve 11 = .ok (.ireturn, 1) := by decide +kernel
theorem dX9_solve_12 : decode cX9_solve 12 = .ok (.aload_n 0, 1) := by decide +kernel
theorem dX9_solve_13 : decode cX9_solve 13 = .ok (.getfield 32, 3) := by decide +kernel
theorem dX9_solve_16 : decode cX9_solve 16 = .ok (.aload_n 0, 1) := by decide +kernel
theorem dX9_solve_17 : decode cX9_solve 17 = .ok (.getfield 14, 3) := by decide +kernel
theorem dX9_solve_20 : decode cX9_solve 20 = .ok (.iload_n 1, 1) := by decide +kernel
theorem dX9_solve_21 : decode cX9_solve 21 = .ok (.i2l, 1) := by decide +kernel
theorem dX9_solve_22 : decode cX9_solve 22 = .ok (.iload_n 2, 1) := by decide +kernel
theorem dX9_solve_23 : decode cX9_solve 23 = .ok (.i2l, 1) := by decide +kernel
theorem dX9_solve_24 : decode cX9_solve 24 = .ok (.invokevirtual 97, 3) := by decide +kernel
theorem dX9_solve_27 : decode cX9_solve 27 = .ok (.istore_n 3, 1) := by decide +kernel
theorem dX9_solve_28 : decode cX9_solve 28 = .ok (.iload_n 3, 1) := by decide +kernel
theorem dX9_solve_29 : decode cX9_solve 29 = .ok (.ifCond .eq 5, 3) := by decide +kernel
theorem dX9_solve_32 : decode cX9_solve 32 = .ok (.iload_n 3, 1) := by decide +kernel
theorem dX9_solve_33 : decode cX9_solve 33 = .ok (.ireturn, 1) := by decide +kernel
theorem dX9_solve_34 : decode cX9_solve 34 = .ok (.aload_n 0, 1) := by decide +kernel
theorem dX9_solve_35 : decode cX9_solve 35 = .ok (.getfield 32, 3) := by decide +kernel
theorem dX9_solve_38 : decode cX9_solve 38 = .ok (.getfield 101, 3) := by decide +kernel
theorem dX9_solve_41 : decode cX9_solve 41 = .ok (.invokevirtual 105, 3) := by decide +kernel
theorem dX9_solve_44 : decode cX9_solve 44 = .ok (.aload_n 0, 1) := by decide +kernel
theorem dX9_solve_45 : decode cX9_solve 45 = .ok (.getfield 32, 3) := by decide +kernel
theorem dX9_solve_48 : decode cX9_solve 48 = .ok (.astore 4, 2) := by decide +kernel
theorem dX9_solve_50 : decode cX9_solve 50 = .ok (.aload_n 0, 1) := by decide +kernel
theorem dX9_solve_51 : decode cX9_solve 51 = .ok (.aload_n 0, 1) := by decide +kernel
theorem dX9_solve_52 : decode cX9_solve 52 = .ok (.getfield 28, 3) := by decide +kernel
theorem dX9_solve_55 : decode cX9_solve 55 = .ok (.putfield 32, 3) := by decide +kernel
theorem dX9_solve_58 : decode cX9_solve 58 = .ok (.aload_n 0, 1) := by decide +kernel
theorem dX9_solve_59 : decode cX9_solve 59 = .ok (.aload 4, 2) := by decide +kernel
theorem dX9_solve_61 : decode cX9_solve 61 = .ok (.putfield 28, 3) := by decide +kernel
theorem dX9_solve_64 : decode cX9_solve 64 = .ok (.aload_n 0, 1) := by decide +kernel
theorem dX9_solve_65 : decode cX9_solve 65 = .ok (.iconst 1, 1) := by decide +kernel
theorem dX9_solve_66 : decode cX9_solve 66 = .ok (.putfield 89, 3) := by decide +kernel
theorem dX9_solve_69 : decode cX9_solve 69 = .ok (.aload_n 0, 1) := by decide +kernel
theorem dX9_solve_70 : decode cX9_solve 70 = .ok (.getfield 28, 3) := by decide +kernel
theorem dX9_solve_73 : decode cX9_solve 73 = .ok (.getfield 110, 3) := by decide +kernel
theorem dX9_solve_76 : decode cX9_solve 76 = .ok (.getfield 114, 3) := by decide +kernel
theorem dX9_solve_79 : decode cX9_solve 79 = .ok (.ireturn, 1) := by decide +kernel
theorem dX9_pivot_0 : decode cX9_pivot 0 = .ok (.aload_n 0, 1) := by decide +kernel
theorem dX9_pivot_1 : decode cX9_pivot 1 = .ok (.getfield 89, 3) := by decide +kernel
theorem dX9_pivot_4 : decode cX9_pivot 4 = .ok (.ifCond .ne 7, 3) := by decide +kernel
theorem dX9_pivot_7 : decode cX9_pivot 7 = .ok (.sipush (-10005), 3) := by decide +kernel
theorem dX9_pivot_10 : decode cX9_pivot 10 = .ok (.ireturn, 1) := by decide +kernel
theorem dX9_pivot_11 : decode cX9_pivot 11 = .ok (.iload_n 1, 1) := by decide +kernel
theorem dX9_pivot_12 : decode cX9_pivot 12 = .ok (.ifCond .ge 7, 3) := by decide +kernel
theorem dX9_pivot_15 : decode cX9_pivot 15 = .ok (.sipush (-10002), 3) := by decide +kernel
theorem dX9_pivot_18 : decode cX9_pivot 18 = .ok (.ireturn, 1) := by decide +kernel
theorem dX9_pivot_19 : decode cX9_pivot 19 = .ok (.iload_n 1, 1) := by decide +kernel
theorem dX9_pivot_20 : decode cX9_pivot 20 = .ok (.aload_n 0, 1) := by decide +kernel
theorem dX9_pivot_21 : decode cX9_pivot 21 = .ok (.getfield 28, 3) := by decide +kernel
theorem dX9_pivot_24 : decode cX9_pivot 24 = .ok (.getfield 110, 3) := by decide +kernel
theorem dX9_pivot_27 : decode cX9_pivot 27 = .ok (.getfield 114, 3) := by decide +kernel
theorem dX9_pivot_30 : decode cX9_pivot 30 = .ok (.if_icmp .lt 7, 3) := by decide +kernel
theorem dX9_pivot_33 : decode cX9_pivot 33 = .ok (.sipush (-10007), 3) := by decide +kernel
theorem dX9_pivot_36 : decode cX9_pivot 36 = .ok (.ireturn, 1) := by decide +kernel
theorem dX9_pivot_37 : decode cX9_pivot 37 = .ok (.iload_n 2, 1) := by decide +kernel
theorem dX9_pivot_38 : decode cX9_pivot 38 = .ok (.ifCond .eq 17, 3) := by decide +kernel
theorem dX9_pivot_41 : decode cX9_pivot 41 = .ok (.aload_n 0, 1) := by decide +kernel
theorem dX9_pivot_42 : decode cX9_pivot 42 = .ok (.getfield 28, 3) := by decide +kernel
theorem dX9_pivot_45 : decode cX9_pivot 45 = .ok (.getfield 119, 3) := by decide +kernel
theorem dX9_pivot_48 : decode cX9_pivot 48 = .ok (.iload_n 1, 1) := by decide +kernel
theorem dX9_pivot_49 : decode cX9_pivot 49 = .ok (.invokevirtual 122, 3) := by decide +kernel
theorem dX9_pivot_52 : decode cX9_pivot 52 = .ok (.goto 14, 3) := by decide +kernel
theorem dX9_pivot_55 : decode cX9_pivot 55 = .ok (.aload_n 0, 1) := by decide +kernel
theorem dX9_pivot_56 : decode cX9_pivot 56 = .ok (.getfield 28, 3) := by decide +kernel
theorem dX9_pivot_59 : decode cX9_pivot 59 = .ok (.getfield 110, 3) := by decide +kernel
theorem dX9_pivot_62 : decode cX9_pivot 62 = .ok (.iload_n 1, 1) := by decide +kernel
theorem dX9_pivot_63 : decode cX9_pivot 63 = .ok (.invokevirtual 122, 3) := by decide +kernel
theorem dX9_pivot_66 : decode cX9_pivot 66 = .ok (.invokestatic 126, 3) := by decide +kernel
theorem dX9_pivot_69 : decode cX9_pivot 69 = .ok (.ireturn, 1) := by decide +kernel
theorem dX9_objective_0 : decode cX9_objective 0 = .ok (.aload_n 0, 1) := by decide +kernel
theorem dX9_objective_1 : decode cX9_objective 1 = .ok (.getfield 89, 3) := by decide +kernel
theorem dX9_objective_4 : decode cX9_objective 4 = .ok (.ifCond .eq 27, 3) := by decide +kernel
theorem dX9_objective_7 : decode cX9_objective 7 = .ok (.aload_n 0, 1) := by decide +kernel
theorem dX9_objective_8 : decode cX9_objective 8 = .ok (.getfield 28, 3) := by decide +kernel
theorem dX9_objective_11 : decode cX9_objective 11 = .ok (.getfield 130, 3) := by decide +kernel
theorem dX9_objective_14 : decode cX9_objective 14 = .ok (.invokevirtual 133, 3) := by decide +kernel
theorem dX9_objective_17 : decode cX9_objective 17 = .ok (.aload_n 0, 1) := by decide +kernel
theorem dX9_objective_18 : decode cX9_objective 18 = .ok (.getfield 28, 3) := by decide +kernel
theorem dX9_objective_21 : decode cX9_objective 21 = .ok (.getfield 139, 3) := by decide +kernel
theorem dX9_objective_24 : decode cX9_objective 24 = .ok (.iload_n 1, 1) := by decide +kernel
theorem dX9_objective_25 : decode cX9_objective 25 = .ok (.invokestatic 143, 3) := by decide +kernel
theorem dX9_objective_28 : decode cX9_objective 28 = .ok (.goto 6, 3) := by decide +kernel
theorem dX9_objective_31 : decode cX9_objective 31 = .ok (.ldc2_w 147, 3) := by decide +kernel
theorem dX9_objective_34 : decode cX9_objective 34 = .ok (.lreturn, 1) := by decide +kernel
theorem dX9_flow_0 : decode cX9_flow 0 = .ok (.aload_n 0, 1) := by decide +kernel
theorem dX9_flow_1 : decode cX9_flow 1 = .ok (.getfield 14, 3) := by decide +kernel
theorem dX9_flow_4 : decode cX9_flow 4 = .ok (.iload_n 1, 1) := by decide +kernel
theorem dX9_flow_5 : decode cX9_flow 5 = .ok (.invokevirtual 73, 3) := by decide +kernel
theorem dX9_flow_8 : decode cX9_flow 8 = .ok (.ifCond .eq 10, 3) := by decide +kernel
theorem dX9_flow_11 : decode cX9_flow 11 = .ok (.aload_n 0, 1) := by decide +kernel
theorem dX9_flow_12 : decode cX9_flow 12 = .ok (.getfield 89, 3) := by decide +kernel
theorem dX9_flow_15 : decode cX9_flow 15 = .ok (.ifCond .ne 7, 3) := by decide +kernel
theorem dX9_flow_18 : decode cX9_flow 18 = .ok (.ldc2_w 147, 3) := by decide +kernel
theorem dX9_flow_21 : decode cX9_flow 21 = .ok (.lreturn, 1) := by decide +kernel
theorem dX9_flow_22 : decode cX9_flow 22 = .ok (.aload_n 0, 1) := by decide +kernel
theorem dX9_flow_23 : decode cX9_flow 23 = .ok (.getfield 28, 3) := by decide +kernel
theorem dX9_flow_26 : decode cX9_flow 26 = .ok (.getfield 130, 3) := by decide +kernel
theorem dX9_flow_29 : decode cX9_flow 29 = .ok (.getfield 149, 3) := by decide +kernel
theorem dX9_flow_32 : decode cX9_flow 32 = .ok (.iload_n 1, 1) := by decide +kernel
theorem dX9_flow_33 : decode cX9_flow 33 = .ok (.laload, 1) := by decide +kernel
theorem dX9_flow_34 : decode cX9_flow 34 = .ok (.aload_n 0, 1) := by decide +kernel
theorem dX9_flow_35 : decode cX9_flow 35 = .ok (.getfield 28, 3) := by decide +kernel
theorem dX9_flow_38 : decode cX9_flow 38 = .ok (.getfield 153, 3) := by decide +kernel
theorem dX9_flow_41 : decode cX9_flow 41 = .ok (.iconst 1, 1) := by decide +kernel
theorem dX9_flow_42 : decode cX9_flow 42 = .ok (.if_icmp .ne 13, 3) := by decide +kernel
theorem dX9_flow_45 : decode cX9_flow 45 = .ok (.aload_n 0, 1) := by decide +kernel
theorem dX9_flow_46 : decode cX9_flow 46 = .ok (.getfield 28, 3) := by decide +kernel
theorem dX9_flow_49 : decode cX9_flow 49 = .ok (.getfield 139, 3) := by decide +kernel
theorem dX9_flow_52 : decode cX9_flow 52 = .ok (.goto 4, 3) := by decide +kernel
theorem dX9_flow_55 : decode cX9_flow 55 = .ok (.lconst 1, 1) := by decide +kernel
theorem dX9_flow_56 : decode cX9_flow 56 = .ok (.iload_n 2, 1) := by decide +kernel
theorem dX9_flow_57 : decode cX9_flow 57 = .ok (.invokestatic 143, 3) := by decide +kernel
theorem dX9_flow_60 : decode cX9_flow 60 = .ok (.lreturn, 1) := by decide +kernel
theorem dX9_reducedCost_0 : decode cX9_reducedCost 0 = .ok (.aload_n 0, 1) := by decide +kernel
theorem dX9_reducedCost_1 : decode cX9_reducedCost 1 = .ok (.getfield 14, 3) := by decide +kernel
theorem dX9_reducedCost_4 : decode cX9_reducedCost 4 = .ok (.iload_n 1, 1) := by decide +kernel
theorem dX9_reducedCost_5 : decode cX9_reducedCost 5 = .ok (.invokevirtual 73, 3) := by decide +kernel
theorem dX9_reducedCost_8 : decode cX9_reducedCost 8 = .ok (.ifCond .eq 21, 3) := by decide +kernel
theorem dX9_reducedCost_11 : decode cX9_reducedCost 11 = .ok (.aload_n 0, 1) := by decide +kernel
theorem dX9_reducedCost_12 : decode cX9_reducedCost 12 = .ok (.getfield 89, 3) := by decide +kernel
theorem dX9_reducedCost_15 : decode cX9_reducedCost 15 = .ok (.ifCond .eq 14, 3) := by decide +kernel
theorem dX9_reducedCost_18 : decode cX9_reducedCost 18 = .ok (.aload_n 0, 1) := by decide +kernel
theorem dX9_reducedCost_19 : decode cX9_reducedCost 19 = .ok (.getfield 28, 3) := by decide +kernel
theorem dX9_reducedCost_22 : decode cX9_reducedCost 22 = .ok (.iload_n 1, 1) := by decide +kernel
theorem dX9_reducedCost_23 : decode cX9_reducedCost 23 = .ok (.invokevirtual 154, 3) := by decide +kernel
theorem dX9_reducedCost_26 : decode cX9_reducedCost 26 = .ok (.goto 6, 3) := by decide +kernel
theorem dX9_reducedCost_29 : decode cX9_reducedCost 29 = .ok (.ldc2_w 147, 3) := by decide +kernel
theorem dX9_reducedCost_32 : decode cX9_reducedCost 32 = .ok (.lreturn, 1) := by decide +kernel
theorem dX9_potential_0 : decode cX9_potential 0 = .ok (.aload_n 0, 1) := by decide +kernel
theorem dX9_potential_1 : decode cX9_potential 1 = .ok (.getfield 14, 3) := by decide +kernel
theorem dX9_potential_4 : decode cX9_potential 4 = .ok (.iload_n 1, 1) := by decide +kernel
theorem dX9_potential_5 : decode cX9_potential 5 = .ok (.invokevirtual 50, 3) := by decide +kernel
theorem dX9_potential_8 : decode cX9_potential 8 = .ok (.ifCond .eq 25, 3) := by decide +kernel
theorem dX9_potential_11 : decode cX9_potential 11 = .ok (.aload_n 0, 1) := by decide +kernel
theorem dX9_potential_12 : decode cX9_potential 12 = .ok (.getfield 89, 3) := by decide +kernel
theorem dX9_potential_15 : decode cX9_potential 15 = .ok (.ifCond .eq 18, 3) := by decide +kernel
theorem dX9_potential_18 : decode cX9_potential 18 = .ok (.aload_n 0, 1) := by decide +kernel
theorem dX9_potential_19 : decode cX9_potential 19 = .ok (.getfield 28, 3) := by decide +kernel
theorem dX9_potential_22 : decode cX9_potential 22 = .ok (.getfield 101, 3) := by decide +kernel
theorem dX9_potential_25 : decode cX9_potential 25 = .ok (.getfield 157, 3) := by decide +kernel
theorem dX9_potential_28 : decode cX9_potential 28 = .ok (.iload_n 1, 1) := by decide +kernel
theorem dX9_potential_29 : decode cX9_potential 29 = .ok (.laload, 1) := by decide +kernel
theorem dX9_potential_30 : decode cX9_potential 30 = .ok (.goto 6, 3) := by decide +kernel
theorem dX9_potential_33 : decode cX9_potential 33 = .ok (.ldc2_w 147, 3) := by decide +kernel
theorem dX9_potential_36 : decode cX9_potential 36 = .ok (.lreturn, 1) := by decide +kernel
theorem dX9_bound_0 : decode cX9_bound 0 = .ok (.aload_n 0, 1) := by decide +kernel
theorem dX9_bound_1 : decode cX9_bound 1 = .ok (.getfield 14, 3) := by decide +kernel
theorem dX9_bound_4 : decode cX9_bound 4 = .ok (.iload_n 1, 1) := by decide +kernel
theorem dX9_bound_5 : decode cX9_bound 5 = .ok (.invokevirtual 73, 3) := by decide +kernel
theorem dX9_bound_8 : decode cX9_bound 8 = .ok (.ifCond .ne 7, 3) := by decide +kernel
theorem dX9_bound_11 : decode cX9_bound 11 = .ok (.sipush (-10001), 3) := by decide +kernel
theorem dX9_bound_14 : decode cX9_bound 14 = .ok (.ireturn, 1) := by decide +kernel
theorem dX9_bound_15 : decode cX9_bound 15 = .ok (.aload_n 0, 1) := by decide +kernel
theorem dX9_bound_16 : decode cX9_bound 16 = .ok (.getfield 89, 3) := by decide +kernel
theorem dX9_bound_19 : decode cX9_bound 19 = .ok (.ifCond .eq 18, 3) := by decide +kernel
theorem dX9_bound_22 : decode cX9_bound 22 = .ok (.aload_n 0, 1) := by decide +kernel
theorem dX9_bound_23 : decode cX9_bound 23 = .ok (.getfield 28, 3) := by decide +kernel
theorem dX9_bound_26 : decode cX9_bound 26 = .ok (.getfield 130, 3) := by decide +kernel
theorem dX9_bound_29 : decode cX9_bound 29 = .ok (.getfield 160, 3) := by decide +kernel
theorem dX9_bound_32 : decode cX9_bound 32 = .ok (.iload_n 1, 1) := by decide +kernel
theorem dX9_bound_33 : decode cX9_bound 33 = .ok (.iaload, 1) := by decide +kernel
theorem dX9_bound_34 : decode cX9_bound 34 = .ok (.goto 6, 3) := by decide +kernel
theorem dX9_bound_37 : decode cX9_bound 37 = .ok (.sipush (-10005), 3) := by decide +kernel
theorem dX9_bound_40 : decode cX9_bound 40 = .ok (.ireturn, 1) := by decide +kernel
theorem dX9_tree_0 : decode cX9_tree 0 = .ok (.aload_n 0, 1) := by decide +kernel
theorem dX9_tree_1 : decode cX9_tree 1 = .ok (.getfield 14, 3) := by decide +kernel
theorem dX9_tree_4 : decode cX9_tree 4 = .ok (.iload_n 1, 1) := by decide +kernel
theorem dX9_tree_5 : decode cX9_tree 5 = .ok (.invokevirtual 50, 3) := by decide +kernel
theorem dX9_tree_8 : decode cX9_tree 8 = .ok (.ifCond .ne 7, 3) := by decide +kernel
theorem dX9_tree_11 : decode cX9_tree 11 = .ok (.sipush (-10001), 3) := by decide +kernel
theorem dX9_tree_14 : decode cX9_tree 14 = .ok (.ireturn, 1) := by decide +kernel
theorem dX9_tree_15 : decode cX9_tree 15 = .ok (.aload_n 0, 1) := by decide +kernel
theorem dX9_tree_16 : decode cX9_tree 16 = .ok (.getfield 89, 3) := by decide +kernel
theorem dX9_tree_19 : decode cX9_tree 19 = .ok (.ifCond .ne 7, 3) := by decide +kernel
theorem dX9_tree_22 : decode cX9_tree 22 = .ok (.sipush (-10005), 3) := by decide +kernel
theorem dX9_tree_25 : decode cX9_tree 25 = .ok (.ireturn, 1) := by decide +kernel
theorem dX9_tree_26 : decode cX9_tree 26 = .ok (.iload_n 2, 1) := by decide +kernel
theorem dX9_tree_27 : decode cX9_tree 27 = .ok (.tableswitch 85 0 3 #[29, 42, 59, 72], 29) := by decide +kernel
theorem dX9_tree_56 : decode cX9_tree 56 = .ok (.aload_n 0, 1) := by decide +kernel
theorem dX9_tree_57 : decode cX9_tree 57 = .ok (.getfield 28, 3) := by decide +kernel
theorem dX9_tree_60 : decode cX9_tree 60 = .ok (.getfield 101, 3) := by decide +kernel
theorem dX9_tree_63 : decode cX9_tree 63 = .ok (.getfield 163, 3) := by decide +kernel
theorem dX9_tree_66 : decode cX9_tree 66 = .ok (.iload_n 1, 1) := by decide +kernel
theorem dX9_tree_67 : decode cX9_tree 67 = .ok (.iaload, 1) := by decide +kernel
theorem dX9_tree_68 : decode cX9_tree 68 = .ok (.ireturn, 1) := by decide +kernel
theorem dX9_tree_69 : decode cX9_tree 69 = .ok (.aload_n 0, 1) := by decide +kernel
theorem dX9_tree_70 : decode cX9_tree 70 = .ok (.getfield 28, 3) := by decide +kernel
theorem dX9_tree_73 : decode cX9_tree 73 = .ok (.getfield 101, 3) := by decide +kernel
theorem dX9_tree_76 : decode cX9_tree 76 = .ok (.getfield 166, 3) := by decide +kernel
theorem dX9_tree_79 : decode cX9_tree 79 = .ok (.iload_n 1, 1) := by decide +kernel
theorem dX9_tree_80 : decode cX9_tree 80 = .ok (.iaload, 1) := by decide +kernel
theorem dX9_tree_81 : decode cX9_tree 81 = .ok (.i2l, 1) := by decide +kernel
theorem dX9_tree_82 : decode cX9_tree 82 = .ok (.invokestatic 126, 3) := by decide +kernel
theorem dX9_tree_85 : decode cX9_tree 85 = .ok (.ireturn, 1) := by decide +kernel
theorem dX9_tree_86 : decode cX9_tree 86 = .ok (.aload_n 0, 1) := by decide +kernel
theorem dX9_tree_87 : decode cX9_tree 87 = .ok (.getfield 28, 3) := by decide +kernel
theorem dX9_tree_90 : decode cX9_tree 90 = .ok (.getfield 101, 3) := by decide +kernel
theorem dX9_tree_93 : decode cX9_tree 93 = .ok (.getfield 169, 3) := by decide +kernel
theorem dX9_tree_96 : decode cX9_tree 96 = .ok (.iload_n 1, 1) := by decide +kernel
theorem dX9_tree_97 : decode cX9_tree 97 = .ok (.iaload, 1) := by decide +kernel
theorem dX9_tree_98 : decode cX9_tree 98 = .ok (.ireturn, 1) := by decide +kernel
theorem dX9_tree_99 : decode cX9_tree 99 = .ok (.aload_n 0, 1) := by decide +kernel
theorem dX9_tree_100 : decode cX9_tree 100 = .ok (.getfield 28, 3) := by decide +kernel
theorem dX9_tree_103 : decode cX9_tree 103 = .ok (.getfield 101, 3) := by decide +kernel
theorem dX9_tree_106 : decode cX9_tree 106 = .ok (.getfield 172, 3) := by decide +kernel
theorem dX9_tree_109 : decode cX9_tree 109 = .ok (.iload_n 1, 1) := by decide +kernel
theorem dX9_tree_110 : decode cX9_tree 110 = .ok (.iaload, 1) := by decide +kernel
theorem dX9_tree_111 : decode cX9_tree 111 = .ok (.ireturn, 1) := by decide +kernel
theorem dX9_tree_112 : decode cX9_tree 112 = .ok (.sipush (-10002), 3) := by decide +kernel
theorem dX9_tree_115 : decode cX9_tree 115 = .ok (.ireturn, 1) := by decide +kernel
theorem dX9_preorder_0 : decode cX9_preorder 0 = .ok (.aload_n 0, 1) := by decide +kernel
theorem dX9_preorder_1 : decode cX9_preorder 1 = .ok (.getfield 89, 3) := by decide +kernel
theorem dX9_preorder_4 : decode cX9_preorder 4 = .ok (.ifCond .ne 7, 3) := by decide +kernel
theorem dX9_preorder_7 : decode cX9_preorder 7 = .ok (.sipush (-10005), 3) := by decide +kernel
theorem dX9_preorder_10 : decode cX9_preorder 10 = .ok (.ireturn, 1) := by decide +kernel
theorem dX9_preorder_11 : decode cX9_preorder 11 = .ok (.iload_n 1, 1) := by decide +kernel
theorem dX9_preorder_12 : decode cX9_preorder 12 = .ok (.ifCond .ge 7, 3) := by decide +kernel
theorem dX9_preorder_15 : decode cX9_preorder 15 = .ok (.sipush (-10002), 3) := by decide +kernel
theorem dX9_preorder_18 : decode cX9_preorder 18 = .ok (.ireturn, 1) := by decide +kernel
theorem dX9_preorder_19 : decode cX9_preorder 19 = .ok (.iload_n 1, 1) := by decide +kernel
theorem dX9_preorder_20 : decode cX9_preorder 20 = .ok (.aload_n 0, 1) := by decide +kernel
theorem dX9_preorder_21 : decode cX9_preorder 21 = .ok (.getfield 14, 3) := by decide +kernel
theorem dX9_preorder_24 : decode cX9_preorder 24 = .ok (.getfield 39, 3) := by decide +kernel
theorem dX9_preorder_27 : decode cX9_preorder 27 = .ok (.if_icmp .gt 18, 3) := by decide +kernel
theorem dX9_preorder_30 : decode cX9_preorder 30 = .ok (.aload_n 0, 1) := by decide +kernel
theorem dX9_preorder_31 : decode cX9_preorder 31 = .ok (.getfield 28, 3) := by decide +kernel
theorem dX9_preorder_34 : decode cX9_preorder 34 = .ok (.getfield 101, 3) := by decide +kernel
theorem dX9_preorder_37 : decode cX9_preorder 37 = .ok (.getfield 174, 3) := by decide +kernel
theorem dX9_preorder_40 : decode cX9_preorder 40 = .ok (.iload_n 1, 1) := by decide +kernel
theorem dX9_preorder_41 : decode cX9_preorder 41 = .ok (.iaload, 1) := by decide +kernel
theorem dX9_preorder_42 : decode cX9_preorder 42 = .ok (.goto 6, 3) := by decide +kernel
theorem dX9_preorder_45 : decode cX9_preorder 45 = .ok (.sipush (-10007), 3) := by decide +kernel
theorem dX9_preorder_48 : decode cX9_preorder 48 = .ok (.ireturn, 1) := by decide +kernel
theorem dX9_limit_0 : decode cX9_limit 0 = .ok (.aload_n 0, 1) := by decide +kernel
theorem dX9_limit_1 : decode cX9_limit 1 = .ok (.getfield 89, 3) := by decide +kernel
theorem dX9_limit_4 : decode cX9_limit 4 = .ok (.ifCond .eq 19, 3) := by decide +kernel
theorem dX9_limit_7 : decode cX9_limit 7 = .ok (.aload_n 0, 1) := by decide +kernel
theorem dX9_limit_8 : decode cX9_limit 8 = .ok (.getfield 28, 3) := by decide +kernel
theorem dX9_limit_11 : decode cX9_limit 11 = .ok (.aload_n 0, 1) := by decide +kernel
theorem dX9_limit_12 : decode cX9_limit 12 = .ok (.getfield 14, 3) := by decide +kernel
theorem dX9_limit_15 : decode cX9_limit 15 = .ok (.iload_n 1, 1) := by decide +kernel
theorem dX9_limit_16 : decode cX9_limit 16 = .ok (.iload_n 2, 1) := by decide +kernel
theorem dX9_limit_17 : decode cX9_limit 17 = .ok (.invokevirtual 177, 3) := by decide +kernel
theorem dX9_limit_20 : decode cX9_limit 20 = .ok (.goto 6, 3) := by decide +kernel
theorem dX9_limit_23 : decode cX9_limit 23 = .ok (.ldc2_w 147, 3) := by decide +kernel
theorem dX9_limit_26 : decode cX9_limit 26 = .ok (.lreturn, 1) := by decide +kernel
theorem dX9_value_0 : decode cX9_value 0 = .ok (.iload_n 1, 1) := by decide +kernel
theorem dX9_value_1 : decode cX9_value 1 = .ok (.iload_n 2, 1) := by decide +kernel
theorem dX9_value_2 : decode cX9_value 2 = .ok (.invokestatic 93, 3) := by decide +kernel
theorem dX9_value_5 : decode cX9_value 5 = .ok (.ifCond .eq 21, 3) := by decide +kernel
theorem dX9_value_8 : decode cX9_value 8 = .ok (.aload_n 0, 1) := by decide +kernel
theorem dX9_value_9 : decode cX9_value 9 = .ok (.getfield 32, 3) := by decide +kernel
theorem dX9_value_12 : decode cX9_value 12 = .ok (.aload_n 0, 1) := by decide +kernel
theorem dX9_value_13 : decode cX9_value 13 = .ok (.getfield 14, 3) := by decide +kernel
theorem dX9_value_16 : decode cX9_value 16 = .ok (.iload_n 1, 1) := by decide +kernel
theorem dX9_value_17 : decode cX9_value 17 = .ok (.i2l, 1) := by decide +kernel
theorem dX9_value_18 : decode cX9_value 18 = .ok (.iload_n 2, 1) := by decide +kernel
theorem dX9_value_19 : decode cX9_value 19 = .ok (.i2l, 1) := by decide +kernel
theorem dX9_value_20 : decode cX9_value 20 = .ok (.invokevirtual 97, 3) := by decide +kernel
theorem dX9_value_23 : decode cX9_value 23 = .ok (.ifCond .eq 7, 3) := by decide +kernel
theorem dX9_value_26 : decode cX9_value 26 = .ok (.ldc2_w 147, 3) := by decide +kernel
theorem dX9_value_29 : decode cX9_value 29 = .ok (.lreturn, 1) := by decide +kernel
theorem dX9_value_30 : decode cX9_value 30 = .ok (.aload_n 0, 1) := by decide +kernel
theorem dX9_value_31 : decode cX9_value 31 = .ok (.getfield 32, 3) := by decide +kernel
theorem dX9_value_34 : decode cX9_value 34 = .ok (.getfield 130, 3) := by decide +kernel
theorem dX9_value_37 : decode cX9_value 37 = .ok (.invokevirtual 133, 3) := by decide +kernel
theorem dX9_value_40 : decode cX9_value 40 = .ok (.iload_n 2, 1) := by decide +kernel
theorem dX9_value_41 : decode cX9_value 41 = .ok (.i2l, 1) := by decide +kernel
theorem dX9_value_42 : decode cX9_value 42 = .ok (.iload_n 3, 1) := by decide +kernel
theorem dX9_value_43 : decode cX9_value 43 = .ok (.invokestatic 143, 3) := by decide +kernel
theorem dX9_value_46 : decode cX9_value 46 = .ok (.lreturn, 1) := by decide +kernel
theorem dX9_problem_0 : decode cX9_problem 0 = .ok (.iload_n 1, 1) := by decide +kernel
theorem dX9_problem_1 : decode cX9_problem 1 = .ok (.iload_n 2, 1) := by decide +kernel
theorem dX9_problem_2 : decode cX9_problem 2 = .ok (.invokestatic 93, 3) := by decide +kernel
theorem dX9_problem_5 : decode cX9_problem 5 = .ok (.ifCond .ne 7, 3) := by decide +kernel
theorem dX9_problem_8 : decode cX9_problem 8 = .ok (.sipush (-10002), 3) := by decide +kernel
theorem dX9_problem_11 : decode cX9_problem 11 = .ok (.ireturn, 1) := by decide +kernel
theorem dX9_problem_12 : decode cX9_problem 12 = .ok (.aload_n 0, 1) := by decide +kernel
theorem dX9_problem_13 : decode cX9_problem 13 = .ok (.getfield 32, 3) := by decide +kernel
theorem dX9_problem_16 : decode cX9_problem 16 = .ok (.aload_n 0, 1) := by decide +kernel
theorem dX9_problem_17 : decode cX9_problem 17 = .ok (.getfield 14, 3) := by decide +kernel
theorem dX9_problem_20 : decode cX9_problem 20 = .ok (.iload_n 1, 1) := by decide +kernel
theorem dX9_problem_21 : decode cX9_problem 21 = .ok (.i2l, 1) := by decide +kernel
theorem dX9_problem_22 : decode cX9_problem 22 = .ok (.iload_n 2, 1) := by decide +kernel
theorem dX9_problem_23 : decode cX9_problem 23 = .ok (.i2l, 1) := by decide +kernel
theorem dX9_problem_24 : decode cX9_problem 24 = .ok (.invokevirtual 97, 3) := by decide +kernel
theorem dX9_problem_27 : decode cX9_problem 27 = .ok (.istore_n 3, 1) := by decide +kernel
theorem dX9_problem_28 : decode cX9_problem 28 = .ok (.iload_n 3, 1) := by decide +kernel
theorem dX9_problem_29 : decode cX9_problem 29 = .ok (.ifCond .ne 9, 3) := by decide +kernel
theorem dX9_problem_32 : decode cX9_problem 32 = .ok (.sipush (-10007), 3) := by decide +kernel
theorem dX9_problem_35 : decode cX9_problem 35 = .ok (.goto 4, 3) := by decide +kernel
theorem dX9_problem_38 : decode cX9_problem 38 = .ok (.iload_n 3, 1) := by decide +kernel
theorem dX9_problem_39 : decode cX9_problem 39 = .ok (.ireturn, 1) := by decide +kernel
theorem dX9_breakpoints_0 : decode cX9_breakpoints 0 = .ok (.iload_n 1, 1) := by decide +kernel
theorem dX9_breakpoints_1 : decode cX9_breakpoints 1 = .ok (.iload_n 2, 1) := by decide +kernel
theorem dX9_breakpoints_2 : decode cX9_breakpoints 2 = .ok (.invokestatic 181, 3) := by decide +kernel
theorem dX9_breakpoints_5 : decode cX9_breakpoints 5 = .ok (.ifCond .ne 7, 3) := by decide +kernel
theorem dX9_breakpoints_8 : decode cX9_breakpoints 8 = .ok (.sipush (-10002), 3) := by decide +kernel
theorem dX9_breakpoints_11 : decode cX9_breakpoints 11 = .ok (.ireturn, 1) := by decide +kernel
theorem dX9_breakpoints_12 : decode cX9_breakpoints 12 = .ok (.aload_n 0, 1) := by decide +kernel
theorem dX9_breakpoints_13 : decode cX9_breakpoints 13 = .ok (.getfield 21, 3) := by decide +kernel
theorem dX9_breakpoints_16 : decode cX9_breakpoints 16 = .ok (.aload_n 0, 1) := by decide +kernel
theorem dX9_breakpoints_17 : decode cX9_breakpoints 17 = .ok (.getfield 14, 3) := by decide +kernel
theorem dX9_breakpoints_20 : decode cX9_breakpoints 20 = .ok (.aload_n 0, 1) := by decide +kernel
theorem dX9_breakpoints_21 : decode cX9_breakpoints 21 = .ok (.getfield 32, 3) := by decide +kernel
theorem dX9_breakpoints_24 : decode cX9_breakpoints 24 = .ok (.iload_n 1, 1) := by decide +kernel
theorem dX9_breakpoints_25 : decode cX9_breakpoints 25 = .ok (.iload_n 2, 1) := by decide +kernel
theorem dX9_breakpoints_26 : decode cX9_breakpoints 26 = .ok (.invokevirtual 184, 3) := by decide +kernel
theorem dX9_breakpoints_29 : decode cX9_breakpoints 29 = .ok (.istore_n 3, 1) := by decide +kernel
theorem dX9_breakpoints_30 : decode cX9_breakpoints 30 = .ok (.iload_n 3, 1) := by decide +kernel
theorem dX9_breakpoints_31 : decode cX9_breakpoints 31 = .ok (.ifCond .ne 16, 3) := by decide +kernel
theorem dX9_breakpoints_34 : decode cX9_breakpoints 34 = .ok (.aload_n 0, 1) := by decide +kernel
theorem dX9_breakpoints_35 : decode cX9_breakpoints 35 = .ok (.getfield 21, 3) := by decide +kernel
theorem dX9_breakpoints_38 : decode cX9_breakpoints 38 = .ok (.getfield 188, 3) := by decide +kernel
theorem dX9_breakpoints_41 : decode cX9_breakpoints 41 = .ok (.getfield 114, 3) := by decide +kernel
theorem dX9_breakpoints_44 : decode cX9_breakpoints 44 = .ok (.goto 4, 3) := by decide +kernel
theorem dX9_breakpoints_47 : decode cX9_breakpoints 47 = .ok (.iload_n 3, 1) := by decide +kernel
theorem dX9_breakpoints_48 : decode cX9_breakpoints 48 = .ok (.ireturn, 1) := by decide +kernel
theorem dX9_breakpoint_0 : decode cX9_breakpoint 0 = .ok (.iload_n 1, 1) := by decide +kernel
theorem dX9_breakpoint_1 : decode cX9_breakpoint 1 = .ok (.iload_n 2, 1) := by decide +kernel
theorem dX9_breakpoint_2 : decode cX9_breakpoint 2 = .ok (.invokestatic 181, 3) := by decide +kernel
theorem dX9_breakpoint_5 : decode cX9_breakpoint 5 = .ok (.ifCond .eq 23, 3) := by decide +kernel
theorem dX9_breakpoint_8 : decode cX9_breakpoint 8 = .ok (.aload_n 0, 1) := by decide +kernel
theorem dX9_breakpoint_9 : decode cX9_breakpoint 9 = .ok (.getfield 21, 3) := by decide +kernel
theorem dX9_breakpoint_12 : decode cX9_breakpoint 12 = .ok (.aload_n 0, 1) := by decide +kernel
theorem dX9_breakpoint_13 : decode cX9_breakpoint 13 = .ok (.getfield 14, 3) := by decide +kernel
theorem dX9_breakpoint_16 : decode cX9_breakpoint 16 = .ok (.aload_n 0, 1) := by decide +kernel
theorem dX9_breakpoint_17 : decode cX9_breakpoint 17 = .ok (.getfield 32, 3) := by decide +kernel
theorem dX9_breakpoint_20 : decode cX9_breakpoint 20 = .ok (.iload_n 1, 1) := by decide +kernel
theorem dX9_breakpoint_21 : decode cX9_breakpoint 21 = .ok (.iload_n 2, 1) := by decide +kernel
theorem dX9_breakpoint_22 : decode cX9_breakpoint 22 = .ok (.invokevirtual 184, 3) := by decide +kernel
theorem dX9_breakpoint_25 : decode cX9_breakpoint 25 = .ok (.ifCond .eq 7, 3) := by decide +kernel
theorem dX9_breakpoint_28 : decode cX9_breakpoint 28 = .ok (.ldc2_w 147, 3) := by decide +kernel
theorem dX9_breakpoint_31 : decode cX9_breakpoint 31 = .ok (.lreturn, 1) := by decide +kernel
theorem dX9_breakpoint_32 : decode cX9_breakpoint 32 = .ok (.iload 4, 2) := by decide +kernel
theorem dX9_breakpoint_34 : decode cX9_breakpoint 34 = .ok (.ifCond .eq 17, 3) := by decide +kernel
theorem dX9_breakpoint_37 : decode cX9_breakpoint 37 = .ok (.aload_n 0, 1) := by decide +kernel
theorem dX9_breakpoint_38 : decode cX9_breakpoint 38 = .ok (.getfield 21, 3) := by decide +kernel
theorem dX9_breakpoint_41 : decode cX9_breakpoint 41 = .ok (.getfield 191, 3) := by decide +kernel
theorem dX9_breakpoint_44 : decode cX9_breakpoint 44 = .ok (.iload_n 3, 1) := by decide +kernel
theorem dX9_breakpoint_45 : decode cX9_breakpoint 45 = .ok (.invokevirtual 122, 3) := by decide +kernel
theorem dX9_breakpoint_48 : decode cX9_breakpoint 48 = .ok (.goto 14, 3) := by decide +kernel
theorem dX9_breakpoint_51 : decode cX9_breakpoint 51 = .ok (.aload_n 0, 1) := by decide +kernel
theorem dX9_breakpoint_52 : decode cX9_breakpoint 52 = .ok (.getfield 21, 3) := by decide +kernel
theorem dX9_breakpoint_55 : decode cX9_breakpoint 55 = .ok (.getfield 188, 3) := by decide +kernel
theorem dX9_breakpoint_58 : decode cX9_breakpoint 58 = .ok (.iload_n 3, 1) := by decide +kernel
theorem dX9_breakpoint_59 : decode cX9_breakpoint 59 = .ok (.invokevirtual 122, 3) := by decide +kernel
theorem dX9_breakpoint_62 : decode cX9_breakpoint 62 = .ok (.lreturn, 1) := by decide +kernel
theorem dX9_slope_0 : decode cX9_slope 0 = .ok (.iload_n 1, 1) := by decide +kernel
theorem dX9_slope_1 : decode cX9_slope 1 = .ok (.iload_n 2, 1) := by decide +kernel
theorem dX9_slope_2 : decode cX9_slope 2 = .ok (.invokestatic 181, 3) := by decide +kernel
theorem dX9_slope_5 : decode cX9_slope 5 = .ok (.ifCond .eq 23, 3) := by decide +kernel
theorem dX9_slope_8 : decode cX9_slope 8 = .ok (.aload_n 0, 1) := by decide +kernel
theorem dX9_slope_9 : decode cX9_slope 9 = .ok (.getfield 21, 3) := by decide +kernel
theorem dX9_slope_12 : decode cX9_slope 12 = .ok (.aload_n 0, 1) := by decide +kernel
theorem dX9_slope_13 : decode cX9_slope 13 = .ok (.getfield 14, 3) := by decide +kernel
theorem dX9_slope_16 : decode cX9_slope 16 = .ok (.aload_n 0, 1) := by decide +kernel
theorem dX9_slope_17 : decode cX9_slope 17 = .ok (.getfield 32, 3) := by decide +kernel
theorem dX9_slope_20 : decode cX9_slope 20 = .ok (.iload_n 1, 1) := by decide +kernel
theorem dX9_slope_21 : decode cX9_slope 21 = .ok (.iload_n 2, 1) := by decide +kernel
theorem dX9_slope_22 : decode cX9_slope 22 = .ok (.invokevirtual 184, 3) := by decide +kernel
theorem dX9_slope_25 : decode cX9_slope 25 = .ok (.ifCond .eq 7, 3) := by decide +kernel
theorem dX9_slope_28 : decode cX9_slope 28 = .ok (.ldc2_w 147, 3) := by decide +kernel
theorem dX9_slope_31 : decode cX9_slope 31 = .ok (.lreturn, 1) := by decide +kernel
theorem dX9_slope_32 : decode cX9_slope 32 = .ok (.aload_n 0, 1) := by decide +kernel
theorem dX9_slope_33 : decode cX9_slope 33 = .ok (.getfield 21, 3) := by decide +kernel
theorem dX9_slope_36 : decode cX9_slope 36 = .ok (.getfield 194, 3) := by decide +kernel
theorem dX9_slope_39 : decode cX9_slope 39 = .ok (.iload_n 3, 1) := by decide +kernel
theorem dX9_slope_40 : decode cX9_slope 40 = .ok (.invokevirtual 122, 3) := by decide +kernel
theorem dX9_slope_43 : decode cX9_slope 43 = .ok (.lreturn, 1) := by decide +kernel
theorem dX9_forget_0 : decode cX9_forget 0 = .ok (.aload_n 0, 1) := by decide +kernel
theorem dX9_forget_1 : decode cX9_forget 1 = .ok (.iconst 0, 1) := by decide +kernel
theorem dX9_forget_2 : decode cX9_forget 2 = .ok (.putfield 89, 3) := by decide +kernel
theorem dX9_forget_5 : decode cX9_forget 5 = .ok (.aload_n 0, 1) := by decide +kernel
theorem dX9_forget_6 : decode cX9_forget 6 = .ok (.getfield 21, 3) := by decide +kernel
theorem dX9_forget_9 : decode cX9_forget 9 = .ok (.iconst 0, 1) := by decide +kernel
theorem dX9_forget_10 : decode cX9_forget 10 = .ok (.putfield 197, 3) := by decide +kernel
theorem dX9_forget_13 : decode cX9_forget 13 = .ok (.return_, 1) := by decide +kernel
theorem dX9_isWithin_0 : decode cX9_isWithin 0 = .ok (.iload_n 0, 1) := by decide +kernel
theorem dX9_isWithin_1 : decode cX9_isWithin 1 = .ok (.iload_n 1, 1) := by decide +kernel
theorem dX9_isWithin_2 : decode cX9_isWithin 2 = .ok (.if_icmp .lt 12, 3) := by decide +kernel
theorem dX9_isWithin_5 : decode cX9_isWithin 5 = .ok (.iload_n 0, 1) := by decide +kernel
theorem dX9_isWithin_6 : decode cX9_isWithin 6 = .ok (.iload_n 2, 1) := by decide +kernel
theorem dX9_isWithin_7 : decode cX9_isWithin 7 = .ok (.if_icmp .gt 7, 3) := by decide +kernel
theorem dX9_isWithin_10 : decode cX9_isWithin 10 = .ok (.iconst 1, 1) := by decide +kernel
theorem dX9_isWithin_11 : decode cX9_isWithin 11 = .ok (.goto 4, 3) := by decide +kernel
theorem dX9_isWithin_14 : decode cX9_isWithin 14 = .ok (.iconst 0, 1) := by decide +kernel
theorem dX9_isWithin_15 : decode cX9_isWithin 15 = .ok (.ireturn, 1) := by decide +kernel
theorem dX9_isParameter_0 : decode cX9_isParameter 0 = .ok (.iload_n 0, 1) := by decide +kernel
theorem dX9_isParameter_1 : decode cX9_isParameter 1 = .ok (.sipush (-10000), 3) := by decide +kernel
theorem dX9_isParameter_4 : decode cX9_isParameter 4 = .ok (.sipush 10000, 3) := by decide +kernel
theorem dX9_isParameter_7 : decode cX9_isParameter 7 = .ok (.invokestatic 35, 3) := by decide +kernel
theorem dX9_isParameter_10 : decode cX9_isParameter 10 = .ok (.ifCond .eq 18, 3) := by decide +kernel
theorem dX9_isParameter_13 : decode cX9_isParameter 13 = .ok (.iload_n 1, 1) := by decide +kernel
theorem dX9_isParameter_14 : decode cX9_isParameter 14 = .ok (.iconst 1, 1) := by decide +kernel
theorem dX9_isParameter_15 : decode cX9_isParameter 15 = .ok (.sipush 1000, 3) := by decide +kernel
theorem dX9_isParameter_18 : decode cX9_isParameter 18 = .ok (.invokestatic 35, 3) := by decide +kernel
theorem dX9_isParameter_21 : decode cX9_isParameter 21 = .ok (.ifCond .eq 7, 3) := by decide +kernel
theorem dX9_isParameter_24 : decode cX9_isParameter 24 = .ok (.iconst 1, 1) := by decide +kernel
theorem dX9_isParameter_25 : decode cX9_isParameter 25 = .ok (.goto 4, 3) := by decide +kernel
theorem dX9_isParameter_28 : decode cX9_isParameter 28 = .ok (.iconst 0, 1) := by decide +kernel
theorem dX9_isParameter_29 : decode cX9_isParameter 29 = .ok (.ireturn, 1) := by decide +kernel
theorem dX9_isInterval_0 : decode cX9_isInterval 0 = .ok (.iload_n 0, 1) := by decide +kernel
theorem dX9_isInterval_1 : decode cX9_isInterval 1 = .ok (.sipush (-1000), 3) := by decide +kernel
theorem dX9_isInterval_4 : decode cX9_isInterval 4 = .ok (.sipush 1000, 3) := by decide +kernel
theorem dX9_isInterval_7 : decode cX9_isInterval 7 = .ok (.invokestatic 35, 3) := by decide +kernel
theorem dX9_isInterval_10 : decode cX9_isInterval 10 = .ok (.ifCond .eq 19, 3) := by decide +kernel
theorem dX9_isInterval_13 : decode cX9_isInterval 13 = .ok (.iload_n 1, 1) := by decide +kernel
theorem dX9_isInterval_14 : decode cX9_isInterval 14 = .ok (.iload_n 0, 1) := by decide +kernel
theorem dX9_isInterval_15 : decode cX9_isInterval 15 = .ok (.if_icmp .le 14, 3) := by decide +kernel
theorem dX9_isInterval_18 : decode cX9_isInterval 18 = .ok (.iload_n 1, 1) := by decide +kernel
theorem dX9_isInterval_19 : decode cX9_isInterval 19 = .ok (.sipush 1000, 3) := by decide +kernel
theorem dX9_isInterval_22 : decode cX9_isInterval 22 = .ok (.if_icmp .gt 7, 3) := by decide +kernel
theorem dX9_isInterval_25 : decode cX9_isInterval 25 = .ok (.iconst 1, 1) := by decide +kernel
theorem dX9_isInterval_26 : decode cX9_isInterval 26 = .ok (.goto 4, 3) := by decide +kernel
theorem dX9_isInterval_29 : decode cX9_isInterval 29 = .ok (.iconst 0, 1) := by decide +kernel
theorem dX9_isInterval_30 : decode cX9_isInterval 30 = .ok (.ireturn, 1) := by decide +kernel
theorem dX9_lowestTerms_0 : decode cX9_lowestTerms 0 = .ok (.lload_n 0, 1) := by decide +kernel
theorem dX9_lowestTerms_1 : decode cX9_lowestTerms 1 = .ok (.lload_n 2, 1) := by decide +kernel
theorem dX9_lowestTerms_2 : decode cX9_lowestTerms 2 = .ok (.invokestatic 204, 3) := by decide +kernel
theorem dX9_lowestTerms_5 : decode cX9_lowestTerms 5 = .ok (.lstore 5, 2) := by decide +kernel
theorem dX9_lowestTerms_7 : decode cX9_lowestTerms 7 = .ok (.lload 5, 2) := by decide +kernel
theorem dX9_lowestTerms_9 : decode cX9_lowestTerms 9 = .ok (.lconst 0, 1) := by decide +kernel
theorem dX9_lowestTerms_10 : decode cX9_lowestTerms 10 = .ok (.lcmp, 1) := by decide +kernel
theorem dX9_lowestTerms_11 : decode cX9_lowestTerms 11 = .ok (.ifCond .ne 7, 3) := by decide +kernel
theorem dX9_lowestTerms_14 : decode cX9_lowestTerms 14 = .ok (.ldc2_w 147, 3) := by decide +kernel
theorem dX9_lowestTerms_17 : decode cX9_lowestTerms 17 = .ok (.lreturn, 1) := by decide +kernel
theorem dX9_lowestTerms_18 : decode cX9_lowestTerms 18 = .ok (.iload 4, 2) := by decide +kernel
theorem dX9_lowestTerms_20 : decode cX9_lowestTerms 20 = .ok (.ifCond .eq 7, 3) := by decide +kernel
theorem dX9_lowestTerms_23 : decode cX9_lowestTerms 23 = .ok (.lload_n 2, 1) := by decide +kernel
theorem dX9_lowestTerms_24 : decode cX9_lowestTerms 24 = .ok (.goto 4, 3) := by decide +kernel
theorem dX9_lowestTerms_27 : decode cX9_lowestTerms 27 = .ok (.lload_n 0, 1) := by decide +kernel
theorem dX9_lowestTerms_28 : decode cX9_lowestTerms 28 = .ok (.lload 5, 2) := by decide +kernel
theorem dX9_lowestTerms_30 : decode cX9_lowestTerms 30 = .ok (.ldiv, 1) := by decide +kernel
theorem dX9_lowestTerms_31 : decode cX9_lowestTerms 31 = .ok (.lreturn, 1) := by decide +kernel
theorem dX9_commonDivisor_0 : decode cX9_commonDivisor 0 = .ok (.lload_n 0, 1) := by decide +kernel
theorem dX9_commonDivisor_1 : decode cX9_commonDivisor 1 = .ok (.invokestatic 208, 3) := by decide +kernel
theorem dX9_commonDivisor_4 : decode cX9_commonDivisor 4 = .ok (.lstore 4, 2) := by decide +kernel
theorem dX9_commonDivisor_6 : decode cX9_commonDivisor 6 = .ok (.lload_n 2, 1) := by decide +kernel
theorem dX9_commonDivisor_7 : decode cX9_commonDivisor 7 = .ok (.invokestatic 208, 3) := by decide +kernel
theorem dX9_commonDivisor_10 : decode cX9_commonDivisor 10 = .ok (.lstore 6, 2) := by decide +kernel
theorem dX9_commonDivisor_12 : decode cX9_commonDivisor 12 = .ok (.iconst 0, 1) := by decide +kernel
theorem dX9_commonDivisor_13 : decode cX9_commonDivisor 13 = .ok (.istore 8, 2) := by decide +kernel
theorem dX9_commonDivisor_15 : decode cX9_commonDivisor 15 = .ok (.lload 6, 2) := by decide +kernel
theorem dX9_commonDivisor_17 : decode cX9_commonDivisor 17 = .ok (.lconst 0, 1) := by decide +kernel
theorem dX9_commonDivisor_18 : decode cX9_commonDivisor 18 = .ok (.lcmp, 1) := by decide +kernel
theorem dX9_commonDivisor_19 : decode cX9_commonDivisor 19 = .ok (.ifCond .eq 32, 3) := by decide +kernel
theorem dX9_commonDivisor_22 : decode cX9_commonDivisor 22 = .ok (.iload 8, 2) := by decide +kernel
theorem dX9_commonDivisor_24 : decode cX9_commonDivisor 24 = .ok (.sipush 200, 3) := by decide +kernel
theorem dX9_commonDivisor_27 : decode cX9_commonDivisor 27 = .ok (.if_icmp .ge 24, 3) := by decide +kernel
theorem dX9_commonDivisor_30 : decode cX9_commonDivisor 30 = .ok (.lload 4, 2) := by decide +kernel
theorem dX9_commonDivisor_32 : decode cX9_commonDivisor 32 = .ok (.lload 6, 2) := by decide +kernel
theorem dX9_commonDivisor_34 : decode cX9_commonDivisor 34 = .ok (.lrem, 1) := by decide +kernel
theorem dX9_commonDivisor_35 : decode cX9_commonDivisor 35 = .ok (.lstore 9, 2) := by decide +kernel
theorem dX9_commonDivisor_37 : decode cX9_commonDivisor 37 = .ok (.lload 6, 2) := by decide +kernel
theorem dX9_commonDivisor_39 : decode cX9_commonDivisor 39 = .ok (.lstore 4, 2) := by decide +kernel
theorem dX9_commonDivisor_41 : decode cX9_commonDivisor 41 = .ok (.lload 9, 2) := by decide +kernel
theorem dX9_commonDivisor_43 : decode cX9_commonDivisor 43 = .ok (.lstore 6, 2) := by decide +kernel
theorem dX9_commonDivisor_45 : decode cX9_commonDivisor 45 = .ok (.iinc 8 1, 3) := by decide +kernel
theorem dX9_commonDivisor_48 : decode cX9_commonDivisor 48 = .ok (.goto (-33), 3) := by decide +kernel
theorem dX9_commonDivisor_51 : decode cX9_commonDivisor 51 = .ok (.lload 4, 2) := by decide +kernel
theorem dX9_commonDivisor_53 : decode cX9_commonDivisor 53 = .ok (.lreturn, 1) := by decide +kernel
theorem dJxa1e45_init_da8c8_0 : decode cJxa1e45_init_da8c8 0 = .ok (.aload_n 0, 1) := by decide +kernel
theorem dJxa1e45_init_da8c8_1 : decode cJxa1e45_init_da8c8 1 = .ok (.invokespecial 1, 3) := by decide +kernel
theorem dJxa1e45_init_da8c8_4 : decode cJxa1e45_init_da8c8 4 = .ok (.return_, 1) := by decide +kernel
theorem dJxc12de_init_da8c8_0 : decode cJxc12de_init_da8c8 0 = .ok (.aload_n 0, 1) := by decide +kernel
theorem dJxc12de_init_da8c8_1 : decode cJxc12de_init_da8c8 1 = .ok (.invokespecial 1, 3) := by decide +kernel
theorem dJxc12de_init_da8c8_4 : decode cJxc12de_init_da8c8 4 = .ok (.aload_n 0, 1) := by decide +kernel
theorem dJxc12de_init_da8c8_5 : decode cJxc12de_init_da8c8 5 = .ok (.iconst 0, 1) := by decide +kernel
theorem dJxc12de_init_da8c8_6 : decode cJxc12de_init_da8c8 6 = .ok (.putfield 7, 3) := by decide +kernel
theorem dJxc12de_init_da8c8_9 : decode cJxc12de_init_da8c8 9 = .ok (.return_, 1) := by decide +kernel
theorem dJx4a65c_init_da8c8_0 : decode cJx4a65c_init_da8c8 0 = .ok (.aload_n 0, 1) := by decide +kernel
theorem dJx4a65c_init_da8c8_1 : decode cJx4a65c_init_da8c8 1 = .ok (.invokespecial 1, 3) := by decide +kernel
theorem dJx4a65c_init_da8c8_4 : decode cJx4a65c_init_da8c8 4 = .ok (.aload_n 0, 1) := by decide +kernel
theorem dJx4a65c_init_da8c8_5 : decode cJx4a65c_init_da8c8 5 = .ok (.getstatic 39, 3) := by decide +kernel
theorem dJx4a65c_init_da8c8_8 : decode cJx4a65c_init_da8c8 8 = .ok (.putfield 9, 3) := by decide +kernel
theorem dJx4a65c_init_da8c8_11 : decode cJx4a65c_init_da8c8 11 = .ok (.return_, 1) := by decide +kernel
theorem dJx4a65c_grow_92f84_0 : decode cJx4a65c_grow_92f84 0 = .ok (.aload_n 0, 1) := by decide +kernel
theorem dJx4a65c_grow_92f84_1 : decode cJx4a65c_grow_92f84 1 = .ok (.getfield 9, 3) := by decide +kernel
theorem dJx4a65c_grow_92f84_4 : decode cJx4a65c_grow_92f84 4 = .ok (.arraylength, 1) := by decide +kernel
theorem dJx4a65c_grow_92f84_5 : decode cJx4a65c_grow_92f84 5 = .ok (.istore_n 2, 1) := by decide +kernel
theorem dJx4a65c_grow_92f84_6 : decode cJx4a65c_grow_92f84 6 = .ok (.iload_n 2, 1) := by decide +kernel
theorem dJx4a65c_grow_92f84_7 : decode cJx4a65c_grow_92f84 7 = .ok (.ifCond .gt 13, 3) := by decide +kernel
theorem dJx4a65c_grow_92f84_10 : decode cJx4a65c_grow_92f84 10 = .ok (.aload_n 0, 1) := by decide +kernel
theorem dJx4a65c_grow_92f84_11 : decode cJx4a65c_grow_92f84 11 = .ok (.getfield 9, 3) := by decide +kernel
theorem dJx4a65c_grow_92f84_14 : decode cJx4a65c_grow_92f84 14 = .ok (.getstatic 39, 3) := by decide +kernel
theorem dJx4a65c_grow_92f84_17 : decode cJx4a65c_grow_92f84 17 = .ok (.if_acmp .eq 28, 3) := by decide +kernel
theorem dJx4a65c_grow_92f84_20 : decode cJx4a65c_grow_92f84 20 = .ok (.iload_n 2, 1) := by decide +kernel
theorem dJx4a65c_grow_92f84_21 : decode cJx4a65c_grow_92f84 21 = .ok (.iload_n 1, 1) := by decide +kernel
theorem dJx4a65c_grow_92f84_22 : decode cJx4a65c_grow_92f84 22 = .ok (.iload_n 2, 1) := by decide +kernel
theorem dJx4a65c_grow_92f84_23 : decode cJx4a65c_grow_92f84 23 = .ok (.isub, 1) := by decide +kernel
theorem dJx4a65c_grow_92f84_24 : decode cJx4a65c_grow_92f84 24 = .ok (.iload_n 2, 1) := by decide +kernel
theorem dJx4a65c_grow_92f84_25 : decode cJx4a65c_grow_92f84 25 = .ok (.iconst 1, 1) := by decide +kernel
theorem dJx4a65c_grow_92f84_26 : decode cJx4a65c_grow_92f84 26 = .ok (.ishr, 1) := by decide +kernel
theorem dJx4a65c_grow_92f84_27 : decode cJx4a65c_grow_92f84 27 = .ok (.invokestatic 73, 3) := by decide +kernel
theorem dJx4a65c_grow_92f84_30 : decode cJx4a65c_grow_92f84 30 = .ok (.istore_n 3, 1) := by decide +kernel
theorem dJx4a65c_grow_92f84_31 : decode cJx4a65c_grow_92f84 31 = .ok (.aload_n 0, 1) := by decide +kernel
theorem dJx4a65c_grow_92f84_32 : decode cJx4a65c_grow_92f84 32 = .ok (.aload_n 0, 1) := by decide +kernel
theorem dJx4a65c_grow_92f84_33 : decode cJx4a65c_grow_92f84 33 = .ok (.getfield 9, 3) := by decide +kernel
theorem dJx4a65c_grow_92f84_36 : decode cJx4a65c_grow_92f84 36 = .ok (.iload_n 3, 1) := by decide +kernel
theorem dJx4a65c_grow_92f84_37 : decode cJx4a65c_grow_92f84 37 = .ok (.invokestatic 66, 3) := by decide +kernel
theorem dJx4a65c_grow_92f84_40 : decode cJx4a65c_grow_92f84 40 = .ok (.dup_x1, 1) := by decide +kernel
theorem dJx4a65c_grow_92f84_41 : decode cJx4a65c_grow_92f84 41 = .ok (.putfield 9, 3) := by decide +kernel
theorem dJx4a65c_grow_92f84_44 : decode cJx4a65c_grow_92f84 44 = .ok (.areturn, 1) := by decide +kernel
theorem dJx4a65c_grow_92f84_45 : decode cJx4a65c_grow_92f84 45 = .ok (.aload_n 0, 1) := by decide +kernel
theorem dJx4a65c_grow_92f84_46 : decode cJx4a65c_grow_92f84 46 = .ok (.bipush 10, 2) := by decide +kernel
theorem dJx4a65c_grow_92f84_48 : decode cJx4a65c_grow_92f84 48 = .ok (.iload_n 1, 1) := by decide +kernel
theorem dJx4a65c_grow_92f84_49 : decode cJx4a65c_grow_92f84 49 = .ok (.invokestatic 79, 3) := by decide +kernel
theorem dJx4a65c_grow_92f84_52 : decode cJx4a65c_grow_92f84 52 = .ok (.anewarray 7, 3) := by decide +kernel
theorem dJx4a65c_grow_92f84_55 : decode cJx4a65c_grow_92f84 55 = .ok (.dup_x1, 1) := by decide +kernel
theorem dJx4a65c_grow_92f84_56 : decode cJx4a65c_grow_92f84 56 = .ok (.putfield 9, 3) := by decide +kernel
theorem dJx4a65c_grow_92f84_59 : decode cJx4a65c_grow_92f84 59 = .ok (.areturn, 1) := by decide +kernel
theorem dJx4a65c_grow_d5877_0 : decode cJx4a65c_grow_d5877 0 = .ok (.aload_n 0, 1) := by decide +kernel
theorem dJx4a65c_grow_d5877_1 : decode cJx4a65c_grow_d5877 1 = .ok (.aload_n 0, 1) := by decide +kernel
theorem dJx4a65c_grow_d5877_2 : decode cJx4a65c_grow_d5877 2 = .ok (.getfield 48, 3) := by decide +kernel
theorem dJx4a65c_grow_d5877_5 : decode cJx4a65c_grow_d5877 5 = .ok (.iconst 1, 1) := by decide +kernel
theorem dJx4a65c_grow_d5877_6 : decode cJx4a65c_grow_d5877 6 = .ok (.iadd, 1) := by decide +kernel
theorem dJx4a65c_grow_d5877_7 : decode cJx4a65c_grow_d5877 7 = .ok (.invokevirtual 69, 3) := by decide +kernel
theorem dJx4a65c_grow_d5877_10 : decode cJx4a65c_grow_d5877 10 = .ok (.areturn, 1) := by decide +kernel
theorem dJx4a65c_size_8abf5_0 : decode cJx4a65c_size_8abf5 0 = .ok (.aload_n 0, 1) := by decide +kernel
theorem dJx4a65c_size_8abf5_1 : decode cJx4a65c_size_8abf5 1 = .ok (.getfield 48, 3) := by decide +kernel
theorem dJx4a65c_size_8abf5_4 : decode cJx4a65c_size_8abf5 4 = .ok (.ireturn, 1) := by decide +kernel
theorem dJx4a65c_elementData_915e3_0 : decode cJx4a65c_elementData_915e3 0 = .ok (.aload_n 0, 1) := by decide +kernel
theorem dJx4a65c_elementData_915e3_1 : decode cJx4a65c_elementData_915e3 1 = .ok (.getfield 9, 3) := by decide +kernel
theorem dJx4a65c_elementData_915e3_4 : decode cJx4a65c_elementData_915e3 4 = .ok (.iload_n 1, 1) := by decide +kernel
theorem dJx4a65c_elementData_915e3_5 : decode cJx4a65c_elementData_915e3 5 = .ok (.aaload, 1) := by decide +kernel
theorem dJx4a65c_elementData_915e3_6 : decode cJx4a65c_elementData_915e3 6 = .ok (.areturn, 1) := by decide +kernel
theorem dJx4a65c_get_915e3_0 : decode cJx4a65c_get_915e3 0 = .ok (.iload_n 1, 1) := by decide +kernel
theorem dJx4a65c_get_915e3_1 : decode cJx4a65c_get_915e3 1 = .ok (.aload_n 0, 1) := by decide +kernel
theorem dJx4a65c_get_915e3_2 : decode cJx4a65c_get_915e3 2 = .ok (.getfield 48, 3) := by decide +kernel
theorem dJx4a65c_get_915e3_5 : decode cJx4a65c_get_915e3 5 = .ok (.invokestatic 118, 3) := by decide +kernel
theorem dJx4a65c_get_915e3_8 : decode cJx4a65c_get_915e3 8 = .ok (.pop, 1) := by decide +kernel
theorem dJx4a65c_get_915e3_9 : decode cJx4a65c_get_915e3 9 = .ok (.aload_n 0, 1) := by decide +kernel
theorem dJx4a65c_get_915e3_10 : decode cJx4a65c_get_915e3 10 = .ok (.iload_n 1, 1) := by decide +kernel
theorem dJx4a65c_get_915e3_11 : decode cJx4a65c_get_915e3 11 = .ok (.invokevirtual 123, 3) := by decide +kernel
theorem dJx4a65c_get_915e3_14 : decode cJx4a65c_get_915e3 14 = .ok (.areturn, 1) := by decide +kernel
theorem dJx4a65c_add_72be8_0 : decode cJx4a65c_add_72be8 0 = .ok (.iload_n 3, 1) := by decide +kernel
theorem dJx4a65c_add_72be8_1 : decode cJx4a65c_add_72be8 1 = .ok (.aload_n 2, 1) := by decide +kernel
theorem dJx4a65c_add_72be8_2 : decode cJx4a65c_add_72be8 2 = .ok (.arraylength, 1) := by decide +kernel
theorem dJx4a65c_add_72be8_3 : decode cJx4a65c_add_72be8 3 = .ok (.if_icmp .ne 8, 3) := by decide +kernel
theorem dJx4a65c_add_72be8_6 : decode cJx4a65c_add_72be8 6 = .ok (.aload_n 0, 1) := by decide +kernel
theorem dJx4a65c_add_72be8_7 : decode cJx4a65c_add_72be8 7 = .ok (.invokevirtual 129, 3) := by decide +kernel
theorem dJx4a65c_add_72be8_10 : decode cJx4a65c_add_72be8 10 = .ok (.astore_n 2, 1) := by decide +kernel
theorem dJx4a65c_add_72be8_11 : decode cJx4a65c_add_72be8 11 = .ok (.aload_n 2, 1) := by decide +kernel
theorem dJx4a65c_add_72be8_12 : decode cJx4a65c_add_72be8 12 = .ok (.iload_n 3, 1) := by decide +kernel
theorem dJx4a65c_add_72be8_13 : decode cJx4a65c_add_72be8 13 = .ok (.aload_n 1, 1) := by decide +kernel
theorem dJx4a65c_add_72be8_14 : decode cJx4a65c_add_72be8 14 = .ok (.aastore, 1) := by decide +kernel
theorem dJx4a65c_add_72be8_15 : decode cJx4a65c_add_72be8 15 = .ok (.aload_n 0, 1) := by decide +kernel
theorem dJx4a65c_add_72be8_16 : decode cJx4a65c_add_72be8 16 = .ok (.iload_n 3, 1) := by decide +kernel
theorem dJx4a65c_add_72be8_17 : decode cJx4a65c_add_72be8 17 = .ok (.iconst 1, 1) := by decide +kernel
theorem dJx4a65c_add_72be8_18 : decode cJx4a65c_add_72be8 18 = .ok (.iadd, 1) := by decide +kernel
theorem dJx4a65c_add_72be8_19 : decode cJx4a65c_add_72be8 19 = .ok (.putfield 48, 3) := by decide +kernel
theorem dJx4a65c_add_72be8_22 : decode cJx4a65c_add_72be8 22 = .ok (.return_, 1) := by decide +kernel
theorem dJx4a65c_add_9ea2d_0 : decode cJx4a65c_add_9ea2d 0 = .ok (.aload_n 0, 1) := by decide +kernel
theorem dJx4a65c_add_9ea2d_1 : decode cJx4a65c_add_9ea2d 1 = .ok (.dup, 1) := by decide +kernel
theorem dJx4a65c_add_9ea2d_2 : decode cJx4a65c_add_9ea2d 2 = .ok (.getfield 63, 3) := by decide +kernel
theorem dJx4a65c_add_9ea2d_5 : decode cJx4a65c_add_9ea2d 5 = .ok (.iconst 1, 1) := by decide +kernel
theorem dJx4a65c_add_9ea2d_6 : decode cJx4a65c_add_9ea2d 6 = .ok (.iadd, 1) := by decide +kernel
theorem dJx4a65c_add_9ea2d_7 : decode cJx4a65c_add_9ea2d 7 = .ok (.putfield 63, 3) := by decide +kernel
theorem dJx4a65c_add_9ea2d_10 : decode cJx4a65c_add_9ea2d 10 = .ok (.aload_n 0, 1) := by decide +kernel
theorem dJx4a65c_add_9ea2d_11 : decode cJx4a65c_add_9ea2d 11 = .ok (.aload_n 1, 1) := by decide +kernel
theorem dJx4a65c_add_9ea2d_12 : decode cJx4a65c_add_9ea2d 12 = .ok (.aload_n 0, 1) := by decide +kernel
theorem dJx4a65c_add_9ea2d_13 : decode cJx4a65c_add_9ea2d 13 = .ok (.getfield 9, 3) := by decide +kernel
theorem dJx4a65c_add_9ea2d_16 : decode cJx4a65c_add_9ea2d 16 = .ok (.aload_n 0, 1) := by decide +kernel
theorem dJx4a65c_add_9ea2d_17 : decode cJx4a65c_add_9ea2d 17 = .ok (.getfield 48, 3) := by decide +kernel
theorem dJx4a65c_add_9ea2d_20 : decode cJx4a65c_add_9ea2d 20 = .ok (.invokevirtual 131, 3) := by decide +kernel
theorem dJx4a65c_add_9ea2d_23 : decode cJx4a65c_add_9ea2d 23 = .ok (.iconst 1, 1) := by decide +kernel
theorem dJx4a65c_add_9ea2d_24 : decode cJx4a65c_add_9ea2d 24 = .ok (.ireturn, 1) := by decide +kernel
theorem dJ7_fill_53178_0 : decode cJ7_fill_53178 0 = .ok (.iconst 0, 1) := by decide +kernel
theorem dJ7_fill_53178_1 : decode cJ7_fill_53178 1 = .ok (.istore_n 2, 1) := by decide +kernel
theorem dJ7_fill_53178_2 : decode cJ7_fill_53178 2 = .ok (.aload_n 0, 1) := by decide +kernel
theorem dJ7_fill_53178_3 : decode cJ7_fill_53178 3 = .ok (.arraylength, 1) := by decide +kernel
theorem dJ7_fill_53178_4 : decode cJ7_fill_53178 4 = .ok (.istore_n 3, 1) := by decide +kernel
theorem dJ7_fill_53178_5 : decode cJ7_fill_53178 5 = .ok (.iload_n 2, 1) := by decide +kernel
theorem dJ7_fill_53178_6 : decode cJ7_fill_53178 6 = .ok (.iload_n 3, 1) := by decide +kernel
theorem dJ7_fill_53178_7 : decode cJ7_fill_53178 7 = .ok (.if_icmp .ge 13, 3) := by decide +kernel
theorem dJ7_fill_53178_10 : decode cJ7_fill_53178 10 = .ok (.aload_n 0, 1) := by decide +kernel
theorem dJ7_fill_53178_11 : decode cJ7_fill_53178 11 = .ok (.iload_n 2, 1) := by decide +kernel
theorem dJ7_fill_53178_12 : decode cJ7_fill_53178 12 = .ok (.iload_n 1, 1) := by decide +kernel
theorem dJ7_fill_53178_13 : decode cJ7_fill_53178 13 = .ok (.iastore, 1) := by decide +kernel
theorem dJ7_fill_53178_14 : decode cJ7_fill_53178 14 = .ok (.iinc 2 1, 3) := by decide +kernel
theorem dJ7_fill_53178_17 : decode cJ7_fill_53178 17 = .ok (.goto (-12), 3) := by decide +kernel
theorem dJ7_fill_53178_20 : decode cJ7_fill_53178 20 = .ok (.return_, 1) := by decide +kernel
theorem dJ15_checkIndex_7cf53_0 : decode cJ15_checkIndex_7cf53 0 = .ok (.iload_n 0, 1) := by decide +kernel
theorem dJ15_checkIndex_7cf53_1 : decode cJ15_checkIndex_7cf53 1 = .ok (.iload_n 1, 1) := by decide +kernel
theorem dJ15_checkIndex_7cf53_2 : decode cJ15_checkIndex_7cf53 2 = .ok (.aconst_null, 1) := by decide +kernel
theorem dJ15_checkIndex_7cf53_3 : decode cJ15_checkIndex_7cf53 3 = .ok (.invokestatic 105, 3) := by decide +kernel
theorem dJ15_checkIndex_7cf53_6 : decode cJ15_checkIndex_7cf53 6 = .ok (.ireturn, 1) := by decide +kernel
theorem dJ3_checkIndex_8e157_0 : decode cJ3_checkIndex_8e157 0 = .ok (.iload_n 0, 1) := by decide +kernel
theorem dJ3_checkIndex_8e157_1 : decode cJ3_checkIndex_8e157 1 = .ok (.ifCond .lt 8, 3) := by decide +kernel
theorem dJ3_checkIndex_8e157_4 : decode cJ3_checkIndex_8e157 4 = .ok (.iload_n 0, 1) := by decide +kernel
theorem dJ3_checkIndex_8e157_5 : decode cJ3_checkIndex_8e157 5 = .ok (.iload_n 1, 1) := by decide +kernel
theorem dJ3_checkIndex_8e157_6 : decode cJ3_checkIndex_8e157 6 = .ok (.if_icmp .lt 10, 3) := by decide +kernel
theorem dJ3_checkIndex_8e157_9 : decode cJ3_checkIndex_8e157 9 = .ok (.aload_n 2, 1) := by decide +kernel
theorem dJ3_checkIndex_8e157_10 : decode cJ3_checkIndex_8e157 10 = .ok (.iload_n 0, 1) := by decide +kernel
theorem dJ3_checkIndex_8e157_11 : decode cJ3_checkIndex_8e157 11 = .ok (.iload_n 1, 1) := by decide +kernel
theorem dJ3_checkIndex_8e157_12 : decode cJ3_checkIndex_8e157 12 = .ok (.invokestatic 95, 3) := by decide +kernel
theorem dJ3_checkIndex_8e157_15 : decode cJ3_checkIndex_8e157 15 = .ok (.athrow, 1) := by decide +kernel
theorem dJ3_checkIndex_8e157_16 : decode cJ3_checkIndex_8e157 16 = .ok (.iload_n 0, 1) := by decide +kernel
theorem dJ3_checkIndex_8e157_17 : decode cJ3_checkIndex_8e157 17 = .ok (.ireturn, 1) := by decide +kernel
